/-! THE CLASS'S RINGS, BY PLACES. -/
theorem rx_0 {σ : Nat → Nat} {w : zW} (hT : TOP σ w) : σ 0 = 1 := hT.2.1
theorem rx_do {τ : Nat → Nat} {w : zW} {p z q : Nat} (hw : CI τ w) (hq : τ q = 80) (hp : τ p = 50) (hz : τ z = 20) : (q + 10 < p ∨ p + 1 < q) ∧ (q + 10 < z ∨ z + 4 < q) ∧ (z + 4 < p ∨ p + 1 < z) := by
  obtain ⟨_, _, _, -, -, r1, -⟩ := CI_o50 hw hp
  obtain ⟨b1, b2, b3, b4⟩ := CI_r20 hw hz
  obtain ⟨_, _, _, _, _, -, c1, -, -, -, -, -, c2, c3, c4, c5, c6, c7, c8, c9, c10⟩ := CI_o80 hw hq
  have ne : ∀ {x y : Nat}, τ x ≠ τ y → x ≠ y := fun h e => h (by rw [e])
  have hQ : ∀ x, (τ x < 80) → x < q ∨ q + 10 < x := fun x hx => by
    have q0 : x ≠ q := ne (by omega)
    have q1 : x ≠ q + 1 := ne (by omega)
    have q2 : x ≠ q + 2 := ne (by omega)
    have q3 : x ≠ q + 3 := ne (by omega)
    have q4 : x ≠ q + 4 := ne (by omega)
    have q5 : x ≠ q + 5 := ne (by omega)
    have q6 : x ≠ q + 6 := ne (by omega)
    have q7 : x ≠ q + 7 := ne (by omega)
    have q8 : x ≠ q + 8 := ne (by omega)
    have q9 : x ≠ q + 9 := ne (by omega)
    have q10 : x ≠ q + 10 := ne (by omega)
    omega
  have hZ : ∀ x, (50 ≤ τ x) → x < z ∨ z + 4 < x := fun x hx => by
    have q0 : x ≠ z := ne (by omega)
    have q1 : x ≠ z + 1 := ne (by omega)
    have q2 : x ≠ z + 2 := ne (by omega)
    have q3 : x ≠ z + 3 := ne (by omega)
    have q4 : x ≠ z + 4 := ne (by omega)
    omega
  have m0 := hQ p (by omega)
  have m1 := hQ (p + 1) (by omega)
  have m2 := hZ p (by omega)
  have m3 := hZ (p + 1) (by omega)
  have z0 := hQ z (by omega)
  have z1 := hQ (z + 1) (by omega)
  have z2 := hQ (z + 2) (by omega)
  have z3 := hQ (z + 3) (by omega)
  have z4 := hQ (z + 4) (by omega)
  omega
theorem ro_open {τ : Nat → Nat} {w : zW} (hw : CI τ w) {q : Nat} (hq : τ q = 80) : ∃ (x1 x2 x3 x4 x5 : Int) (g1 g2 g3 g4 : Nat → Int32), zix w q = some (.inr (4, [.ref (q + 1), .int (Int32.ofInt x1), .int (Int32.ofInt x2), .int (Int32.ofInt x3), .int (Int32.ofInt x4), .int (Int32.ofInt x5), .ref (q + 2), .ref (q + 3), .ref (q + 4), .ref (q + 5), .ref (q + 6), .ref (q + 7), .ref (q + 8), .ref (q + 9), .ref (q + 10)])) ∧ zix w (q + 1) = some (.inl (1, 6, .inl g1)) ∧ zix w (q + 2) = some (.inl (1, 5461, .inl g2)) ∧ zix w (q + 3) = some (.inl (1, 5461, .inl g3)) ∧ zix w (q + 4) = some (.inl (1, 5461, .inl g4)) := by
  obtain ⟨x1, x2, x3, x4, x5, h, c1, -, -, -, -, -, c2, c3, c4, -⟩ := CI_o80 hw hq
  obtain ⟨g1, h1, -⟩ := CI_ar hw (q := q + 1) (by rw [c1]; rfl)
  obtain ⟨g2, h2, -⟩ := CI_ar hw (q := q + 2) (by rw [c2]; rfl)
  obtain ⟨g3, h3, -⟩ := CI_ar hw (q := q + 3) (by rw [c3]; rfl)
  obtain ⟨g4, h4, -⟩ := CI_ar hw (q := q + 4) (by rw [c4]; rfl)
  exact ⟨x1, x2, x3, x4, x5, g1, g2, g3, g4, h, h1, h2, h3, h4⟩
theorem x_fillJ (w : zW) (d : Nat) (q : Nat) (a1 : Int) (len : Nat) (g : Nat → Int32) (hK0 : zix w q = some (.inl (1, len, .inl g))) (hr0 : (-2147483648 ≤ a1 ∧ a1 ≤ 2147483647)) (hr1 : len ≤ 60000) (Q : zQ) (h : ∀ (T' : Nat → Int32) (w' : zW), wfM (fun j => j ≠ q) w w' → zix w' q = some (.inl (1, len, .inl T')) → (∀ x : Int, 0 ≤ x → x < len → tBy T' x = a1) → Q (none) w') : zCl zTab (d + 1) iJ7_fill_53178 [.ref q, .int (Int32.ofInt a1)] w 0 0 Q := by
  exact c_fillP w d q len a1 g hK0 hr0 hr1 Q fun w' g' f1 hg hj _ => h g' w' (wfM_st (wfM_rf _ w) f1 (fun j hj => hj)) hg (fun x x0 x1 => hj x.toNat (by omega))
theorem x_putNone (w : zW) (d : Nat) (q : Nat) (y1 y2 y3 y4 y5 : Int) (g2 g3 : Nat → Int32) (c : Int → Int) (hK0 : zix w q = some (.inr (4, [.ref (q + 1), .int (Int32.ofInt y1), .int (Int32.ofInt y2), .int (Int32.ofInt y3), .int (Int32.ofInt y4), .int (Int32.ofInt y5), .ref (q + 2), .ref (q + 3), .ref (q + 4), .ref (q + 5), .ref (q + 6), .ref (q + 7), .ref (q + 8), .ref (q + 9), .ref (q + 10)]))) (hK1 : zix w (q + 2) = some (.inl (1, 5461, .inl g2))) (hK2 : zix w (q + 3) = some (.inl (1, 5461, .inl g3))) (hr0 : ∀ x : Int, 0 ≤ x → x ≤ 5460 → tBy g2 x = c x) (Q : zQ) (h : ∀ (v : Int) (T3 : Nat → Int32) (w' : zW), wfM (fun j => j ≠ q + 3) w w' → zix w' (q + 3) = some (.inl (1, 5461, .inl T3)) → (ZLE c v T3) → (0 ≤ v ∧ v ≤ 5461) → Q (some (.int (Int32.ofInt v))) w') : zCl zTab (d + 1) iX5_putThoseOfNone [.ref q] w 0 0 Q := by
  refine zCl_i (M := kX5_putThoseOfNone) rfl (Nat.le_of_ble_eq_true rfl) fun R hR => ?_
  have fr0 : wfM (fun j => j ≠ q + 3) w w := wfM_rf _ w
  have nX0 : FX (∀ j : Nat, (j ≠ q + 3) → j ≠ q + 3) := fun j hj => by omega
  have nX1 : FX (q ≠ q + 3) := (show q ≠ q + 3 by omega)
  have nX2 : FX ((q + 2) ≠ q + 3) := (show (q + 2) ≠ q + 3 by omega)
  iterate 4 refine hR (?_ : R (_, _, _, _, _, _))
  have lp4 : ∀ (N : Nat) (sv : Int) (tt : Int) (T : Nat → Int32) (w_4 : zW), (wfM (fun j => j ≠ q + 3) w w_4) → (zix w_4 q = some (.inr (4, [.ref (q + 1), .int (Int32.ofInt y1), .int (Int32.ofInt y2), .int (Int32.ofInt y3), .int (Int32.ofInt y4), .int (Int32.ofInt y5), .ref (q + 2), .ref (q + 3), .ref (q + 4), .ref (q + 5), .ref (q + 6), .ref (q + 7), .ref (q + 8), .ref (q + 9), .ref (q + 10)]))) → (zix w_4 (q + 2) = some (.inl (1, 5461, .inl g2))) → (zix w_4 (q + 3) = some (.inl (1, 5461, .inl T))) → (0 ≤ sv ∧ sv ≤ 5461) → (0 ≤ tt ∧ tt ≤ 5461) → (sv = (zlN c tt.toNat).1 ∧ ∀ j : Int, 0 ≤ j → j < sv → tBy T j = (zlN c tt.toNat).2 j) → (sv ≤ tt) → (5462 - tt < N) → R (4, [some (.ref q), some (.int (Int32.ofInt sv)), some (.int (Int32.ofInt tt))], [], w_4, 0, 0) := by
    intro N
    induction N with
    | zero => intros; omega
    | succ N ih4 =>
      intro sv tt T w_4 fr_4 hCq_4 hCq2_4 hCq3_4 hf0_4 hf1_4 hp0_4 hp1_4 hN4
      refine hR (?_ : R (_, _, _, _, _, _))
      refine hR (t_c 5461 (by decide) ?_)
      refine hR (j_ge (by omega) (by omega) (fun hc1 => ?_) (fun hc1 => ?_))
      · skip
        refine hR (?_ : R (_, _, _, _, _, _))
        exact hR (zret_i rfl (Nat.le_refl _) trivial (h _ _ _ fr_4 hCq3_4 (zq_e hp0_4 (by omega)) (by omega)))
      refine hR (?_ : R (_, _, _, _, _, _))
      refine hR (c_get hCq_4 rfl ?_)
      refine hR (?_ : R (_, _, _, _, _, _))
      refine hR (c_aldE hCq2_4 (by omega) (by omega) (Nat.le_of_ble_eq_true rfl) fun v2 ev2 rv2 => ?_)
      replace ev2 : v2 = tBy g2 tt := ev2
      subst ev2
      refine hR (k_ne (by omega) (fun hc3 => ?_) (fun hc3 => ?_))
      · skip
        refine hR (t_inc ?_)
        refine hR (?_ : R (_, _, _, _, _, _))
        exact ih4 _ _ _ _ fr_4 hCq_4 hCq2_4 hCq3_4 (by omega) (by omega) (zq_n hp0_4 (by omega) (by rw [← hr0 tt (by omega) (by omega)]; omega)) (by omega) (by omega)
      refine hR (?_ : R (_, _, _, _, _, _))
      refine hR (c_get hCq_4 rfl ?_)
      iterate 2 refine hR (?_ : R (_, _, _, _, _, _))
      refine hR (x_ast hCq3_4 (by omega) (by omega) (Nat.le_of_ble_eq_true rfl) fun w4 ff4 hC4 => ?_)
      have fr5 := wfM_st fr_4 ff4 nX0
      have hC6 := (ff4.2 q nX1).trans hCq_4
      have hC7 := (ff4.2 (q + 2) nX2).trans hCq2_4
      refine hR (t_inc ?_)
      refine hR (t_inc ?_)
      refine hR (?_ : R (_, _, _, _, _, _))
      exact ih4 _ _ _ _ fr5 hC6 hC7 hC4 (by omega) (by omega) (zq_y hp0_4 (by omega) (by omega) (by omega) (by rw [← hr0 tt (by omega) (by omega)]; omega)) (by omega) (by omega)
  exact lp4 400000000 _ _ _ _ fr0 hK0 hK1 hK2 (by omega) (by omega) ⟨rfl, fun j j0 j1 => by omega⟩ (by omega) (by omega)
theorem x_takeOut (w : zW) (d : Nat) (q p b z2 z3 : Nat) (a1 a2 : Int) (x0 nn x2 : Int) (F : Int → Int → Int) (y1 y2 y3 y4 y5 : Int) (g2 g3 g4 : Nat → Int32) (hK0 : zix w q = some (.inr (4, [.ref (q + 1), .int (Int32.ofInt y1), .int (Int32.ofInt y2), .int (Int32.ofInt y3), .int (Int32.ofInt y4), .int (Int32.ofInt y5), .ref (q + 2), .ref (q + 3), .ref (q + 4), .ref (q + 5), .ref (q + 6), .ref (q + 7), .ref (q + 8), .ref (q + 9), .ref (q + 10)]))) (hK1 : zix w (q + 2) = some (.inl (1, 5461, .inl g2))) (hK2 : zix w (q + 3) = some (.inl (1, 5461, .inl g3))) (hK3 : zix w (q + 4) = some (.inl (1, 5461, .inl g4))) (hK4 : zix w p = some (.inr (3, [.ref b, .ref (p + 1), .ref z2, .ref z3]))) (hK5 : zix w b = some (.inr (0, [.int (Int32.ofInt x0), .int (Int32.ofInt nn), .int (Int32.ofInt x2), .ref (b + 1), .ref (b + 2), .ref (b + 3), .ref (b + 4)]))) (hK6 : AFK w p b F) (hr0 : 0 ≤ a1 ∧ a1 ≤ 4) (hr1 : ((b + 4 < p ∨ p + 1 < b) ∧ (z2 ≠ p ∧ z2 ≠ p + 1 ∧ z3 ≠ p ∧ z3 ≠ p + 1 ∧ z2 ≠ z3)) ∧ ((z2 < b ∨ b + 4 < z2) ∧ (z3 < b ∨ b + 4 < z3))) (hr2 : (q + 10 < p ∨ p + 1 < q) ∧ (q + 10 < b ∨ b + 4 < q) ∧ (b + 4 < p ∨ p + 1 < b)) (hr3 : GOK (F a1)) (hr4 : TQ (flI (F a1) (0 : Int).toNat) a2 g3 g2 g4) (hr5 : 0 ≤ a2 ∧ a2 ≤ 5461) (Q : zQ) (h : ∀ (v : Int) (T2 T3 T4 : Nat → Int32) (w' : zW), wfM (fun j => j ≠ q + 2 ∧ j ≠ q + 3 ∧ j ≠ q + 4 ∧ j ≠ p + 1) w w' → zix w' (q + 2) = some (.inl (1, 5461, .inl T2)) → zix w' (q + 3) = some (.inl (1, 5461, .inl T3)) → zix w' (q + 4) = some (.inl (1, 5461, .inl T4)) → AFK w' p b F → (TQ (flF (F a1)) v T3 T2 T4) → (0 ≤ v ∧ v ≤ 5461) → Q (some (.int (Int32.ofInt v))) w') : zCl zTab (d + 5) iX5_takeOutside [.ref q, .ref p, .int (Int32.ofInt a1), .int (Int32.ofInt a2)] w 0 0 Q := by
  refine zCl_i (M := kX5_takeOutside) rfl (Nat.le_of_ble_eq_true rfl) fun R hR => ?_
  have fr0 : wfM (fun j => j ≠ q + 2 ∧ j ≠ q + 3 ∧ j ≠ q + 4 ∧ j ≠ p + 1) w w := wfM_rf _ w
  have nX0 : FX (∀ j : Nat, (j ≠ q + 2 ∧ j ≠ q + 3 ∧ j ≠ q + 4 ∧ j ≠ p + 1) → (j ≠ p + 1)) := fun j hj => by omega
  have nX1 : FX (q ≠ p + 1) := (show q ≠ p + 1 by omega)
  have nX2 : FX ((q + 2) ≠ p + 1) := (show (q + 2) ≠ p + 1 by omega)
  have nX3 : FX ((q + 3) ≠ p + 1) := (show (q + 3) ≠ p + 1 by omega)
  have nX4 : FX ((q + 4) ≠ p + 1) := (show (q + 4) ≠ p + 1 by omega)
  have nX5 : FX (p ≠ p + 1) := (show p ≠ p + 1 by omega)
  have nX6 : FX (b ≠ p + 1) := (show b ≠ p + 1 by omega)
  have nX7 : FX (∀ j : Nat, (j ≠ q + 2 ∧ j ≠ q + 3 ∧ j ≠ q + 4 ∧ j ≠ p + 1) → j ≠ q + 4) := fun j hj => by omega
  have nX8 : FX (q ≠ q + 4) := (show q ≠ q + 4 by omega)
  have nX9 : FX ((q + 2) ≠ q + 4) := (show (q + 2) ≠ q + 4 by omega)
  have nX10 : FX ((q + 3) ≠ q + 4) := (show (q + 3) ≠ q + 4 by omega)
  have nX11 : FX (p ≠ q + 4) := (show p ≠ q + 4 by omega)
  have nX12 : FX (b ≠ q + 4) := (show b ≠ q + 4 by omega)
  have nX13 : FX (∀ j : Nat, (j = p + 1 ∨ (b ≤ j ∧ j ≤ b + 4)) → (j ≠ q + 4)) := fun j hj => by omega
  have nX14 : FX (∀ j : Nat, (j ≠ q + 2 ∧ j ≠ q + 3 ∧ j ≠ q + 4 ∧ j ≠ p + 1) → j ≠ q + 2) := fun j hj => by omega
  have nX15 : FX (q ≠ q + 2) := (show q ≠ q + 2 by omega)
  have nX16 : FX ((q + 3) ≠ q + 2) := (show (q + 3) ≠ q + 2 by omega)
  have nX17 : FX ((q + 4) ≠ q + 2) := (show (q + 4) ≠ q + 2 by omega)
  have nX18 : FX (p ≠ q + 2) := (show p ≠ q + 2 by omega)
  have nX19 : FX (b ≠ q + 2) := (show b ≠ q + 2 by omega)
  have nX20 : FX (∀ j : Nat, (j = p + 1 ∨ (b ≤ j ∧ j ≤ b + 4)) → (j ≠ q + 2)) := fun j hj => by omega
  have nX21 : FX (∀ j : Nat, (j ≠ q + 2 ∧ j ≠ q + 3 ∧ j ≠ q + 4 ∧ j ≠ p + 1) → j ≠ q + 3) := fun j hj => by omega
  have nX22 : FX (q ≠ q + 3) := (show q ≠ q + 3 by omega)
  have nX23 : FX ((q + 2) ≠ q + 3) := (show (q + 2) ≠ q + 3 by omega)
  have nX24 : FX ((q + 4) ≠ q + 3) := (show (q + 4) ≠ q + 3 by omega)
  have nX25 : FX (p ≠ q + 3) := (show p ≠ q + 3 by omega)
  have nX26 : FX (b ≠ q + 3) := (show b ≠ q + 3 by omega)
  have nX27 : FX (∀ j : Nat, (j = p + 1 ∨ (b ≤ j ∧ j ≤ b + 4)) → (j ≠ q + 3)) := fun j hj => by omega
  iterate 4 refine hR (?_ : R (_, _, _, _, _, _))
  have lp6 : ∀ (N : Nat) (sz : Int) (ii : Int) (o6_6 : Option Value) (o7_6 : Option Value) (L O B : Nat → Int32) (w_6 : zW), (zc2 o6_6 = false) → (zc2 o7_6 = false) → (wfM (fun j => j ≠ q + 2 ∧ j ≠ q + 3 ∧ j ≠ q + 4 ∧ j ≠ p + 1) w w_6) → (zix w_6 q = some (.inr (4, [.ref (q + 1), .int (Int32.ofInt y1), .int (Int32.ofInt y2), .int (Int32.ofInt y3), .int (Int32.ofInt y4), .int (Int32.ofInt y5), .ref (q + 2), .ref (q + 3), .ref (q + 4), .ref (q + 5), .ref (q + 6), .ref (q + 7), .ref (q + 8), .ref (q + 9), .ref (q + 10)]))) → (zix w_6 (q + 2) = some (.inl (1, 5461, .inl L))) → (zix w_6 (q + 3) = some (.inl (1, 5461, .inl O))) → (zix w_6 (q + 4) = some (.inl (1, 5461, .inl B))) → (zix w_6 p = some (.inr (3, [.ref b, .ref (p + 1), .ref z2, .ref z3]))) → (zix w_6 b = some (.inr (0, [.int (Int32.ofInt x0), .int (Int32.ofInt nn), .int (Int32.ofInt x2), .ref (b + 1), .ref (b + 2), .ref (b + 3), .ref (b + 4)]))) → (AFK w_6 p b F) → (0 ≤ sz ∧ sz ≤ 5461) → (0 ≤ ii ∧ ii ≤ 5461) → (TQ (flI (F a1) ii.toNat) sz O L B) → (5462 - ii < N) → R (6, [some (.ref q), some (.ref p), some (.int (Int32.ofInt a1)), some (.int (Int32.ofInt a2)), some (.int (Int32.ofInt sz)), some (.int (Int32.ofInt ii)), o6_6, o7_6], [], w_6, 0, 0) := by
    intro N
    induction N with
    | zero => intros; omega
    | succ N ih6 =>
      intro sz ii o6_6 o7_6 L O B w_6 hzo6_6 hzo7_6 fr_6 hCq_6 hCq2_6 hCq3_6 hCq4_6 hCp_6 hCb_6 hCAF_6 hf0_6 hf1_6 hp0_6 hN6
      iterate 2 refine hR (?_ : R (_, _, _, _, _, _))
      refine hR (j_ge (by omega) (by omega) (fun hc1 => ?_) (fun hc1 => ?_))
      · skip
        refine hR (?_ : R (_, _, _, _, _, _))
        exact hR (zret_i rfl (Nat.le_refl _) trivial (h _ _ _ _ _ fr_6 hCq2_6 hCq3_6 hCq4_6 hCAF_6 (tq_e hp0_6 (by omega) (by omega) (by omega)) (by omega)))
      refine hR (?_ : R (_, _, _, _, _, _))
      refine hR (t_c 5461 (by decide) ?_)
      refine hR (j_ge (by omega) (by omega) (fun hc2 => ?_) (fun hc2 => ?_))
      · skip
        refine hR (?_ : R (_, _, _, _, _, _))
        exact hR (zret_i rfl (Nat.le_refl _) trivial (h _ _ _ _ _ fr_6 hCq2_6 hCq3_6 hCq4_6 hCAF_6 (tq_e hp0_6 (by omega) (by omega) (by omega)) (by omega)))
      refine hR (?_ : R (_, _, _, _, _, _))
      refine hR (c_get hCq_6 rfl ?_)
      refine hR (?_ : R (_, _, _, _, _, _))
      refine hR (c_aldE hCq3_6 (by omega) (by omega) (Nat.le_of_ble_eq_true rfl) fun v3 ev3 rv3 => ?_)
      replace ev3 : v3 = tBy O ii := ev3
      subst ev3
      have hot := tqr_o hr3 (tqr_of hp0_6) (by omega) (by omega)
      iterate 4 refine hR (?_ : R (_, _, _, _, _, _))
      refine hR (c_obj hCp_6 (zcall_i 0 0 (Nat.le_of_ble_eq_true rfl) (Nat.le_of_ble_eq_true rfl) (x_after _ _ _ _ _ _ _ _ _ _ _ _ hCp_6 hCb_6 hCAF_6 (by omega) (by omega) hr1 _ fun v4 w5 gg6 hC7 hp8 => ?_)))
      have fr9 := wfM_tr fr_6 gg6 nX0
      have hC10 := (gg6.2 q nX1).trans hCq_6
      have hC11 := (gg6.2 (q + 2) nX2).trans hCq2_6
      have hC12 := (gg6.2 (q + 3) nX3).trans hCq3_6
      have hC13 := (gg6.2 (q + 4) nX4).trans hCq4_6
      have hC14 := (gg6.2 p nX5).trans hCp_6
      have hC15 := (gg6.2 b nX6).trans hCb_6
      refine (?_ : R (_, _, .int (Int32.ofInt v4) :: [], w5, 0, 0))
      have hq16 := hp8
      have hv1 := hp8
      have hbv := tq_b hr3 hp0_6 (by omega) (x := v4) (by omega) (by omega)
      have hbt := tq_b hr3 hp0_6 (by omega) (x := tBy O ii) (by omega) (by omega)
      have hlv := tqr_l hr3 (tqr_of hp0_6) (by omega) (by omega) hv1.1
      iterate 2 refine hR (?_ : R (_, _, _, _, _, _))
      refine hR (c_get hC10 rfl ?_)
      iterate 2 refine hR (?_ : R (_, _, _, _, _, _))
      refine hR (c_get hC10 rfl ?_)
      refine hR (?_ : R (_, _, _, _, _, _))
      refine hR (c_aldE hC13 (by omega) (by omega) (Nat.le_of_ble_eq_true rfl) fun v17 ev17 rv17 => ?_)
      replace ev17 : v17 = tBy B v4 := ev17
      subst ev17
      refine hR (?_ : R (_, _, _, _, _, _))
      refine hR (c_get hC10 rfl ?_)
      refine hR (?_ : R (_, _, _, _, _, _))
      refine hR (c_aldE hC13 (by omega) (by omega) (Nat.le_of_ble_eq_true rfl) fun v18 ev18 rv18 => ?_)
      replace ev18 : v18 = tBy B (tBy O ii) := ev18
      subst ev18
      refine hR (?_ : R (_, _, _, _, _, _))
      refine hR (t_add ?_)
      obtain ⟨v19, lv19, qv19⟩ := zmax_r (a := tBy B v4) (b := (tBy B (tBy O ii)) + 1) (by omega) (by omega)
      refine hR (t_c v19 qv19 ?_)
      refine hR (x_ast hC13 (by omega) (by omega) (Nat.le_of_ble_eq_true rfl) fun w20 ff20 hC20 => ?_)
      have fr21 := wfM_st fr9 ff20 nX7
      have hC22 := (ff20.2 q nX8).trans hC10
      have hC23 := (ff20.2 (q + 2) nX9).trans hC11
      have hC24 := (ff20.2 (q + 3) nX10).trans hC12
      have hC25 := (ff20.2 p nX11).trans hC14
      have hC26 := (ff20.2 b nX12).trans hC15
      have hC27 := AFK_fr hC7 (fun j hj => ff20.2 j (nX13 j hj))
      refine hR (?_ : R (_, _, _, _, _, _))
      refine hR (c_get hC22 rfl ?_)
      iterate 2 refine hR (?_ : R (_, _, _, _, _, _))
      refine hR (c_aldE hC23 (by omega) (by omega) (Nat.le_of_ble_eq_true rfl) fun v28 ev28 rv28 => ?_)
      replace ev28 : v28 = tBy L v4 := ev28
      subst ev28
      refine hR (?_ : R (_, _, _, _, _, _))
      refine hR (t_sub ?_)
      refine hR (x_ast hC23 (by omega) (by omega) (Nat.le_of_ble_eq_true rfl) fun w29 ff29 hC29 => ?_)
      have fr30 := wfM_st fr21 ff29 nX14
      have hC31 := (ff29.2 q nX15).trans hC22
      have hC32 := (ff29.2 (q + 3) nX16).trans hC24
      have hC33 := (ff29.2 (q + 4) nX17).trans hC20
      have hC34 := (ff29.2 p nX18).trans hC25
      have hC35 := (ff29.2 b nX19).trans hC26
      have hC36 := AFK_fr hC27 (fun j hj => ff29.2 j (nX20 j hj))
      refine hR (?_ : R (_, _, _, _, _, _))
      refine hR (c_get hC31 rfl ?_)
      refine hR (?_ : R (_, _, _, _, _, _))
      refine hR (c_aldE hC29 (by omega) (by omega) (Nat.le_of_ble_eq_true rfl) fun v37 ev37 rv37 => ?_)
      replace ev37 : v37 = tBy (upd L (v4 : Int).toNat (Int32.ofInt ((tBy L v4) - 1))) v4 := ev37
      subst ev37
      have hll := up_v (g := L) (i := v4) (e := tBy L v4 - 1) (by exact ⟨by omega, by omega⟩) (by omega)
      have hts := tq_s (m := v19) hr3 hp0_6 (by omega) (by omega) rfl hv1.1 ⟨⟨lv19.1, lv19.2.1⟩, lv19.2.2⟩ (by exact ⟨by omega, by omega⟩)
      refine hR (k_ne (by omega) (fun hc38 => ?_) (fun hc38 => ?_))
      · skip
        refine hR (t_inc ?_)
        refine hR (?_ : R (_, _, _, _, _, _))
        exact ih6 _ _ _ _ _ _ _ _ (by rfl) (by rfl) fr30 hC31 hC29 hC32 hC33 hC34 hC35 hC36 (by omega) (by omega) (hts.1 (by omega)) (by omega)
      have hsz := (hts.2 (by omega)).1
      refine hR (?_ : R (_, _, _, _, _, _))
      refine hR (t_c 5461 (by decide) ?_)
      refine hR (j_ge (by omega) (by omega) (fun hc => by omega) (fun _ => ?_))
      refine hR (?_ : R (_, _, _, _, _, _))
      refine hR (c_get hC31 rfl ?_)
      iterate 2 refine hR (?_ : R (_, _, _, _, _, _))
      refine hR (x_ast hC32 (by omega) (by omega) (Nat.le_of_ble_eq_true rfl) fun w39 ff39 hC39 => ?_)
      have fr40 := wfM_st fr30 ff39 nX21
      have hC41 := (ff39.2 q nX22).trans hC31
      have hC42 := (ff39.2 (q + 2) nX23).trans hC29
      have hC43 := (ff39.2 (q + 4) nX24).trans hC33
      have hC44 := (ff39.2 p nX25).trans hC34
      have hC45 := (ff39.2 b nX26).trans hC35
      have hC46 := AFK_fr hC36 (fun j hj => ff39.2 j (nX27 j hj))
      refine hR (t_inc ?_)
      refine hR (t_inc ?_)
      refine hR (?_ : R (_, _, _, _, _, _))
      exact ih6 _ _ _ _ _ _ _ _ (by rfl) (by rfl) fr40 hC41 hC42 hC39 hC43 hC44 hC45 hC46 (by omega) (by omega) (hts.2 (by omega)).2 (by omega)
  exact lp6 400000000 _ _ _ _ _ _ _ _ (by rfl) (by rfl) fr0 hK0 hK1 hK2 hK3 hK4 hK5 hK6 (by omega) (by omega) hr4 (by omega)
theorem x_goRoundI (w : zW) (d : Nat) (q p b z2 z3 : Nat) (a1 a2 : Int) (x0 nn x2 : Int) (F : Int → Int → Int) (y1 y2 y3 y4 y5 : Int) (g2 : Nat → Int32) (c : Int → Int) (hK0 : zix w q = some (.inr (4, [.ref (q + 1), .int (Int32.ofInt y1), .int (Int32.ofInt y2), .int (Int32.ofInt y3), .int (Int32.ofInt y4), .int (Int32.ofInt y5), .ref (q + 2), .ref (q + 3), .ref (q + 4), .ref (q + 5), .ref (q + 6), .ref (q + 7), .ref (q + 8), .ref (q + 9), .ref (q + 10)]))) (hK1 : zix w (q + 2) = some (.inl (1, 5461, .inl g2))) (hK2 : zix w p = some (.inr (3, [.ref b, .ref (p + 1), .ref z2, .ref z3]))) (hK3 : zix w b = some (.inr (0, [.int (Int32.ofInt x0), .int (Int32.ofInt nn), .int (Int32.ofInt x2), .ref (b + 1), .ref (b + 2), .ref (b + 3), .ref (b + 4)]))) (hK4 : AFK w p b F) (hr0 : 0 ≤ a1 ∧ a1 ≤ 4) (hr1 : ((b + 4 < p ∨ p + 1 < b) ∧ (z2 ≠ p ∧ z2 ≠ p + 1 ∧ z3 ≠ p ∧ z3 ≠ p + 1 ∧ z2 ≠ z3)) ∧ ((z2 < b ∨ b + 4 < z2) ∧ (z3 < b ∨ b + 4 < z3))) (hr2 : (q + 10 < p ∨ p + 1 < q) ∧ (q + 10 < b ∨ b + 4 < q) ∧ (b + 4 < p ∨ p + 1 < b)) (hr3 : 0 ≤ a2 ∧ a2 ≤ 5460) (hr4 : ∀ x : Int, 0 ≤ x → x ≤ 5460 → tBy g2 x = c x) (Q : zQ) (h : ∀ (v : Int) (T2 : Nat → Int32) (w' : zW), wfM (fun j => j ≠ q + 2 ∧ j ≠ p + 1) w w' → zix w' (q + 2) = some (.inl (1, 5461, .inl T2)) → AFK w' p b F → (GRE (F a1) c a2 v T2) → (0 ≤ v ∧ v ≤ 5461) → Q (some (.int (Int32.ofInt v))) w') : zCl zTab (d + 5) iX5_goRound [.ref q, .ref p, .int (Int32.ofInt a1), .int (Int32.ofInt a2)] w 0 0 Q := by
  refine zCl_i (M := kX5_goRound) rfl (Nat.le_of_ble_eq_true rfl) fun R hR => ?_
  have fr0 : wfM (fun j => j ≠ q + 2 ∧ j ≠ p + 1) w w := wfM_rf _ w
  have nX0 : FX (∀ j : Nat, (j ≠ q + 2 ∧ j ≠ p + 1) → j ≠ q + 2) := fun j hj => by omega
  have nX1 : FX (q ≠ q + 2) := (show q ≠ q + 2 by omega)
  have nX2 : FX (p ≠ q + 2) := (show p ≠ q + 2 by omega)
  have nX3 : FX (b ≠ q + 2) := (show b ≠ q + 2 by omega)
  have nX4 : FX (∀ j : Nat, (j = p + 1 ∨ (b ≤ j ∧ j ≤ b + 4)) → (j ≠ q + 2)) := fun j hj => by omega
  have nX5 : FX (∀ j : Nat, (j ≠ q + 2 ∧ j ≠ p + 1) → (j ≠ p + 1)) := fun j hj => by omega
  have nX6 : FX (q ≠ p + 1) := (show q ≠ p + 1 by omega)
  have nX7 : FX ((q + 2) ≠ p + 1) := (show (q + 2) ≠ p + 1 by omega)
  have nX8 : FX (p ≠ p + 1) := (show p ≠ p + 1 by omega)
  have nX9 : FX (b ≠ p + 1) := (show b ≠ p + 1 by omega)
  iterate 4 refine hR (?_ : R (_, _, _, _, _, _))
  have lp6 : ∀ (N : Nat) (tt : Int) (ln : Int) (L : Nat → Int32) (w_6 : zW), (wfM (fun j => j ≠ q + 2 ∧ j ≠ p + 1) w w_6) → (zix w_6 q = some (.inr (4, [.ref (q + 1), .int (Int32.ofInt y1), .int (Int32.ofInt y2), .int (Int32.ofInt y3), .int (Int32.ofInt y4), .int (Int32.ofInt y5), .ref (q + 2), .ref (q + 3), .ref (q + 4), .ref (q + 5), .ref (q + 6), .ref (q + 7), .ref (q + 8), .ref (q + 9), .ref (q + 10)]))) → (zix w_6 (q + 2) = some (.inl (1, 5461, .inl L))) → (zix w_6 p = some (.inr (3, [.ref b, .ref (p + 1), .ref z2, .ref z3]))) → (zix w_6 b = some (.inr (0, [.int (Int32.ofInt x0), .int (Int32.ofInt nn), .int (Int32.ofInt x2), .ref (b + 1), .ref (b + 2), .ref (b + 3), .ref (b + 4)]))) → (AFK w_6 p b F) → (0 ≤ tt ∧ tt ≤ 5460) → (0 ≤ ln ∧ ln ≤ 5461) → (GRP (F a1) c a2 ln tt L) → (5462 - ln < N) → R (6, [some (.ref q), some (.ref p), some (.int (Int32.ofInt a1)), some (.int (Int32.ofInt a2)), some (.int (Int32.ofInt tt)), some (.int (Int32.ofInt ln))], [], w_6, 0, 0) := by
    intro N
    induction N with
    | zero => intros; omega
    | succ N ih6 =>
      intro tt ln L w_6 fr_6 hCq_6 hCq2_6 hCp_6 hCb_6 hCAF_6 hf0_6 hf1_6 hp0_6 hN6
      refine hR (?_ : R (_, _, _, _, _, _))
      refine hR (t_c 5461 (by decide) ?_)
      refine hR (j_ge (by omega) (by omega) (fun hc1 => ?_) (fun hc1 => ?_))
      · skip
        refine hR (?_ : R (_, _, _, _, _, _))
        exact hR (zret_i rfl (Nat.le_refl _) trivial (h _ _ _ fr_6 hCq2_6 hCAF_6 (grp_e hp0_6 (by omega) (by omega) (by omega) (by omega) (by omega)) (by omega)))
      refine hR (?_ : R (_, _, _, _, _, _))
      refine hR (c_get hCq_6 rfl ?_)
      refine hR (?_ : R (_, _, _, _, _, _))
      refine hR (c_aldE hCq2_6 (by omega) (by omega) (Nat.le_of_ble_eq_true rfl) fun v2 ev2 rv2 => ?_)
      replace ev2 : v2 = tBy L tt := ev2
      subst ev2
      refine hR (k_le (by omega) (fun hc3 => ?_) (fun hc3 => ?_))
      · skip
        refine hR (?_ : R (_, _, _, _, _, _))
        exact hR (zret_i rfl (Nat.le_refl _) trivial (h _ _ _ fr_6 hCq2_6 hCAF_6 (grp_e hp0_6 (by omega) (by omega) (by omega) (by omega) (by omega)) (by omega)))
      refine hR (?_ : R (_, _, _, _, _, _))
      refine hR (c_get hCq_6 rfl ?_)
      iterate 2 refine hR (?_ : R (_, _, _, _, _, _))
      refine hR (x_ast hCq2_6 (by omega) (by omega) (Nat.le_of_ble_eq_true rfl) fun w4 ff4 hC4 => ?_)
      have fr5 := wfM_st fr_6 ff4 nX0
      have hC6 := (ff4.2 q nX1).trans hCq_6
      have hC7 := (ff4.2 p nX2).trans hCp_6
      have hC8 := (ff4.2 b nX3).trans hCb_6
      have hC9 := AFK_fr hCAF_6 (fun j hj => ff4.2 j (nX4 j hj))
      iterate 3 refine hR (?_ : R (_, _, _, _, _, _))
      refine hR (c_obj hC7 (zcall_i 0 0 (Nat.le_of_ble_eq_true rfl) (Nat.le_of_ble_eq_true rfl) (x_after _ _ _ _ _ _ _ _ _ _ _ _ hC7 hC8 hC9 (by omega) (by omega) hr1 _ fun v10 w11 gg12 hC13 hp14 => ?_)))
      have fr15 := wfM_tr fr5 gg12 nX5
      have hC16 := (gg12.2 q nX6).trans hC6
      have hC17 := (gg12.2 (q + 2) nX7).trans hC4
      have hC18 := (gg12.2 p nX8).trans hC7
      have hC19 := (gg12.2 b nX9).trans hC8
      refine (?_ : R (_, _, .int (Int32.ofInt v10) :: [], w11, 0, 0))
      have hq20 := hp14
      refine hR (?_ : R (_, _, _, _, _, _))
      refine hR (t_inc ?_)
      refine hR (?_ : R (_, _, _, _, _, _))
      exact ih6 _ _ _ _ fr15 hC16 hC17 hC18 hC19 hC13 (by omega) (by omega) (grp_s hp0_6 (by omega) (by omega) (by omega) (by omega) hp14.1) (by omega)
  exact lp6 400000000 _ _ _ _ fr0 hK0 hK1 hK2 hK3 hK4 (by omega) (by omega) (grp_0 hr4) (by omega)
theorem x_findOrbitsI (w : zW) (d : Nat) (q p b z2 z3 : Nat) (a1 : Int) (x0 nn x2 : Int) (F : Int → Int → Int) (y1 y2 y3 y4 y5 : Int) (g1 g2 g3 g4 : Nat → Int32) (hK0 : zix w q = some (.inr (4, [.ref (q + 1), .int (Int32.ofInt y1), .int (Int32.ofInt y2), .int (Int32.ofInt y3), .int (Int32.ofInt y4), .int (Int32.ofInt y5), .ref (q + 2), .ref (q + 3), .ref (q + 4), .ref (q + 5), .ref (q + 6), .ref (q + 7), .ref (q + 8), .ref (q + 9), .ref (q + 10)]))) (hK1 : zix w (q + 1) = some (.inl (1, 6, .inl g1))) (hK2 : zix w (q + 2) = some (.inl (1, 5461, .inl g2))) (hK3 : zix w (q + 3) = some (.inl (1, 5461, .inl g3))) (hK4 : zix w (q + 4) = some (.inl (1, 5461, .inl g4))) (hK5 : zix w p = some (.inr (3, [.ref b, .ref (p + 1), .ref z2, .ref z3]))) (hK6 : zix w b = some (.inr (0, [.int (Int32.ofInt x0), .int (Int32.ofInt nn), .int (Int32.ofInt x2), .ref (b + 1), .ref (b + 2), .ref (b + 3), .ref (b + 4)]))) (hK7 : AFK w p b F) (hr0 : 0 ≤ a1 ∧ a1 ≤ 4) (hr1 : ((b + 4 < p ∨ p + 1 < b) ∧ (z2 ≠ p ∧ z2 ≠ p + 1 ∧ z3 ≠ p ∧ z3 ≠ p + 1 ∧ z2 ≠ z3)) ∧ ((z2 < b ∨ b + 4 < z2) ∧ (z3 < b ∨ b + 4 < z3))) (hr2 : (q + 10 < p ∨ p + 1 < q) ∧ (q + 10 < b ∨ b + 4 < q) ∧ (b + 4 < p ∨ p + 1 < b)) (hr3 : GOK (F a1)) (Q : zQ) (h : ∀ (T1 T2 T3 T4 : Nat → Int32) (w' : zW), wfM (fun j => j ≠ q + 1 ∧ j ≠ q + 2 ∧ j ≠ q + 3 ∧ j ≠ q + 4 ∧ j ≠ p + 1) w w' → zix w' (q + 1) = some (.inl (1, 6, .inl T1)) → zix w' (q + 2) = some (.inl (1, 5461, .inl T2)) → zix w' (q + 3) = some (.inl (1, 5461, .inl T3)) → zix w' (q + 4) = some (.inl (1, 5461, .inl T4)) → AFK w' p b F → (∀ k : Int, 0 ≤ k → k ≤ 5 → tBy T1 k = orV (F a1) k) → Q (none) w') : zCl zTab (d + 6) iX5_findOrbits [.ref q, .ref p, .int (Int32.ofInt a1)] w 0 0 Q := by
  refine zCl_i (M := kX5_findOrbits) rfl (Nat.le_of_ble_eq_true rfl) fun R hR => ?_
  have fr0 : wfM (fun j => j ≠ q + 1 ∧ j ≠ q + 2 ∧ j ≠ q + 3 ∧ j ≠ q + 4 ∧ j ≠ p + 1) w w := wfM_rf _ w
  have nX0 : FX (∀ j : Nat, (j ≠ q + 1 ∧ j ≠ q + 2 ∧ j ≠ q + 3 ∧ j ≠ q + 4 ∧ j ≠ p + 1) → (j ≠ (q + 1))) := fun j hj => by omega
  have nX1 : FX (q ≠ (q + 1)) := (show q ≠ (q + 1) by omega)
  have nX2 : FX ((q + 2) ≠ (q + 1)) := (show (q + 2) ≠ (q + 1) by omega)
  have nX3 : FX ((q + 3) ≠ (q + 1)) := (show (q + 3) ≠ (q + 1) by omega)
  have nX4 : FX ((q + 4) ≠ (q + 1)) := (show (q + 4) ≠ (q + 1) by omega)
  have nX5 : FX (p ≠ (q + 1)) := (show p ≠ (q + 1) by omega)
  have nX6 : FX (b ≠ (q + 1)) := (show b ≠ (q + 1) by omega)
  have nX7 : FX (∀ j : Nat, (j = p + 1 ∨ (b ≤ j ∧ j ≤ b + 4)) → (j ≠ (q + 1))) := fun j hj => by omega
  have nX8 : FX (∀ j : Nat, (j ≠ q + 1 ∧ j ≠ q + 2 ∧ j ≠ q + 3 ∧ j ≠ q + 4 ∧ j ≠ p + 1) → (j ≠ (q + 2))) := fun j hj => by omega
  have nX9 : FX (q ≠ (q + 2)) := (show q ≠ (q + 2) by omega)
  have nX10 : FX ((q + 1) ≠ (q + 2)) := (show (q + 1) ≠ (q + 2) by omega)
  have nX11 : FX ((q + 3) ≠ (q + 2)) := (show (q + 3) ≠ (q + 2) by omega)
  have nX12 : FX ((q + 4) ≠ (q + 2)) := (show (q + 4) ≠ (q + 2) by omega)
  have nX13 : FX (p ≠ (q + 2)) := (show p ≠ (q + 2) by omega)
  have nX14 : FX (b ≠ (q + 2)) := (show b ≠ (q + 2) by omega)
  have nX15 : FX (∀ j : Nat, (j = p + 1 ∨ (b ≤ j ∧ j ≤ b + 4)) → (j ≠ (q + 2))) := fun j hj => by omega
  have nX16 : FX (∀ j : Nat, (j ≠ q + 1 ∧ j ≠ q + 2 ∧ j ≠ q + 3 ∧ j ≠ q + 4 ∧ j ≠ p + 1) → (j ≠ (q + 4))) := fun j hj => by omega
  have nX17 : FX (q ≠ (q + 4)) := (show q ≠ (q + 4) by omega)
  have nX18 : FX ((q + 1) ≠ (q + 4)) := (show (q + 1) ≠ (q + 4) by omega)
  have nX19 : FX ((q + 2) ≠ (q + 4)) := (show (q + 2) ≠ (q + 4) by omega)
  have nX20 : FX ((q + 3) ≠ (q + 4)) := (show (q + 3) ≠ (q + 4) by omega)
  have nX21 : FX (p ≠ (q + 4)) := (show p ≠ (q + 4) by omega)
  have nX22 : FX (b ≠ (q + 4)) := (show b ≠ (q + 4) by omega)
  have nX23 : FX (∀ j : Nat, (j = p + 1 ∨ (b ≤ j ∧ j ≤ b + 4)) → (j ≠ (q + 4))) := fun j hj => by omega
  have nX24 : FX (∀ j : Nat, (j ≠ q + 1 ∧ j ≠ q + 2 ∧ j ≠ q + 3 ∧ j ≠ q + 4 ∧ j ≠ p + 1) → (j ≠ q + 3)) := fun j hj => by omega
  have nX25 : FX (q ≠ q + 3) := (show q ≠ q + 3 by omega)
  have nX26 : FX ((q + 1) ≠ q + 3) := (show (q + 1) ≠ q + 3 by omega)
  have nX27 : FX ((q + 2) ≠ q + 3) := (show (q + 2) ≠ q + 3 by omega)
  have nX28 : FX ((q + 4) ≠ q + 3) := (show (q + 4) ≠ q + 3 by omega)
  have nX29 : FX (p ≠ q + 3) := (show p ≠ q + 3 by omega)
  have nX30 : FX (b ≠ q + 3) := (show b ≠ q + 3 by omega)
  have nX31 : FX (∀ j : Nat, (j = p + 1 ∨ (b ≤ j ∧ j ≤ b + 4)) → (j ≠ q + 3)) := fun j hj => by omega
  have nX32 : FX (∀ j : Nat, (j ≠ q + 1 ∧ j ≠ q + 2 ∧ j ≠ q + 3 ∧ j ≠ q + 4 ∧ j ≠ p + 1) → j ≠ q + 1) := fun j hj => by omega
  have nX33 : FX (q ≠ q + 1) := (show q ≠ q + 1 by omega)
  have nX34 : FX ((q + 2) ≠ q + 1) := (show (q + 2) ≠ q + 1 by omega)
  have nX35 : FX ((q + 3) ≠ q + 1) := (show (q + 3) ≠ q + 1 by omega)
  have nX36 : FX ((q + 4) ≠ q + 1) := (show (q + 4) ≠ q + 1 by omega)
  have nX37 : FX (p ≠ q + 1) := (show p ≠ q + 1 by omega)
  have nX38 : FX (b ≠ q + 1) := (show b ≠ q + 1 by omega)
  have nX39 : FX (∀ j : Nat, (j = p + 1 ∨ (b ≤ j ∧ j ≤ b + 4)) → (j ≠ q + 1)) := fun j hj => by omega
  have nX40 : FX (∀ j : Nat, (j ≠ q + 1 ∧ j ≠ q + 2 ∧ j ≠ q + 3 ∧ j ≠ q + 4 ∧ j ≠ p + 1) → (j ≠ q + 2 ∧ j ≠ q + 3 ∧ j ≠ q + 4 ∧ j ≠ p + 1)) := fun j hj => by omega
  have nX41 : FX (q ≠ q + 2 ∧ q ≠ q + 3 ∧ q ≠ q + 4 ∧ q ≠ p + 1) := (show q ≠ q + 2 ∧ q ≠ q + 3 ∧ q ≠ q + 4 ∧ q ≠ p + 1 by omega)
  have nX42 : FX ((q + 1) ≠ q + 2 ∧ (q + 1) ≠ q + 3 ∧ (q + 1) ≠ q + 4 ∧ (q + 1) ≠ p + 1) := (show (q + 1) ≠ q + 2 ∧ (q + 1) ≠ q + 3 ∧ (q + 1) ≠ q + 4 ∧ (q + 1) ≠ p + 1 by omega)
  have nX43 : FX (p ≠ q + 2 ∧ p ≠ q + 3 ∧ p ≠ q + 4 ∧ p ≠ p + 1) := (show p ≠ q + 2 ∧ p ≠ q + 3 ∧ p ≠ q + 4 ∧ p ≠ p + 1 by omega)
  have nX44 : FX (b ≠ q + 2 ∧ b ≠ q + 3 ∧ b ≠ q + 4 ∧ b ≠ p + 1) := (show b ≠ q + 2 ∧ b ≠ q + 3 ∧ b ≠ q + 4 ∧ b ≠ p + 1 by omega)
  have nX45 : FX (∀ j : Nat, (j ≠ q + 1 ∧ j ≠ q + 2 ∧ j ≠ q + 3 ∧ j ≠ q + 4 ∧ j ≠ p + 1) → (j ≠ q + 2 ∧ j ≠ p + 1)) := fun j hj => by omega
  have nX46 : FX (q ≠ q + 2 ∧ q ≠ p + 1) := (show q ≠ q + 2 ∧ q ≠ p + 1 by omega)
  have nX47 : FX ((q + 1) ≠ q + 2 ∧ (q + 1) ≠ p + 1) := (show (q + 1) ≠ q + 2 ∧ (q + 1) ≠ p + 1 by omega)
  have nX48 : FX ((q + 3) ≠ q + 2 ∧ (q + 3) ≠ p + 1) := (show (q + 3) ≠ q + 2 ∧ (q + 3) ≠ p + 1 by omega)
  have nX49 : FX ((q + 4) ≠ q + 2 ∧ (q + 4) ≠ p + 1) := (show (q + 4) ≠ q + 2 ∧ (q + 4) ≠ p + 1 by omega)
  have nX50 : FX (p ≠ q + 2 ∧ p ≠ p + 1) := (show p ≠ q + 2 ∧ p ≠ p + 1 by omega)
  have nX51 : FX (b ≠ q + 2 ∧ b ≠ p + 1) := (show b ≠ q + 2 ∧ b ≠ p + 1 by omega)
  have nX52 : FX (∀ j : Nat, (j ≠ q + 1 ∧ j ≠ q + 2 ∧ j ≠ q + 3 ∧ j ≠ q + 4 ∧ j ≠ p + 1) → (j ≠ p + 1)) := fun j hj => by omega
  have nX53 : FX (q ≠ p + 1) := (show q ≠ p + 1 by omega)
  have nX54 : FX ((q + 1) ≠ p + 1) := (show (q + 1) ≠ p + 1 by omega)
  have nX55 : FX ((q + 2) ≠ p + 1) := (show (q + 2) ≠ p + 1 by omega)
  have nX56 : FX ((q + 3) ≠ p + 1) := (show (q + 3) ≠ p + 1 by omega)
  have nX57 : FX ((q + 4) ≠ p + 1) := (show (q + 4) ≠ p + 1 by omega)
  have nX58 : FX (p ≠ p + 1) := (show p ≠ p + 1 by omega)
  have nX59 : FX (b ≠ p + 1) := (show b ≠ p + 1 by omega)
  have nX60 : FX (∀ j : Nat, (j ≠ q + 1 ∧ j ≠ q + 2 ∧ j ≠ q + 3 ∧ j ≠ q + 4 ∧ j ≠ p + 1) → j ≠ q + 2) := fun j hj => by omega
  have nX61 : FX (q ≠ q + 2) := (show q ≠ q + 2 by omega)
  have nX62 : FX ((q + 1) ≠ q + 2) := (show (q + 1) ≠ q + 2 by omega)
  have nX63 : FX ((q + 3) ≠ q + 2) := (show (q + 3) ≠ q + 2 by omega)
  have nX64 : FX ((q + 4) ≠ q + 2) := (show (q + 4) ≠ q + 2 by omega)
  have nX65 : FX (p ≠ q + 2) := (show p ≠ q + 2 by omega)
  have nX66 : FX (b ≠ q + 2) := (show b ≠ q + 2 by omega)
  have nX67 : FX (∀ j : Nat, (j = p + 1 ∨ (b ≤ j ∧ j ≤ b + 4)) → (j ≠ q + 2)) := fun j hj => by omega
  refine hR (?_ : R (_, _, _, _, _, _))
  refine hR (c_get hK0 rfl ?_)
  refine hR (?_ : R (_, _, _, _, _, _))
  refine hR (zcall_i 0 0 (Nat.le_of_ble_eq_true rfl) (Nat.le_of_ble_eq_true rfl) (x_fillJ _ _ _ _ _ _ hK1 (by omega) (by omega) _ fun T'_1 w2 gg3 hC4 hp5 => ?_))
  have fr6 := wfM_tr fr0 gg3 nX0
  have hC7 := (gg3.2 q nX1).trans hK0
  have hC8 := (gg3.2 (q + 2) nX2).trans hK2
  have hC9 := (gg3.2 (q + 3) nX3).trans hK3
  have hC10 := (gg3.2 (q + 4) nX4).trans hK4
  have hC11 := (gg3.2 p nX5).trans hK5
  have hC12 := (gg3.2 b nX6).trans hK6
  have hC13 := AFK_fr hK7 (fun j hj => gg3.2 j (nX7 j hj))
  refine (?_ : R (_, _, [], w2, 0, 0))
  refine hR (?_ : R (_, _, _, _, _, _))
  refine hR (c_get hC7 rfl ?_)
  refine hR (?_ : R (_, _, _, _, _, _))
  refine hR (zcall_i 0 0 (Nat.le_of_ble_eq_true rfl) (Nat.le_of_ble_eq_true rfl) (x_fillJ _ _ _ _ _ _ hC8 (by omega) (by omega) _ fun T'_14 w15 gg16 hC17 hp18 => ?_))
  have fr19 := wfM_tr fr6 gg16 nX8
  have hC20 := (gg16.2 q nX9).trans hC7
  have hC21 := (gg16.2 (q + 1) nX10).trans hC4
  have hC22 := (gg16.2 (q + 3) nX11).trans hC9
  have hC23 := (gg16.2 (q + 4) nX12).trans hC10
  have hC24 := (gg16.2 p nX13).trans hC11
  have hC25 := (gg16.2 b nX14).trans hC12
  have hC26 := AFK_fr hC13 (fun j hj => gg16.2 j (nX15 j hj))
  refine (?_ : R (_, _, [], w15, 0, 0))
  refine hR (?_ : R (_, _, _, _, _, _))
  refine hR (c_get hC20 rfl ?_)
  refine hR (?_ : R (_, _, _, _, _, _))
  refine hR (zcall_i 0 0 (Nat.le_of_ble_eq_true rfl) (Nat.le_of_ble_eq_true rfl) (x_fillJ _ _ _ _ _ _ hC23 (by omega) (by omega) _ fun T'_27 w28 gg29 hC30 hp31 => ?_))
  have fr32 := wfM_tr fr19 gg29 nX16
  have hC33 := (gg29.2 q nX17).trans hC20
  have hC34 := (gg29.2 (q + 1) nX18).trans hC21
  have hC35 := (gg29.2 (q + 2) nX19).trans hC17
  have hC36 := (gg29.2 (q + 3) nX20).trans hC22
  have hC37 := (gg29.2 p nX21).trans hC24
  have hC38 := (gg29.2 b nX22).trans hC25
  have hC39 := AFK_fr hC26 (fun j hj => gg29.2 j (nX23 j hj))
  refine (?_ : R (_, _, [], w28, 0, 0))
  iterate 2 refine hR (?_ : R (_, _, _, _, _, _))
  have lp26 : ∀ (N : Nat) (tt : Int) (o4_26 : Option Value) (A1 L1 : Nat → Int32) (w_26 : zW), (zc2 o4_26 = false) → (wfM (fun j => j ≠ q + 1 ∧ j ≠ q + 2 ∧ j ≠ q + 3 ∧ j ≠ q + 4 ∧ j ≠ p + 1) w w_26) → (zix w_26 q = some (.inr (4, [.ref (q + 1), .int (Int32.ofInt y1), .int (Int32.ofInt y2), .int (Int32.ofInt y3), .int (Int32.ofInt y4), .int (Int32.ofInt y5), .ref (q + 2), .ref (q + 3), .ref (q + 4), .ref (q + 5), .ref (q + 6), .ref (q + 7), .ref (q + 8), .ref (q + 9), .ref (q + 10)]))) → (zix w_26 (q + 1) = some (.inl (1, 6, .inl A1))) → (zix w_26 (q + 2) = some (.inl (1, 5461, .inl L1))) → (zix w_26 (q + 3) = some (.inl (1, 5461, .inl g3))) → (zix w_26 (q + 4) = some (.inl (1, 5461, .inl T'_27))) → (zix w_26 p = some (.inr (3, [.ref b, .ref (p + 1), .ref z2, .ref z3]))) → (zix w_26 b = some (.inr (0, [.int (Int32.ofInt x0), .int (Int32.ofInt nn), .int (Int32.ofInt x2), .ref (b + 1), .ref (b + 2), .ref (b + 3), .ref (b + 4)]))) → (AFK w_26 p b F) → (0 ≤ tt ∧ tt ≤ 5461) → (∀ x : Int, 0 ≤ x → x ≤ 5460 → tBy L1 x = ldP (F a1) tt.toNat x) → (AN6 A1 0 0 0 0 0 (cntP (stP (F a1)) tt.toNat : Int)) → (5462 - tt < N) → R (26, [some (.ref q), some (.ref p), some (.int (Int32.ofInt a1)), some (.int (Int32.ofInt tt)), o4_26], [], w_26, 0, 0) := by
    intro N
    induction N with
    | zero => intros; omega
    | succ N ih26 =>
      intro tt o4_26 A1 L1 w_26 hzo4_26 fr_26 hCq_26 hCq1_26 hCq2_26 hCq3_26 hCq4_26 hCp_26 hCb_26 hCAF_26 hf0_26 hp0_26 hp1_26 hN26
      refine hR (?_ : R (_, _, _, _, _, _))
      refine hR (t_c 5461 (by decide) ?_)
      refine hR (j_ge (by omega) (by omega) (fun hc40 => ?_) (fun hc40 => ?_))
      rotate_left
      · skip
        iterate 3 refine hR (?_ : R (_, _, _, _, _, _))
        refine hR (c_obj hCp_26 (zcall_i 0 0 (Nat.le_of_ble_eq_true rfl) (Nat.le_of_ble_eq_true rfl) (x_after _ _ _ _ _ _ _ _ _ _ _ _ hCp_26 hCb_26 hCAF_26 (by omega) (by omega) hr1 _ fun v146 w147 gg148 hC149 hp150 => ?_)))
        have fr151 := wfM_tr fr_26 gg148 nX52
        have hC152 := (gg148.2 q nX53).trans hCq_26
        have hC153 := (gg148.2 (q + 1) nX54).trans hCq1_26
        have hC154 := (gg148.2 (q + 2) nX55).trans hCq2_26
        have hC155 := (gg148.2 (q + 3) nX56).trans hCq3_26
        have hC156 := (gg148.2 (q + 4) nX57).trans hCq4_26
        have hC157 := (gg148.2 p nX58).trans hCp_26
        have hC158 := (gg148.2 b nX59).trans hCb_26
        refine (?_ : R (_, _, .int (Int32.ofInt v146) :: [], w147, 0, 0))
        have hq159 := hp150
        iterate 2 refine hR (?_ : R (_, _, _, _, _, _))
        refine hR (c_get hC152 rfl ?_)
        iterate 2 refine hR (?_ : R (_, _, _, _, _, _))
        refine hR (c_aldE hC154 (by omega) (by omega) (Nat.le_of_ble_eq_true rfl) fun v160 ev160 rv160 => ?_)
        replace ev160 : v160 = tBy L1 v146 := ev160
        subst ev160
        refine hR (?_ : R (_, _, _, _, _, _))
        refine hR (t_add ?_)
        refine hR (x_ast hC154 (by omega) (by omega) (Nat.le_of_ble_eq_true rfl) fun w161 ff161 hC161 => ?_)
        have fr162 := wfM_st fr151 ff161 nX60
        have hC163 := (ff161.2 q nX61).trans hC152
        have hC164 := (ff161.2 (q + 1) nX62).trans hC153
        have hC165 := (ff161.2 (q + 3) nX63).trans hC155
        have hC166 := (ff161.2 (q + 4) nX64).trans hC156
        have hC167 := (ff161.2 p nX65).trans hC157
        have hC168 := (ff161.2 b nX66).trans hC158
        have hC169 := AFK_fr hC149 (fun j hj => ff161.2 j (nX67 j hj))
        iterate 2 refine hR (?_ : R (_, _, _, _, _, _))
        refine hR (j_ne (by omega) (by omega) (fun hc170 => ?_) (fun hc170 => ?_))
        · skip
          refine hR (t_inc ?_)
          refine hR (?_ : R (_, _, _, _, _, _))
          exact ih26 _ _ _ _ _ (by rfl) fr162 hC163 hC164 hC161 hC165 hC166 hC167 hC168 hC169 (by omega) (ld_st hp0_26 (by omega) (by omega) hp150.1 hp150.2) (st5_n hp1_26 (by omega) (stP_f (by omega) hp150.1 (by omega))) (by omega)
        refine hR (?_ : R (_, _, _, _, _, _))
        refine hR (c_get hC163 rfl ?_)
        iterate 2 refine hR (?_ : R (_, _, _, _, _, _))
        refine hR (c_aldE hC164 (by omega) (by omega) (Nat.le_of_ble_eq_true rfl) fun v171 ev171 rv171 => ?_)
        replace ev171 : v171 = tBy A1 5 := ev171
        subst ev171
        refine hR (?_ : R (_, _, _, _, _, _))
        refine hR (t_add ?_)
        refine hR (x_ast hC164 (by omega) (by omega) (Nat.le_of_ble_eq_true rfl) fun w172 ff172 hC172 => ?_)
        have fr173 := wfM_st fr162 ff172 nX32
        have hC174 := (ff172.2 q nX33).trans hC163
        have hC175 := (ff172.2 (q + 2) nX34).trans hC161
        have hC176 := (ff172.2 (q + 3) nX35).trans hC165
        have hC177 := (ff172.2 (q + 4) nX36).trans hC166
        have hC178 := (ff172.2 p nX37).trans hC167
        have hC179 := (ff172.2 b nX38).trans hC168
        have hC180 := AFK_fr hC169 (fun j hj => ff172.2 j (nX39 j hj))
        refine hR (t_inc ?_)
        refine hR (?_ : R (_, _, _, _, _, _))
        exact ih26 _ _ _ _ _ (by rfl) fr173 hC174 hC172 hC175 hC176 hC177 hC178 hC179 hC180 (by omega) (ld_st hp0_26 (by omega) (by omega) hp150.1 hp150.2) (st5_y hp1_26 (by omega) (by omega) (stP_t (by omega) hp150.1 (by omega))) (by omega)
      have hL := ld_e hp0_26 (by omega)
      refine hR (?_ : R (_, _, _, _, _, _))
      refine hR (c_get hCq_26 rfl ?_)
      iterate 2 refine hR (?_ : R (_, _, _, _, _, _))
      refine hR (c_obj hCq_26 (zcall_i 0 0 (Nat.le_of_ble_eq_true rfl) (Nat.le_of_ble_eq_true rfl) (x_putNone _ _ _ _ _ _ _ _ _ _ _ hCq_26 hCq2_26 hCq3_26 hL _ fun v41 T3_42 w43 gg44 hC45 hp46 hp47 => ?_)))
      have fr48 := wfM_tr fr_26 gg44 nX24
      have hC49 := (gg44.2 q nX25).trans hCq_26
      have hC50 := (gg44.2 (q + 1) nX26).trans hCq1_26
      have hC51 := (gg44.2 (q + 2) nX27).trans hCq2_26
      have hC52 := (gg44.2 (q + 4) nX28).trans hCq4_26
      have hC53 := (gg44.2 p nX29).trans hCp_26
      have hC54 := (gg44.2 b nX30).trans hCb_26
      have hC55 := AFK_fr hCAF_26 (fun j hj => gg44.2 j (nX31 j hj))
      refine (?_ : R (_, _, .int (Int32.ofInt v41) :: .int (Int32.ofInt 4) :: .ref (q + 1) :: [], w43, 0, 0))
      have hpu := hp46
      have hpr := hp47
      refine hR (x_ast hC50 (by omega) (by omega) (Nat.le_of_ble_eq_true rfl) fun w56 ff56 hC56 => ?_)
      have fr57 := wfM_st fr48 ff56 nX32
      have hC58 := (ff56.2 q nX33).trans hC49
      have hC59 := (ff56.2 (q + 2) nX34).trans hC51
      have hC60 := (ff56.2 (q + 3) nX35).trans hC45
      have hC61 := (ff56.2 (q + 4) nX36).trans hC52
      have hC62 := (ff56.2 p nX37).trans hC53
      have hC63 := (ff56.2 b nX38).trans hC54
      have hC64 := AFK_fr hC55 (fun j hj => ff56.2 j (nX39 j hj))
      have hAN1 := an6_4 hp1_26 (x := v41) (by exact ⟨by omega, by omega⟩)
      refine hR (?_ : R (_, _, _, _, _, _))
      refine hR (c_get hC58 rfl ?_)
      refine hR (?_ : R (_, _, _, _, _, _))
      refine hR (t_c 5461 (by decide) ?_)
      iterate 4 refine hR (?_ : R (_, _, _, _, _, _))
      refine hR (c_get hC58 rfl ?_)
      refine hR (?_ : R (_, _, _, _, _, _))
      refine hR (c_aldE hC56 (by omega) (by omega) (Nat.le_of_ble_eq_true rfl) fun v65 ev65 rv65 => ?_)
      replace ev65 : v65 = tBy (upd A1 (4 : Int).toNat (Int32.ofInt v41)) 4 := ev65
      subst ev65
      have ha4 := hAN1.2.2.2.2.1
      refine hR (c_obj hC58 (zcall_i 0 0 (Nat.le_of_ble_eq_true rfl) (Nat.le_of_ble_eq_true rfl) (x_takeOut _ _ _ _ _ _ _ _ _ _ _ _ _ _ _ _ _ _ _ _ _ hC58 hC59 hC60 hC61 hC62 hC63 hC64 (by omega) hr1 hr2 hr3 (tq_0 hL hpu (fun x x0 x1 => hp31 x x0 x1) ha4) (by omega) _ fun v66 T2_67 T3_68 T4_69 w70 gg71 hC72 hC73 hC74 hC75 hp76 hp77 => ?_)))
      have fr78 := wfM_tr fr57 gg71 nX40
      have hC79 := (gg71.2 q nX41).trans hC58
      have hC80 := (gg71.2 (q + 1) nX42).trans hC56
      have hC81 := (gg71.2 p nX43).trans hC62
      have hC82 := (gg71.2 b nX44).trans hC63
      refine (?_ : R (_, _, .int (Int32.ofInt v66) :: .int (Int32.ofInt 5461) :: .int (Int32.ofInt 2) :: .ref (q + 1) :: [], w70, 0, 0))
      have hTQ := hp76
      have hTr := hp77
      refine hR (t_sub ?_)
      refine hR (x_ast hC80 (by omega) (by omega) (Nat.le_of_ble_eq_true rfl) fun w83 ff83 hC83 => ?_)
      have fr84 := wfM_st fr78 ff83 nX32
      have hC85 := (ff83.2 q nX33).trans hC79
      have hC86 := (ff83.2 (q + 2) nX34).trans hC72
      have hC87 := (ff83.2 (q + 3) nX35).trans hC73
      have hC88 := (ff83.2 (q + 4) nX36).trans hC74
      have hC89 := (ff83.2 p nX37).trans hC81
      have hC90 := (ff83.2 b nX38).trans hC82
      have hC91 := AFK_fr hC75 (fun j hj => ff83.2 j (nX39 j hj))
      have hAN2 := an6_2 hAN1 (x := 5461 - v66) (by exact ⟨by omega, by omega⟩)
      iterate 2 refine hR (?_ : R (_, _, _, _, _, _))
      have lp108 : ∀ (N : Nat) (tt : Int) (A2 : Nat → Int32) (w_108 : zW), (wfM (fun j => j ≠ q + 1 ∧ j ≠ q + 2 ∧ j ≠ q + 3 ∧ j ≠ q + 4 ∧ j ≠ p + 1) w w_108) → (zix w_108 q = some (.inr (4, [.ref (q + 1), .int (Int32.ofInt y1), .int (Int32.ofInt y2), .int (Int32.ofInt y3), .int (Int32.ofInt y4), .int (Int32.ofInt y5), .ref (q + 2), .ref (q + 3), .ref (q + 4), .ref (q + 5), .ref (q + 6), .ref (q + 7), .ref (q + 8), .ref (q + 9), .ref (q + 10)]))) → (zix w_108 (q + 1) = some (.inl (1, 6, .inl A2))) → (zix w_108 (q + 2) = some (.inl (1, 5461, .inl T2_67))) → (zix w_108 (q + 3) = some (.inl (1, 5461, .inl T3_68))) → (zix w_108 (q + 4) = some (.inl (1, 5461, .inl T4_69))) → (zix w_108 p = some (.inr (3, [.ref b, .ref (p + 1), .ref z2, .ref z3]))) → (zix w_108 b = some (.inr (0, [.int (Int32.ofInt x0), .int (Int32.ofInt nn), .int (Int32.ofInt x2), .ref (b + 1), .ref (b + 2), .ref (b + 3), .ref (b + 4)]))) → (AFK w_108 p b F) → (0 ≤ tt ∧ tt ≤ 5461) → (AN6 A2 0 0 (5461 - (flF (F a1)).1) (mxN (flF (F a1)).2.2.1 (flF (F a1)).2.2.2.2 tt.toNat) (urN (F a1)) (stN (F a1))) → (5462 - tt < N) → R (108, [some (.ref q), some (.ref p), some (.int (Int32.ofInt a1)), some (.int (Int32.ofInt tt)), o4_26], [], w_108, 0, 0) := by
        intro N
        induction N with
        | zero => intros; omega
        | succ N ih108 =>
          intro tt A2 w_108 fr_108 hCq_108 hCq1_108 hCq2_108 hCq3_108 hCq4_108 hCp_108 hCb_108 hCAF_108 hf0_108 hp0_108 hN108
          refine hR (?_ : R (_, _, _, _, _, _))
          refine hR (t_c 5461 (by decide) ?_)
          refine hR (j_ge (by omega) (by omega) (fun hc92 => ?_) (fun hc92 => ?_))
          rotate_left
          · skip
            refine hR (?_ : R (_, _, _, _, _, _))
            refine hR (c_get hCq_108 rfl ?_)
            refine hR (?_ : R (_, _, _, _, _, _))
            refine hR (c_aldE hCq2_108 (by omega) (by omega) (Nat.le_of_ble_eq_true rfl) fun v132 ev132 rv132 => ?_)
            replace ev132 : v132 = tBy T2_67 tt := ev132
            subst ev132
            refine hR (k_le (by omega) (fun hc133 => ?_) (fun hc133 => ?_))
            · skip
              refine hR (t_inc ?_)
              refine hR (?_ : R (_, _, _, _, _, _))
              exact ih108 _ _ _ fr_108 hCq_108 hCq1_108 hCq2_108 hCq3_108 hCq4_108 hCp_108 hCb_108 hCAF_108 (by omega) (mx_n hTQ hp0_108 (by omega) (by omega) (by omega)) (by omega)
            refine hR (?_ : R (_, _, _, _, _, _))
            refine hR (c_get hCq_108 rfl ?_)
            iterate 2 refine hR (?_ : R (_, _, _, _, _, _))
            refine hR (c_get hCq_108 rfl ?_)
            refine hR (?_ : R (_, _, _, _, _, _))
            refine hR (c_aldE hCq1_108 (by omega) (by omega) (Nat.le_of_ble_eq_true rfl) fun v134 ev134 rv134 => ?_)
            replace ev134 : v134 = tBy A2 3 := ev134
            subst ev134
            refine hR (?_ : R (_, _, _, _, _, _))
            refine hR (c_get hCq_108 rfl ?_)
            refine hR (?_ : R (_, _, _, _, _, _))
            refine hR (c_aldE hCq4_108 (by omega) (by omega) (Nat.le_of_ble_eq_true rfl) fun v135 ev135 rv135 => ?_)
            replace ev135 : v135 = tBy T4_69 tt := ev135
            subst ev135
            obtain ⟨v136, lv136, qv136⟩ := zmax_r (a := tBy A2 3) (b := tBy T4_69 tt) (by omega) (by omega)
            refine hR (t_c v136 qv136 ?_)
            refine hR (x_ast hCq1_108 (by omega) (by omega) (Nat.le_of_ble_eq_true rfl) fun w137 ff137 hC137 => ?_)
            have fr138 := wfM_st fr_108 ff137 nX32
            have hC139 := (ff137.2 q nX33).trans hCq_108
            have hC140 := (ff137.2 (q + 2) nX34).trans hCq2_108
            have hC141 := (ff137.2 (q + 3) nX35).trans hCq3_108
            have hC142 := (ff137.2 (q + 4) nX36).trans hCq4_108
            have hC143 := (ff137.2 p nX37).trans hCp_108
            have hC144 := (ff137.2 b nX38).trans hCb_108
            have hC145 := AFK_fr hCAF_108 (fun j hj => ff137.2 j (nX39 j hj))
            refine hR (t_inc ?_)
            refine hR (?_ : R (_, _, _, _, _, _))
            exact ih108 _ _ _ fr138 hC139 hC137 hC140 hC141 hC142 hC143 hC144 hC145 (by omega) (mx_y hTQ hp0_108 (by omega) (by omega) (by omega) lv136) (by omega)
          iterate 2 refine hR (?_ : R (_, _, _, _, _, _))
          have lp153 : ∀ (N : Nat) (tt : Int) (A3 L3 : Nat → Int32) (w_153 : zW), (wfM (fun j => j ≠ q + 1 ∧ j ≠ q + 2 ∧ j ≠ q + 3 ∧ j ≠ q + 4 ∧ j ≠ p + 1) w w_153) → (zix w_153 q = some (.inr (4, [.ref (q + 1), .int (Int32.ofInt y1), .int (Int32.ofInt y2), .int (Int32.ofInt y3), .int (Int32.ofInt y4), .int (Int32.ofInt y5), .ref (q + 2), .ref (q + 3), .ref (q + 4), .ref (q + 5), .ref (q + 6), .ref (q + 7), .ref (q + 8), .ref (q + 9), .ref (q + 10)]))) → (zix w_153 (q + 1) = some (.inl (1, 6, .inl A3))) → (zix w_153 (q + 2) = some (.inl (1, 5461, .inl L3))) → (zix w_153 (q + 3) = some (.inl (1, 5461, .inl T3_68))) → (zix w_153 (q + 4) = some (.inl (1, 5461, .inl T4_69))) → (zix w_153 p = some (.inr (3, [.ref b, .ref (p + 1), .ref z2, .ref z3]))) → (zix w_153 b = some (.inr (0, [.int (Int32.ofInt x0), .int (Int32.ofInt nn), .int (Int32.ofInt x2), .ref (b + 1), .ref (b + 2), .ref (b + 3), .ref (b + 4)]))) → (AFK w_153 p b F) → (0 ≤ tt ∧ tt ≤ 5461) → (RLP (F a1) (flF (F a1)).2.2.1 tt (tBy A3 0) (tBy A3 1) L3) → (AN6 A3 (tBy A3 0) (tBy A3 1) (5461 - (flF (F a1)).1) (mxN (flF (F a1)).2.2.1 (flF (F a1)).2.2.2.2 5461) (urN (F a1)) (stN (F a1))) → (5462 - tt < N) → R (153, [some (.ref q), some (.ref p), some (.int (Int32.ofInt a1)), some (.int (Int32.ofInt tt)), o4_26], [], w_153, 0, 0) := by
            intro N
            induction N with
            | zero => intros; omega
            | succ N ih153 =>
              intro tt A3 L3 w_153 fr_153 hCq_153 hCq1_153 hCq2_153 hCq3_153 hCq4_153 hCp_153 hCb_153 hCAF_153 hf0_153 hp0_153 hp1_153 hN153
              refine hR (?_ : R (_, _, _, _, _, _))
              refine hR (t_c 5461 (by decide) ?_)
              refine hR (j_ge (by omega) (by omega) (fun hc93 => ?_) (fun hc93 => ?_))
              · skip
                exact hR (zret_i rfl (Nat.le_refl _) rfl (h _ _ _ _ _ fr_153 hCq1_153 hCq2_153 hCq3_153 hCq4_153 hCAF_153 (orv_all hr3 hp0_153 hp1_153 (by omega))))
              refine hR (?_ : R (_, _, _, _, _, _))
              refine hR (c_get hCq_153 rfl ?_)
              refine hR (?_ : R (_, _, _, _, _, _))
              refine hR (c_aldE hCq2_153 (by omega) (by omega) (Nat.le_of_ble_eq_true rfl) fun v94 ev94 rv94 => ?_)
              replace ev94 : v94 = tBy L3 tt := ev94
              subst ev94
              refine hR (k_le (by omega) (fun hc95 => ?_) (fun hc95 => ?_))
              · skip
                refine hR (t_inc ?_)
                refine hR (?_ : R (_, _, _, _, _, _))
                exact ih153 _ _ _ _ fr_153 hCq_153 hCq1_153 hCq2_153 hCq3_153 hCq4_153 hCp_153 hCb_153 hCAF_153 (by omega) (rlp_n hr3 hp0_153 (by omega) (by omega) (by omega)) hp1_153 (by omega)
              have hrb := rlp_b hr3 hp0_153 (by omega) (by omega)
              refine hR (?_ : R (_, _, _, _, _, _))
              refine hR (c_get hCq_153 rfl ?_)
              iterate 2 refine hR (?_ : R (_, _, _, _, _, _))
              refine hR (c_aldE hCq1_153 (by omega) (by omega) (Nat.le_of_ble_eq_true rfl) fun v96 ev96 rv96 => ?_)
              replace ev96 : v96 = tBy A3 0 := ev96
              subst ev96
              refine hR (?_ : R (_, _, _, _, _, _))
              refine hR (t_add ?_)
              refine hR (x_ast hCq1_153 (by omega) (by omega) (Nat.le_of_ble_eq_true rfl) fun w97 ff97 hC97 => ?_)
              have fr98 := wfM_st fr_153 ff97 nX32
              have hC99 := (ff97.2 q nX33).trans hCq_153
              have hC100 := (ff97.2 (q + 2) nX34).trans hCq2_153
              have hC101 := (ff97.2 (q + 3) nX35).trans hCq3_153
              have hC102 := (ff97.2 (q + 4) nX36).trans hCq4_153
              have hC103 := (ff97.2 p nX37).trans hCp_153
              have hC104 := (ff97.2 b nX38).trans hCb_153
              have hC105 := AFK_fr hCAF_153 (fun j hj => ff97.2 j (nX39 j hj))
              have hq0 := an6_0 (x := tBy A3 0 + 1) hp1_153 (by exact ⟨by omega, by omega⟩)
              refine hR (?_ : R (_, _, _, _, _, _))
              refine hR (c_get hC99 rfl ?_)
              iterate 2 refine hR (?_ : R (_, _, _, _, _, _))
              refine hR (c_get hC99 rfl ?_)
              refine hR (?_ : R (_, _, _, _, _, _))
              refine hR (c_aldE hC97 (by omega) (by omega) (Nat.le_of_ble_eq_true rfl) fun v106 ev106 rv106 => ?_)
              replace ev106 : v106 = tBy (upd A3 (0 : Int).toNat (Int32.ofInt ((tBy A3 0) + 1))) 1 := ev106
              subst ev106
              iterate 4 refine hR (?_ : R (_, _, _, _, _, _))
              refine hR (c_obj hC99 (zcall_i 0 0 (Nat.le_of_ble_eq_true rfl) (Nat.le_of_ble_eq_true rfl) (x_goRoundI _ _ _ _ _ _ _ _ _ _ _ _ _ _ _ _ _ _ _ _ hC99 hC100 hC103 hC104 hC105 (by omega) hr1 hr2 (by omega) hp0_153.2.2 _ fun v107 T2_108 w109 gg110 hC111 hC112 hp113 hp114 => ?_)))
              have fr115 := wfM_tr fr98 gg110 nX45
              have hC116 := (gg110.2 q nX46).trans hC99
              have hC117 := (gg110.2 (q + 1) nX47).trans hC97
              have hC118 := (gg110.2 (q + 3) nX48).trans hC101
              have hC119 := (gg110.2 (q + 4) nX49).trans hC102
              have hC120 := (gg110.2 p nX50).trans hC103
              have hC121 := (gg110.2 b nX51).trans hC104
              refine (?_ : R (_, _, .int (Int32.ofInt v107) :: .int (Int32.ofInt (tBy (upd A3 (0 : Int).toNat (Int32.ofInt ((tBy A3 0) + 1))) 1)) :: .int (Int32.ofInt 1) :: .ref (q + 1) :: [], w109, 0, 0))
              have hgr := hp113
              obtain ⟨v122, lv122, qv122⟩ := zmax_r (a := tBy (upd A3 (0 : Int).toNat (Int32.ofInt ((tBy A3 0) + 1))) 1) (b := v107) (by omega) (by omega)
              refine hR (t_c v122 qv122 ?_)
              refine hR (x_ast hC117 (by omega) (by omega) (Nat.le_of_ble_eq_true rfl) fun w123 ff123 hC123 => ?_)
              have fr124 := wfM_st fr115 ff123 nX32
              have hC125 := (ff123.2 q nX33).trans hC116
              have hC126 := (ff123.2 (q + 2) nX34).trans hC111
              have hC127 := (ff123.2 (q + 3) nX35).trans hC118
              have hC128 := (ff123.2 (q + 4) nX36).trans hC119
              have hC129 := (ff123.2 p nX37).trans hC120
              have hC130 := (ff123.2 b nX38).trans hC121
              have hC131 := AFK_fr hC112 (fun j hj => ff123.2 j (nX39 j hj))
              have hq1 := an6_1 (x := v122) hq0 (by exact ⟨by omega, by omega⟩)
              refine hR (t_inc ?_)
              refine hR (?_ : R (_, _, _, _, _, _))
              exact ih153 _ _ _ _ fr124 hC125 hC123 hC126 hC127 hC128 hC129 hC130 hC131 (by omega) (rlp_a hq1 (rlp_y hr3 hp0_153 (by omega) (by omega) (by omega) hgr (by have := hq0.2.1; omega))) (an6_s hq1) (by omega)
          exact lp153 400000000 _ _ _ _ fr_108 hCq_108 hCq1_108 hCq2_108 hCq3_108 hCq4_108 hCp_108 hCb_108 hCAF_108 (by omega) (rlp_a (an6_x hp0_108 (by omega)) (rlp_0 hTQ.2.2.1)) (an6_s (an6_x hp0_108 (by omega))) (by omega)
      exact lp108 400000000 _ _ _ fr84 hC85 hC83 hC86 hC87 hC88 hC89 hC90 hC91 (by omega) (an6_m hAN2 hTQ.1 hpu.1 (by omega)) (by omega)
  exact lp26 400000000 _ _ _ _ _ (by rfl) fr32 hC33 hC34 hC35 hC36 hC30 hC37 hC38 hC39 (by omega) (fun x x0 x1 => (hp18 x x0 (by omega)).trans rfl) (st5_0 (fun x x0 x1 => hp5 x x0 x1)) (by omega)
theorem kx_orbits {ρ : Nat → Nat} {w : zW} (hT : TOP ρ w) (d : Nat) (a1 a2 a3 : Int) (hr0 : (-2147483648 ≤ a1 ∧ a1 ≤ 2147483647)) (hr1 : (-2147483648 ≤ a2 ∧ a2 ≤ 2147483647)) (hr2 : (-2147483648 ≤ a3 ∧ a3 ≤ 2147483647)) : DET zTab (d + 7) iX11_orbits [.ref 0, .int (Int32.ofInt a1), .int (Int32.ofInt a2), .int (Int32.ofInt a3)] w (fun _ _ r _ => RXP (d + 4) w a1 (-1) (fun x0 nn F => orbV F nn a2 a3) r) := by
  obtain ⟨y6, y7, h0, -⟩ := top_o hT
  obtain ⟨mc1, ms1, re1, wm, ⟨σ, o, hA1, hbk, hr_1⟩, hrun1⟩ := a_readingsAtX hT (d + 3) a1 hr0
  have hT1 := hA1.1
  have hK := hA1.2.2.1.2
  refine z_rel (M := kX11_orbits) _ rfl (Nat.le_of_ble_eq_true rfl) fun R hR0 => ?_
  have hR : ∀ {pc : Nat} {L : zL} {S : List Value} {w1 : zW} {k n : Nat}, zsc (zCl zTab (d + 6)) (d + 6) kX11_orbits none zTab k n ((fun _ _ r _ => RXP (d + 4) w a1 (-1) (fun x0 nn F => orbV F nn a2 a3) r) k n) pc L S w1 k n R → R (pc, L, S, w1, k, n) := fun h => hR0 _ _ (Nat.le_refl _) (Nat.le_refl _) h
  iterate 2 refine hR (?_ : R (_, _, _, _, _, _))
  refine hR0 (0 + mc1) (0 + ms1) (Nat.le_add_right _ _) (Nat.le_add_right _ _) (c_obj h0 (zcall_i mc1 ms1 (Nat.le_refl _) (Nat.le_refl _) (hrun1 _ ?_)))
  rcases hr_1 with ⟨rfl, rfl⟩ | ⟨z, p, z2, z3, rfl, rfl, hp, hz, hO⟩
  · skip
    refine (?_ : R (_, _, .null :: [], wm, 0 + mc1, 0 + ms1))
    iterate 4 refine hR (?_ : R (_, _, _, _, _, _))
    exact hR (zret_i rfl (Nat.le_refl _) trivial ⟨none, wm, hbk, hK, Or.inl ⟨rfl, rfl⟩⟩)
  · skip
    refine (?_ : R (_, _, .ref p :: [], wm, 0 + mc1, 0 + ms1))
    obtain ⟨x0, nn, x2, gk, gs, gi, gn, gm, gm2, hB, hX, hXA, hx1, hx0, hAF, hm2, hm3, hds, hRD⟩ := rx_open hT1.1 hp hz hO
    iterate 4 refine hR (?_ : R (_, _, _, _, _, _))
    refine hR (c_get hO rfl ?_)
    refine hR (?_ : R (_, _, _, _, _, _))
    refine hR (c_obj hB (zcall_i 0 0 (Nat.le_refl _) (Nat.le_refl _) (x_bHas _ _ _ _ _ _ _ hB (by omega) _ fun v1 hp2 => ?_)))
    refine (?_ : R (_, _, .int (Int32.ofInt v1) :: [], wm, 0 + mc1, 0 + ms1))
    refine hR (k_eq (by omega) (fun hc3 => ?_) (fun hc3 => ?_))
    · skip
      refine hR (?_ : R (_, _, _, _, _, _))
      exact hR (zret_i rfl (Nat.le_refl _) trivial ⟨some z, wm, hbk, hK, Or.inr ⟨z, (0, 0, x0, nn, x2, gk, gs, gi, gn), rfl, hX, hXA, hx1, hx0, rx_ret (show (-1) = orbV (rdF gk gs gi gn) nn a2 a3 from (orb_n (by omega)).symm)⟩⟩)
    refine hR (?_ : R (_, _, _, _, _, _))
    refine hR (k_lt (by omega) (fun hc4 => ?_) (fun hc4 => ?_))
    · skip
      refine hR (?_ : R (_, _, _, _, _, _))
      exact hR (zret_i rfl (Nat.le_refl _) trivial ⟨some z, wm, hbk, hK, Or.inr ⟨z, (0, 0, x0, nn, x2, gk, gs, gi, gn), rfl, hX, hXA, hx1, hx0, rx_ret (show (-1) = orbV (rdF gk gs gi gn) nn a2 a3 from (orb_n (by omega)).symm)⟩⟩)
    refine hR (?_ : R (_, _, _, _, _, _))
    refine hR (t_c 6 (by decide) ?_)
    refine hR (j_lt (by omega) (by omega) (fun hc5 => ?_) (fun hc5 => ?_))
    rotate_left
    · skip
      refine hR (?_ : R (_, _, _, _, _, _))
      exact hR (zret_i rfl (Nat.le_refl _) trivial ⟨some z, wm, hbk, hK, Or.inr ⟨z, (0, 0, x0, nn, x2, gk, gs, gi, gn), rfl, hX, hXA, hx1, hx0, rx_ret (show (-1) = orbV (rdF gk gs gi gn) nn a2 a3 from (orb_n (by omega)).symm)⟩⟩)
    refine hR (?_ : R (_, _, _, _, _, _))
    obtain ⟨y6w, y7w, h0w, -⟩ := top_o hT1
    obtain ⟨mc2, ms2, re2, w2, ⟨τ, q, hA2, hre2, hq, hfr2⟩, hrun2⟩ := a_ringsThereX hT1 (d + 3)
    subst hre2
    refine hR0 (0 + mc1 + mc2) (0 + ms1 + ms2) (Nat.le_add_right _ _) (Nat.le_add_right _ _) (c_obj h0w (zcall_i mc2 ms2 (Nat.le_refl _) (Nat.le_refl _) (hrun2 _ ?_)))
    refine (?_ : R (_, _, .ref q :: [], w2, 0 + mc1 + mc2, 0 + ms1 + ms2))
    have hT2 := hA2.1
    have hx2 := hA2.2.2.2.1
    obtain ⟨kp2, kz2, kk2⟩ := rx_keep hT1 hfr2 hp hz (Or.inl (rx_0 hT1))
    have hOw2 := kp2.trans hO
    have hBw2 := (kz2 z (by omega) (by omega)).trans hB
    have hAFw2 := AFK_fr hAF (fun j hj => rx_j kk2 kz2 hj)
    have hFO := AFK_ok hAF hx1
    have hpT := (hx2 p (by rw [hp]; decide)).trans hp
    have hzT := (hx2 z (by rw [hz]; decide)).trans hz
    have hdw := rx_do hT2.1 hq hpT hzT
    obtain ⟨y1, y2, y3, y4, y5, g1, g2, g3, g4, hQ0, hQ1, hQ2, hQ3, hQ4⟩ := ro_open hT2.1 hq
    iterate 4 refine hR (?_ : R (_, _, _, _, _, _))
    refine hR (c_obj hQ0 (zcall_i 0 0 (Nat.le_refl _) (Nat.le_refl _) (x_findOrbitsI _ _ _ _ _ _ _ _ _ _ _ _ _ _ _ _ _ _ _ _ _ hQ0 hQ1 hQ2 hQ3 hQ4 hOw2 hBw2 hAFw2 (by omega) hds hdw (fo_g hFO (by omega) (by omega)) _ fun T1_6 T2_7 T3_8 T4_9 w10 gg11 hC12 hC13 hC14 hC15 hC16 hp17 => ?_)))
    have hC19 := (gg11.2 p (by (try dsimp only); omega)).trans hOw2
    have hC20 := (gg11.2 z (by (try dsimp only); omega)).trans hBw2
    have hC21 := (gg11.2 q (by (try dsimp only); omega)).trans hQ0
    refine (?_ : R (_, _, [], w10, 0 + mc1 + mc2, 0 + ms1 + ms2))
    refine hR (?_ : R (_, _, _, _, _, _))
    refine hR (c_get hC21 rfl ?_)
    refine hR (?_ : R (_, _, _, _, _, _))
    refine hR (c_aldE hC12 (by omega) (by omega) (Nat.le_of_ble_eq_true rfl) fun v22 ev22 rv22 => ?_)
    replace ev22 : v22 = tBy T1_6 a3 := ev22
    subst ev22
    exact hR (zret_i rfl (Nat.le_refl _) trivial ⟨some z, wm, hbk, hK, Or.inr ⟨z, (0, 0, x0, nn, x2, gk, gs, gi, gn), rfl, hX, hXA, hx1, hx0, rx_ret (show tBy T1_6 a3 = orbV (rdF gk gs gi gn) nn a2 a3 from (hp17 a3 (by omega) (by omega)).trans (orb_y ⟨⟨by omega, by omega⟩, by omega, by omega⟩).symm)⟩⟩)
