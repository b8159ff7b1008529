/-! THE CLASS'S RINGS, BY PLACES. -/
theorem rx_0 {σ : Nat → Nat} {w : zW} (hT : TOP σ w) : σ 0 = 1 := hT.2.1
theorem rx_do {τ : Nat → Nat} {w : zW} {p z q : Nat} (hw : CI τ w) (hq : τ q = 80) (hp : τ p = 50) (hz : τ z = 20) : (q + 10 < p ∨ p + 1 < q) ∧ (q + 10 < z ∨ z + 4 < q) ∧ (z + 4 < p ∨ p + 1 < z) := by
  obtain ⟨_, _, _, -, -, r1, -⟩ := CI_o50 hw hp
  obtain ⟨b1, b2, b3, b4⟩ := CI_r20 hw hz
  obtain ⟨_, _, _, _, _, -, c1, -, -, -, -, -, c2, c3, c4, c5, c6, c7, c8, c9, c10⟩ := CI_o80 hw hq
  have ne : ∀ {x y : Nat}, τ x ≠ τ y → x ≠ y := fun h e => h (by rw [e])
  have hQ : ∀ x, (τ x < 80) → x < q ∨ q + 10 < x := fun x hx => by
    have q0 : x ≠ q := ne (by omega)
    have q1 : x ≠ q + 1 := ne (by omega)
    have q2 : x ≠ q + 2 := ne (by omega)
    have q3 : x ≠ q + 3 := ne (by omega)
    have q4 : x ≠ q + 4 := ne (by omega)
    have q5 : x ≠ q + 5 := ne (by omega)
    have q6 : x ≠ q + 6 := ne (by omega)
    have q7 : x ≠ q + 7 := ne (by omega)
    have q8 : x ≠ q + 8 := ne (by omega)
    have q9 : x ≠ q + 9 := ne (by omega)
    have q10 : x ≠ q + 10 := ne (by omega)
    omega
  have hZ : ∀ x, (50 ≤ τ x) → x < z ∨ z + 4 < x := fun x hx => by
    have q0 : x ≠ z := ne (by omega)
    have q1 : x ≠ z + 1 := ne (by omega)
    have q2 : x ≠ z + 2 := ne (by omega)
    have q3 : x ≠ z + 3 := ne (by omega)
    have q4 : x ≠ z + 4 := ne (by omega)
    omega
  have m0 := hQ p (by omega)
  have m1 := hQ (p + 1) (by omega)
  have m2 := hZ p (by omega)
  have m3 := hZ (p + 1) (by omega)
  have z0 := hQ z (by omega)
  have z1 := hQ (z + 1) (by omega)
  have z2 := hQ (z + 2) (by omega)
  have z3 := hQ (z + 3) (by omega)
  have z4 := hQ (z + 4) (by omega)
  omega
theorem ro_open {τ : Nat → Nat} {w : zW} (hw : CI τ w) {q : Nat} (hq : τ q = 80) : ∃ (x1 x2 x3 x4 x5 : Int) (g1 g2 g3 g4 : Nat → Int32), zix w q = some (.inr (4, [.ref (q + 1), .int (Int32.ofInt x1), .int (Int32.ofInt x2), .int (Int32.ofInt x3), .int (Int32.ofInt x4), .int (Int32.ofInt x5), .ref (q + 2), .ref (q + 3), .ref (q + 4), .ref (q + 5), .ref (q + 6), .ref (q + 7), .ref (q + 8), .ref (q + 9), .ref (q + 10)])) ∧ zix w (q + 1) = some (.inl (1, 6, .inl g1)) ∧ zix w (q + 2) = some (.inl (1, 5461, .inl g2)) ∧ zix w (q + 3) = some (.inl (1, 5461, .inl g3)) ∧ zix w (q + 4) = some (.inl (1, 5461, .inl g4)) := by
  obtain ⟨x1, x2, x3, x4, x5, h, c1, -, -, -, -, -, c2, c3, c4, -⟩ := CI_o80 hw hq
  obtain ⟨g1, h1, -⟩ := CI_ar hw (q := q + 1) (by rw [c1]; rfl)
  obtain ⟨g2, h2, -⟩ := CI_ar hw (q := q + 2) (by rw [c2]; rfl)
  obtain ⟨g3, h3, -⟩ := CI_ar hw (q := q + 3) (by rw [c3]; rfl)
  obtain ⟨g4, h4, -⟩ := CI_ar hw (q := q + 4) (by rw [c4]; rfl)
  exact ⟨x1, x2, x3, x4, x5, g1, g2, g3, g4, h, h1, h2, h3, h4⟩
theorem ro_open10 {τ : Nat → Nat} {w : zW} (hw : CI τ w) {q : Nat} (hq : τ q = 80) : ∃ (x1 x2 x3 x4 x5 : Int) (g1 g2 g3 g4 g5 g6 g7 g8 g9 g10 : Nat → Int32), zix w q = some (.inr (4, [.ref (q + 1), .int (Int32.ofInt x1), .int (Int32.ofInt x2), .int (Int32.ofInt x3), .int (Int32.ofInt x4), .int (Int32.ofInt x5), .ref (q + 2), .ref (q + 3), .ref (q + 4), .ref (q + 5), .ref (q + 6), .ref (q + 7), .ref (q + 8), .ref (q + 9), .ref (q + 10)])) ∧ zix w (q + 1) = some (.inl (1, 6, .inl g1)) ∧ zix w (q + 2) = some (.inl (1, 5461, .inl g2)) ∧ zix w (q + 3) = some (.inl (1, 5461, .inl g3)) ∧ zix w (q + 4) = some (.inl (1, 5461, .inl g4)) ∧ zix w (q + 5) = some (.inl (1, 5461, .inl g5)) ∧ zix w (q + 6) = some (.inl (1, 5461, .inl g6)) ∧ zix w (q + 7) = some (.inl (1, 5461, .inl g7)) ∧ zix w (q + 8) = some (.inl (1, 5461, .inl g8)) ∧ zix w (q + 9) = some (.inl (1, 5461, .inl g9)) ∧ zix w (q + 10) = some (.inl (1, 5461, .inl g10)) := by
  obtain ⟨x1, x2, x3, x4, x5, h, c1, -, -, -, -, -, c2, c3, c4, c5, c6, c7, c8, c9, c10⟩ := CI_o80 hw hq
  obtain ⟨g1, h1, -⟩ := CI_ar hw (q := q + 1) (by rw [c1]; rfl)
  obtain ⟨g2, h2, -⟩ := CI_ar hw (q := q + 2) (by rw [c2]; rfl)
  obtain ⟨g3, h3, -⟩ := CI_ar hw (q := q + 3) (by rw [c3]; rfl)
  obtain ⟨g4, h4, -⟩ := CI_ar hw (q := q + 4) (by rw [c4]; rfl)
  obtain ⟨g5, h5, -⟩ := CI_ar hw (q := q + 5) (by rw [c5]; rfl)
  obtain ⟨g6, h6, -⟩ := CI_ar hw (q := q + 6) (by rw [c6]; rfl)
  obtain ⟨g7, h7, -⟩ := CI_ar hw (q := q + 7) (by rw [c7]; rfl)
  obtain ⟨g8, h8, -⟩ := CI_ar hw (q := q + 8) (by rw [c8]; rfl)
  obtain ⟨g9, h9, -⟩ := CI_ar hw (q := q + 9) (by rw [c9]; rfl)
  obtain ⟨g10, h10, -⟩ := CI_ar hw (q := q + 10) (by rw [c10]; rfl)
  exact ⟨x1, x2, x3, x4, x5, g1, g2, g3, g4, g5, g6, g7, g8, g9, g10, h, h1, h2, h3, h4, h5, h6, h7, h8, h9, h10⟩
theorem x_fillK (w : zW) (d : Nat) (q : Nat) (a1 : Int) (len : Nat) (g : Nat → Int32) (hK0 : zix w q = some (.inl (1, len, .inl g))) (hr0 : (-2147483648 ≤ a1 ∧ a1 ≤ 2147483647)) (hr1 : len ≤ 60000) (Q : zQ) (h : ∀ (T' : Nat → Int32) (w' : zW), wfM (fun j => j ≠ q) w w' → zix w' q = some (.inl (1, len, .inl T')) → (∀ x : Int, 0 ≤ x → x < len → tBy T' x = a1) → Q (none) w') : zCl zTab (d + 1) iJ7_fill_53178 [.ref q, .int (Int32.ofInt a1)] w 0 0 Q := by
  exact c_fillP w d q len a1 g hK0 hr0 hr1 Q fun w' g' f1 hg hj _ => h g' w' (wfM_st (wfM_rf _ w) f1 (fun j hj => hj)) hg (fun x x0 x1 => hj x.toNat (by omega))
theorem x_enterI (w : zW) (d : Nat) (q : Nat) (a1 : Int) (y1 y2 y3 y4 y5 : Int) (g5 g6 g7 g8 g9 : Nat → Int32) (hK0 : zix w q = some (.inr (4, [.ref (q + 1), .int (Int32.ofInt y1), .int (Int32.ofInt y2), .int (Int32.ofInt y3), .int (Int32.ofInt y4), .int (Int32.ofInt y5), .ref (q + 2), .ref (q + 3), .ref (q + 4), .ref (q + 5), .ref (q + 6), .ref (q + 7), .ref (q + 8), .ref (q + 9), .ref (q + 10)]))) (hK1 : zix w (q + 5) = some (.inl (1, 5461, .inl g5))) (hK2 : zix w (q + 6) = some (.inl (1, 5461, .inl g6))) (hK3 : zix w (q + 7) = some (.inl (1, 5461, .inl g7))) (hK4 : zix w (q + 8) = some (.inl (1, 5461, .inl g8))) (hK5 : zix w (q + 9) = some (.inl (1, 5461, .inl g9))) (hr0 : 0 ≤ a1 ∧ a1 ≤ 5460) (hr1 : 0 ≤ y3 ∧ y3 ≤ 5460) (hr2 : 0 ≤ y4 ∧ y4 ≤ 5460) (hr3 : 0 ≤ y5 ∧ y5 ≤ 5460) (Q : zQ) (h : ∀ (w' : zW), wfM (fun j => j ≠ q ∧ j ≠ q + 5 ∧ j ≠ q + 6 ∧ j ≠ q + 7 ∧ j ≠ q + 8 ∧ j ≠ q + 9) w w' → zix w' q = some (.inr (4, [.ref (q + 1), .int (Int32.ofInt y1), .int (Int32.ofInt y2), .int (Int32.ofInt (y3 + 1)), .int (Int32.ofInt (y4 + 1)), .int (Int32.ofInt (y5 + 1)), .ref (q + 2), .ref (q + 3), .ref (q + 4), .ref (q + 5), .ref (q + 6), .ref (q + 7), .ref (q + 8), .ref (q + 9), .ref (q + 10)])) → zix w' (q + 5) = some (.inl (1, 5461, .inl (upd g5 (y5 : Int).toNat (Int32.ofInt a1)))) → zix w' (q + 6) = some (.inl (1, 5461, .inl (upd g6 (y4 : Int).toNat (Int32.ofInt a1)))) → zix w' (q + 7) = some (.inl (1, 5461, .inl (upd g7 (a1 : Int).toNat (Int32.ofInt y3)))) → zix w' (q + 8) = some (.inl (1, 5461, .inl (upd g8 (a1 : Int).toNat (Int32.ofInt y3)))) → zix w' (q + 9) = some (.inl (1, 5461, .inl (upd g9 (a1 : Int).toNat (Int32.ofInt 0)))) → Q (none) w') : zCl zTab (d + 1) iX5_enter [.ref q, .int (Int32.ofInt a1)] w 0 0 Q := by
  refine zCl_i (M := kX5_enter) rfl (Nat.le_of_ble_eq_true rfl) fun R hR => ?_
  have fr0 : wfM (fun j => j ≠ q ∧ j ≠ q + 5 ∧ j ≠ q + 6 ∧ j ≠ q + 7 ∧ j ≠ q + 8 ∧ j ≠ q + 9) w w := wfM_rf _ w
  have nX0 : FX (∀ j : Nat, (j ≠ q ∧ j ≠ q + 5 ∧ j ≠ q + 6 ∧ j ≠ q + 7 ∧ j ≠ q + 8 ∧ j ≠ q + 9) → j ≠ q + 7) := fun j hj => by omega
  have nX1 : FX (q ≠ q + 7) := (show q ≠ q + 7 by omega)
  have nX2 : FX ((q + 5) ≠ q + 7) := (show (q + 5) ≠ q + 7 by omega)
  have nX3 : FX ((q + 6) ≠ q + 7) := (show (q + 6) ≠ q + 7 by omega)
  have nX4 : FX ((q + 8) ≠ q + 7) := (show (q + 8) ≠ q + 7 by omega)
  have nX5 : FX ((q + 9) ≠ q + 7) := (show (q + 9) ≠ q + 7 by omega)
  have nX6 : FX (∀ j : Nat, (j ≠ q ∧ j ≠ q + 5 ∧ j ≠ q + 6 ∧ j ≠ q + 7 ∧ j ≠ q + 8 ∧ j ≠ q + 9) → j ≠ q + 8) := fun j hj => by omega
  have nX7 : FX (q ≠ q + 8) := (show q ≠ q + 8 by omega)
  have nX8 : FX ((q + 5) ≠ q + 8) := (show (q + 5) ≠ q + 8 by omega)
  have nX9 : FX ((q + 6) ≠ q + 8) := (show (q + 6) ≠ q + 8 by omega)
  have nX10 : FX ((q + 7) ≠ q + 8) := (show (q + 7) ≠ q + 8 by omega)
  have nX11 : FX ((q + 9) ≠ q + 8) := (show (q + 9) ≠ q + 8 by omega)
  have nX12 : FX (∀ j : Nat, (j ≠ q ∧ j ≠ q + 5 ∧ j ≠ q + 6 ∧ j ≠ q + 7 ∧ j ≠ q + 8 ∧ j ≠ q + 9) → j ≠ q + 9) := fun j hj => by omega
  have nX13 : FX (q ≠ q + 9) := (show q ≠ q + 9 by omega)
  have nX14 : FX ((q + 5) ≠ q + 9) := (show (q + 5) ≠ q + 9 by omega)
  have nX15 : FX ((q + 6) ≠ q + 9) := (show (q + 6) ≠ q + 9 by omega)
  have nX16 : FX ((q + 7) ≠ q + 9) := (show (q + 7) ≠ q + 9 by omega)
  have nX17 : FX ((q + 8) ≠ q + 9) := (show (q + 8) ≠ q + 9 by omega)
  have nX18 : FX (∀ j : Nat, (j ≠ q ∧ j ≠ q + 5 ∧ j ≠ q + 6 ∧ j ≠ q + 7 ∧ j ≠ q + 8 ∧ j ≠ q + 9) → j ≠ q) := fun j hj => by omega
  have nX19 : FX ((q + 5) ≠ q) := (show (q + 5) ≠ q by omega)
  have nX20 : FX ((q + 6) ≠ q) := (show (q + 6) ≠ q by omega)
  have nX21 : FX ((q + 7) ≠ q) := (show (q + 7) ≠ q by omega)
  have nX22 : FX ((q + 8) ≠ q) := (show (q + 8) ≠ q by omega)
  have nX23 : FX ((q + 9) ≠ q) := (show (q + 9) ≠ q by omega)
  have nX24 : FX (∀ j : Nat, (j ≠ q ∧ j ≠ q + 5 ∧ j ≠ q + 6 ∧ j ≠ q + 7 ∧ j ≠ q + 8 ∧ j ≠ q + 9) → j ≠ q + 6) := fun j hj => by omega
  have nX25 : FX (q ≠ q + 6) := (show q ≠ q + 6 by omega)
  have nX26 : FX ((q + 5) ≠ q + 6) := (show (q + 5) ≠ q + 6 by omega)
  have nX27 : FX ((q + 7) ≠ q + 6) := (show (q + 7) ≠ q + 6 by omega)
  have nX28 : FX ((q + 8) ≠ q + 6) := (show (q + 8) ≠ q + 6 by omega)
  have nX29 : FX ((q + 9) ≠ q + 6) := (show (q + 9) ≠ q + 6 by omega)
  have nX30 : FX (∀ j : Nat, (j ≠ q ∧ j ≠ q + 5 ∧ j ≠ q + 6 ∧ j ≠ q + 7 ∧ j ≠ q + 8 ∧ j ≠ q + 9) → j ≠ q + 5) := fun j hj => by omega
  have nX31 : FX (q ≠ q + 5) := (show q ≠ q + 5 by omega)
  have nX32 : FX ((q + 6) ≠ q + 5) := (show (q + 6) ≠ q + 5 by omega)
  have nX33 : FX ((q + 7) ≠ q + 5) := (show (q + 7) ≠ q + 5 by omega)
  have nX34 : FX ((q + 8) ≠ q + 5) := (show (q + 8) ≠ q + 5 by omega)
  have nX35 : FX ((q + 9) ≠ q + 5) := (show (q + 9) ≠ q + 5 by omega)
  refine hR (?_ : R (_, _, _, _, _, _))
  refine hR (c_get hK0 rfl ?_)
  iterate 2 refine hR (?_ : R (_, _, _, _, _, _))
  refine hR (c_get hK0 rfl ?_)
  refine hR (x_ast hK3 (by omega) (by omega) (Nat.le_of_ble_eq_true rfl) fun w1 ff1 hC1 => ?_)
  have fr2 := wfM_st fr0 ff1 nX0
  have hC3 := (ff1.2 q nX1).trans hK0
  have hC4 := (ff1.2 (q + 5) nX2).trans hK1
  have hC5 := (ff1.2 (q + 6) nX3).trans hK2
  have hC6 := (ff1.2 (q + 8) nX4).trans hK4
  have hC7 := (ff1.2 (q + 9) nX5).trans hK5
  refine hR (?_ : R (_, _, _, _, _, _))
  refine hR (c_get hC3 rfl ?_)
  iterate 2 refine hR (?_ : R (_, _, _, _, _, _))
  refine hR (c_get hC3 rfl ?_)
  refine hR (x_ast hC6 (by omega) (by omega) (Nat.le_of_ble_eq_true rfl) fun w8 ff8 hC8 => ?_)
  have fr9 := wfM_st fr2 ff8 nX6
  have hC10 := (ff8.2 q nX7).trans hC3
  have hC11 := (ff8.2 (q + 5) nX8).trans hC4
  have hC12 := (ff8.2 (q + 6) nX9).trans hC5
  have hC13 := (ff8.2 (q + 7) nX10).trans hC1
  have hC14 := (ff8.2 (q + 9) nX11).trans hC7
  refine hR (?_ : R (_, _, _, _, _, _))
  refine hR (c_get hC10 rfl ?_)
  iterate 2 refine hR (?_ : R (_, _, _, _, _, _))
  refine hR (x_ast hC14 (by omega) (by omega) (Nat.le_of_ble_eq_true rfl) fun w15 ff15 hC15 => ?_)
  have fr16 := wfM_st fr9 ff15 nX12
  have hC17 := (ff15.2 q nX13).trans hC10
  have hC18 := (ff15.2 (q + 5) nX14).trans hC11
  have hC19 := (ff15.2 (q + 6) nX15).trans hC12
  have hC20 := (ff15.2 (q + 7) nX16).trans hC13
  have hC21 := (ff15.2 (q + 8) nX17).trans hC8
  iterate 2 refine hR (?_ : R (_, _, _, _, _, _))
  refine hR (c_get hC17 rfl ?_)
  refine hR (?_ : R (_, _, _, _, _, _))
  refine hR (t_add ?_)
  refine hR (c_put hC17 rfl rfl fun w22 ff22 hC22 => ?_)
  have fr23 := wfM_st fr16 ff22 nX18
  have hC24 := (ff22.2 (q + 5) nX19).trans hC18
  have hC25 := (ff22.2 (q + 6) nX20).trans hC19
  have hC26 := (ff22.2 (q + 7) nX21).trans hC20
  have hC27 := (ff22.2 (q + 8) nX22).trans hC21
  have hC28 := (ff22.2 (q + 9) nX23).trans hC15
  replace hC22 : zix w22 q = some (.inr (4, [.ref (q + 1), .int (Int32.ofInt y1), .int (Int32.ofInt y2), .int (Int32.ofInt (y3 + 1)), .int (Int32.ofInt y4), .int (Int32.ofInt y5), .ref (q + 2), .ref (q + 3), .ref (q + 4), .ref (q + 5), .ref (q + 6), .ref (q + 7), .ref (q + 8), .ref (q + 9), .ref (q + 10)])) := hC22
  refine hR (?_ : R (_, _, _, _, _, _))
  refine hR (c_get hC22 rfl ?_)
  refine hR (?_ : R (_, _, _, _, _, _))
  refine hR (c_get hC22 rfl ?_)
  refine hR (?_ : R (_, _, _, _, _, _))
  refine hR (x_ast hC25 (by omega) (by omega) (Nat.le_of_ble_eq_true rfl) fun w29 ff29 hC29 => ?_)
  have fr30 := wfM_st fr23 ff29 nX24
  have hC31 := (ff29.2 q nX25).trans hC22
  have hC32 := (ff29.2 (q + 5) nX26).trans hC24
  have hC33 := (ff29.2 (q + 7) nX27).trans hC26
  have hC34 := (ff29.2 (q + 8) nX28).trans hC27
  have hC35 := (ff29.2 (q + 9) nX29).trans hC28
  iterate 2 refine hR (?_ : R (_, _, _, _, _, _))
  refine hR (c_get hC31 rfl ?_)
  refine hR (?_ : R (_, _, _, _, _, _))
  refine hR (t_add ?_)
  refine hR (c_put hC31 rfl rfl fun w36 ff36 hC36 => ?_)
  have fr37 := wfM_st fr30 ff36 nX18
  have hC38 := (ff36.2 (q + 5) nX19).trans hC32
  have hC39 := (ff36.2 (q + 6) nX20).trans hC29
  have hC40 := (ff36.2 (q + 7) nX21).trans hC33
  have hC41 := (ff36.2 (q + 8) nX22).trans hC34
  have hC42 := (ff36.2 (q + 9) nX23).trans hC35
  replace hC36 : zix w36 q = some (.inr (4, [.ref (q + 1), .int (Int32.ofInt y1), .int (Int32.ofInt y2), .int (Int32.ofInt (y3 + 1)), .int (Int32.ofInt (y4 + 1)), .int (Int32.ofInt y5), .ref (q + 2), .ref (q + 3), .ref (q + 4), .ref (q + 5), .ref (q + 6), .ref (q + 7), .ref (q + 8), .ref (q + 9), .ref (q + 10)])) := hC36
  refine hR (?_ : R (_, _, _, _, _, _))
  refine hR (c_get hC36 rfl ?_)
  refine hR (?_ : R (_, _, _, _, _, _))
  refine hR (c_get hC36 rfl ?_)
  refine hR (?_ : R (_, _, _, _, _, _))
  refine hR (x_ast hC38 (by omega) (by omega) (Nat.le_of_ble_eq_true rfl) fun w43 ff43 hC43 => ?_)
  have fr44 := wfM_st fr37 ff43 nX30
  have hC45 := (ff43.2 q nX31).trans hC36
  have hC46 := (ff43.2 (q + 6) nX32).trans hC39
  have hC47 := (ff43.2 (q + 7) nX33).trans hC40
  have hC48 := (ff43.2 (q + 8) nX34).trans hC41
  have hC49 := (ff43.2 (q + 9) nX35).trans hC42
  iterate 2 refine hR (?_ : R (_, _, _, _, _, _))
  refine hR (c_get hC45 rfl ?_)
  refine hR (?_ : R (_, _, _, _, _, _))
  refine hR (t_add ?_)
  refine hR (c_put hC45 rfl rfl fun w50 ff50 hC50 => ?_)
  have fr51 := wfM_st fr44 ff50 nX18
  have hC52 := (ff50.2 (q + 5) nX19).trans hC43
  have hC53 := (ff50.2 (q + 6) nX20).trans hC46
  have hC54 := (ff50.2 (q + 7) nX21).trans hC47
  have hC55 := (ff50.2 (q + 8) nX22).trans hC48
  have hC56 := (ff50.2 (q + 9) nX23).trans hC49
  replace hC50 : zix w50 q = some (.inr (4, [.ref (q + 1), .int (Int32.ofInt y1), .int (Int32.ofInt y2), .int (Int32.ofInt (y3 + 1)), .int (Int32.ofInt (y4 + 1)), .int (Int32.ofInt (y5 + 1)), .ref (q + 2), .ref (q + 3), .ref (q + 4), .ref (q + 5), .ref (q + 6), .ref (q + 7), .ref (q + 8), .ref (q + 9), .ref (q + 10)])) := hC50
  exact hR (zret_i rfl (Nat.le_refl _) rfl (h _ fr51 hC50 hC52 hC53 hC54 hC55 hC56))
theorem x_tryNextI (w : zW) (d : Nat) (q p b z2 z3 : Nat) (a1 : Int) (x0 nn x2 : Int) (F : Int → Int → Int) (mu : Int) (y1 y2 y3 y4 y5 : Int) (g5 g6 g7 g8 g9 g10 : Nat → Int32) (hK0 : zix w q = some (.inr (4, [.ref (q + 1), .int (Int32.ofInt y1), .int (Int32.ofInt y2), .int (Int32.ofInt y3), .int (Int32.ofInt y4), .int (Int32.ofInt y5), .ref (q + 2), .ref (q + 3), .ref (q + 4), .ref (q + 5), .ref (q + 6), .ref (q + 7), .ref (q + 8), .ref (q + 9), .ref (q + 10)]))) (hK1 : zix w (q + 5) = some (.inl (1, 5461, .inl g5))) (hK2 : zix w (q + 6) = some (.inl (1, 5461, .inl g6))) (hK3 : zix w (q + 7) = some (.inl (1, 5461, .inl g7))) (hK4 : zix w (q + 8) = some (.inl (1, 5461, .inl g8))) (hK5 : zix w (q + 9) = some (.inl (1, 5461, .inl g9))) (hK6 : zix w (q + 10) = some (.inl (1, 5461, .inl g10))) (hK7 : zix w p = some (.inr (3, [.ref b, .ref (p + 1), .ref z2, .ref z3]))) (hK8 : zix w b = some (.inr (0, [.int (Int32.ofInt x0), .int (Int32.ofInt nn), .int (Int32.ofInt x2), .ref (b + 1), .ref (b + 2), .ref (b + 3), .ref (b + 4)]))) (hK9 : AFK w p b F) (hr0 : 0 ≤ nn ∧ nn ≤ 5) (hr1 : ((b + 4 < p ∨ p + 1 < b) ∧ (z2 ≠ p ∧ z2 ≠ p + 1 ∧ z3 ≠ p ∧ z3 ≠ p + 1 ∧ z2 ≠ z3)) ∧ ((z2 < b ∨ b + 4 < z2) ∧ (z3 < b ∨ b + 4 < z3))) (hr2 : (q + 10 < p ∨ p + 1 < q) ∧ (q + 10 < b ∨ b + 4 < q) ∧ (b + 4 < p ∨ p + 1 < b)) (hr3 : FOK F nn) (hr4 : TJZ F nn g5 g6 g7 g8 g9 g10 y3 y4 y5) (hr5 : 0 < y5 ∧ tBy g5 (y5 - 1) = a1 ∧ tBy g9 a1 < nn) (hr6 : 0 ≤ a1 ∧ a1 ≤ 5460) (hr7 : PRG g7 g9 y3 y5 mu) (Q : zQ) (h : ∀ (k3 k4 k5 : Int) (T5 T6 T7 T8 T9 : Nat → Int32) (w' : zW), wfM (fun j => j ≠ q ∧ j ≠ q + 5 ∧ j ≠ q + 6 ∧ j ≠ q + 7 ∧ j ≠ q + 8 ∧ j ≠ q + 9 ∧ j ≠ p + 1) w w' → zix w' q = some (.inr (4, [.ref (q + 1), .int (Int32.ofInt y1), .int (Int32.ofInt y2), .int (Int32.ofInt k3), .int (Int32.ofInt k4), .int (Int32.ofInt k5), .ref (q + 2), .ref (q + 3), .ref (q + 4), .ref (q + 5), .ref (q + 6), .ref (q + 7), .ref (q + 8), .ref (q + 9), .ref (q + 10)])) → zix w' (q + 5) = some (.inl (1, 5461, .inl T5)) → zix w' (q + 6) = some (.inl (1, 5461, .inl T6)) → zix w' (q + 7) = some (.inl (1, 5461, .inl T7)) → zix w' (q + 8) = some (.inl (1, 5461, .inl T8)) → zix w' (q + 9) = some (.inl (1, 5461, .inl T9)) → AFK w' p b F → (TJZ F nn T5 T6 T7 T8 T9 g10 k3 k4 k5) → (PRG T7 T9 k3 k5 (mu + 1)) → (KPD g7 T7) → Q (none) w') : zCl zTab (d + 5) iX5_tryNext [.ref q, .ref p, .int (Int32.ofInt a1)] w 0 0 Q := by
  refine zCl_i (M := kX5_tryNext) rfl (Nat.le_of_ble_eq_true rfl) fun R hR => ?_
  have fr0 : wfM (fun j => j ≠ q ∧ j ≠ q + 5 ∧ j ≠ q + 6 ∧ j ≠ q + 7 ∧ j ≠ q + 8 ∧ j ≠ q + 9 ∧ j ≠ p + 1) w w := wfM_rf _ w
  obtain ⟨ho1, ho2, ho3, ho4, -⟩ := tj_o hr4 hr5.1 hr5.2.1
  have nX0 : FX (∀ j : Nat, (j ≠ q ∧ j ≠ q + 5 ∧ j ≠ q + 6 ∧ j ≠ q + 7 ∧ j ≠ q + 8 ∧ j ≠ q + 9 ∧ j ≠ p + 1) → (j ≠ p + 1)) := fun j hj => by omega
  have nX1 : FX (q ≠ p + 1) := (show q ≠ p + 1 by omega)
  have nX2 : FX ((q + 5) ≠ p + 1) := (show (q + 5) ≠ p + 1 by omega)
  have nX3 : FX ((q + 6) ≠ p + 1) := (show (q + 6) ≠ p + 1 by omega)
  have nX4 : FX ((q + 7) ≠ p + 1) := (show (q + 7) ≠ p + 1 by omega)
  have nX5 : FX ((q + 8) ≠ p + 1) := (show (q + 8) ≠ p + 1 by omega)
  have nX6 : FX ((q + 9) ≠ p + 1) := (show (q + 9) ≠ p + 1 by omega)
  have nX7 : FX ((q + 10) ≠ p + 1) := (show (q + 10) ≠ p + 1 by omega)
  have nX8 : FX (p ≠ p + 1) := (show p ≠ p + 1 by omega)
  have nX9 : FX (b ≠ p + 1) := (show b ≠ p + 1 by omega)
  have nX10 : FX (∀ j : Nat, (j ≠ q ∧ j ≠ q + 5 ∧ j ≠ q + 6 ∧ j ≠ q + 7 ∧ j ≠ q + 8 ∧ j ≠ q + 9 ∧ j ≠ p + 1) → j ≠ q + 9) := fun j hj => by omega
  have nX11 : FX (q ≠ q + 9) := (show q ≠ q + 9 by omega)
  have nX12 : FX ((q + 5) ≠ q + 9) := (show (q + 5) ≠ q + 9 by omega)
  have nX13 : FX ((q + 6) ≠ q + 9) := (show (q + 6) ≠ q + 9 by omega)
  have nX14 : FX ((q + 7) ≠ q + 9) := (show (q + 7) ≠ q + 9 by omega)
  have nX15 : FX ((q + 8) ≠ q + 9) := (show (q + 8) ≠ q + 9 by omega)
  have nX16 : FX ((q + 10) ≠ q + 9) := (show (q + 10) ≠ q + 9 by omega)
  have nX17 : FX (p ≠ q + 9) := (show p ≠ q + 9 by omega)
  have nX18 : FX (b ≠ q + 9) := (show b ≠ q + 9 by omega)
  have nX19 : FX (∀ j : Nat, (j = p + 1 ∨ (b ≤ j ∧ j ≤ b + 4)) → (j ≠ q + 9)) := fun j hj => by omega
  have nX20 : FX (∀ j : Nat, (j ≠ q ∧ j ≠ q + 5 ∧ j ≠ q + 6 ∧ j ≠ q + 7 ∧ j ≠ q + 8 ∧ j ≠ q + 9 ∧ j ≠ p + 1) → j ≠ q + 8) := fun j hj => by omega
  have nX21 : FX (q ≠ q + 8) := (show q ≠ q + 8 by omega)
  have nX22 : FX ((q + 5) ≠ q + 8) := (show (q + 5) ≠ q + 8 by omega)
  have nX23 : FX ((q + 6) ≠ q + 8) := (show (q + 6) ≠ q + 8 by omega)
  have nX24 : FX ((q + 7) ≠ q + 8) := (show (q + 7) ≠ q + 8 by omega)
  have nX25 : FX ((q + 9) ≠ q + 8) := (show (q + 9) ≠ q + 8 by omega)
  have nX26 : FX ((q + 10) ≠ q + 8) := (show (q + 10) ≠ q + 8 by omega)
  have nX27 : FX (p ≠ q + 8) := (show p ≠ q + 8 by omega)
  have nX28 : FX (b ≠ q + 8) := (show b ≠ q + 8 by omega)
  have nX29 : FX (∀ j : Nat, (j = p + 1 ∨ (b ≤ j ∧ j ≤ b + 4)) → (j ≠ q + 8)) := fun j hj => by omega
  have nX30 : FX (∀ j : Nat, (j ≠ q ∧ j ≠ q + 5 ∧ j ≠ q + 6 ∧ j ≠ q + 7 ∧ j ≠ q + 8 ∧ j ≠ q + 9 ∧ j ≠ p + 1) → (j ≠ q ∧ j ≠ q + 5 ∧ j ≠ q + 6 ∧ j ≠ q + 7 ∧ j ≠ q + 8 ∧ j ≠ q + 9)) := fun j hj => by omega
  have nX31 : FX ((q + 10) ≠ q ∧ (q + 10) ≠ q + 5 ∧ (q + 10) ≠ q + 6 ∧ (q + 10) ≠ q + 7 ∧ (q + 10) ≠ q + 8 ∧ (q + 10) ≠ q + 9) := (show (q + 10) ≠ q ∧ (q + 10) ≠ q + 5 ∧ (q + 10) ≠ q + 6 ∧ (q + 10) ≠ q + 7 ∧ (q + 10) ≠ q + 8 ∧ (q + 10) ≠ q + 9 by omega)
  have nX32 : FX (p ≠ q ∧ p ≠ q + 5 ∧ p ≠ q + 6 ∧ p ≠ q + 7 ∧ p ≠ q + 8 ∧ p ≠ q + 9) := (show p ≠ q ∧ p ≠ q + 5 ∧ p ≠ q + 6 ∧ p ≠ q + 7 ∧ p ≠ q + 8 ∧ p ≠ q + 9 by omega)
  have nX33 : FX (b ≠ q ∧ b ≠ q + 5 ∧ b ≠ q + 6 ∧ b ≠ q + 7 ∧ b ≠ q + 8 ∧ b ≠ q + 9) := (show b ≠ q ∧ b ≠ q + 5 ∧ b ≠ q + 6 ∧ b ≠ q + 7 ∧ b ≠ q + 8 ∧ b ≠ q + 9 by omega)
  have nX34 : FX (∀ j : Nat, (j = p + 1 ∨ (b ≤ j ∧ j ≤ b + 4)) → (j ≠ q ∧ j ≠ q + 5 ∧ j ≠ q + 6 ∧ j ≠ q + 7 ∧ j ≠ q + 8 ∧ j ≠ q + 9)) := fun j hj => by omega
  iterate 2 refine hR (?_ : R (_, _, _, _, _, _))
  refine hR (c_get hK0 rfl ?_)
  refine hR (?_ : R (_, _, _, _, _, _))
  refine hR (c_aldE hK5 (by omega) (by omega) (Nat.le_of_ble_eq_true rfl) fun v1 ev1 rv1 => ?_)
  replace ev1 : v1 = tBy g9 a1 := ev1
  subst ev1
  refine hR (?_ : R (_, _, _, _, _, _))
  refine hR (c_obj hK7 (zcall_i 0 0 (Nat.le_of_ble_eq_true rfl) (Nat.le_of_ble_eq_true rfl) (x_after _ _ _ _ _ _ _ _ _ _ _ _ hK7 hK8 hK9 (by omega) (by omega) hr1 _ fun v2 w3 gg4 hC5 hp6 => ?_)))
  have fr7 := wfM_tr fr0 gg4 nX0
  have hC8 := (gg4.2 q nX1).trans hK0
  have hC9 := (gg4.2 (q + 5) nX2).trans hK1
  have hC10 := (gg4.2 (q + 6) nX3).trans hK2
  have hC11 := (gg4.2 (q + 7) nX4).trans hK3
  have hC12 := (gg4.2 (q + 8) nX5).trans hK4
  have hC13 := (gg4.2 (q + 9) nX6).trans hK5
  have hC14 := (gg4.2 (q + 10) nX7).trans hK6
  have hC15 := (gg4.2 p nX8).trans hK7
  have hC16 := (gg4.2 b nX9).trans hK8
  refine (?_ : R (_, _, .int (Int32.ofInt v2) :: [], w3, 0, 0))
  have hq17 := hp6
  iterate 2 refine hR (?_ : R (_, _, _, _, _, _))
  refine hR (c_get hC8 rfl ?_)
  iterate 2 refine hR (?_ : R (_, _, _, _, _, _))
  refine hR (c_aldE hC13 (by omega) (by omega) (Nat.le_of_ble_eq_true rfl) fun v18 ev18 rv18 => ?_)
  replace ev18 : v18 = tBy g9 a1 := ev18
  subst ev18
  refine hR (?_ : R (_, _, _, _, _, _))
  refine hR (t_add ?_)
  refine hR (x_ast hC13 (by omega) (by omega) (Nat.le_of_ble_eq_true rfl) fun w19 ff19 hC19 => ?_)
  have fr20 := wfM_st fr7 ff19 nX10
  have hC21 := (ff19.2 q nX11).trans hC8
  have hC22 := (ff19.2 (q + 5) nX12).trans hC9
  have hC23 := (ff19.2 (q + 6) nX13).trans hC10
  have hC24 := (ff19.2 (q + 7) nX14).trans hC11
  have hC25 := (ff19.2 (q + 8) nX15).trans hC12
  have hC26 := (ff19.2 (q + 10) nX16).trans hC14
  have hC27 := (ff19.2 p nX17).trans hC15
  have hC28 := (ff19.2 b nX18).trans hC16
  have hC29 := AFK_fr hC5 (fun j hj => ff19.2 j (nX19 j hj))
  refine hR (?_ : R (_, _, _, _, _, _))
  refine hR (c_get hC21 rfl ?_)
  refine hR (?_ : R (_, _, _, _, _, _))
  refine hR (c_aldE hC24 (by omega) (by omega) (Nat.le_of_ble_eq_true rfl) fun v30 ev30 rv30 => ?_)
  replace ev30 : v30 = tBy g7 v2 := ev30
  subst ev30
  refine hR (?_ : R (_, _, _, _, _, _))
  refine hR (j_ne (by omega) (by omega) (fun hc31 => ?_) (fun hc31 => ?_))
  rotate_left
  · skip
    have hrm := tj_r hr4 hp6.2 (by omega)
    iterate 2 refine hR (?_ : R (_, _, _, _, _, _))
    refine hR (c_obj hC21 (zcall_i 0 0 (Nat.le_of_ble_eq_true rfl) (Nat.le_of_ble_eq_true rfl) (x_enterI _ _ _ _ _ _ _ _ _ _ _ _ _ _ hC21 hC22 hC23 hC24 hC25 hC19 (by omega) (by omega) (by omega) (by omega) _ fun w48 gg49 hC50 hC51 hC52 hC53 hC54 hC55 => ?_)))
    have fr56 := wfM_tr fr20 gg49 nX30
    have hC57 := (gg49.2 (q + 10) nX31).trans hC26
    have hC58 := (gg49.2 p nX32).trans hC27
    have hC59 := (gg49.2 b nX33).trans hC28
    have hC60 := AFK_fr hC29 (fun j hj => gg49.2 j (nX34 j hj))
    refine (?_ : R (_, _, [], w48, 0, 0))
    refine hR (?_ : R (_, _, _, _, _, _))
    exact hR (zret_i rfl (Nat.le_refl _) rfl (h _ _ _ _ _ _ _ _ _ fr56 hC50 hC51 hC52 hC53 hC54 hC55 hC60 (tje_t hr3 hr0 hr4 hr5 hp6.1 hp6.2 (by omega)) (prg_t hr0 hr4 hr5 hp6.2 (by omega) hr7) (kpd_u hp6.2.1 (by omega))))
  refine hR (?_ : R (_, _, _, _, _, _))
  refine hR (c_get hC21 rfl ?_)
  refine hR (?_ : R (_, _, _, _, _, _))
  refine hR (c_aldE hC26 (by omega) (by omega) (Nat.le_of_ble_eq_true rfl) fun v32 ev32 rv32 => ?_)
  replace ev32 : v32 = tBy g10 v2 := ev32
  subst ev32
  refine hR (k_ne (by omega) (fun hc33 => ?_) (fun hc33 => ?_))
  · skip
    exact hR (zret_i rfl (Nat.le_refl _) rfl (h _ _ _ _ _ _ _ _ _ fr20 hC21 hC22 hC23 hC24 hC25 hC19 hC29 (tje_z hr3 hr0 hr4 hr5 hp6.1 (by omega) (by omega)) (prg_z hr0 hr4 hr5 hr7) kpd_r))
  refine hR (?_ : R (_, _, _, _, _, _))
  refine hR (c_get hC21 rfl ?_)
  iterate 2 refine hR (?_ : R (_, _, _, _, _, _))
  refine hR (c_get hC21 rfl ?_)
  refine hR (?_ : R (_, _, _, _, _, _))
  refine hR (c_aldE hC25 (by omega) (by omega) (Nat.le_of_ble_eq_true rfl) fun v34 ev34 rv34 => ?_)
  replace ev34 : v34 = tBy g8 a1 := ev34
  subst ev34
  refine hR (?_ : R (_, _, _, _, _, _))
  refine hR (c_get hC21 rfl ?_)
  refine hR (?_ : R (_, _, _, _, _, _))
  refine hR (c_aldE hC24 (by omega) (by omega) (Nat.le_of_ble_eq_true rfl) fun v35 ev35 rv35 => ?_)
  replace ev35 : v35 = tBy g7 v2 := ev35
  subst ev35
  obtain ⟨v36, lv36, qv36⟩ := zmin_r (a := tBy g8 a1) (b := tBy g7 v2) (by omega) (by omega)
  refine hR (t_c v36 qv36 ?_)
  refine hR (x_ast hC25 (by omega) (by omega) (Nat.le_of_ble_eq_true rfl) fun w37 ff37 hC37 => ?_)
  have fr38 := wfM_st fr20 ff37 nX20
  have hC39 := (ff37.2 q nX21).trans hC21
  have hC40 := (ff37.2 (q + 5) nX22).trans hC22
  have hC41 := (ff37.2 (q + 6) nX23).trans hC23
  have hC42 := (ff37.2 (q + 7) nX24).trans hC24
  have hC43 := (ff37.2 (q + 9) nX25).trans hC19
  have hC44 := (ff37.2 (q + 10) nX26).trans hC26
  have hC45 := (ff37.2 p nX27).trans hC27
  have hC46 := (ff37.2 b nX28).trans hC28
  have hC47 := AFK_fr hC29 (fun j hj => ff37.2 j (nX29 j hj))
  exact hR (zret_i rfl (Nat.le_refl _) rfl (h _ _ _ _ _ _ _ _ _ fr38 hC39 hC40 hC41 hC42 hC37 hC43 hC47 (tje_b hr3 hr0 hr4 hr5 hp6.1 (by omega) (by omega) lv36) (prg_z hr0 hr4 hr5 hr7) kpd_r))
theorem x_closeI (w : zW) (d : Nat) (q : Nat) (a1 : Int) (y1 y2 y3 y4 y5 : Int) (g6 g10 : Nat → Int32) (hK0 : zix w q = some (.inr (4, [.ref (q + 1), .int (Int32.ofInt y1), .int (Int32.ofInt y2), .int (Int32.ofInt y3), .int (Int32.ofInt y4), .int (Int32.ofInt y5), .ref (q + 2), .ref (q + 3), .ref (q + 4), .ref (q + 5), .ref (q + 6), .ref (q + 7), .ref (q + 8), .ref (q + 9), .ref (q + 10)]))) (hK1 : zix w (q + 6) = some (.inl (1, 5461, .inl g6))) (hK2 : zix w (q + 10) = some (.inl (1, 5461, .inl g10))) (hr0 : 1 ≤ y4 ∧ y4 ≤ 5461) (hr1 : ∀ i : Int, 0 ≤ i → i < y4 → 0 ≤ tBy g6 i ∧ tBy g6 i ≤ 5460) (hr2 : OPT g6 y4 a1) (hr3 : 0 ≤ y2 ∧ y2 ≤ 5461) (hr4 : (-2147483648 ≤ a1 ∧ a1 ≤ 2147483647)) (Q : zQ) (h : ∀ (k2 k4 : Int) (T10 : Nat → Int32) (w' : zW), wfM (fun j => j ≠ q ∧ j ≠ q + 10) w w' → zix w' q = some (.inr (4, [.ref (q + 1), .int (Int32.ofInt (y1 + 1)), .int (Int32.ofInt k2), .int (Int32.ofInt y3), .int (Int32.ofInt k4), .int (Int32.ofInt y5), .ref (q + 2), .ref (q + 3), .ref (q + 4), .ref (q + 5), .ref (q + 6), .ref (q + 7), .ref (q + 8), .ref (q + 9), .ref (q + 10)])) → zix w' (q + 10) = some (.inl (1, 5461, .inl T10)) → (CLO g6 g10 T10 y4 k4 a1) → (y2 ≤ k2 ∧ y4 - k4 ≤ k2 ∧ (k2 = y2 ∨ k2 = y4 - k4)) → Q (none) w') : zCl zTab (d + 2) iX5_closeCircle [.ref q, .int (Int32.ofInt a1)] w 0 0 Q := by
  refine zCl_i (M := kX5_closeCircle) rfl (Nat.le_of_ble_eq_true rfl) fun R hR => ?_
  have fr0 : wfM (fun j => j ≠ q ∧ j ≠ q + 10) w w := wfM_rf _ w
  have nX0 : FX (∀ j : Nat, (j ≠ q ∧ j ≠ q + 10) → j ≠ q) := fun j hj => by omega
  have nX1 : FX ((q + 6) ≠ q) := (show (q + 6) ≠ q by omega)
  have nX2 : FX ((q + 10) ≠ q) := (show (q + 10) ≠ q by omega)
  have nX3 : FX (∀ j : Nat, (j ≠ q ∧ j ≠ q + 10) → j ≠ q + 10) := fun j hj => by omega
  have nX4 : FX (q ≠ q + 10) := (show q ≠ q + 10 by omega)
  have nX5 : FX ((q + 6) ≠ q + 10) := (show (q + 6) ≠ q + 10 by omega)
  refine hR (?_ : R (_, _, _, _, _, _))
  refine hR (c_get hK0 rfl ?_)
  refine hR (?_ : R (_, _, _, _, _, _))
  refine hR (t_sub ?_)
  refine hR (?_ : R (_, _, _, _, _, _))
  have lp7 : ∀ (N : Nat) (bo : Int), (0 ≤ bo ∧ bo ≤ 5460) → (bo ≤ y4 - 1) → (OPT g6 (bo + 1) a1) → (bo + 1 < N) → R (7, [some (.ref q), some (.int (Int32.ofInt a1)), some (.int (Int32.ofInt bo)), none, none], [], w, 0, 0) := by
    intro N
    induction N with
    | zero => intros; omega
    | succ N ih7 =>
      intro bo hf0_7 hp0_7 hp1_7 hN7
      refine hR (?_ : R (_, _, _, _, _, _))
      refine hR (k_le (by omega) (fun hc1 => ?_) (fun hc1 => ?_))
      · skip
        have hbo : tBy g6 bo = a1 := opt_0 hp1_7 (by omega) (by omega)
        refine hR (?_ : R (_, _, _, _, _, _))
        refine hR (c_get hK0 rfl ?_)
        refine hR (?_ : R (_, _, _, _, _, _))
        refine hR (t_sub ?_)
        iterate 3 refine hR (?_ : R (_, _, _, _, _, _))
        have lp37 : ∀ (N : Nat) (ii : Int) (T : Nat → Int32) (w_37 : zW), (wfM (fun j => j ≠ q ∧ j ≠ q + 10) w w_37) → (zix w_37 q = some (.inr (4, [.ref (q + 1), .int (Int32.ofInt y1), .int (Int32.ofInt y2), .int (Int32.ofInt y3), .int (Int32.ofInt y4), .int (Int32.ofInt y5), .ref (q + 2), .ref (q + 3), .ref (q + 4), .ref (q + 5), .ref (q + 6), .ref (q + 7), .ref (q + 8), .ref (q + 9), .ref (q + 10)]))) → (zix w_37 (q + 6) = some (.inl (1, 5461, .inl g6))) → (zix w_37 (q + 10) = some (.inl (1, 5461, .inl T))) → (0 ≤ ii ∧ ii ≤ 5461) → (CLQ g6 g10 T bo ii (y4 - bo)) → (bo ≤ ii ∧ ii ≤ y4) → (5462 - ii < N) → R (37, [some (.ref q), some (.int (Int32.ofInt a1)), some (.int (Int32.ofInt bo)), some (.int (Int32.ofInt (y4 - bo))), some (.int (Int32.ofInt ii))], [], w_37, 0, 0) := by
          intro N
          induction N with
          | zero => intros; omega
          | succ N ih37 =>
            intro ii T w_37 fr_37 hCq_37 hCq6_37 hCq10_37 hf0_37 hp0_37 hp1_37 hN37
            iterate 2 refine hR (?_ : R (_, _, _, _, _, _))
            refine hR (c_get hCq_37 rfl ?_)
            refine hR (j_ge (by omega) (by omega) (fun hc2 => ?_) (fun hc2 => ?_))
            rotate_left
            · skip
              refine hR (?_ : R (_, _, _, _, _, _))
              refine hR (c_get hCq_37 rfl ?_)
              refine hR (?_ : R (_, _, _, _, _, _))
              refine hR (c_get hCq_37 rfl ?_)
              refine hR (?_ : R (_, _, _, _, _, _))
              refine hR (c_aldE hCq6_37 (by omega) (by omega) (Nat.le_of_ble_eq_true rfl) fun v16 ev16 rv16 => ?_)
              replace ev16 : v16 = tBy g6 ii := ev16
              subst ev16
              have hop := hr1 ii (by omega) (by omega)
              refine hR (?_ : R (_, _, _, _, _, _))
              refine hR (x_ast hCq10_37 (by omega) (by omega) (Nat.le_of_ble_eq_true rfl) fun w17 ff17 hC17 => ?_)
              have fr18 := wfM_st fr_37 ff17 nX3
              have hC19 := (ff17.2 q nX4).trans hCq_37
              have hC20 := (ff17.2 (q + 6) nX5).trans hCq6_37
              refine hR (t_inc ?_)
              refine hR (?_ : R (_, _, _, _, _, _))
              exact ih37 _ _ _ fr18 hC19 hC20 hC17 (by omega) (clq_s hp0_37 (by omega) hop (by exact ⟨by omega, by omega⟩)) (by omega) (by omega)
            iterate 2 refine hR (?_ : R (_, _, _, _, _, _))
            refine hR (c_put hCq_37 rfl rfl fun w3 ff3 hC3 => ?_)
            have fr4 := wfM_st fr_37 ff3 nX0
            have hC5 := (ff3.2 (q + 6) nX1).trans hCq6_37
            have hC6 := (ff3.2 (q + 10) nX2).trans hCq10_37
            replace hC3 : zix w3 q = some (.inr (4, [.ref (q + 1), .int (Int32.ofInt y1), .int (Int32.ofInt y2), .int (Int32.ofInt y3), .int (Int32.ofInt bo), .int (Int32.ofInt y5), .ref (q + 2), .ref (q + 3), .ref (q + 4), .ref (q + 5), .ref (q + 6), .ref (q + 7), .ref (q + 8), .ref (q + 9), .ref (q + 10)])) := hC3
            iterate 2 refine hR (?_ : R (_, _, _, _, _, _))
            refine hR (c_get hC3 rfl ?_)
            refine hR (?_ : R (_, _, _, _, _, _))
            refine hR (t_add ?_)
            refine hR (c_put hC3 rfl rfl fun w7 ff7 hC7 => ?_)
            have fr8 := wfM_st fr4 ff7 nX0
            have hC9 := (ff7.2 (q + 6) nX1).trans hC5
            have hC10 := (ff7.2 (q + 10) nX2).trans hC6
            replace hC7 : zix w7 q = some (.inr (4, [.ref (q + 1), .int (Int32.ofInt (y1 + 1)), .int (Int32.ofInt y2), .int (Int32.ofInt y3), .int (Int32.ofInt bo), .int (Int32.ofInt y5), .ref (q + 2), .ref (q + 3), .ref (q + 4), .ref (q + 5), .ref (q + 6), .ref (q + 7), .ref (q + 8), .ref (q + 9), .ref (q + 10)])) := hC7
            iterate 2 refine hR (?_ : R (_, _, _, _, _, _))
            refine hR (c_get hC7 rfl ?_)
            refine hR (?_ : R (_, _, _, _, _, _))
            obtain ⟨v11, lv11, qv11⟩ := zmax_r (a := y2) (b := y4 - bo) (by omega) (by omega)
            refine hR (t_c v11 qv11 ?_)
            refine hR (c_put hC7 rfl rfl fun w12 ff12 hC12 => ?_)
            have fr13 := wfM_st fr8 ff12 nX0
            have hC14 := (ff12.2 (q + 6) nX1).trans hC9
            have hC15 := (ff12.2 (q + 10) nX2).trans hC10
            replace hC12 : zix w12 q = some (.inr (4, [.ref (q + 1), .int (Int32.ofInt (y1 + 1)), .int (Int32.ofInt v11), .int (Int32.ofInt y3), .int (Int32.ofInt bo), .int (Int32.ofInt y5), .ref (q + 2), .ref (q + 3), .ref (q + 4), .ref (q + 5), .ref (q + 6), .ref (q + 7), .ref (q + 8), .ref (q + 9), .ref (q + 10)])) := hC12
            exact hR (zret_i rfl (Nat.le_refl _) rfl (h _ _ _ _ fr13 hC12 hC15 (clo_e (by omega) hbo hp0_37 (by omega)) lv11))
        exact lp37 400000000 _ _ _ fr0 hK0 hK1 hK2 (by omega) clq_0 (by omega) (by omega)
      refine hR (?_ : R (_, _, _, _, _, _))
      refine hR (c_get hK0 rfl ?_)
      refine hR (?_ : R (_, _, _, _, _, _))
      refine hR (c_aldE hK1 (by omega) (by omega) (Nat.le_of_ble_eq_true rfl) fun v21 ev21 rv21 => ?_)
      replace ev21 : v21 = tBy g6 bo := ev21
      subst ev21
      refine hR (?_ : R (_, _, _, _, _, _))
      refine hR (j_eq (by omega) (by omega) (fun hc22 => ?_) (fun hc22 => ?_))
      rotate_left
      · skip
        refine hR (t_inc ?_)
        refine hR (?_ : R (_, _, _, _, _, _))
        exact ih7 _ (by omega) (by omega) (opt_s hp1_7 (by omega)) (by omega)
      have hbo : tBy g6 bo = a1 := by omega
      refine hR (?_ : R (_, _, _, _, _, _))
      refine hR (c_get hK0 rfl ?_)
      refine hR (?_ : R (_, _, _, _, _, _))
      refine hR (t_sub ?_)
      iterate 3 refine hR (?_ : R (_, _, _, _, _, _))
      have lp37 : ∀ (N : Nat) (ii : Int) (T : Nat → Int32) (w_37 : zW), (wfM (fun j => j ≠ q ∧ j ≠ q + 10) w w_37) → (zix w_37 q = some (.inr (4, [.ref (q + 1), .int (Int32.ofInt y1), .int (Int32.ofInt y2), .int (Int32.ofInt y3), .int (Int32.ofInt y4), .int (Int32.ofInt y5), .ref (q + 2), .ref (q + 3), .ref (q + 4), .ref (q + 5), .ref (q + 6), .ref (q + 7), .ref (q + 8), .ref (q + 9), .ref (q + 10)]))) → (zix w_37 (q + 6) = some (.inl (1, 5461, .inl g6))) → (zix w_37 (q + 10) = some (.inl (1, 5461, .inl T))) → (0 ≤ ii ∧ ii ≤ 5461) → (CLQ g6 g10 T bo ii (y4 - bo)) → (bo ≤ ii ∧ ii ≤ y4) → (5462 - ii < N) → R (37, [some (.ref q), some (.int (Int32.ofInt a1)), some (.int (Int32.ofInt bo)), some (.int (Int32.ofInt (y4 - bo))), some (.int (Int32.ofInt ii))], [], w_37, 0, 0) := by
        intro N
        induction N with
        | zero => intros; omega
        | succ N ih37 =>
          intro ii T w_37 fr_37 hCq_37 hCq6_37 hCq10_37 hf0_37 hp0_37 hp1_37 hN37
          iterate 2 refine hR (?_ : R (_, _, _, _, _, _))
          refine hR (c_get hCq_37 rfl ?_)
          refine hR (j_ge (by omega) (by omega) (fun hc23 => ?_) (fun hc23 => ?_))
          rotate_left
          · skip
            refine hR (?_ : R (_, _, _, _, _, _))
            refine hR (c_get hCq_37 rfl ?_)
            refine hR (?_ : R (_, _, _, _, _, _))
            refine hR (c_get hCq_37 rfl ?_)
            refine hR (?_ : R (_, _, _, _, _, _))
            refine hR (c_aldE hCq6_37 (by omega) (by omega) (Nat.le_of_ble_eq_true rfl) fun v37 ev37 rv37 => ?_)
            replace ev37 : v37 = tBy g6 ii := ev37
            subst ev37
            have hop := hr1 ii (by omega) (by omega)
            refine hR (?_ : R (_, _, _, _, _, _))
            refine hR (x_ast hCq10_37 (by omega) (by omega) (Nat.le_of_ble_eq_true rfl) fun w38 ff38 hC38 => ?_)
            have fr39 := wfM_st fr_37 ff38 nX3
            have hC40 := (ff38.2 q nX4).trans hCq_37
            have hC41 := (ff38.2 (q + 6) nX5).trans hCq6_37
            refine hR (t_inc ?_)
            refine hR (?_ : R (_, _, _, _, _, _))
            exact ih37 _ _ _ fr39 hC40 hC41 hC38 (by omega) (clq_s hp0_37 (by omega) hop (by exact ⟨by omega, by omega⟩)) (by omega) (by omega)
          iterate 2 refine hR (?_ : R (_, _, _, _, _, _))
          refine hR (c_put hCq_37 rfl rfl fun w24 ff24 hC24 => ?_)
          have fr25 := wfM_st fr_37 ff24 nX0
          have hC26 := (ff24.2 (q + 6) nX1).trans hCq6_37
          have hC27 := (ff24.2 (q + 10) nX2).trans hCq10_37
          replace hC24 : zix w24 q = some (.inr (4, [.ref (q + 1), .int (Int32.ofInt y1), .int (Int32.ofInt y2), .int (Int32.ofInt y3), .int (Int32.ofInt bo), .int (Int32.ofInt y5), .ref (q + 2), .ref (q + 3), .ref (q + 4), .ref (q + 5), .ref (q + 6), .ref (q + 7), .ref (q + 8), .ref (q + 9), .ref (q + 10)])) := hC24
          iterate 2 refine hR (?_ : R (_, _, _, _, _, _))
          refine hR (c_get hC24 rfl ?_)
          refine hR (?_ : R (_, _, _, _, _, _))
          refine hR (t_add ?_)
          refine hR (c_put hC24 rfl rfl fun w28 ff28 hC28 => ?_)
          have fr29 := wfM_st fr25 ff28 nX0
          have hC30 := (ff28.2 (q + 6) nX1).trans hC26
          have hC31 := (ff28.2 (q + 10) nX2).trans hC27
          replace hC28 : zix w28 q = some (.inr (4, [.ref (q + 1), .int (Int32.ofInt (y1 + 1)), .int (Int32.ofInt y2), .int (Int32.ofInt y3), .int (Int32.ofInt bo), .int (Int32.ofInt y5), .ref (q + 2), .ref (q + 3), .ref (q + 4), .ref (q + 5), .ref (q + 6), .ref (q + 7), .ref (q + 8), .ref (q + 9), .ref (q + 10)])) := hC28
          iterate 2 refine hR (?_ : R (_, _, _, _, _, _))
          refine hR (c_get hC28 rfl ?_)
          refine hR (?_ : R (_, _, _, _, _, _))
          obtain ⟨v32, lv32, qv32⟩ := zmax_r (a := y2) (b := y4 - bo) (by omega) (by omega)
          refine hR (t_c v32 qv32 ?_)
          refine hR (c_put hC28 rfl rfl fun w33 ff33 hC33 => ?_)
          have fr34 := wfM_st fr29 ff33 nX0
          have hC35 := (ff33.2 (q + 6) nX1).trans hC30
          have hC36 := (ff33.2 (q + 10) nX2).trans hC31
          replace hC33 : zix w33 q = some (.inr (4, [.ref (q + 1), .int (Int32.ofInt (y1 + 1)), .int (Int32.ofInt v32), .int (Int32.ofInt y3), .int (Int32.ofInt bo), .int (Int32.ofInt y5), .ref (q + 2), .ref (q + 3), .ref (q + 4), .ref (q + 5), .ref (q + 6), .ref (q + 7), .ref (q + 8), .ref (q + 9), .ref (q + 10)])) := hC33
          exact hR (zret_i rfl (Nat.le_refl _) rfl (h _ _ _ _ fr34 hC33 hC36 (clo_e (by omega) hbo hp0_37 (by omega)) lv32))
      exact lp37 400000000 _ _ _ fr0 hK0 hK1 hK2 (by omega) clq_0 (by omega) (by omega)
  exact lp7 400000000 _ (by omega) (by omega) (opt_i hr2) (by omega)
theorem x_leaveI (w : zW) (d : Nat) (q : Nat) (a1 : Int) (nn : Int) (F : Int → Int → Int) (mu : Int) (y1 y2 y3 y4 y5 : Int) (g5 g6 g7 g8 g9 g10 : Nat → Int32) (hK0 : zix w q = some (.inr (4, [.ref (q + 1), .int (Int32.ofInt y1), .int (Int32.ofInt y2), .int (Int32.ofInt y3), .int (Int32.ofInt y4), .int (Int32.ofInt y5), .ref (q + 2), .ref (q + 3), .ref (q + 4), .ref (q + 5), .ref (q + 6), .ref (q + 7), .ref (q + 8), .ref (q + 9), .ref (q + 10)]))) (hK1 : zix w (q + 5) = some (.inl (1, 5461, .inl g5))) (hK2 : zix w (q + 6) = some (.inl (1, 5461, .inl g6))) (hK3 : zix w (q + 7) = some (.inl (1, 5461, .inl g7))) (hK4 : zix w (q + 8) = some (.inl (1, 5461, .inl g8))) (hK5 : zix w (q + 9) = some (.inl (1, 5461, .inl g9))) (hK6 : zix w (q + 10) = some (.inl (1, 5461, .inl g10))) (hr0 : 0 ≤ nn ∧ nn ≤ 5) (hr1 : FOK F nn) (hr2 : TJZ F nn g5 g6 g7 g8 g9 g10 y3 y4 y5) (hr3 : 0 < y5 ∧ tBy g5 (y5 - 1) = a1 ∧ tBy g9 a1 = nn) (hr4 : 0 ≤ a1 ∧ a1 ≤ 5460) (hr5 : CNT F nn (clz g10) y1) (hr6 : LGS F nn (clz g10) y2) (hr7 : PRG g7 g9 y3 y5 mu) (Q : zQ) (h : ∀ (k1 k2 k4 : Int) (T8 T10 : Nat → Int32) (w' : zW), wfM (fun j => j ≠ q ∧ j ≠ q + 8 ∧ j ≠ q + 10) w w' → zix w' q = some (.inr (4, [.ref (q + 1), .int (Int32.ofInt k1), .int (Int32.ofInt k2), .int (Int32.ofInt y3), .int (Int32.ofInt k4), .int (Int32.ofInt (y5 - 1)), .ref (q + 2), .ref (q + 3), .ref (q + 4), .ref (q + 5), .ref (q + 6), .ref (q + 7), .ref (q + 8), .ref (q + 9), .ref (q + 10)])) → zix w' (q + 8) = some (.inl (1, 5461, .inl T8)) → zix w' (q + 10) = some (.inl (1, 5461, .inl T10)) → (TJZ F nn g5 g6 g7 T8 g9 T10 y3 k4 (y5 - 1)) → (CNT F nn (clz T10) k1) → (LGS F nn (clz T10) k2) → (PRG g7 g9 y3 (y5 - 1) (mu + 1)) → Q (none) w') : zCl zTab (d + 3) iX5_leave [.ref q, .int (Int32.ofInt a1)] w 0 0 Q := by
  refine zCl_i (M := kX5_leave) rfl (Nat.le_of_ble_eq_true rfl) fun R hR => ?_
  have fr0 : wfM (fun j => j ≠ q ∧ j ≠ q + 8 ∧ j ≠ q + 10) w w := wfM_rf _ w
  obtain ⟨ho1, ho2, ho3, ho4, ho5, ho6⟩ := tj_o hr2 hr3.1 hr3.2.1
  have hjb := tj_b hr2
  have hlg := hr6.1
  have nX0 : FX (∀ j : Nat, (j ≠ q ∧ j ≠ q + 8 ∧ j ≠ q + 10) → j ≠ q) := fun j hj => by omega
  have nX1 : FX ((q + 5) ≠ q) := (show (q + 5) ≠ q by omega)
  have nX2 : FX ((q + 6) ≠ q) := (show (q + 6) ≠ q by omega)
  have nX3 : FX ((q + 7) ≠ q) := (show (q + 7) ≠ q by omega)
  have nX4 : FX ((q + 8) ≠ q) := (show (q + 8) ≠ q by omega)
  have nX5 : FX ((q + 9) ≠ q) := (show (q + 9) ≠ q by omega)
  have nX6 : FX ((q + 10) ≠ q) := (show (q + 10) ≠ q by omega)
  have nX7 : FX (∀ j : Nat, (j ≠ q ∧ j ≠ q + 8 ∧ j ≠ q + 10) → (j ≠ q ∧ j ≠ q + 10)) := fun j hj => by omega
  have nX8 : FX ((q + 5) ≠ q ∧ (q + 5) ≠ q + 10) := (show (q + 5) ≠ q ∧ (q + 5) ≠ q + 10 by omega)
  have nX9 : FX ((q + 6) ≠ q ∧ (q + 6) ≠ q + 10) := (show (q + 6) ≠ q ∧ (q + 6) ≠ q + 10 by omega)
  have nX10 : FX ((q + 7) ≠ q ∧ (q + 7) ≠ q + 10) := (show (q + 7) ≠ q ∧ (q + 7) ≠ q + 10 by omega)
  have nX11 : FX ((q + 8) ≠ q ∧ (q + 8) ≠ q + 10) := (show (q + 8) ≠ q ∧ (q + 8) ≠ q + 10 by omega)
  have nX12 : FX ((q + 9) ≠ q ∧ (q + 9) ≠ q + 10) := (show (q + 9) ≠ q ∧ (q + 9) ≠ q + 10 by omega)
  have nX13 : FX (∀ j : Nat, (j ≠ q ∧ j ≠ q + 8 ∧ j ≠ q + 10) → j ≠ q + 8) := fun j hj => by omega
  have nX14 : FX (q ≠ q + 8) := (show q ≠ q + 8 by omega)
  have nX15 : FX ((q + 5) ≠ q + 8) := (show (q + 5) ≠ q + 8 by omega)
  have nX16 : FX ((q + 6) ≠ q + 8) := (show (q + 6) ≠ q + 8 by omega)
  have nX17 : FX ((q + 7) ≠ q + 8) := (show (q + 7) ≠ q + 8 by omega)
  have nX18 : FX ((q + 9) ≠ q + 8) := (show (q + 9) ≠ q + 8 by omega)
  have nX19 : FX ((q + 10) ≠ q + 8) := (show (q + 10) ≠ q + 8 by omega)
  iterate 2 refine hR (?_ : R (_, _, _, _, _, _))
  refine hR (c_get hK0 rfl ?_)
  refine hR (?_ : R (_, _, _, _, _, _))
  refine hR (t_sub ?_)
  refine hR (c_put hK0 rfl rfl fun w1 ff1 hC1 => ?_)
  have fr2 := wfM_st fr0 ff1 nX0
  have hC3 := (ff1.2 (q + 5) nX1).trans hK1
  have hC4 := (ff1.2 (q + 6) nX2).trans hK2
  have hC5 := (ff1.2 (q + 7) nX3).trans hK3
  have hC6 := (ff1.2 (q + 8) nX4).trans hK4
  have hC7 := (ff1.2 (q + 9) nX5).trans hK5
  have hC8 := (ff1.2 (q + 10) nX6).trans hK6
  replace hC1 : zix w1 q = some (.inr (4, [.ref (q + 1), .int (Int32.ofInt y1), .int (Int32.ofInt y2), .int (Int32.ofInt y3), .int (Int32.ofInt y4), .int (Int32.ofInt (y5 - 1)), .ref (q + 2), .ref (q + 3), .ref (q + 4), .ref (q + 5), .ref (q + 6), .ref (q + 7), .ref (q + 8), .ref (q + 9), .ref (q + 10)])) := hC1
  refine hR (?_ : R (_, _, _, _, _, _))
  refine hR (c_get hC1 rfl ?_)
  refine hR (k_le (by omega) (fun hc9 => ?_) (fun hc9 => ?_))
  · skip
    refine hR (?_ : R (_, _, _, _, _, _))
    refine hR (c_get hC1 rfl ?_)
    refine hR (?_ : R (_, _, _, _, _, _))
    refine hR (c_aldE hC6 (by omega) (by omega) (Nat.le_of_ble_eq_true rfl) fun v10 ev10 rv10 => ?_)
    replace ev10 : v10 = tBy g8 a1 := ev10
    subst ev10
    refine hR (?_ : R (_, _, _, _, _, _))
    refine hR (c_get hC1 rfl ?_)
    refine hR (?_ : R (_, _, _, _, _, _))
    refine hR (c_aldE hC5 (by omega) (by omega) (Nat.le_of_ble_eq_true rfl) fun v11 ev11 rv11 => ?_)
    replace ev11 : v11 = tBy g7 a1 := ev11
    subst ev11
    refine hR (j_ne (by omega) (by omega) (fun hc12 => ?_) (fun hc12 => ?_))
    · skip
      exact hR (zret_i rfl (Nat.le_refl _) rfl (h _ _ _ _ _ _ fr2 hC1 hC6 hC8 (absurd (tj_l1 hr2 hr3.1 hr3.2.1 (by omega)) (by omega)) (absurd (tj_l1 hr2 hr3.1 hr3.2.1 (by omega)) (by omega)) (absurd (tj_l1 hr2 hr3.1 hr3.2.1 (by omega)) (by omega)) (absurd (tj_l1 hr2 hr3.1 hr3.2.1 (by omega)) (by omega))))
    iterate 2 refine hR (?_ : R (_, _, _, _, _, _))
    refine hR (c_obj hC1 (zcall_i 0 0 (Nat.le_of_ble_eq_true rfl) (Nat.le_of_ble_eq_true rfl) (x_closeI _ _ _ _ _ _ _ _ _ _ _ hC1 hC4 hC8 (by omega) (tj_op hr2) (tj_ot hr2 ⟨hr3.1, hr3.2.1⟩) (by omega) (by omega) _ fun k2_13 k4_14 T10_15 w16 gg17 hC18 hC19 hp20 hp21 => ?_)))
    have fr22 := wfM_tr fr2 gg17 nX7
    have hC23 := (gg17.2 (q + 5) nX8).trans hC3
    have hC24 := (gg17.2 (q + 6) nX9).trans hC4
    have hC25 := (gg17.2 (q + 7) nX10).trans hC5
    have hC26 := (gg17.2 (q + 8) nX11).trans hC6
    have hC27 := (gg17.2 (q + 9) nX12).trans hC7
    refine (?_ : R (_, _, [], w16, 0, 0))
    obtain ⟨hs1, hs2, hs3, hs4, hs5, hs6⟩ := tjl_c (g8' := g8) hr1 hr2 hr3 (by omega) (fun _ _ => rfl) hp20
    exact hR (zret_i rfl (Nat.le_refl _) rfl (h _ _ _ _ _ _ fr22 hC18 hC26 hC19 hs2 (cns_s hr5 hs4 hs5 hs6 hs3) (lgs_t hr6 hs5 hs3 hs1 hp21) (prg_l hr7)))
  refine hR (?_ : R (_, _, _, _, _, _))
  refine hR (c_get hC1 rfl ?_)
  refine hR (?_ : R (_, _, _, _, _, _))
  refine hR (c_get hC1 rfl ?_)
  refine hR (?_ : R (_, _, _, _, _, _))
  refine hR (t_sub ?_)
  refine hR (c_aldE hC3 (by omega) (by omega) (Nat.le_of_ble_eq_true rfl) fun v28 ev28 rv28 => ?_)
  replace ev28 : v28 = tBy g5 ((y5 - 1) - 1) := ev28
  subst ev28
  have hbf := tj_bf hr2 (by omega) hr3.2.1
  iterate 2 refine hR (?_ : R (_, _, _, _, _, _))
  refine hR (c_get hC1 rfl ?_)
  iterate 2 refine hR (?_ : R (_, _, _, _, _, _))
  refine hR (c_get hC1 rfl ?_)
  refine hR (?_ : R (_, _, _, _, _, _))
  refine hR (c_aldE hC6 (by omega) (by omega) (Nat.le_of_ble_eq_true rfl) fun v29 ev29 rv29 => ?_)
  replace ev29 : v29 = tBy g8 (tBy g5 ((y5 - 1) - 1)) := ev29
  subst ev29
  refine hR (?_ : R (_, _, _, _, _, _))
  refine hR (c_get hC1 rfl ?_)
  refine hR (?_ : R (_, _, _, _, _, _))
  refine hR (c_aldE hC6 (by omega) (by omega) (Nat.le_of_ble_eq_true rfl) fun v30 ev30 rv30 => ?_)
  replace ev30 : v30 = tBy g8 a1 := ev30
  subst ev30
  obtain ⟨v31, lv31, qv31⟩ := zmin_r (a := tBy g8 (tBy g5 ((y5 - 1) - 1))) (b := tBy g8 a1) (by omega) (by omega)
  refine hR (t_c v31 qv31 ?_)
  refine hR (x_ast hC6 (by omega) (by omega) (Nat.le_of_ble_eq_true rfl) fun w32 ff32 hC32 => ?_)
  have fr33 := wfM_st fr2 ff32 nX13
  have hC34 := (ff32.2 q nX14).trans hC1
  have hC35 := (ff32.2 (q + 5) nX15).trans hC3
  have hC36 := (ff32.2 (q + 6) nX16).trans hC4
  have hC37 := (ff32.2 (q + 7) nX17).trans hC5
  have hC38 := (ff32.2 (q + 9) nX18).trans hC7
  have hC39 := (ff32.2 (q + 10) nX19).trans hC8
  refine hR (?_ : R (_, _, _, _, _, _))
  refine hR (c_get hC34 rfl ?_)
  refine hR (?_ : R (_, _, _, _, _, _))
  refine hR (c_aldE hC32 (by omega) (by omega) (Nat.le_of_ble_eq_true rfl) fun v40 ev40 rv40 => ?_)
  replace ev40 : v40 = tBy (upd g8 (tBy g5 ((y5 - 1) - 1) : Int).toNat (Int32.ofInt v31)) a1 := ev40
  subst ev40
  refine hR (?_ : R (_, _, _, _, _, _))
  refine hR (c_get hC34 rfl ?_)
  refine hR (?_ : R (_, _, _, _, _, _))
  refine hR (c_aldE hC37 (by omega) (by omega) (Nat.le_of_ble_eq_true rfl) fun v41 ev41 rv41 => ?_)
  replace ev41 : v41 = tBy g7 a1 := ev41
  subst ev41
  refine hR (j_ne (by omega) (by omega) (fun hc42 => ?_) (fun hc42 => ?_))
  · skip
    exact hR (zret_i rfl (Nat.le_refl _) rfl (h _ _ _ _ _ _ fr33 hC34 hC32 hC39 (tjl_n hr1 hr2 hr3 (by omega) rfl lv31 (by omega)) hr5 hr6 (prg_l hr7)))
  iterate 2 refine hR (?_ : R (_, _, _, _, _, _))
  refine hR (c_obj hC34 (zcall_i 0 0 (Nat.le_of_ble_eq_true rfl) (Nat.le_of_ble_eq_true rfl) (x_closeI _ _ _ _ _ _ _ _ _ _ _ hC34 hC36 hC39 (by omega) (tj_op hr2) (tj_ot hr2 ⟨hr3.1, hr3.2.1⟩) (by omega) (by omega) _ fun k2_43 k4_44 T10_45 w46 gg47 hC48 hC49 hp50 hp51 => ?_)))
  have fr52 := wfM_tr fr33 gg47 nX7
  have hC53 := (gg47.2 (q + 5) nX8).trans hC35
  have hC54 := (gg47.2 (q + 6) nX9).trans hC36
  have hC55 := (gg47.2 (q + 7) nX10).trans hC37
  have hC56 := (gg47.2 (q + 8) nX11).trans hC32
  have hC57 := (gg47.2 (q + 9) nX12).trans hC38
  refine (?_ : R (_, _, [], w46, 0, 0))
  obtain ⟨hq1, hq2⟩ := tjl_e hr2 hr3 (by omega) rfl lv31 (by omega)
  obtain ⟨hs1, hs2, hs3, hs4, hs5, hs6⟩ := tjl_c hr1 hr2 hr3 hq1 hq2 hp50
  exact hR (zret_i rfl (Nat.le_refl _) rfl (h _ _ _ _ _ _ fr52 hC48 hC56 hC49 hs2 (cns_s hr5 hs4 hs5 hs6 hs3) (lgs_t hr6 hs5 hs3 hs1 hp51) (prg_l hr7)))
theorem x_findFromI (w : zW) (d : Nat) (q p b z2 z3 : Nat) (a1 : Int) (x0 nn x2 : Int) (F : Int → Int → Int) (y1 y2 y3 y4 y5 : Int) (g5 g6 g7 g8 g9 g10 : Nat → Int32) (hK0 : zix w q = some (.inr (4, [.ref (q + 1), .int (Int32.ofInt y1), .int (Int32.ofInt y2), .int (Int32.ofInt y3), .int (Int32.ofInt y4), .int (Int32.ofInt y5), .ref (q + 2), .ref (q + 3), .ref (q + 4), .ref (q + 5), .ref (q + 6), .ref (q + 7), .ref (q + 8), .ref (q + 9), .ref (q + 10)]))) (hK1 : zix w (q + 5) = some (.inl (1, 5461, .inl g5))) (hK2 : zix w (q + 6) = some (.inl (1, 5461, .inl g6))) (hK3 : zix w (q + 7) = some (.inl (1, 5461, .inl g7))) (hK4 : zix w (q + 8) = some (.inl (1, 5461, .inl g8))) (hK5 : zix w (q + 9) = some (.inl (1, 5461, .inl g9))) (hK6 : zix w (q + 10) = some (.inl (1, 5461, .inl g10))) (hK7 : zix w p = some (.inr (3, [.ref b, .ref (p + 1), .ref z2, .ref z3]))) (hK8 : zix w b = some (.inr (0, [.int (Int32.ofInt x0), .int (Int32.ofInt nn), .int (Int32.ofInt x2), .ref (b + 1), .ref (b + 2), .ref (b + 3), .ref (b + 4)]))) (hK9 : AFK w p b F) (hr0 : 0 ≤ nn ∧ nn ≤ 5) (hr1 : ((b + 4 < p ∨ p + 1 < b) ∧ (z2 ≠ p ∧ z2 ≠ p + 1 ∧ z3 ≠ p ∧ z3 ≠ p + 1 ∧ z2 ≠ z3)) ∧ ((z2 < b ∨ b + 4 < z2) ∧ (z3 < b ∨ b + 4 < z3))) (hr2 : (q + 10 < p ∨ p + 1 < q) ∧ (q + 10 < b ∨ b + 4 < q) ∧ (b + 4 < p ∨ p + 1 < b)) (hr3 : FOK F nn) (hr4 : TJZ F nn g5 g6 g7 g8 g9 g10 y3 y4 0) (hr5 : y4 = 0) (hr6 : 0 ≤ a1 ∧ a1 ≤ 5460) (hr7 : tBy g7 a1 = -1) (hr8 : CNT F nn (clz g10) y1) (hr9 : LGS F nn (clz g10) y2) (Q : zQ) (h : ∀ (k1 k2 k3 k4 k5 : Int) (T5 T6 T7 T8 T9 T10 : Nat → Int32) (w' : zW), wfM (fun j => j ≠ q ∧ j ≠ q + 5 ∧ j ≠ q + 6 ∧ j ≠ q + 7 ∧ j ≠ q + 8 ∧ j ≠ q + 9 ∧ j ≠ q + 10 ∧ j ≠ p + 1) w w' → zix w' q = some (.inr (4, [.ref (q + 1), .int (Int32.ofInt k1), .int (Int32.ofInt k2), .int (Int32.ofInt k3), .int (Int32.ofInt k4), .int (Int32.ofInt k5), .ref (q + 2), .ref (q + 3), .ref (q + 4), .ref (q + 5), .ref (q + 6), .ref (q + 7), .ref (q + 8), .ref (q + 9), .ref (q + 10)])) → zix w' (q + 5) = some (.inl (1, 5461, .inl T5)) → zix w' (q + 6) = some (.inl (1, 5461, .inl T6)) → zix w' (q + 7) = some (.inl (1, 5461, .inl T7)) → zix w' (q + 8) = some (.inl (1, 5461, .inl T8)) → zix w' (q + 9) = some (.inl (1, 5461, .inl T9)) → zix w' (q + 10) = some (.inl (1, 5461, .inl T10)) → AFK w' p b F → (TJZ F nn T5 T6 T7 T8 T9 T10 k3 k4 0) → (k4 = 0) → (CNT F nn (clz T10) k1) → (LGS F nn (clz T10) k2) → (KPD g7 T7) → (tBy T7 a1 ≠ -1) → Q (none) w') : zCl zTab (d + 6) iX5_findFrom [.ref q, .ref p, .int (Int32.ofInt a1)] w 0 0 Q := by
  refine zCl_i (M := kX5_findFrom) rfl (Nat.le_of_ble_eq_true rfl) fun R hR => ?_
  have fr0 : wfM (fun j => j ≠ q ∧ j ≠ q + 5 ∧ j ≠ q + 6 ∧ j ≠ q + 7 ∧ j ≠ q + 8 ∧ j ≠ q + 9 ∧ j ≠ q + 10 ∧ j ≠ p + 1) w w := wfM_rf _ w
  obtain ⟨mu0, hmu0⟩ := prg_x g7 g9 y3 0
  have hrm := tj_r hr4 hr6 hr7
  have nX0 : FX (∀ j : Nat, (j ≠ q ∧ j ≠ q + 5 ∧ j ≠ q + 6 ∧ j ≠ q + 7 ∧ j ≠ q + 8 ∧ j ≠ q + 9 ∧ j ≠ q + 10 ∧ j ≠ p + 1) → j ≠ q) := fun j hj => by omega
  have nX1 : FX ((q + 5) ≠ q) := (show (q + 5) ≠ q by omega)
  have nX2 : FX ((q + 6) ≠ q) := (show (q + 6) ≠ q by omega)
  have nX3 : FX ((q + 7) ≠ q) := (show (q + 7) ≠ q by omega)
  have nX4 : FX ((q + 8) ≠ q) := (show (q + 8) ≠ q by omega)
  have nX5 : FX ((q + 9) ≠ q) := (show (q + 9) ≠ q by omega)
  have nX6 : FX ((q + 10) ≠ q) := (show (q + 10) ≠ q by omega)
  have nX7 : FX (p ≠ q) := (show p ≠ q by omega)
  have nX8 : FX (b ≠ q) := (show b ≠ q by omega)
  have nX9 : FX (∀ j : Nat, (j = p + 1 ∨ (b ≤ j ∧ j ≤ b + 4)) → (j ≠ q)) := fun j hj => by omega
  have nX10 : FX (∀ j : Nat, (j ≠ q ∧ j ≠ q + 5 ∧ j ≠ q + 6 ∧ j ≠ q + 7 ∧ j ≠ q + 8 ∧ j ≠ q + 9 ∧ j ≠ q + 10 ∧ j ≠ p + 1) → (j ≠ q ∧ j ≠ q + 5 ∧ j ≠ q + 6 ∧ j ≠ q + 7 ∧ j ≠ q + 8 ∧ j ≠ q + 9)) := fun j hj => by omega
  have nX11 : FX ((q + 10) ≠ q ∧ (q + 10) ≠ q + 5 ∧ (q + 10) ≠ q + 6 ∧ (q + 10) ≠ q + 7 ∧ (q + 10) ≠ q + 8 ∧ (q + 10) ≠ q + 9) := (show (q + 10) ≠ q ∧ (q + 10) ≠ q + 5 ∧ (q + 10) ≠ q + 6 ∧ (q + 10) ≠ q + 7 ∧ (q + 10) ≠ q + 8 ∧ (q + 10) ≠ q + 9 by omega)
  have nX12 : FX (p ≠ q ∧ p ≠ q + 5 ∧ p ≠ q + 6 ∧ p ≠ q + 7 ∧ p ≠ q + 8 ∧ p ≠ q + 9) := (show p ≠ q ∧ p ≠ q + 5 ∧ p ≠ q + 6 ∧ p ≠ q + 7 ∧ p ≠ q + 8 ∧ p ≠ q + 9 by omega)
  have nX13 : FX (b ≠ q ∧ b ≠ q + 5 ∧ b ≠ q + 6 ∧ b ≠ q + 7 ∧ b ≠ q + 8 ∧ b ≠ q + 9) := (show b ≠ q ∧ b ≠ q + 5 ∧ b ≠ q + 6 ∧ b ≠ q + 7 ∧ b ≠ q + 8 ∧ b ≠ q + 9 by omega)
  have nX14 : FX (∀ j : Nat, (j = p + 1 ∨ (b ≤ j ∧ j ≤ b + 4)) → (j ≠ q ∧ j ≠ q + 5 ∧ j ≠ q + 6 ∧ j ≠ q + 7 ∧ j ≠ q + 8 ∧ j ≠ q + 9)) := fun j hj => by omega
  have nX15 : FX (∀ j : Nat, (j ≠ q ∧ j ≠ q + 5 ∧ j ≠ q + 6 ∧ j ≠ q + 7 ∧ j ≠ q + 8 ∧ j ≠ q + 9 ∧ j ≠ q + 10 ∧ j ≠ p + 1) → (j ≠ q ∧ j ≠ q + 8 ∧ j ≠ q + 10)) := fun j hj => by omega
  have nX16 : FX ((q + 5) ≠ q ∧ (q + 5) ≠ q + 8 ∧ (q + 5) ≠ q + 10) := (show (q + 5) ≠ q ∧ (q + 5) ≠ q + 8 ∧ (q + 5) ≠ q + 10 by omega)
  have nX17 : FX ((q + 6) ≠ q ∧ (q + 6) ≠ q + 8 ∧ (q + 6) ≠ q + 10) := (show (q + 6) ≠ q ∧ (q + 6) ≠ q + 8 ∧ (q + 6) ≠ q + 10 by omega)
  have nX18 : FX ((q + 7) ≠ q ∧ (q + 7) ≠ q + 8 ∧ (q + 7) ≠ q + 10) := (show (q + 7) ≠ q ∧ (q + 7) ≠ q + 8 ∧ (q + 7) ≠ q + 10 by omega)
  have nX19 : FX ((q + 9) ≠ q ∧ (q + 9) ≠ q + 8 ∧ (q + 9) ≠ q + 10) := (show (q + 9) ≠ q ∧ (q + 9) ≠ q + 8 ∧ (q + 9) ≠ q + 10 by omega)
  have nX20 : FX (p ≠ q ∧ p ≠ q + 8 ∧ p ≠ q + 10) := (show p ≠ q ∧ p ≠ q + 8 ∧ p ≠ q + 10 by omega)
  have nX21 : FX (b ≠ q ∧ b ≠ q + 8 ∧ b ≠ q + 10) := (show b ≠ q ∧ b ≠ q + 8 ∧ b ≠ q + 10 by omega)
  have nX22 : FX (∀ j : Nat, (j = p + 1 ∨ (b ≤ j ∧ j ≤ b + 4)) → (j ≠ q ∧ j ≠ q + 8 ∧ j ≠ q + 10)) := fun j hj => by omega
  have nX23 : FX (∀ j : Nat, (j ≠ q ∧ j ≠ q + 5 ∧ j ≠ q + 6 ∧ j ≠ q + 7 ∧ j ≠ q + 8 ∧ j ≠ q + 9 ∧ j ≠ q + 10 ∧ j ≠ p + 1) → (j ≠ q ∧ j ≠ q + 5 ∧ j ≠ q + 6 ∧ j ≠ q + 7 ∧ j ≠ q + 8 ∧ j ≠ q + 9 ∧ j ≠ p + 1)) := fun j hj => by omega
  have nX24 : FX ((q + 10) ≠ q ∧ (q + 10) ≠ q + 5 ∧ (q + 10) ≠ q + 6 ∧ (q + 10) ≠ q + 7 ∧ (q + 10) ≠ q + 8 ∧ (q + 10) ≠ q + 9 ∧ (q + 10) ≠ p + 1) := (show (q + 10) ≠ q ∧ (q + 10) ≠ q + 5 ∧ (q + 10) ≠ q + 6 ∧ (q + 10) ≠ q + 7 ∧ (q + 10) ≠ q + 8 ∧ (q + 10) ≠ q + 9 ∧ (q + 10) ≠ p + 1 by omega)
  have nX25 : FX (p ≠ q ∧ p ≠ q + 5 ∧ p ≠ q + 6 ∧ p ≠ q + 7 ∧ p ≠ q + 8 ∧ p ≠ q + 9 ∧ p ≠ p + 1) := (show p ≠ q ∧ p ≠ q + 5 ∧ p ≠ q + 6 ∧ p ≠ q + 7 ∧ p ≠ q + 8 ∧ p ≠ q + 9 ∧ p ≠ p + 1 by omega)
  have nX26 : FX (b ≠ q ∧ b ≠ q + 5 ∧ b ≠ q + 6 ∧ b ≠ q + 7 ∧ b ≠ q + 8 ∧ b ≠ q + 9 ∧ b ≠ p + 1) := (show b ≠ q ∧ b ≠ q + 5 ∧ b ≠ q + 6 ∧ b ≠ q + 7 ∧ b ≠ q + 8 ∧ b ≠ q + 9 ∧ b ≠ p + 1 by omega)
  iterate 2 refine hR (?_ : R (_, _, _, _, _, _))
  refine hR (c_put hK0 rfl rfl fun w1 ff1 hC1 => ?_)
  have fr2 := wfM_st fr0 ff1 nX0
  have hC3 := (ff1.2 (q + 5) nX1).trans hK1
  have hC4 := (ff1.2 (q + 6) nX2).trans hK2
  have hC5 := (ff1.2 (q + 7) nX3).trans hK3
  have hC6 := (ff1.2 (q + 8) nX4).trans hK4
  have hC7 := (ff1.2 (q + 9) nX5).trans hK5
  have hC8 := (ff1.2 (q + 10) nX6).trans hK6
  have hC9 := (ff1.2 p nX7).trans hK7
  have hC10 := (ff1.2 b nX8).trans hK8
  have hC11 := AFK_fr hK9 (fun j hj => ff1.2 j (nX9 j hj))
  replace hC1 : zix w1 q = some (.inr (4, [.ref (q + 1), .int (Int32.ofInt y1), .int (Int32.ofInt y2), .int (Int32.ofInt y3), .int (Int32.ofInt y4), .int (Int32.ofInt 0), .ref (q + 2), .ref (q + 3), .ref (q + 4), .ref (q + 5), .ref (q + 6), .ref (q + 7), .ref (q + 8), .ref (q + 9), .ref (q + 10)])) := hC1
  iterate 2 refine hR (?_ : R (_, _, _, _, _, _))
  refine hR (c_obj hC1 (zcall_i 0 0 (Nat.le_of_ble_eq_true rfl) (Nat.le_of_ble_eq_true rfl) (x_enterI _ _ _ _ _ _ _ _ _ _ _ _ _ _ hC1 hC3 hC4 hC5 hC6 hC7 (by omega) (by omega) (by omega) (by omega) _ fun w12 gg13 hC14 hC15 hC16 hC17 hC18 hC19 => ?_)))
  have fr20 := wfM_tr fr2 gg13 nX10
  have hC21 := (gg13.2 (q + 10) nX11).trans hC8
  have hC22 := (gg13.2 p nX12).trans hC9
  have hC23 := (gg13.2 b nX13).trans hC10
  have hC24 := AFK_fr hC11 (fun j hj => gg13.2 j (nX14 j hj))
  refine (?_ : R (_, _, [], w12, 0, 0))
  have hTe := tje_0 hr3 hr0.1 hr4 hr5 hr6 hr7
  have hPe := prg_0 hr0 hr4 hr6 hr7 hmu0
  have hMe := prg_b hr0 hTe hPe
  iterate 2 refine hR (?_ : R (_, _, _, _, _, _))
  have lp12 : ∀ (N : Nat) (ii : Int) (o4_12 : Option Value) (mu c1 c2 c3 c4 c5 : Int) (S5 S6 S7 S8 S9 S10 : Nat → Int32) (w_12 : zW), (zc2 o4_12 = false) → (wfM (fun j => j ≠ q ∧ j ≠ q + 5 ∧ j ≠ q + 6 ∧ j ≠ q + 7 ∧ j ≠ q + 8 ∧ j ≠ q + 9 ∧ j ≠ q + 10 ∧ j ≠ p + 1) w w_12) → (zix w_12 q = some (.inr (4, [.ref (q + 1), .int (Int32.ofInt c1), .int (Int32.ofInt c2), .int (Int32.ofInt c3), .int (Int32.ofInt c4), .int (Int32.ofInt c5), .ref (q + 2), .ref (q + 3), .ref (q + 4), .ref (q + 5), .ref (q + 6), .ref (q + 7), .ref (q + 8), .ref (q + 9), .ref (q + 10)]))) → (zix w_12 (q + 5) = some (.inl (1, 5461, .inl S5))) → (zix w_12 (q + 6) = some (.inl (1, 5461, .inl S6))) → (zix w_12 (q + 7) = some (.inl (1, 5461, .inl S7))) → (zix w_12 (q + 8) = some (.inl (1, 5461, .inl S8))) → (zix w_12 (q + 9) = some (.inl (1, 5461, .inl S9))) → (zix w_12 (q + 10) = some (.inl (1, 5461, .inl S10))) → (zix w_12 p = some (.inr (3, [.ref b, .ref (p + 1), .ref z2, .ref z3]))) → (zix w_12 b = some (.inr (0, [.int (Int32.ofInt x0), .int (Int32.ofInt nn), .int (Int32.ofInt x2), .ref (b + 1), .ref (b + 2), .ref (b + 3), .ref (b + 4)]))) → (AFK w_12 p b F) → (0 ≤ ii ∧ ii ≤ 38227) → (TJZ F nn S5 S6 S7 S8 S9 S10 c3 c4 c5) → (CNT F nn (clz S10) c1) → (LGS F nn (clz S10) c2) → (PRG S7 S9 c3 c5 mu) → (ii ≤ mu ∧ mu ≤ 32766) → (KPD g7 S7) → (tBy S7 a1 ≠ -1) → (38228 - ii < N) → R (12, [some (.ref q), some (.ref p), some (.int (Int32.ofInt a1)), some (.int (Int32.ofInt ii)), o4_12], [], w_12, 0, 0) := by
    intro N
    induction N with
    | zero => intros; omega
    | succ N ih12 =>
      intro ii o4_12 mu c1 c2 c3 c4 c5 S5 S6 S7 S8 S9 S10 w_12 hzo4_12 fr_12 hCq_12 hCq5_12 hCq6_12 hCq7_12 hCq8_12 hCq9_12 hCq10_12 hCp_12 hCb_12 hCAF_12 hf0_12 hp0_12 hp1_12 hp2_12 hp3_12 hp4_12 hp5_12 hp6_12 hN12
      refine hR (?_ : R (_, _, _, _, _, _))
      refine hR (t_c 38227 (by decide) ?_)
      refine hR (j_ge (by omega) (by omega) (fun hc25 => ?_) (fun hc25 => ?_))
      · skip
        exact hR (zret_i rfl (Nat.le_refl _) rfl (h _ _ _ _ _ _ _ _ _ _ _ _ fr_12 hCq_12 hCq5_12 hCq6_12 hCq7_12 hCq8_12 hCq9_12 hCq10_12 hCAF_12 (absurd hp4_12 (by omega)) (absurd hp4_12 (by omega)) (absurd hp4_12 (by omega)) (absurd hp4_12 (by omega)) (absurd hp4_12 (by omega)) (absurd hp4_12 (by omega))))
      have hjb := tj_b hp0_12
      refine hR (?_ : R (_, _, _, _, _, _))
      refine hR (c_get hCq_12 rfl ?_)
      refine hR (k_le (by omega) (fun hc26 => ?_) (fun hc26 => ?_))
      · skip
        exact hR (zret_i rfl (Nat.le_refl _) rfl (h _ _ _ _ _ _ _ _ _ _ _ _ fr_12 hCq_12 hCq5_12 hCq6_12 hCq7_12 hCq8_12 hCq9_12 hCq10_12 hCAF_12 (tj_z0 hp0_12 (by omega)).1 (tj_z0 hp0_12 (by omega)).2 hp1_12 hp2_12 hp5_12 hp6_12))
      have hw := tj_w hp0_12 (by omega)
      refine hR (?_ : R (_, _, _, _, _, _))
      refine hR (c_get hCq_12 rfl ?_)
      refine hR (?_ : R (_, _, _, _, _, _))
      refine hR (c_get hCq_12 rfl ?_)
      refine hR (?_ : R (_, _, _, _, _, _))
      refine hR (t_sub ?_)
      refine hR (c_aldE hCq5_12 (by omega) (by omega) (Nat.le_of_ble_eq_true rfl) fun v27 ev27 rv27 => ?_)
      replace ev27 : v27 = tBy S5 (c5 - 1) := ev27
      subst ev27
      iterate 2 refine hR (?_ : R (_, _, _, _, _, _))
      refine hR (c_get hCq_12 rfl ?_)
      refine hR (?_ : R (_, _, _, _, _, _))
      refine hR (c_aldE hCq9_12 (by omega) (by omega) (Nat.le_of_ble_eq_true rfl) fun v28 ev28 rv28 => ?_)
      replace ev28 : v28 = tBy S9 (tBy S5 (c5 - 1)) := ev28
      subst ev28
      refine hR (?_ : R (_, _, _, _, _, _))
      refine hR (c_get hCp_12 rfl ?_)
      refine hR (c_get hCb_12 rfl ?_)
      refine hR (j_ge (by omega) (by omega) (fun hc29 => ?_) (fun hc29 => ?_))
      rotate_left
      · skip
        iterate 3 refine hR (?_ : R (_, _, _, _, _, _))
        refine hR (c_obj hCq_12 (zcall_i 0 0 (Nat.le_of_ble_eq_true rfl) (Nat.le_of_ble_eq_true rfl) (x_tryNextI _ _ _ _ _ _ _ _ _ _ _ _ _ _ _ _ _ _ _ _ _ _ _ _ hCq_12 hCq5_12 hCq6_12 hCq7_12 hCq8_12 hCq9_12 hCq10_12 hCp_12 hCb_12 hCAF_12 (by omega) hr1 hr2 hr3 hp0_12 ⟨by omega, rfl, by omega⟩ (by omega) hp3_12 _ fun k3_52 k4_53 k5_54 T5_55 T6_56 T7_57 T8_58 T9_59 w60 gg61 hC62 hC63 hC64 hC65 hC66 hC67 hC68 hp69 hp70 hp71 => ?_)))
        have fr72 := wfM_tr fr_12 gg61 nX23
        have hC73 := (gg61.2 (q + 10) nX24).trans hCq10_12
        have hC74 := (gg61.2 p nX25).trans hCp_12
        have hC75 := (gg61.2 b nX26).trans hCb_12
        refine (?_ : R (_, _, [], w60, 0, 0))
        have hMs := prg_b hr0 hp69 hp70
        refine hR (?_ : R (_, _, _, _, _, _))
        refine hR (t_inc ?_)
        refine hR (?_ : R (_, _, _, _, _, _))
        exact ih12 _ _ _ _ _ _ _ _ _ _ _ _ _ _ _ (by rfl) fr72 hC62 hC63 hC64 hC65 hC66 hC67 hC73 hC74 hC75 hC68 (by omega) hp69 hp1_12 hp2_12 hp70 (by omega) (kpd_t hp5_12 hp71) (hp71 a1 hr6 hp6_12) (by omega)
      iterate 2 refine hR (?_ : R (_, _, _, _, _, _))
      refine hR (c_obj hCq_12 (zcall_i 0 0 (Nat.le_of_ble_eq_true rfl) (Nat.le_of_ble_eq_true rfl) (x_leaveI _ _ _ _ _ _ _ _ _ _ _ _ _ _ _ _ _ _ hCq_12 hCq5_12 hCq6_12 hCq7_12 hCq8_12 hCq9_12 hCq10_12 (by omega) hr3 hp0_12 ⟨by omega, rfl, by omega⟩ (by omega) hp1_12 hp2_12 hp3_12 _ fun k1_30 k2_31 k4_32 T8_33 T10_34 w35 gg36 hC37 hC38 hC39 hp40 hp41 hp42 hp43 => ?_)))
      have fr44 := wfM_tr fr_12 gg36 nX15
      have hC45 := (gg36.2 (q + 5) nX16).trans hCq5_12
      have hC46 := (gg36.2 (q + 6) nX17).trans hCq6_12
      have hC47 := (gg36.2 (q + 7) nX18).trans hCq7_12
      have hC48 := (gg36.2 (q + 9) nX19).trans hCq9_12
      have hC49 := (gg36.2 p nX20).trans hCp_12
      have hC50 := (gg36.2 b nX21).trans hCb_12
      have hC51 := AFK_fr hCAF_12 (fun j hj => gg36.2 j (nX22 j hj))
      refine (?_ : R (_, _, [], w35, 0, 0))
      have hMs := prg_b hr0 hp40 hp43
      refine hR (t_inc ?_)
      refine hR (?_ : R (_, _, _, _, _, _))
      exact ih12 _ _ _ _ _ _ _ _ _ _ _ _ _ _ _ (by rfl) fr44 hC37 hC45 hC46 hC47 hC38 hC48 hC39 hC49 hC50 hC51 (by omega) hp40 hp41 hp42 hp43 (by omega) hp5_12 hp6_12 (by omega)
  exact lp12 400000000 _ _ _ _ _ _ _ _ _ _ _ _ _ _ _ (by rfl) fr20 hC14 hC15 hC16 hC17 hC18 hC19 hC21 hC22 hC23 hC24 (by omega) hTe hr8 hr9 hPe (by omega) (kpd_u (by omega) (by omega)) (kpd_v (by omega) (by omega)) (by omega)
theorem x_findCirclesI (w : zW) (d : Nat) (q p b z2 z3 : Nat) (x0 nn x2 : Int) (F : Int → Int → Int) (y1 y2 y3 y4 y5 : Int) (g5 g6 g7 g8 g9 g10 : Nat → Int32) (hK0 : zix w q = some (.inr (4, [.ref (q + 1), .int (Int32.ofInt y1), .int (Int32.ofInt y2), .int (Int32.ofInt y3), .int (Int32.ofInt y4), .int (Int32.ofInt y5), .ref (q + 2), .ref (q + 3), .ref (q + 4), .ref (q + 5), .ref (q + 6), .ref (q + 7), .ref (q + 8), .ref (q + 9), .ref (q + 10)]))) (hK1 : zix w (q + 5) = some (.inl (1, 5461, .inl g5))) (hK2 : zix w (q + 6) = some (.inl (1, 5461, .inl g6))) (hK3 : zix w (q + 7) = some (.inl (1, 5461, .inl g7))) (hK4 : zix w (q + 8) = some (.inl (1, 5461, .inl g8))) (hK5 : zix w (q + 9) = some (.inl (1, 5461, .inl g9))) (hK6 : zix w (q + 10) = some (.inl (1, 5461, .inl g10))) (hK7 : zix w p = some (.inr (3, [.ref b, .ref (p + 1), .ref z2, .ref z3]))) (hK8 : zix w b = some (.inr (0, [.int (Int32.ofInt x0), .int (Int32.ofInt nn), .int (Int32.ofInt x2), .ref (b + 1), .ref (b + 2), .ref (b + 3), .ref (b + 4)]))) (hK9 : AFK w p b F) (hr0 : 0 ≤ nn ∧ nn ≤ 5) (hr1 : ((b + 4 < p ∨ p + 1 < b) ∧ (z2 ≠ p ∧ z2 ≠ p + 1 ∧ z3 ≠ p ∧ z3 ≠ p + 1 ∧ z2 ≠ z3)) ∧ ((z2 < b ∨ b + 4 < z2) ∧ (z3 < b ∨ b + 4 < z3))) (hr2 : (q + 10 < p ∨ p + 1 < q) ∧ (q + 10 < b ∨ b + 4 < q) ∧ (b + 4 < p ∨ p + 1 < b)) (hr3 : FOK F nn) (Q : zQ) (h : ∀ (k1 k2 k3 k4 k5 : Int) (T5 T6 T7 T8 T9 T10 : Nat → Int32) (w' : zW), wfM (fun j => j ≠ q ∧ j ≠ q + 5 ∧ j ≠ q + 6 ∧ j ≠ q + 7 ∧ j ≠ q + 8 ∧ j ≠ q + 9 ∧ j ≠ q + 10 ∧ j ≠ p + 1) w w' → zix w' q = some (.inr (4, [.ref (q + 1), .int (Int32.ofInt k1), .int (Int32.ofInt k2), .int (Int32.ofInt k3), .int (Int32.ofInt k4), .int (Int32.ofInt k5), .ref (q + 2), .ref (q + 3), .ref (q + 4), .ref (q + 5), .ref (q + 6), .ref (q + 7), .ref (q + 8), .ref (q + 9), .ref (q + 10)])) → zix w' (q + 5) = some (.inl (1, 5461, .inl T5)) → zix w' (q + 6) = some (.inl (1, 5461, .inl T6)) → zix w' (q + 7) = some (.inl (1, 5461, .inl T7)) → zix w' (q + 8) = some (.inl (1, 5461, .inl T8)) → zix w' (q + 9) = some (.inl (1, 5461, .inl T9)) → zix w' (q + 10) = some (.inl (1, 5461, .inl T10)) → AFK w' p b F → (CIRC F nn k1 k2 T10) → Q (none) w') : zCl zTab (d + 7) iX5_findCircles [.ref q, .ref p] w 0 0 Q := by
  refine zCl_i (M := kX5_findCircles) rfl (Nat.le_of_ble_eq_true rfl) fun R hR => ?_
  have fr0 : wfM (fun j => j ≠ q ∧ j ≠ q + 5 ∧ j ≠ q + 6 ∧ j ≠ q + 7 ∧ j ≠ q + 8 ∧ j ≠ q + 9 ∧ j ≠ q + 10 ∧ j ≠ p + 1) w w := wfM_rf _ w
  have nX0 : FX (∀ j : Nat, (j ≠ q ∧ j ≠ q + 5 ∧ j ≠ q + 6 ∧ j ≠ q + 7 ∧ j ≠ q + 8 ∧ j ≠ q + 9 ∧ j ≠ q + 10 ∧ j ≠ p + 1) → j ≠ q) := fun j hj => by omega
  have nX1 : FX ((q + 5) ≠ q) := (show (q + 5) ≠ q by omega)
  have nX2 : FX ((q + 6) ≠ q) := (show (q + 6) ≠ q by omega)
  have nX3 : FX ((q + 7) ≠ q) := (show (q + 7) ≠ q by omega)
  have nX4 : FX ((q + 8) ≠ q) := (show (q + 8) ≠ q by omega)
  have nX5 : FX ((q + 9) ≠ q) := (show (q + 9) ≠ q by omega)
  have nX6 : FX ((q + 10) ≠ q) := (show (q + 10) ≠ q by omega)
  have nX7 : FX (p ≠ q) := (show p ≠ q by omega)
  have nX8 : FX (b ≠ q) := (show b ≠ q by omega)
  have nX9 : FX (∀ j : Nat, (j = p + 1 ∨ (b ≤ j ∧ j ≤ b + 4)) → (j ≠ q)) := fun j hj => by omega
  have nX10 : FX (∀ j : Nat, (j ≠ q ∧ j ≠ q + 5 ∧ j ≠ q + 6 ∧ j ≠ q + 7 ∧ j ≠ q + 8 ∧ j ≠ q + 9 ∧ j ≠ q + 10 ∧ j ≠ p + 1) → (j ≠ (q + 7))) := fun j hj => by omega
  have nX11 : FX (q ≠ (q + 7)) := (show q ≠ (q + 7) by omega)
  have nX12 : FX ((q + 5) ≠ (q + 7)) := (show (q + 5) ≠ (q + 7) by omega)
  have nX13 : FX ((q + 6) ≠ (q + 7)) := (show (q + 6) ≠ (q + 7) by omega)
  have nX14 : FX ((q + 8) ≠ (q + 7)) := (show (q + 8) ≠ (q + 7) by omega)
  have nX15 : FX ((q + 9) ≠ (q + 7)) := (show (q + 9) ≠ (q + 7) by omega)
  have nX16 : FX ((q + 10) ≠ (q + 7)) := (show (q + 10) ≠ (q + 7) by omega)
  have nX17 : FX (p ≠ (q + 7)) := (show p ≠ (q + 7) by omega)
  have nX18 : FX (b ≠ (q + 7)) := (show b ≠ (q + 7) by omega)
  have nX19 : FX (∀ j : Nat, (j = p + 1 ∨ (b ≤ j ∧ j ≤ b + 4)) → (j ≠ (q + 7))) := fun j hj => by omega
  have nX20 : FX (∀ j : Nat, (j ≠ q ∧ j ≠ q + 5 ∧ j ≠ q + 6 ∧ j ≠ q + 7 ∧ j ≠ q + 8 ∧ j ≠ q + 9 ∧ j ≠ q + 10 ∧ j ≠ p + 1) → (j ≠ (q + 10))) := fun j hj => by omega
  have nX21 : FX (q ≠ (q + 10)) := (show q ≠ (q + 10) by omega)
  have nX22 : FX ((q + 5) ≠ (q + 10)) := (show (q + 5) ≠ (q + 10) by omega)
  have nX23 : FX ((q + 6) ≠ (q + 10)) := (show (q + 6) ≠ (q + 10) by omega)
  have nX24 : FX ((q + 7) ≠ (q + 10)) := (show (q + 7) ≠ (q + 10) by omega)
  have nX25 : FX ((q + 8) ≠ (q + 10)) := (show (q + 8) ≠ (q + 10) by omega)
  have nX26 : FX ((q + 9) ≠ (q + 10)) := (show (q + 9) ≠ (q + 10) by omega)
  have nX27 : FX (p ≠ (q + 10)) := (show p ≠ (q + 10) by omega)
  have nX28 : FX (b ≠ (q + 10)) := (show b ≠ (q + 10) by omega)
  have nX29 : FX (∀ j : Nat, (j = p + 1 ∨ (b ≤ j ∧ j ≤ b + 4)) → (j ≠ (q + 10))) := fun j hj => by omega
  have nX30 : FX (∀ j : Nat, (j ≠ q ∧ j ≠ q + 5 ∧ j ≠ q + 6 ∧ j ≠ q + 7 ∧ j ≠ q + 8 ∧ j ≠ q + 9 ∧ j ≠ q + 10 ∧ j ≠ p + 1) → (j ≠ q ∧ j ≠ q + 5 ∧ j ≠ q + 6 ∧ j ≠ q + 7 ∧ j ≠ q + 8 ∧ j ≠ q + 9 ∧ j ≠ q + 10 ∧ j ≠ p + 1)) := fun j hj => by omega
  have nX31 : FX (p ≠ q ∧ p ≠ q + 5 ∧ p ≠ q + 6 ∧ p ≠ q + 7 ∧ p ≠ q + 8 ∧ p ≠ q + 9 ∧ p ≠ q + 10 ∧ p ≠ p + 1) := (show p ≠ q ∧ p ≠ q + 5 ∧ p ≠ q + 6 ∧ p ≠ q + 7 ∧ p ≠ q + 8 ∧ p ≠ q + 9 ∧ p ≠ q + 10 ∧ p ≠ p + 1 by omega)
  have nX32 : FX (b ≠ q ∧ b ≠ q + 5 ∧ b ≠ q + 6 ∧ b ≠ q + 7 ∧ b ≠ q + 8 ∧ b ≠ q + 9 ∧ b ≠ q + 10 ∧ b ≠ p + 1) := (show b ≠ q ∧ b ≠ q + 5 ∧ b ≠ q + 6 ∧ b ≠ q + 7 ∧ b ≠ q + 8 ∧ b ≠ q + 9 ∧ b ≠ q + 10 ∧ b ≠ p + 1 by omega)
  iterate 2 refine hR (?_ : R (_, _, _, _, _, _))
  refine hR (c_put hK0 rfl rfl fun w1 ff1 hC1 => ?_)
  have fr2 := wfM_st fr0 ff1 nX0
  have hC3 := (ff1.2 (q + 5) nX1).trans hK1
  have hC4 := (ff1.2 (q + 6) nX2).trans hK2
  have hC5 := (ff1.2 (q + 7) nX3).trans hK3
  have hC6 := (ff1.2 (q + 8) nX4).trans hK4
  have hC7 := (ff1.2 (q + 9) nX5).trans hK5
  have hC8 := (ff1.2 (q + 10) nX6).trans hK6
  have hC9 := (ff1.2 p nX7).trans hK7
  have hC10 := (ff1.2 b nX8).trans hK8
  have hC11 := AFK_fr hK9 (fun j hj => ff1.2 j (nX9 j hj))
  replace hC1 : zix w1 q = some (.inr (4, [.ref (q + 1), .int (Int32.ofInt 0), .int (Int32.ofInt y2), .int (Int32.ofInt y3), .int (Int32.ofInt y4), .int (Int32.ofInt y5), .ref (q + 2), .ref (q + 3), .ref (q + 4), .ref (q + 5), .ref (q + 6), .ref (q + 7), .ref (q + 8), .ref (q + 9), .ref (q + 10)])) := hC1
  iterate 2 refine hR (?_ : R (_, _, _, _, _, _))
  refine hR (c_put hC1 rfl rfl fun w12 ff12 hC12 => ?_)
  have fr13 := wfM_st fr2 ff12 nX0
  have hC14 := (ff12.2 (q + 5) nX1).trans hC3
  have hC15 := (ff12.2 (q + 6) nX2).trans hC4
  have hC16 := (ff12.2 (q + 7) nX3).trans hC5
  have hC17 := (ff12.2 (q + 8) nX4).trans hC6
  have hC18 := (ff12.2 (q + 9) nX5).trans hC7
  have hC19 := (ff12.2 (q + 10) nX6).trans hC8
  have hC20 := (ff12.2 p nX7).trans hC9
  have hC21 := (ff12.2 b nX8).trans hC10
  have hC22 := AFK_fr hC11 (fun j hj => ff12.2 j (nX9 j hj))
  replace hC12 : zix w12 q = some (.inr (4, [.ref (q + 1), .int (Int32.ofInt 0), .int (Int32.ofInt 0), .int (Int32.ofInt y3), .int (Int32.ofInt y4), .int (Int32.ofInt y5), .ref (q + 2), .ref (q + 3), .ref (q + 4), .ref (q + 5), .ref (q + 6), .ref (q + 7), .ref (q + 8), .ref (q + 9), .ref (q + 10)])) := hC12
  iterate 2 refine hR (?_ : R (_, _, _, _, _, _))
  refine hR (c_put hC12 rfl rfl fun w23 ff23 hC23 => ?_)
  have fr24 := wfM_st fr13 ff23 nX0
  have hC25 := (ff23.2 (q + 5) nX1).trans hC14
  have hC26 := (ff23.2 (q + 6) nX2).trans hC15
  have hC27 := (ff23.2 (q + 7) nX3).trans hC16
  have hC28 := (ff23.2 (q + 8) nX4).trans hC17
  have hC29 := (ff23.2 (q + 9) nX5).trans hC18
  have hC30 := (ff23.2 (q + 10) nX6).trans hC19
  have hC31 := (ff23.2 p nX7).trans hC20
  have hC32 := (ff23.2 b nX8).trans hC21
  have hC33 := AFK_fr hC22 (fun j hj => ff23.2 j (nX9 j hj))
  replace hC23 : zix w23 q = some (.inr (4, [.ref (q + 1), .int (Int32.ofInt 0), .int (Int32.ofInt 0), .int (Int32.ofInt 0), .int (Int32.ofInt y4), .int (Int32.ofInt y5), .ref (q + 2), .ref (q + 3), .ref (q + 4), .ref (q + 5), .ref (q + 6), .ref (q + 7), .ref (q + 8), .ref (q + 9), .ref (q + 10)])) := hC23
  iterate 2 refine hR (?_ : R (_, _, _, _, _, _))
  refine hR (c_put hC23 rfl rfl fun w34 ff34 hC34 => ?_)
  have fr35 := wfM_st fr24 ff34 nX0
  have hC36 := (ff34.2 (q + 5) nX1).trans hC25
  have hC37 := (ff34.2 (q + 6) nX2).trans hC26
  have hC38 := (ff34.2 (q + 7) nX3).trans hC27
  have hC39 := (ff34.2 (q + 8) nX4).trans hC28
  have hC40 := (ff34.2 (q + 9) nX5).trans hC29
  have hC41 := (ff34.2 (q + 10) nX6).trans hC30
  have hC42 := (ff34.2 p nX7).trans hC31
  have hC43 := (ff34.2 b nX8).trans hC32
  have hC44 := AFK_fr hC33 (fun j hj => ff34.2 j (nX9 j hj))
  replace hC34 : zix w34 q = some (.inr (4, [.ref (q + 1), .int (Int32.ofInt 0), .int (Int32.ofInt 0), .int (Int32.ofInt 0), .int (Int32.ofInt 0), .int (Int32.ofInt y5), .ref (q + 2), .ref (q + 3), .ref (q + 4), .ref (q + 5), .ref (q + 6), .ref (q + 7), .ref (q + 8), .ref (q + 9), .ref (q + 10)])) := hC34
  refine hR (?_ : R (_, _, _, _, _, _))
  refine hR (c_get hC34 rfl ?_)
  refine hR (?_ : R (_, _, _, _, _, _))
  refine hR (zcall_i 0 0 (Nat.le_of_ble_eq_true rfl) (Nat.le_of_ble_eq_true rfl) (x_fillK _ _ _ _ _ _ hC38 (by omega) (by omega) _ fun T'_45 w46 gg47 hC48 hp49 => ?_))
  have fr50 := wfM_tr fr35 gg47 nX10
  have hC51 := (gg47.2 q nX11).trans hC34
  have hC52 := (gg47.2 (q + 5) nX12).trans hC36
  have hC53 := (gg47.2 (q + 6) nX13).trans hC37
  have hC54 := (gg47.2 (q + 8) nX14).trans hC39
  have hC55 := (gg47.2 (q + 9) nX15).trans hC40
  have hC56 := (gg47.2 (q + 10) nX16).trans hC41
  have hC57 := (gg47.2 p nX17).trans hC42
  have hC58 := (gg47.2 b nX18).trans hC43
  have hC59 := AFK_fr hC44 (fun j hj => gg47.2 j (nX19 j hj))
  refine (?_ : R (_, _, [], w46, 0, 0))
  refine hR (?_ : R (_, _, _, _, _, _))
  refine hR (c_get hC51 rfl ?_)
  refine hR (?_ : R (_, _, _, _, _, _))
  refine hR (zcall_i 0 0 (Nat.le_of_ble_eq_true rfl) (Nat.le_of_ble_eq_true rfl) (x_fillK _ _ _ _ _ _ hC56 (by omega) (by omega) _ fun T'_60 w61 gg62 hC63 hp64 => ?_))
  have fr65 := wfM_tr fr50 gg62 nX20
  have hC66 := (gg62.2 q nX21).trans hC51
  have hC67 := (gg62.2 (q + 5) nX22).trans hC52
  have hC68 := (gg62.2 (q + 6) nX23).trans hC53
  have hC69 := (gg62.2 (q + 7) nX24).trans hC48
  have hC70 := (gg62.2 (q + 8) nX25).trans hC54
  have hC71 := (gg62.2 (q + 9) nX26).trans hC55
  have hC72 := (gg62.2 p nX27).trans hC57
  have hC73 := (gg62.2 b nX28).trans hC58
  have hC74 := AFK_fr hC59 (fun j hj => gg62.2 j (nX29 j hj))
  refine (?_ : R (_, _, [], w61, 0, 0))
  iterate 2 refine hR (?_ : R (_, _, _, _, _, _))
  have lp38 : ∀ (N : Nat) (tt : Int) (c1 c2 c3 c4 c5 : Int) (S5 S6 S7 S8 S9 S10 : Nat → Int32) (w_38 : zW), (wfM (fun j => j ≠ q ∧ j ≠ q + 5 ∧ j ≠ q + 6 ∧ j ≠ q + 7 ∧ j ≠ q + 8 ∧ j ≠ q + 9 ∧ j ≠ q + 10 ∧ j ≠ p + 1) w w_38) → (zix w_38 q = some (.inr (4, [.ref (q + 1), .int (Int32.ofInt c1), .int (Int32.ofInt c2), .int (Int32.ofInt c3), .int (Int32.ofInt c4), .int (Int32.ofInt c5), .ref (q + 2), .ref (q + 3), .ref (q + 4), .ref (q + 5), .ref (q + 6), .ref (q + 7), .ref (q + 8), .ref (q + 9), .ref (q + 10)]))) → (zix w_38 (q + 5) = some (.inl (1, 5461, .inl S5))) → (zix w_38 (q + 6) = some (.inl (1, 5461, .inl S6))) → (zix w_38 (q + 7) = some (.inl (1, 5461, .inl S7))) → (zix w_38 (q + 8) = some (.inl (1, 5461, .inl S8))) → (zix w_38 (q + 9) = some (.inl (1, 5461, .inl S9))) → (zix w_38 (q + 10) = some (.inl (1, 5461, .inl S10))) → (zix w_38 p = some (.inr (3, [.ref b, .ref (p + 1), .ref z2, .ref z3]))) → (zix w_38 b = some (.inr (0, [.int (Int32.ofInt x0), .int (Int32.ofInt nn), .int (Int32.ofInt x2), .ref (b + 1), .ref (b + 2), .ref (b + 3), .ref (b + 4)]))) → (AFK w_38 p b F) → (0 ≤ tt ∧ tt ≤ 5461) → (TJZ F nn S5 S6 S7 S8 S9 S10 c3 c4 0) → (c4 = 0) → (∀ x : Int, 0 ≤ x → x < tt → tBy S7 x ≠ -1) → (CNT F nn (clz S10) c1) → (LGS F nn (clz S10) c2) → (5462 - tt < N) → R (38, [some (.ref q), some (.ref p), some (.int (Int32.ofInt tt))], [], w_38, 0, 0) := by
    intro N
    induction N with
    | zero => intros; omega
    | succ N ih38 =>
      intro tt c1 c2 c3 c4 c5 S5 S6 S7 S8 S9 S10 w_38 fr_38 hCq_38 hCq5_38 hCq6_38 hCq7_38 hCq8_38 hCq9_38 hCq10_38 hCp_38 hCb_38 hCAF_38 hf0_38 hp0_38 hp1_38 hp2_38 hp3_38 hp4_38 hN38
      refine hR (?_ : R (_, _, _, _, _, _))
      refine hR (t_c 5461 (by decide) ?_)
      refine hR (j_ge (by omega) (by omega) (fun hc75 => ?_) (fun hc75 => ?_))
      · skip
        exact hR (zret_i rfl (Nat.le_refl _) rfl (h _ _ _ _ _ _ _ _ _ _ _ _ fr_38 hCq_38 hCq5_38 hCq6_38 hCq7_38 hCq8_38 hCq9_38 hCq10_38 hCAF_38 (circ_e hp0_38 hp1_38 hp2_38 (by omega) hp3_38 hp4_38)))
      refine hR (?_ : R (_, _, _, _, _, _))
      refine hR (c_get hCq_38 rfl ?_)
      refine hR (?_ : R (_, _, _, _, _, _))
      refine hR (c_aldE hCq7_38 (by omega) (by omega) (Nat.le_of_ble_eq_true rfl) fun v76 ev76 rv76 => ?_)
      replace ev76 : v76 = tBy S7 tt := ev76
      subst ev76
      refine hR (?_ : R (_, _, _, _, _, _))
      refine hR (j_ne (by omega) (by omega) (fun hc77 => ?_) (fun hc77 => ?_))
      · skip
        refine hR (t_inc ?_)
        refine hR (?_ : R (_, _, _, _, _, _))
        exact ih38 _ _ _ _ _ _ _ _ _ _ _ _ _ fr_38 hCq_38 hCq5_38 hCq6_38 hCq7_38 hCq8_38 hCq9_38 hCq10_38 hCp_38 hCb_38 hCAF_38 (by omega) hp0_38 hp1_38 (fun x x0 x1 => by by_cases c : x = tt; (· rw [c]; omega); exact hp2_38 x x0 (by omega)) hp3_38 hp4_38 (by omega)
      iterate 3 refine hR (?_ : R (_, _, _, _, _, _))
      refine hR (c_obj hCq_38 (zcall_i 0 0 (Nat.le_of_ble_eq_true rfl) (Nat.le_of_ble_eq_true rfl) (x_findFromI _ _ _ _ _ _ _ _ _ _ _ _ _ _ _ _ _ _ _ _ _ _ _ hCq_38 hCq5_38 hCq6_38 hCq7_38 hCq8_38 hCq9_38 hCq10_38 hCp_38 hCb_38 hCAF_38 (by omega) hr1 hr2 hr3 hp0_38 hp1_38 (by omega) (by omega) hp3_38 hp4_38 _ fun k1_78 k2_79 k3_80 k4_81 k5_82 T5_83 T6_84 T7_85 T8_86 T9_87 T10_88 w89 gg90 hC91 hC92 hC93 hC94 hC95 hC96 hC97 hC98 hp99 hp100 hp101 hp102 hp103 hp104 => ?_)))
      have fr105 := wfM_tr fr_38 gg90 nX30
      have hC106 := (gg90.2 p nX31).trans hCp_38
      have hC107 := (gg90.2 b nX32).trans hCb_38
      refine (?_ : R (_, _, [], w89, 0, 0))
      refine hR (t_inc ?_)
      refine hR (?_ : R (_, _, _, _, _, _))
      exact ih38 _ _ _ _ _ _ _ _ _ _ _ _ _ fr105 hC91 hC92 hC93 hC94 hC95 hC96 hC97 hC106 hC107 hC98 (by omega) hp99 hp100 (fun x x0 x1 => by by_cases c : x = tt; (· rw [c]; exact hp104); exact hp103 x ⟨by omega, by omega⟩ (hp2_38 x x0 (by omega))) hp101 hp102 (by omega)
  exact lp38 400000000 _ _ _ _ _ _ _ _ _ _ _ _ _ fr65 hC66 hC67 hC68 hC69 hC70 hC71 hC63 hC72 hC73 hC74 (by omega) (tj_0 (fun x x0 x1 => hp49 x x0 (by omega)) (fun x x0 x1 => hp64 x x0 (by omega))) rfl (fun x x0 x1 => by omega) (cns_0 (clz_0 (fun x x0 x1 => hp64 x x0 (by omega)))) (lgs_0 (clz_0 (fun x x0 x1 => hp64 x x0 (by omega)))) (by omega)
theorem kx_circles {ρ : Nat → Nat} {w : zW} (hT : TOP ρ w) (d : Nat) (a1 a2 : Int) (hr0 : (-2147483648 ≤ a1 ∧ a1 ≤ 2147483647)) (hr1 : (-2147483648 ≤ a2 ∧ a2 ≤ 2147483647)) : DET zTab (d + 8) iX11_circles [.ref 0, .int (Int32.ofInt a1), .int (Int32.ofInt a2)] w (fun _ _ r _ => RXP (d + 5) w a1 (-1) (fun x0 nn F => cirV F nn a2) r) := by
  obtain ⟨y6, y7, h0, -⟩ := top_o hT
  obtain ⟨mc1, ms1, re1, wm, ⟨σ, o, hA1, hbk, hr_1⟩, hrun1⟩ := a_readingsAtX hT (d + 4) a1 hr0
  have hT1 := hA1.1
  have hK := hA1.2.2.1.2
  refine z_rel (M := kX11_circles) _ rfl (Nat.le_of_ble_eq_true rfl) fun R hR0 => ?_
  have hR : ∀ {pc : Nat} {L : zL} {S : List Value} {w1 : zW} {k n : Nat}, zsc (zCl zTab (d + 7)) (d + 7) kX11_circles none zTab k n ((fun _ _ r _ => RXP (d + 5) w a1 (-1) (fun x0 nn F => cirV F nn a2) r) k n) pc L S w1 k n R → R (pc, L, S, w1, k, n) := fun h => hR0 _ _ (Nat.le_refl _) (Nat.le_refl _) h
  iterate 2 refine hR (?_ : R (_, _, _, _, _, _))
  refine hR0 (0 + mc1) (0 + ms1) (Nat.le_add_right _ _) (Nat.le_add_right _ _) (c_obj h0 (zcall_i mc1 ms1 (Nat.le_refl _) (Nat.le_refl _) (hrun1 _ ?_)))
  rcases hr_1 with ⟨rfl, rfl⟩ | ⟨z, p, z2, z3, rfl, rfl, hp, hz, hO⟩
  · skip
    refine (?_ : R (_, _, .null :: [], wm, 0 + mc1, 0 + ms1))
    iterate 4 refine hR (?_ : R (_, _, _, _, _, _))
    exact hR (zret_i rfl (Nat.le_refl _) trivial ⟨none, wm, hbk, hK, Or.inl ⟨rfl, rfl⟩⟩)
  · skip
    refine (?_ : R (_, _, .ref p :: [], wm, 0 + mc1, 0 + ms1))
    obtain ⟨x0, nn, x2, gk, gs, gi, gn, gm, gm2, hB, hX, hXA, hx1, hx0, hAF, hm2, hm3, hds, hRD⟩ := rx_open hT1.1 hp hz hO
    iterate 5 refine hR (?_ : R (_, _, _, _, _, _))
    refine hR (j_eq (by omega) (by omega) (fun hc1 => ?_) (fun hc1 => ?_))
    · skip
      refine hR (?_ : R (_, _, _, _, _, _))
      obtain ⟨y6w, y7w, h0w, -⟩ := top_o hT1
      obtain ⟨mc2, ms2, re2, w2, ⟨τ, q, hA2, hre2, hq, hfr2⟩, hrun2⟩ := a_ringsThereX hT1 (d + 4)
      subst hre2
      refine hR0 (0 + mc1 + mc2) (0 + ms1 + ms2) (Nat.le_add_right _ _) (Nat.le_add_right _ _) (c_obj h0w (zcall_i mc2 ms2 (Nat.le_refl _) (Nat.le_refl _) (hrun2 _ ?_)))
      refine (?_ : R (_, _, .ref q :: [], w2, 0 + mc1 + mc2, 0 + ms1 + ms2))
      have hT2 := hA2.1
      have hx2 := hA2.2.2.2.1
      obtain ⟨kp2, kz2, kk2⟩ := rx_keep hT1 hfr2 hp hz (Or.inl (rx_0 hT1))
      have hOw2 := kp2.trans hO
      have hBw2 := (kz2 z (by omega) (by omega)).trans hB
      have hAFw2 := AFK_fr hAF (fun j hj => rx_j kk2 kz2 hj)
      have hFO := AFK_ok hAF hx1
      have hpT := (hx2 p (by rw [hp]; decide)).trans hp
      have hzT := (hx2 z (by rw [hz]; decide)).trans hz
      have hdw := rx_do hT2.1 hq hpT hzT
      obtain ⟨y1, y2, y3, y4, y5, g1, g2, g3, g4, g5, g6, g7, g8, g9, g10, hQ0, hQ1, hQ2, hQ3, hQ4, hQ5, hQ6, hQ7, hQ8, hQ9, hQ10⟩ := ro_open10 hT2.1 hq
      iterate 3 refine hR (?_ : R (_, _, _, _, _, _))
      refine hR (c_obj hQ0 (zcall_i 0 0 (Nat.le_refl _) (Nat.le_refl _) (x_findCirclesI _ _ _ _ _ _ _ _ _ _ _ _ _ _ _ _ _ _ _ _ _ _ hQ0 hQ5 hQ6 hQ7 hQ8 hQ9 hQ10 hOw2 hBw2 hAFw2 (by omega) hds hdw hFO _ fun k1_2 k2_3 k3_4 k4_5 k5_6 T5_7 T6_8 T7_9 T8_10 T9_11 T10_12 w13 gg14 hC15 hC16 hC17 hC18 hC19 hC20 hC21 hC22 hp23 => ?_)))
      have hC25 := (gg14.2 p (by (try dsimp only); omega)).trans hOw2
      have hC26 := (gg14.2 z (by (try dsimp only); omega)).trans hBw2
      have hC27 := (gg14.2 (q + 1) (by (try dsimp only); omega)).trans hQ1
      have hC28 := (gg14.2 (q + 2) (by (try dsimp only); omega)).trans hQ2
      have hC29 := (gg14.2 (q + 3) (by (try dsimp only); omega)).trans hQ3
      have hC30 := (gg14.2 (q + 4) (by (try dsimp only); omega)).trans hQ4
      refine (?_ : R (_, _, [], w13, 0 + mc1 + mc2, 0 + ms1 + ms2))
      iterate 2 refine hR (?_ : R (_, _, _, _, _, _))
      refine hR (j_ne (by omega) (by omega) (fun hc => by omega) (fun _ => ?_))
      refine hR (?_ : R (_, _, _, _, _, _))
      refine hR (c_get hC15 rfl ?_)
      exact hR (zret_i rfl (Nat.le_refl _) trivial ⟨some z, wm, hbk, hK, Or.inr ⟨z, (0, 0, x0, nn, x2, gk, gs, gi, gn), rfl, hX, hXA, hx1, hx0, rx_ret (show k1_2 = cirV (rdF gk gs gi gn) nn a2 from hp23.1.trans (cir_1 (by omega)).symm)⟩⟩)
    refine hR (?_ : R (_, _, _, _, _, _))
    refine hR (t_c (-2) (by decide) ?_)
    refine hR (j_eq (by omega) (by omega) (fun hc31 => ?_) (fun hc31 => ?_))
    · skip
      refine hR (?_ : R (_, _, _, _, _, _))
      obtain ⟨y6w, y7w, h0w, -⟩ := top_o hT1
      obtain ⟨mc2, ms2, re2, w2, ⟨τ, q, hA2, hre2, hq, hfr2⟩, hrun2⟩ := a_ringsThereX hT1 (d + 4)
      subst hre2
      refine hR0 (0 + mc1 + mc2) (0 + ms1 + ms2) (Nat.le_add_right _ _) (Nat.le_add_right _ _) (c_obj h0w (zcall_i mc2 ms2 (Nat.le_refl _) (Nat.le_refl _) (hrun2 _ ?_)))
      refine (?_ : R (_, _, .ref q :: [], w2, 0 + mc1 + mc2, 0 + ms1 + ms2))
      have hT2 := hA2.1
      have hx2 := hA2.2.2.2.1
      obtain ⟨kp2, kz2, kk2⟩ := rx_keep hT1 hfr2 hp hz (Or.inl (rx_0 hT1))
      have hOw2 := kp2.trans hO
      have hBw2 := (kz2 z (by omega) (by omega)).trans hB
      have hAFw2 := AFK_fr hAF (fun j hj => rx_j kk2 kz2 hj)
      have hFO := AFK_ok hAF hx1
      have hpT := (hx2 p (by rw [hp]; decide)).trans hp
      have hzT := (hx2 z (by rw [hz]; decide)).trans hz
      have hdw := rx_do hT2.1 hq hpT hzT
      obtain ⟨y1, y2, y3, y4, y5, g1, g2, g3, g4, g5, g6, g7, g8, g9, g10, hQ0, hQ1, hQ2, hQ3, hQ4, hQ5, hQ6, hQ7, hQ8, hQ9, hQ10⟩ := ro_open10 hT2.1 hq
      iterate 3 refine hR (?_ : R (_, _, _, _, _, _))
      refine hR (c_obj hQ0 (zcall_i 0 0 (Nat.le_refl _) (Nat.le_refl _) (x_findCirclesI _ _ _ _ _ _ _ _ _ _ _ _ _ _ _ _ _ _ _ _ _ _ hQ0 hQ5 hQ6 hQ7 hQ8 hQ9 hQ10 hOw2 hBw2 hAFw2 (by omega) hds hdw hFO _ fun k1_32 k2_33 k3_34 k4_35 k5_36 T5_37 T6_38 T7_39 T8_40 T9_41 T10_42 w43 gg44 hC45 hC46 hC47 hC48 hC49 hC50 hC51 hC52 hp53 => ?_)))
      have hC55 := (gg44.2 p (by (try dsimp only); omega)).trans hOw2
      have hC56 := (gg44.2 z (by (try dsimp only); omega)).trans hBw2
      have hC57 := (gg44.2 (q + 1) (by (try dsimp only); omega)).trans hQ1
      have hC58 := (gg44.2 (q + 2) (by (try dsimp only); omega)).trans hQ2
      have hC59 := (gg44.2 (q + 3) (by (try dsimp only); omega)).trans hQ3
      have hC60 := (gg44.2 (q + 4) (by (try dsimp only); omega)).trans hQ4
      refine (?_ : R (_, _, [], w43, 0 + mc1 + mc2, 0 + ms1 + ms2))
      iterate 2 refine hR (?_ : R (_, _, _, _, _, _))
      refine hR (j_ne (by omega) (by omega) (fun _ => ?_) (fun hc => by omega))
      refine hR (?_ : R (_, _, _, _, _, _))
      refine hR (t_c (-2) (by decide) ?_)
      refine hR (j_ne (by omega) (by omega) (fun hc => by omega) (fun _ => ?_))
      refine hR (?_ : R (_, _, _, _, _, _))
      refine hR (c_get hC45 rfl ?_)
      refine hR (?_ : R (_, _, _, _, _, _))
      exact hR (zret_i rfl (Nat.le_refl _) trivial ⟨some z, wm, hbk, hK, Or.inr ⟨z, (0, 0, x0, nn, x2, gk, gs, gi, gn), rfl, hX, hXA, hx1, hx0, rx_ret (show k2_33 = cirV (rdF gk gs gi gn) nn a2 from hp53.2.1.trans (cir_2 (by omega)).symm)⟩⟩)
    refine hR (?_ : R (_, _, _, _, _, _))
    refine hR (zcall_i 0 0 (Nat.le_refl _) (Nat.le_refl _) (c_isText _ _ a2 (by omega) _ fun v61 hp62 => ?_))
    refine (?_ : R (_, _, .int (Int32.ofInt v61) :: [], wm, 0 + mc1, 0 + ms1))
    refine hR (k_ne (by omega) (fun hc63 => ?_) (fun hc63 => ?_))
    rotate_left
    · skip
      refine hR (?_ : R (_, _, _, _, _, _))
      exact hR (zret_i rfl (Nat.le_refl _) trivial ⟨some z, wm, hbk, hK, Or.inr ⟨z, (0, 0, x0, nn, x2, gk, gs, gi, gn), rfl, hX, hXA, hx1, hx0, rx_ret (show (-1) = cirV (rdF gk gs gi gn) nn a2 from (cir_n (by omega)).symm)⟩⟩)
    refine hR (?_ : R (_, _, _, _, _, _))
    obtain ⟨y6w, y7w, h0w, -⟩ := top_o hT1
    obtain ⟨mc2, ms2, re2, w2, ⟨τ, q, hA2, hre2, hq, hfr2⟩, hrun2⟩ := a_ringsThereX hT1 (d + 4)
    subst hre2
    refine hR0 (0 + mc1 + mc2) (0 + ms1 + ms2) (Nat.le_add_right _ _) (Nat.le_add_right _ _) (c_obj h0w (zcall_i mc2 ms2 (Nat.le_refl _) (Nat.le_refl _) (hrun2 _ ?_)))
    refine (?_ : R (_, _, .ref q :: [], w2, 0 + mc1 + mc2, 0 + ms1 + ms2))
    have hT2 := hA2.1
    have hx2 := hA2.2.2.2.1
    obtain ⟨kp2, kz2, kk2⟩ := rx_keep hT1 hfr2 hp hz (Or.inl (rx_0 hT1))
    have hOw2 := kp2.trans hO
    have hBw2 := (kz2 z (by omega) (by omega)).trans hB
    have hAFw2 := AFK_fr hAF (fun j hj => rx_j kk2 kz2 hj)
    have hFO := AFK_ok hAF hx1
    have hpT := (hx2 p (by rw [hp]; decide)).trans hp
    have hzT := (hx2 z (by rw [hz]; decide)).trans hz
    have hdw := rx_do hT2.1 hq hpT hzT
    obtain ⟨y1, y2, y3, y4, y5, g1, g2, g3, g4, g5, g6, g7, g8, g9, g10, hQ0, hQ1, hQ2, hQ3, hQ4, hQ5, hQ6, hQ7, hQ8, hQ9, hQ10⟩ := ro_open10 hT2.1 hq
    iterate 3 refine hR (?_ : R (_, _, _, _, _, _))
    refine hR (c_obj hQ0 (zcall_i 0 0 (Nat.le_refl _) (Nat.le_refl _) (x_findCirclesI _ _ _ _ _ _ _ _ _ _ _ _ _ _ _ _ _ _ _ _ _ _ hQ0 hQ5 hQ6 hQ7 hQ8 hQ9 hQ10 hOw2 hBw2 hAFw2 (by omega) hds hdw hFO _ fun k1_64 k2_65 k3_66 k4_67 k5_68 T5_69 T6_70 T7_71 T8_72 T9_73 T10_74 w75 gg76 hC77 hC78 hC79 hC80 hC81 hC82 hC83 hC84 hp85 => ?_)))
    have hC87 := (gg76.2 p (by (try dsimp only); omega)).trans hOw2
    have hC88 := (gg76.2 z (by (try dsimp only); omega)).trans hBw2
    have hC89 := (gg76.2 (q + 1) (by (try dsimp only); omega)).trans hQ1
    have hC90 := (gg76.2 (q + 2) (by (try dsimp only); omega)).trans hQ2
    have hC91 := (gg76.2 (q + 3) (by (try dsimp only); omega)).trans hQ3
    have hC92 := (gg76.2 (q + 4) (by (try dsimp only); omega)).trans hQ4
    refine (?_ : R (_, _, [], w75, 0 + mc1 + mc2, 0 + ms1 + ms2))
    iterate 2 refine hR (?_ : R (_, _, _, _, _, _))
    refine hR (j_ne (by omega) (by omega) (fun _ => ?_) (fun hc => by omega))
    refine hR (?_ : R (_, _, _, _, _, _))
    refine hR (t_c (-2) (by decide) ?_)
    refine hR (j_ne (by omega) (by omega) (fun _ => ?_) (fun hc => by omega))
    refine hR (?_ : R (_, _, _, _, _, _))
    refine hR (c_get hC77 rfl ?_)
    refine hR (?_ : R (_, _, _, _, _, _))
    refine hR (c_aldE hC83 (by omega) (by omega) (Nat.le_of_ble_eq_true rfl) fun v93 ev93 rv93 => ?_)
    replace ev93 : v93 = tBy T10_74 a2 := ev93
    subst ev93
    exact hR (zret_i rfl (Nat.le_refl _) trivial ⟨some z, wm, hbk, hK, Or.inr ⟨z, (0, 0, x0, nn, x2, gk, gs, gi, gn), rfl, hX, hXA, hx1, hx0, rx_ret (show tBy T10_74 a2 = cirV (rdF gk gs gi gn) nn a2 from (hp85.2.2 a2 ⟨by omega, by omega⟩).trans (cir_t (by omega)).symm)⟩⟩)
