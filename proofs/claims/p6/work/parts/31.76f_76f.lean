theorem x_isR (w : zW) (d : Nat) (a1 a2 : Int) (f0 f9 f10 f11 f12 f13 f15 f16 f17 f20 f21 f22 f23 f26 f28 f31 f32 f33 f38 f41 f44 : Int) (x14 : Int64) (g19 : Nat → Int32) (hK0 : zix w 14 = some (.inr (11, [.int (Int32.ofInt f0), .ref 15, .ref 16, .ref 17, .ref 18, .ref 19, .ref 20, .ref 21, .ref 22, .int (Int32.ofInt f9), .int (Int32.ofInt f10), .int (Int32.ofInt f11), .int (Int32.ofInt f12), .int (Int32.ofInt f13), .long x14, .int (Int32.ofInt f15), .int (Int32.ofInt f16), .int (Int32.ofInt f17), .ref 23, .ref 24, .int (Int32.ofInt f20), .int (Int32.ofInt f21), .int (Int32.ofInt f22), .int (Int32.ofInt f23), .ref 25, .ref 26, .int (Int32.ofInt f26), .ref 27, .int (Int32.ofInt f28), .ref 28, .ref 29, .int (Int32.ofInt f31), .int (Int32.ofInt f32), .int (Int32.ofInt f33), .ref 30, .ref 31, .ref 32, .ref 33, .int (Int32.ofInt f38), .ref 34, .ref 35, .int (Int32.ofInt f41), .ref 36, .ref 37, .int (Int32.ofInt f44), .ref 38, .ref 39, .ref 40, .ref 41, .ref 42, .ref 43, .ref 44]))) (hK1 : zix w 19 = some (.inl (1, 12, .inl g19))) (hr0 : 0 ≤ a1 ∧ a1 ≤ 2) (hr1 : (-2147483648 ≤ a2 ∧ a2 ≤ 2147483647)) (hr2 : ∀ i : Int, 0 ≤ i → i ≤ 2 → 0 ≤ tBy g19 i ∧ tBy g19 i ≤ 2) (Q : zQ) (h : ∀ (v : Int), ((v = 1 ∧ 0 ≤ a2 ∧ a2 < tBy g19 a1) ∨ (v = 0 ∧ (a2 < 0 ∨ tBy g19 a1 ≤ a2))) → Q (some (.int (Int32.ofInt v))) w) : zCl zTab (d + 2) iX12_is [.ref 14, .int (Int32.ofInt a1), .int (Int32.ofInt a2)] w 0 0 Q := by
  refine zCl_i (M := kX12_is) rfl (Nat.le_of_ble_eq_true rfl) fun R hR => ?_
  iterate 3 refine hR (?_ : R (_, _, _, _, _, _))
  refine hR (c_get hK0 rfl ?_)
  refine hR (?_ : R (_, _, _, _, _, _))
  refine hR (c_aldE hK1 (by omega) (by omega) (Nat.le_of_ble_eq_true rfl) fun v1 ev1 rv1 => ?_)
  replace ev1 : v1 = tBy g19 a1 := ev1
  subst ev1
  have hs := hr2 a1 (by omega) (by omega)
  refine hR (?_ : R (_, _, _, _, _, _))
  refine hR (t_sub ?_)
  refine hR (zcall_i 0 0 (Nat.le_of_ble_eq_true rfl) (Nat.le_of_ble_eq_true rfl) (m_in _ a2 0 ((tBy g19 a1) - 1) _ (by omega) (by omega) (by omega) _ fun v2 hp3 => ?_))
  refine (?_ : R (_, _, .int (Int32.ofInt v2) :: [], w, 0, 0))
  exact hR (zret_i rfl (Nat.le_refl _) (zbo (by omega)) (h _ (by omega)))
theorem x_ofR (w : zW) (d : Nat) (a1 : Int) (f0 f9 f10 f11 f12 f13 f15 f16 f17 f20 f21 f22 f23 f26 f28 f31 f32 f33 f38 f41 f44 : Int) (x14 : Int64) (g20 : Nat → Int32) (hK0 : zix w 14 = some (.inr (11, [.int (Int32.ofInt f0), .ref 15, .ref 16, .ref 17, .ref 18, .ref 19, .ref 20, .ref 21, .ref 22, .int (Int32.ofInt f9), .int (Int32.ofInt f10), .int (Int32.ofInt f11), .int (Int32.ofInt f12), .int (Int32.ofInt f13), .long x14, .int (Int32.ofInt f15), .int (Int32.ofInt f16), .int (Int32.ofInt f17), .ref 23, .ref 24, .int (Int32.ofInt f20), .int (Int32.ofInt f21), .int (Int32.ofInt f22), .int (Int32.ofInt f23), .ref 25, .ref 26, .int (Int32.ofInt f26), .ref 27, .int (Int32.ofInt f28), .ref 28, .ref 29, .int (Int32.ofInt f31), .int (Int32.ofInt f32), .int (Int32.ofInt f33), .ref 30, .ref 31, .ref 32, .ref 33, .int (Int32.ofInt f38), .ref 34, .ref 35, .int (Int32.ofInt f41), .ref 36, .ref 37, .int (Int32.ofInt f44), .ref 38, .ref 39, .ref 40, .ref 41, .ref 42, .ref 43, .ref 44]))) (hK1 : zix w 20 = some (.inl (1, 408, .inl g20))) (hr0 : 0 ≤ f20 ∧ f20 ≤ 1) (hr1 : 0 ≤ a1 ∧ a1 ≤ 50) (Q : zQ) (h : ∀ (v : Int), (v = tBy g20 (51 * f20 + a1)) → Q (some (.int (Int32.ofInt v))) w) : zCl zTab (d + 1) iX12_of [.ref 14, .int (Int32.ofInt a1)] w 0 0 Q := by
  refine zCl_i (M := kX12_of) rfl (Nat.le_of_ble_eq_true rfl) fun R hR => ?_
  refine hR (?_ : R (_, _, _, _, _, _))
  refine hR (c_get hK0 rfl ?_)
  refine hR (t_c 51 (by decide) ?_)
  refine hR (?_ : R (_, _, _, _, _, _))
  refine hR (c_get hK0 rfl ?_)
  refine hR (t_mul ?_)
  refine hR (?_ : R (_, _, _, _, _, _))
  refine hR (t_add ?_)
  refine hR (c_aldE hK1 (by omega) (by omega) (Nat.le_of_ble_eq_true rfl) fun v1 ev1 rv1 => ?_)
  replace ev1 : v1 = tBy g20 ((51 * f20) + a1) := ev1
  subst ev1
  exact hR (zret_i rfl (Nat.le_refl _) trivial (h _ rfl))
theorem x_handR (w : zW) (d : Nat) (a1 : Int) (f0 f9 f10 f11 f12 f13 f15 f16 f17 f20 f21 f22 f23 f26 f28 f31 f32 f33 f38 f41 f44 : Int) (x14 : Int64) (g19 g20 : Nat → Int32) (hK0 : zix w 14 = some (.inr (11, [.int (Int32.ofInt f0), .ref 15, .ref 16, .ref 17, .ref 18, .ref 19, .ref 20, .ref 21, .ref 22, .int (Int32.ofInt f9), .int (Int32.ofInt f10), .int (Int32.ofInt f11), .int (Int32.ofInt f12), .int (Int32.ofInt f13), .long x14, .int (Int32.ofInt f15), .int (Int32.ofInt f16), .int (Int32.ofInt f17), .ref 23, .ref 24, .int (Int32.ofInt f20), .int (Int32.ofInt f21), .int (Int32.ofInt f22), .int (Int32.ofInt f23), .ref 25, .ref 26, .int (Int32.ofInt f26), .ref 27, .int (Int32.ofInt f28), .ref 28, .ref 29, .int (Int32.ofInt f31), .int (Int32.ofInt f32), .int (Int32.ofInt f33), .ref 30, .ref 31, .ref 32, .ref 33, .int (Int32.ofInt f38), .ref 34, .ref 35, .int (Int32.ofInt f41), .ref 36, .ref 37, .int (Int32.ofInt f44), .ref 38, .ref 39, .ref 40, .ref 41, .ref 42, .ref 43, .ref 44]))) (hK1 : zix w 19 = some (.inl (1, 12, .inl g19))) (hK2 : zix w 20 = some (.inl (1, 408, .inl g20))) (hr0 : (-2147483648 ≤ a1 ∧ a1 ≤ 2147483647)) (hr1 : ∀ i : Int, 0 ≤ i → i ≤ 2 → 0 ≤ tBy g19 i ∧ tBy g19 i ≤ 2) (Q : zQ) (h : ∀ (v : Int) (y20 y22 y23 : Int) (w' : zW), wfM (fun j => j ≠ 14) w w' → zix w' 14 = some (.inr (11, [.int (Int32.ofInt f0), .ref 15, .ref 16, .ref 17, .ref 18, .ref 19, .ref 20, .ref 21, .ref 22, .int (Int32.ofInt f9), .int (Int32.ofInt f10), .int (Int32.ofInt f11), .int (Int32.ofInt f12), .int (Int32.ofInt f13), .long x14, .int (Int32.ofInt f15), .int (Int32.ofInt f16), .int (Int32.ofInt f17), .ref 23, .ref 24, .int (Int32.ofInt y20), .int (Int32.ofInt f21), .int (Int32.ofInt y22), .int (Int32.ofInt y23), .ref 25, .ref 26, .int (Int32.ofInt f26), .ref 27, .int (Int32.ofInt f28), .ref 28, .ref 29, .int (Int32.ofInt f31), .int (Int32.ofInt f32), .int (Int32.ofInt f33), .ref 30, .ref 31, .ref 32, .ref 33, .int (Int32.ofInt f38), .ref 34, .ref 35, .int (Int32.ofInt f41), .ref 36, .ref 37, .int (Int32.ofInt f44), .ref 38, .ref 39, .ref 40, .ref 41, .ref 42, .ref 43, .ref 44])) → ((v = 1 ∧ 0 ≤ a1 ∧ a1 < tBy g19 0 ∧ a1 ≤ 1 ∧ y20 = a1 ∧ y22 = tBy g20 (51 * a1 + 0) ∧ y23 = tBy g20 (51 * a1 + 1)) ∨ (v = 0 ∧ (a1 < 0 ∨ tBy g19 0 ≤ a1) ∧ y20 = f20 ∧ y22 = f22 ∧ y23 = f23)) → Q (some (.int (Int32.ofInt v))) w') : zCl zTab (d + 3) iX12_hand [.ref 14, .int (Int32.ofInt a1)] w 0 0 Q := by
  refine zCl_i (M := kX12_hand) rfl (Nat.le_of_ble_eq_true rfl) fun R hR => ?_
  have fr0 : wfM (fun j => j ≠ 14) w w := wfM_rf _ w
  have h190 := hr1 0 (by omega) (by omega)
  have nX0 : FX (∀ j : Nat, (j ≠ 14) → j ≠ 14) := fun j hj => by omega
  iterate 3 refine hR (?_ : R (_, _, _, _, _, _))
  refine hR (c_obj hK0 (zcall_i 0 0 (Nat.le_of_ble_eq_true rfl) (Nat.le_of_ble_eq_true rfl) (x_isR _ _ _ _ _ _ _ _ _ _ _ _ _ _ _ _ _ _ _ _ _ _ _ _ _ _ _ hK0 hK1 (by omega) (by omega) hr1 _ fun v1 hp2 => ?_)))
  refine (?_ : R (_, _, .int (Int32.ofInt v1) :: [], w, 0, 0))
  refine hR (k_ne (by omega) (fun hc3 => ?_) (fun hc3 => ?_))
  rotate_left
  · skip
    refine hR (?_ : R (_, _, _, _, _, _))
    exact hR (zret_i rfl (Nat.le_refl _) (zbo (by omega)) (h _ _ _ _ _ fr0 hK0 (Or.inr ⟨rfl, by omega, rfl, rfl, rfl⟩)))
  iterate 2 refine hR (?_ : R (_, _, _, _, _, _))
  refine hR (c_put hK0 rfl rfl fun w4 ff4 hC4 => ?_)
  have fr5 := wfM_st fr0 ff4 nX0
  have hC6 := (ff4.2 19 (by (try dsimp only); decide)).trans hK1
  have hC7 := (ff4.2 20 (by (try dsimp only); decide)).trans hK2
  replace hC4 : zix w4 14 = some (.inr (11, [.int (Int32.ofInt f0), .ref 15, .ref 16, .ref 17, .ref 18, .ref 19, .ref 20, .ref 21, .ref 22, .int (Int32.ofInt f9), .int (Int32.ofInt f10), .int (Int32.ofInt f11), .int (Int32.ofInt f12), .int (Int32.ofInt f13), .long x14, .int (Int32.ofInt f15), .int (Int32.ofInt f16), .int (Int32.ofInt f17), .ref 23, .ref 24, .int (Int32.ofInt a1), .int (Int32.ofInt f21), .int (Int32.ofInt f22), .int (Int32.ofInt f23), .ref 25, .ref 26, .int (Int32.ofInt f26), .ref 27, .int (Int32.ofInt f28), .ref 28, .ref 29, .int (Int32.ofInt f31), .int (Int32.ofInt f32), .int (Int32.ofInt f33), .ref 30, .ref 31, .ref 32, .ref 33, .int (Int32.ofInt f38), .ref 34, .ref 35, .int (Int32.ofInt f41), .ref 36, .ref 37, .int (Int32.ofInt f44), .ref 38, .ref 39, .ref 40, .ref 41, .ref 42, .ref 43, .ref 44])) := hC4
  iterate 3 refine hR (?_ : R (_, _, _, _, _, _))
  refine hR (c_obj hC4 (zcall_i 0 0 (Nat.le_of_ble_eq_true rfl) (Nat.le_of_ble_eq_true rfl) (x_ofR _ _ _ _ _ _ _ _ _ _ _ _ _ _ _ _ _ _ _ _ _ _ _ _ _ _ hC4 hC7 (by omega) (by omega) _ fun v8 hp9 => ?_)))
  subst hp9
  refine (?_ : R (_, _, .int (Int32.ofInt (tBy g20 (51 * a1 + 0))) :: .ref 14 :: [], w4, 0, 0))
  refine hR (c_put hC4 rfl rfl fun w10 ff10 hC10 => ?_)
  have fr11 := wfM_st fr5 ff10 nX0
  have hC12 := (ff10.2 19 (by (try dsimp only); decide)).trans hC6
  have hC13 := (ff10.2 20 (by (try dsimp only); decide)).trans hC7
  replace hC10 : zix w10 14 = some (.inr (11, [.int (Int32.ofInt f0), .ref 15, .ref 16, .ref 17, .ref 18, .ref 19, .ref 20, .ref 21, .ref 22, .int (Int32.ofInt f9), .int (Int32.ofInt f10), .int (Int32.ofInt f11), .int (Int32.ofInt f12), .int (Int32.ofInt f13), .long x14, .int (Int32.ofInt f15), .int (Int32.ofInt f16), .int (Int32.ofInt f17), .ref 23, .ref 24, .int (Int32.ofInt a1), .int (Int32.ofInt f21), .int (Int32.ofInt (tBy g20 (51 * a1 + 0))), .int (Int32.ofInt f23), .ref 25, .ref 26, .int (Int32.ofInt f26), .ref 27, .int (Int32.ofInt f28), .ref 28, .ref 29, .int (Int32.ofInt f31), .int (Int32.ofInt f32), .int (Int32.ofInt f33), .ref 30, .ref 31, .ref 32, .ref 33, .int (Int32.ofInt f38), .ref 34, .ref 35, .int (Int32.ofInt f41), .ref 36, .ref 37, .int (Int32.ofInt f44), .ref 38, .ref 39, .ref 40, .ref 41, .ref 42, .ref 43, .ref 44])) := hC10
  iterate 3 refine hR (?_ : R (_, _, _, _, _, _))
  refine hR (c_obj hC10 (zcall_i 0 0 (Nat.le_of_ble_eq_true rfl) (Nat.le_of_ble_eq_true rfl) (x_ofR _ _ _ _ _ _ _ _ _ _ _ _ _ _ _ _ _ _ _ _ _ _ _ _ _ _ hC10 hC13 (by omega) (by omega) _ fun v14 hp15 => ?_)))
  subst hp15
  refine (?_ : R (_, _, .int (Int32.ofInt (tBy g20 (51 * a1 + 1))) :: .ref 14 :: [], w10, 0, 0))
  refine hR (c_put hC10 rfl rfl fun w16 ff16 hC16 => ?_)
  have fr17 := wfM_st fr11 ff16 nX0
  have hC18 := (ff16.2 19 (by (try dsimp only); decide)).trans hC12
  have hC19 := (ff16.2 20 (by (try dsimp only); decide)).trans hC13
  replace hC16 : zix w16 14 = some (.inr (11, [.int (Int32.ofInt f0), .ref 15, .ref 16, .ref 17, .ref 18, .ref 19, .ref 20, .ref 21, .ref 22, .int (Int32.ofInt f9), .int (Int32.ofInt f10), .int (Int32.ofInt f11), .int (Int32.ofInt f12), .int (Int32.ofInt f13), .long x14, .int (Int32.ofInt f15), .int (Int32.ofInt f16), .int (Int32.ofInt f17), .ref 23, .ref 24, .int (Int32.ofInt a1), .int (Int32.ofInt f21), .int (Int32.ofInt (tBy g20 (51 * a1 + 0))), .int (Int32.ofInt (tBy g20 (51 * a1 + 1))), .ref 25, .ref 26, .int (Int32.ofInt f26), .ref 27, .int (Int32.ofInt f28), .ref 28, .ref 29, .int (Int32.ofInt f31), .int (Int32.ofInt f32), .int (Int32.ofInt f33), .ref 30, .ref 31, .ref 32, .ref 33, .int (Int32.ofInt f38), .ref 34, .ref 35, .int (Int32.ofInt f41), .ref 36, .ref 37, .int (Int32.ofInt f44), .ref 38, .ref 39, .ref 40, .ref 41, .ref 42, .ref 43, .ref 44])) := hC16
  refine hR (?_ : R (_, _, _, _, _, _))
  exact hR (zret_i rfl (Nat.le_refl _) (zbo (by omega)) (h _ _ _ _ _ fr17 hC16 (Or.inl ⟨rfl, by omega, by omega, by omega, rfl, rfl, rfl⟩)))
theorem x_bookR (w : zW) (d : Nat) (a1 a2 : Int) (f0 f9 f10 f11 f12 f13 f15 f16 f17 f20 f21 f22 f23 f26 f28 f31 f32 f33 f38 f41 f44 : Int) (x14 : Int64) (g19 g20 : Nat → Int32) (hK0 : zix w 14 = some (.inr (11, [.int (Int32.ofInt f0), .ref 15, .ref 16, .ref 17, .ref 18, .ref 19, .ref 20, .ref 21, .ref 22, .int (Int32.ofInt f9), .int (Int32.ofInt f10), .int (Int32.ofInt f11), .int (Int32.ofInt f12), .int (Int32.ofInt f13), .long x14, .int (Int32.ofInt f15), .int (Int32.ofInt f16), .int (Int32.ofInt f17), .ref 23, .ref 24, .int (Int32.ofInt f20), .int (Int32.ofInt f21), .int (Int32.ofInt f22), .int (Int32.ofInt f23), .ref 25, .ref 26, .int (Int32.ofInt f26), .ref 27, .int (Int32.ofInt f28), .ref 28, .ref 29, .int (Int32.ofInt f31), .int (Int32.ofInt f32), .int (Int32.ofInt f33), .ref 30, .ref 31, .ref 32, .ref 33, .int (Int32.ofInt f38), .ref 34, .ref 35, .int (Int32.ofInt f41), .ref 36, .ref 37, .int (Int32.ofInt f44), .ref 38, .ref 39, .ref 40, .ref 41, .ref 42, .ref 43, .ref 44]))) (hK1 : zix w 19 = some (.inl (1, 12, .inl g19))) (hK2 : zix w 20 = some (.inl (1, 408, .inl g20))) (hr0 : (-2147483648 ≤ a1 ∧ a1 ≤ 2147483647) ∧ (-2147483648 ≤ a2 ∧ a2 ≤ 2147483647)) (hr1 : ∀ i : Int, 0 ≤ i → i ≤ 2 → 0 ≤ tBy g19 i ∧ tBy g19 i ≤ 2) (hr2 : ∀ b : Int, 0 ≤ b → b ≤ 1 → 0 ≤ tBy g20 (51 * b + 1) ∧ tBy g20 (51 * b + 1) ≤ 5) (hr3 : ∀ b i : Int, 0 ≤ b → b ≤ 1 → 0 ≤ i → i < 5 → 0 ≤ tBy g20 (51 * b + (6 + i)) ∧ tBy g20 (51 * b + (6 + i)) ≤ 4) (Q : zQ) (h : ∀ (v : Int) (y20 y22 y23 : Int) (w' : zW), wfM (fun j => j ≠ 14) w w' → zix w' 14 = some (.inr (11, [.int (Int32.ofInt 0), .ref 15, .ref 16, .ref 17, .ref 18, .ref 19, .ref 20, .ref 21, .ref 22, .int (Int32.ofInt f9), .int (Int32.ofInt f10), .int (Int32.ofInt f11), .int (Int32.ofInt f12), .int (Int32.ofInt f13), .long x14, .int (Int32.ofInt f15), .int (Int32.ofInt f16), .int (Int32.ofInt f17), .ref 23, .ref 24, .int (Int32.ofInt y20), .int (Int32.ofInt f21), .int (Int32.ofInt y22), .int (Int32.ofInt y23), .ref 25, .ref 26, .int (Int32.ofInt f26), .ref 27, .int (Int32.ofInt f28), .ref 28, .ref 29, .int (Int32.ofInt f31), .int (Int32.ofInt f32), .int (Int32.ofInt f33), .ref 30, .ref 31, .ref 32, .ref 33, .int (Int32.ofInt f38), .ref 34, .ref 35, .int (Int32.ofInt f41), .ref 36, .ref 37, .int (Int32.ofInt f44), .ref 38, .ref 39, .ref 40, .ref 41, .ref 42, .ref 43, .ref 44])) → (((a1 < 0 ∨ tBy g19 0 ≤ a1) ∧ v = -1) ∨ ((0 ≤ a1 ∧ a1 < tBy g19 0) ∧ v = rkB g20 (51 * a1) a2)) → Q (some (.int (Int32.ofInt v))) w') : zCl zTab (d + 4) iX12_book [.ref 14, .int (Int32.ofInt a1), .int (Int32.ofInt a2)] w 0 0 Q := by
  refine zCl_i (M := kX12_book) rfl (Nat.le_of_ble_eq_true rfl) fun R hR => ?_
  have fr0 : wfM (fun j => j ≠ 14) w w := wfM_rf _ w
  have h190 := hr1 0 (by omega) (by omega)
  have nX0 : FX (∀ j : Nat, (j ≠ 14) → j ≠ 14) := fun j hj => by omega
  have nX1 : FX (∀ j : Nat, (j ≠ 14) → (j ≠ 14)) := fun j hj => by omega
  iterate 2 refine hR (?_ : R (_, _, _, _, _, _))
  refine hR (c_put hK0 rfl rfl fun w1 ff1 hC1 => ?_)
  have fr2 := wfM_st fr0 ff1 nX0
  have hC3 := (ff1.2 19 (by (try dsimp only); decide)).trans hK1
  have hC4 := (ff1.2 20 (by (try dsimp only); decide)).trans hK2
  replace hC1 : zix w1 14 = some (.inr (11, [.int (Int32.ofInt 0), .ref 15, .ref 16, .ref 17, .ref 18, .ref 19, .ref 20, .ref 21, .ref 22, .int (Int32.ofInt f9), .int (Int32.ofInt f10), .int (Int32.ofInt f11), .int (Int32.ofInt f12), .int (Int32.ofInt f13), .long x14, .int (Int32.ofInt f15), .int (Int32.ofInt f16), .int (Int32.ofInt f17), .ref 23, .ref 24, .int (Int32.ofInt f20), .int (Int32.ofInt f21), .int (Int32.ofInt f22), .int (Int32.ofInt f23), .ref 25, .ref 26, .int (Int32.ofInt f26), .ref 27, .int (Int32.ofInt f28), .ref 28, .ref 29, .int (Int32.ofInt f31), .int (Int32.ofInt f32), .int (Int32.ofInt f33), .ref 30, .ref 31, .ref 32, .ref 33, .int (Int32.ofInt f38), .ref 34, .ref 35, .int (Int32.ofInt f41), .ref 36, .ref 37, .int (Int32.ofInt f44), .ref 38, .ref 39, .ref 40, .ref 41, .ref 42, .ref 43, .ref 44])) := hC1
  iterate 2 refine hR (?_ : R (_, _, _, _, _, _))
  refine hR (c_obj hC1 (zcall_i 0 0 (Nat.le_of_ble_eq_true rfl) (Nat.le_of_ble_eq_true rfl) (x_handR _ _ _ _ _ _ _ _ _ _ _ _ _ _ _ _ _ _ _ _ _ _ _ _ _ _ _ hC1 hC3 hC4 (by omega) hr1 _ fun v5 y20_6 y22_7 y23_8 w9 gg10 hC11 hp12 => ?_)))
  have fr13 := wfM_tr fr2 gg10 nX1
  have hC14 := (gg10.2 19 (by (try dsimp only); decide)).trans hC3
  have hC15 := (gg10.2 20 (by (try dsimp only); decide)).trans hC4
  refine (?_ : R (_, _, .int (Int32.ofInt v5) :: [], w9, 0, 0))
  refine hR (k_ne (by omega) (fun hc16 => ?_) (fun hc16 => ?_))
  rotate_left
  · skip
    refine hR (?_ : R (_, _, _, _, _, _))
    exact hR (zret_i rfl (Nat.le_refl _) trivial (h _ _ _ _ _ fr13 hC11 (Or.inl ⟨by omega, rfl⟩)))
  have ht : 0 ≤ a1 ∧ a1 < tBy g19 0 ∧ a1 ≤ 1 := by omega
  have hyy : a1 = y20_6 := by omega
  subst hyy
  have hb1 := hr2 a1 (by omega) (by omega)
  refine hR (?_ : R (_, _, _, _, _, _))
  refine hR (t_c 10 (by decide) ?_)
  refine hR (t_c 13 (by decide) ?_)
  refine hR (zcall_i 0 0 (Nat.le_of_ble_eq_true rfl) (Nat.le_of_ble_eq_true rfl) (m_in _ a2 10 13 _ (by omega) (by omega) (by omega) _ fun v17 hp18 => ?_))
  refine (?_ : R (_, _, .int (Int32.ofInt v17) :: [], w9, 0, 0))
  refine hR (k_eq (by omega) (fun hc19 => ?_) (fun hc19 => ?_))
  rotate_left
  · skip
    iterate 3 refine hR (?_ : R (_, _, _, _, _, _))
    refine hR (t_add ?_)
    refine hR (t_c 10 (by decide) ?_)
    refine hR (t_sub ?_)
    refine hR (c_obj hC11 (zcall_i 0 0 (Nat.le_of_ble_eq_true rfl) (Nat.le_of_ble_eq_true rfl) (x_ofR _ _ _ _ _ _ _ _ _ _ _ _ _ _ _ _ _ _ _ _ _ _ _ _ _ _ hC11 hC15 (by omega) (by omega) _ fun v35 hp36 => ?_)))
    subst hp36
    refine (?_ : R (_, _, .int (Int32.ofInt (tBy g20 (51 * a1 + ((2 + a2) - 10)))) :: [], w9, 0, 0))
    exact hR (zret_i rfl (Nat.le_refl _) trivial (h _ _ _ _ _ fr13 hC11 (Or.inr ⟨by omega, (by unfold rkB; (repeat' split) <;> first | rfl | omega | (exact congrArg (tBy _) (by omega)))⟩)))
  refine hR (?_ : R (_, _, _, _, _, _))
  refine hR (t_c 20 (by decide) ?_)
  refine hR (t_c 19 (by decide) ?_)
  refine hR (?_ : R (_, _, _, _, _, _))
  refine hR (c_get hC11 rfl ?_)
  refine hR (t_add ?_)
  refine hR (zcall_i 0 0 (Nat.le_of_ble_eq_true rfl) (Nat.le_of_ble_eq_true rfl) (m_in _ a2 20 (19 + y23_8) _ (by omega) (by omega) (by omega) _ fun v20 hp21 => ?_))
  refine (?_ : R (_, _, .int (Int32.ofInt v20) :: [], w9, 0, 0))
  refine hR (k_eq (by omega) (fun hc22 => ?_) (fun hc22 => ?_))
  rotate_left
  · skip
    refine hR (?_ : R (_, _, _, _, _, _))
    refine hR (t_c 6 (by decide) ?_)
    refine hR (?_ : R (_, _, _, _, _, _))
    refine hR (t_add ?_)
    refine hR (t_c 20 (by decide) ?_)
    refine hR (t_sub ?_)
    refine hR (c_obj hC11 (zcall_i 0 0 (Nat.le_of_ble_eq_true rfl) (Nat.le_of_ble_eq_true rfl) (x_ofR _ _ _ _ _ _ _ _ _ _ _ _ _ _ _ _ _ _ _ _ _ _ _ _ _ _ hC11 hC15 (by omega) (by omega) _ fun v33 hp34 => ?_)))
    subst hp34
    refine (?_ : R (_, _, .int (Int32.ofInt (tBy g20 (51 * a1 + ((6 + a2) - 20)))) :: [], w9, 0, 0))
    exact hR (zret_i rfl (Nat.le_refl _) trivial (h _ _ _ _ _ fr13 hC11 (Or.inr ⟨by omega, (by unfold rkB; (repeat' split) <;> first | rfl | omega | (exact congrArg (tBy _) (by omega)))⟩)))
  refine hR (?_ : R (_, _, _, _, _, _))
  refine hR (t_c 30 (by decide) ?_)
  refine hR (t_c 29 (by decide) ?_)
  refine hR (t_c 10 (by decide) ?_)
  refine hR (?_ : R (_, _, _, _, _, _))
  refine hR (c_get hC11 rfl ?_)
  refine hR (t_mul ?_)
  refine hR (t_add ?_)
  refine hR (zcall_i 0 0 (Nat.le_of_ble_eq_true rfl) (Nat.le_of_ble_eq_true rfl) (m_in _ a2 30 (29 + (10 * y23_8)) _ (by omega) (by omega) (by omega) _ fun v23 hp24 => ?_))
  refine (?_ : R (_, _, .int (Int32.ofInt v23) :: [], w9, 0, 0))
  refine hR (k_eq (by omega) (fun hc25 => ?_) (fun hc25 => ?_))
  · skip
    refine hR (?_ : R (_, _, _, _, _, _))
    refine hR (k_ne (by omega) (fun hc26 => ?_) (fun hc26 => ?_))
    rotate_left
    · skip
      refine hR (?_ : R (_, _, _, _, _, _))
      refine hR (c_get hC11 rfl ?_)
      refine hR (?_ : R (_, _, _, _, _, _))
      exact hR (zret_i rfl (Nat.le_refl _) trivial (h _ _ _ _ _ fr13 hC11 (Or.inr ⟨by omega, (by unfold rkB; (repeat' split) <;> first | rfl | omega | (exact congrArg (tBy _) (by omega)))⟩)))
    iterate 2 refine hR (?_ : R (_, _, _, _, _, _))
    refine hR (j_ne (by omega) (by omega) (fun hc27 => ?_) (fun hc27 => ?_))
    · skip
      refine hR (?_ : R (_, _, _, _, _, _))
      exact hR (zret_i rfl (Nat.le_refl _) trivial (h _ _ _ _ _ fr13 hC11 (Or.inr ⟨by omega, (by unfold rkB; (repeat' split) <;> first | rfl | omega | (exact congrArg (tBy _) (by omega)))⟩)))
    refine hR (?_ : R (_, _, _, _, _, _))
    refine hR (c_get hC11 rfl ?_)
    refine hR (?_ : R (_, _, _, _, _, _))
    exact hR (zret_i rfl (Nat.le_refl _) trivial (h _ _ _ _ _ fr13 hC11 (Or.inr ⟨by omega, (by unfold rkB; (repeat' split) <;> first | rfl | omega | (exact congrArg (tBy _) (by omega)))⟩)))
  refine hR (?_ : R (_, _, _, _, _, _))
  refine hR (t_c 30 (by decide) ?_)
  refine hR (t_sub ?_)
  refine hR (t_c 10 (by decide) ?_)
  refine hR (t_div (by omega) (by omega) (by omega) (by omega) ?_)
  iterate 2 refine hR (?_ : R (_, _, _, _, _, _))
  refine hR (t_c 10 (by decide) ?_)
  refine hR (t_rem (by omega) (by omega) (by omega) (by omega) ?_)
  iterate 4 refine hR (?_ : R (_, _, _, _, _, _))
  refine hR (t_c 6 (by decide) ?_)
  refine hR (?_ : R (_, _, _, _, _, _))
  refine hR (t_add ?_)
  have hb2 := hr3 a1 ((a2 - 30) / 10) (by omega) (by omega) (by omega) (by omega)
  refine hR (c_obj hC11 (zcall_i 0 0 (Nat.le_of_ble_eq_true rfl) (Nat.le_of_ble_eq_true rfl) (x_ofR _ _ _ _ _ _ _ _ _ _ _ _ _ _ _ _ _ _ _ _ _ _ _ _ _ _ hC11 hC15 (by omega) (by omega) _ fun v28 hp29 => ?_)))
  subst hp29
  refine (?_ : R (_, _, .int (Int32.ofInt (tBy g20 (51 * a1 + (6 + ((a2 - 30) / 10))))) :: .int (Int32.ofInt 2) :: .int (Int32.ofInt (a2 % 10)) :: [], w9, 0, 0))
  refine hR (t_mul ?_)
  refine hR (j_ge (by omega) (by omega) (fun hc30 => ?_) (fun hc30 => ?_))
  · skip
    refine hR (?_ : R (_, _, _, _, _, _))
    exact hR (zret_i rfl (Nat.le_refl _) trivial (h _ _ _ _ _ fr13 hC11 (Or.inr ⟨by omega, (by unfold rkB; (repeat' split) <;> first | rfl | omega | (exact congrArg (tBy _) (by omega)))⟩)))
  refine hR (?_ : R (_, _, _, _, _, _))
  refine hR (t_c 11 (by decide) ?_)
  refine hR (t_c 8 (by decide) ?_)
  refine hR (?_ : R (_, _, _, _, _, _))
  refine hR (t_mul ?_)
  refine hR (t_add ?_)
  refine hR (?_ : R (_, _, _, _, _, _))
  refine hR (t_add ?_)
  refine hR (c_obj hC11 (zcall_i 0 0 (Nat.le_of_ble_eq_true rfl) (Nat.le_of_ble_eq_true rfl) (x_ofR _ _ _ _ _ _ _ _ _ _ _ _ _ _ _ _ _ _ _ _ _ _ _ _ _ _ hC11 hC15 (by omega) (by omega) _ fun v31 hp32 => ?_)))
  subst hp32
  refine (?_ : R (_, _, .int (Int32.ofInt (tBy g20 (51 * a1 + ((11 + (8 * ((a2 - 30) / 10))) + (a2 % 10))))) :: [], w9, 0, 0))
  refine hR (?_ : R (_, _, _, _, _, _))
  exact hR (zret_i rfl (Nat.le_refl _) trivial (h _ _ _ _ _ fr13 hC11 (Or.inr ⟨by omega, (by unfold rkB; (repeat' split) <;> first | rfl | omega | (exact congrArg (tBy _) (by omega)))⟩)))
theorem x_hasYearR (w : zW) (d : Nat) (a1 : Int) (f0 f9 f10 f11 f12 f13 f15 f16 f17 f20 f21 f22 f23 f26 f28 f31 f32 f33 f38 f41 f44 : Int) (x14 : Int64) (g19 : Nat → Int32) (hK0 : zix w 14 = some (.inr (11, [.int (Int32.ofInt f0), .ref 15, .ref 16, .ref 17, .ref 18, .ref 19, .ref 20, .ref 21, .ref 22, .int (Int32.ofInt f9), .int (Int32.ofInt f10), .int (Int32.ofInt f11), .int (Int32.ofInt f12), .int (Int32.ofInt f13), .long x14, .int (Int32.ofInt f15), .int (Int32.ofInt f16), .int (Int32.ofInt f17), .ref 23, .ref 24, .int (Int32.ofInt f20), .int (Int32.ofInt f21), .int (Int32.ofInt f22), .int (Int32.ofInt f23), .ref 25, .ref 26, .int (Int32.ofInt f26), .ref 27, .int (Int32.ofInt f28), .ref 28, .ref 29, .int (Int32.ofInt f31), .int (Int32.ofInt f32), .int (Int32.ofInt f33), .ref 30, .ref 31, .ref 32, .ref 33, .int (Int32.ofInt f38), .ref 34, .ref 35, .int (Int32.ofInt f41), .ref 36, .ref 37, .int (Int32.ofInt f44), .ref 38, .ref 39, .ref 40, .ref 41, .ref 42, .ref 43, .ref 44]))) (hK1 : zix w 19 = some (.inl (1, 12, .inl g19))) (hr0 : (-2147483648 ≤ a1 ∧ a1 ≤ 2147483647)) (hr1 : ∀ i : Int, 0 ≤ i → i ≤ 2 → 0 ≤ tBy g19 i ∧ tBy g19 i ≤ 2) (Q : zQ) (h : ∀ (v : Int) (y28 : Int) (w' : zW), wfM (fun j => j ≠ 14) w w' → zix w' 14 = some (.inr (11, [.int (Int32.ofInt f0), .ref 15, .ref 16, .ref 17, .ref 18, .ref 19, .ref 20, .ref 21, .ref 22, .int (Int32.ofInt f9), .int (Int32.ofInt f10), .int (Int32.ofInt f11), .int (Int32.ofInt f12), .int (Int32.ofInt f13), .long x14, .int (Int32.ofInt f15), .int (Int32.ofInt f16), .int (Int32.ofInt f17), .ref 23, .ref 24, .int (Int32.ofInt f20), .int (Int32.ofInt f21), .int (Int32.ofInt f22), .int (Int32.ofInt f23), .ref 25, .ref 26, .int (Int32.ofInt f26), .ref 27, .int (Int32.ofInt y28), .ref 28, .ref 29, .int (Int32.ofInt f31), .int (Int32.ofInt f32), .int (Int32.ofInt f33), .ref 30, .ref 31, .ref 32, .ref 33, .int (Int32.ofInt f38), .ref 34, .ref 35, .int (Int32.ofInt f41), .ref 36, .ref 37, .int (Int32.ofInt f44), .ref 38, .ref 39, .ref 40, .ref 41, .ref 42, .ref 43, .ref 44])) → ((v = 1 ∧ 0 ≤ a1 ∧ a1 < tBy g19 1 ∧ a1 ≤ 1 ∧ y28 = a1) ∨ (v = 0 ∧ (a1 < 0 ∨ tBy g19 1 ≤ a1) ∧ y28 = a1)) → Q (some (.int (Int32.ofInt v))) w') : zCl zTab (d + 3) iX12_hasYear [.ref 14, .int (Int32.ofInt a1)] w 0 0 Q := by
  refine zCl_i (M := kX12_hasYear) rfl (Nat.le_of_ble_eq_true rfl) fun R hR => ?_
  have fr0 : wfM (fun j => j ≠ 14) w w := wfM_rf _ w
  have h19i := hr1 1 (by omega) (by omega)
  have nX0 : FX (∀ j : Nat, (j ≠ 14) → j ≠ 14) := fun j hj => by omega
  iterate 2 refine hR (?_ : R (_, _, _, _, _, _))
  refine hR (c_put hK0 rfl rfl fun w1 ff1 hC1 => ?_)
  have fr2 := wfM_st fr0 ff1 nX0
  have hC3 := (ff1.2 19 (by (try dsimp only); decide)).trans hK1
  replace hC1 : zix w1 14 = some (.inr (11, [.int (Int32.ofInt f0), .ref 15, .ref 16, .ref 17, .ref 18, .ref 19, .ref 20, .ref 21, .ref 22, .int (Int32.ofInt f9), .int (Int32.ofInt f10), .int (Int32.ofInt f11), .int (Int32.ofInt f12), .int (Int32.ofInt f13), .long x14, .int (Int32.ofInt f15), .int (Int32.ofInt f16), .int (Int32.ofInt f17), .ref 23, .ref 24, .int (Int32.ofInt f20), .int (Int32.ofInt f21), .int (Int32.ofInt f22), .int (Int32.ofInt f23), .ref 25, .ref 26, .int (Int32.ofInt f26), .ref 27, .int (Int32.ofInt a1), .ref 28, .ref 29, .int (Int32.ofInt f31), .int (Int32.ofInt f32), .int (Int32.ofInt f33), .ref 30, .ref 31, .ref 32, .ref 33, .int (Int32.ofInt f38), .ref 34, .ref 35, .int (Int32.ofInt f41), .ref 36, .ref 37, .int (Int32.ofInt f44), .ref 38, .ref 39, .ref 40, .ref 41, .ref 42, .ref 43, .ref 44])) := hC1
  iterate 3 refine hR (?_ : R (_, _, _, _, _, _))
  refine hR (c_obj hC1 (zcall_i 0 0 (Nat.le_of_ble_eq_true rfl) (Nat.le_of_ble_eq_true rfl) (x_isR _ _ _ _ _ _ _ _ _ _ _ _ _ _ _ _ _ _ _ _ _ _ _ _ _ _ _ hC1 hC3 (by omega) (by omega) hr1 _ fun v4 hp5 => ?_)))
  refine (?_ : R (_, _, .int (Int32.ofInt v4) :: [], w1, 0, 0))
  exact hR (zret_i rfl (Nat.le_refl _) (zbo (by omega)) (h _ _ _ fr2 hC1 (by omega)))
theorem x_deedsR (w : zW) (d : Nat) (f0 f9 f10 f11 f12 f13 f15 f16 f17 f20 f21 f22 f23 f26 f28 f31 f32 f33 f38 f41 f44 : Int) (x14 : Int64) (g21 : Nat → Int32) (hK0 : zix w 14 = some (.inr (11, [.int (Int32.ofInt f0), .ref 15, .ref 16, .ref 17, .ref 18, .ref 19, .ref 20, .ref 21, .ref 22, .int (Int32.ofInt f9), .int (Int32.ofInt f10), .int (Int32.ofInt f11), .int (Int32.ofInt f12), .int (Int32.ofInt f13), .long x14, .int (Int32.ofInt f15), .int (Int32.ofInt f16), .int (Int32.ofInt f17), .ref 23, .ref 24, .int (Int32.ofInt f20), .int (Int32.ofInt f21), .int (Int32.ofInt f22), .int (Int32.ofInt f23), .ref 25, .ref 26, .int (Int32.ofInt f26), .ref 27, .int (Int32.ofInt f28), .ref 28, .ref 29, .int (Int32.ofInt f31), .int (Int32.ofInt f32), .int (Int32.ofInt f33), .ref 30, .ref 31, .ref 32, .ref 33, .int (Int32.ofInt f38), .ref 34, .ref 35, .int (Int32.ofInt f41), .ref 36, .ref 37, .int (Int32.ofInt f44), .ref 38, .ref 39, .ref 40, .ref 41, .ref 42, .ref 43, .ref 44]))) (hK1 : zix w 21 = some (.inl (1, 968, .inl g21))) (hr0 : 0 ≤ f28 ∧ f28 ≤ 1) (Q : zQ) (h : ∀ (v : Int), (v = tBy g21 (121 * f28)) → Q (some (.int (Int32.ofInt v))) w) : zCl zTab (d + 1) iX12_deeds [.ref 14] w 0 0 Q := by
  refine zCl_i (M := kX12_deeds) rfl (Nat.le_of_ble_eq_true rfl) fun R hR => ?_
  refine hR (?_ : R (_, _, _, _, _, _))
  refine hR (c_get hK0 rfl ?_)
  refine hR (t_c 121 (by decide) ?_)
  refine hR (?_ : R (_, _, _, _, _, _))
  refine hR (c_get hK0 rfl ?_)
  refine hR (t_mul ?_)
  refine hR (c_aldE hK1 (by omega) (by omega) (Nat.le_of_ble_eq_true rfl) fun v1 ev1 rv1 => ?_)
  replace ev1 : v1 = tBy g21 (121 * f28) := ev1
  subst ev1
  exact hR (zret_i rfl (Nat.le_refl _) trivial (h _ rfl))
theorem x_deedOfR (w : zW) (d : Nat) (a1 a2 : Int) (f0 f9 f10 f11 f12 f13 f15 f16 f17 f20 f21 f22 f23 f26 f28 f31 f32 f33 f38 f41 f44 : Int) (x14 : Int64) (g21 : Nat → Int32) (hK0 : zix w 14 = some (.inr (11, [.int (Int32.ofInt f0), .ref 15, .ref 16, .ref 17, .ref 18, .ref 19, .ref 20, .ref 21, .ref 22, .int (Int32.ofInt f9), .int (Int32.ofInt f10), .int (Int32.ofInt f11), .int (Int32.ofInt f12), .int (Int32.ofInt f13), .long x14, .int (Int32.ofInt f15), .int (Int32.ofInt f16), .int (Int32.ofInt f17), .ref 23, .ref 24, .int (Int32.ofInt f20), .int (Int32.ofInt f21), .int (Int32.ofInt f22), .int (Int32.ofInt f23), .ref 25, .ref 26, .int (Int32.ofInt f26), .ref 27, .int (Int32.ofInt f28), .ref 28, .ref 29, .int (Int32.ofInt f31), .int (Int32.ofInt f32), .int (Int32.ofInt f33), .ref 30, .ref 31, .ref 32, .ref 33, .int (Int32.ofInt f38), .ref 34, .ref 35, .int (Int32.ofInt f41), .ref 36, .ref 37, .int (Int32.ofInt f44), .ref 38, .ref 39, .ref 40, .ref 41, .ref 42, .ref 43, .ref 44]))) (hK1 : zix w 21 = some (.inl (1, 968, .inl g21))) (hr0 : 0 ≤ f28 ∧ f28 ≤ 1) (hr1 : 0 ≤ a1 ∧ a1 < 40) (hr2 : 0 ≤ a2 ∧ a2 ≤ 2) (Q : zQ) (h : ∀ (v : Int), (v = tBy g21 (121 * f28 + 1 + 3 * a1 + a2)) → Q (some (.int (Int32.ofInt v))) w) : zCl zTab (d + 1) iX12_deedOf [.ref 14, .int (Int32.ofInt a1), .int (Int32.ofInt a2)] w 0 0 Q := by
  refine zCl_i (M := kX12_deedOf) rfl (Nat.le_of_ble_eq_true rfl) fun R hR => ?_
  refine hR (?_ : R (_, _, _, _, _, _))
  refine hR (c_get hK0 rfl ?_)
  refine hR (t_c 121 (by decide) ?_)
  refine hR (?_ : R (_, _, _, _, _, _))
  refine hR (c_get hK0 rfl ?_)
  refine hR (t_mul ?_)
  refine hR (?_ : R (_, _, _, _, _, _))
  refine hR (t_add ?_)
  iterate 2 refine hR (?_ : R (_, _, _, _, _, _))
  refine hR (t_mul ?_)
  refine hR (t_add ?_)
  refine hR (?_ : R (_, _, _, _, _, _))
  refine hR (t_add ?_)
  refine hR (c_aldE hK1 (by omega) (by omega) (Nat.le_of_ble_eq_true rfl) fun v1 ev1 rv1 => ?_)
  replace ev1 : v1 = tBy g21 ((((121 * f28) + 1) + (3 * a1)) + a2) := ev1
  subst ev1
  exact hR (zret_i rfl (Nat.le_refl _) trivial (h _ rfl))
theorem x_deedR (w : zW) (d : Nat) (a1 a2 a3 : Int) (f0 f9 f10 f11 f12 f13 f15 f16 f17 f20 f21 f22 f23 f26 f28 f31 f32 f33 f38 f41 f44 : Int) (x14 : Int64) (g19 g21 : Nat → Int32) (hK0 : zix w 14 = some (.inr (11, [.int (Int32.ofInt f0), .ref 15, .ref 16, .ref 17, .ref 18, .ref 19, .ref 20, .ref 21, .ref 22, .int (Int32.ofInt f9), .int (Int32.ofInt f10), .int (Int32.ofInt f11), .int (Int32.ofInt f12), .int (Int32.ofInt f13), .long x14, .int (Int32.ofInt f15), .int (Int32.ofInt f16), .int (Int32.ofInt f17), .ref 23, .ref 24, .int (Int32.ofInt f20), .int (Int32.ofInt f21), .int (Int32.ofInt f22), .int (Int32.ofInt f23), .ref 25, .ref 26, .int (Int32.ofInt f26), .ref 27, .int (Int32.ofInt f28), .ref 28, .ref 29, .int (Int32.ofInt f31), .int (Int32.ofInt f32), .int (Int32.ofInt f33), .ref 30, .ref 31, .ref 32, .ref 33, .int (Int32.ofInt f38), .ref 34, .ref 35, .int (Int32.ofInt f41), .ref 36, .ref 37, .int (Int32.ofInt f44), .ref 38, .ref 39, .ref 40, .ref 41, .ref 42, .ref 43, .ref 44]))) (hK1 : zix w 19 = some (.inl (1, 12, .inl g19))) (hK2 : zix w 21 = some (.inl (1, 968, .inl g21))) (hr0 : (-2147483648 ≤ a1 ∧ a1 ≤ 2147483647) ∧ (-2147483648 ≤ a2 ∧ a2 ≤ 2147483647) ∧ (-2147483648 ≤ a3 ∧ a3 ≤ 2147483647)) (hr1 : ∀ i : Int, 0 ≤ i → i ≤ 2 → 0 ≤ tBy g19 i ∧ tBy g19 i ≤ 2) (hr2 : ∀ b : Int, 0 ≤ b → b ≤ 1 → 0 ≤ tBy g21 (121 * b) ∧ tBy g21 (121 * b) ≤ 40) (Q : zQ) (h : ∀ (v : Int) (y28 : Int) (w' : zW), wfM (fun j => j ≠ 14) w w' → zix w' 14 = some (.inr (11, [.int (Int32.ofInt 0), .ref 15, .ref 16, .ref 17, .ref 18, .ref 19, .ref 20, .ref 21, .ref 22, .int (Int32.ofInt f9), .int (Int32.ofInt f10), .int (Int32.ofInt f11), .int (Int32.ofInt f12), .int (Int32.ofInt f13), .long x14, .int (Int32.ofInt f15), .int (Int32.ofInt f16), .int (Int32.ofInt f17), .ref 23, .ref 24, .int (Int32.ofInt f20), .int (Int32.ofInt f21), .int (Int32.ofInt f22), .int (Int32.ofInt f23), .ref 25, .ref 26, .int (Int32.ofInt f26), .ref 27, .int (Int32.ofInt y28), .ref 28, .ref 29, .int (Int32.ofInt f31), .int (Int32.ofInt f32), .int (Int32.ofInt f33), .ref 30, .ref 31, .ref 32, .ref 33, .int (Int32.ofInt f38), .ref 34, .ref 35, .int (Int32.ofInt f41), .ref 36, .ref 37, .int (Int32.ofInt f44), .ref 38, .ref 39, .ref 40, .ref 41, .ref 42, .ref 43, .ref 44])) → (((a1 < 0 ∨ tBy g19 1 ≤ a1) ∧ v = -2) ∨ ((0 ≤ a1 ∧ a1 < tBy g19 1) ∧ v = rkY g21 (121 * a1) a2 a3)) → Q (some (.int (Int32.ofInt v))) w') : zCl zTab (d + 4) iX12_deed [.ref 14, .int (Int32.ofInt a1), .int (Int32.ofInt a2), .int (Int32.ofInt a3)] w 0 0 Q := by
  refine zCl_i (M := kX12_deed) rfl (Nat.le_of_ble_eq_true rfl) fun R hR => ?_
  have fr0 : wfM (fun j => j ≠ 14) w w := wfM_rf _ w
  have h19i := hr1 1 (by omega) (by omega)
  have nX0 : FX (∀ j : Nat, (j ≠ 14) → j ≠ 14) := fun j hj => by omega
  have nX1 : FX (∀ j : Nat, (j ≠ 14) → (j ≠ 14)) := fun j hj => by omega
  iterate 2 refine hR (?_ : R (_, _, _, _, _, _))
  refine hR (c_put hK0 rfl rfl fun w1 ff1 hC1 => ?_)
  have fr2 := wfM_st fr0 ff1 nX0
  have hC3 := (ff1.2 19 (by (try dsimp only); decide)).trans hK1
  have hC4 := (ff1.2 21 (by (try dsimp only); decide)).trans hK2
  replace hC1 : zix w1 14 = some (.inr (11, [.int (Int32.ofInt 0), .ref 15, .ref 16, .ref 17, .ref 18, .ref 19, .ref 20, .ref 21, .ref 22, .int (Int32.ofInt f9), .int (Int32.ofInt f10), .int (Int32.ofInt f11), .int (Int32.ofInt f12), .int (Int32.ofInt f13), .long x14, .int (Int32.ofInt f15), .int (Int32.ofInt f16), .int (Int32.ofInt f17), .ref 23, .ref 24, .int (Int32.ofInt f20), .int (Int32.ofInt f21), .int (Int32.ofInt f22), .int (Int32.ofInt f23), .ref 25, .ref 26, .int (Int32.ofInt f26), .ref 27, .int (Int32.ofInt f28), .ref 28, .ref 29, .int (Int32.ofInt f31), .int (Int32.ofInt f32), .int (Int32.ofInt f33), .ref 30, .ref 31, .ref 32, .ref 33, .int (Int32.ofInt f38), .ref 34, .ref 35, .int (Int32.ofInt f41), .ref 36, .ref 37, .int (Int32.ofInt f44), .ref 38, .ref 39, .ref 40, .ref 41, .ref 42, .ref 43, .ref 44])) := hC1
  iterate 2 refine hR (?_ : R (_, _, _, _, _, _))
  refine hR (c_obj hC1 (zcall_i 0 0 (Nat.le_of_ble_eq_true rfl) (Nat.le_of_ble_eq_true rfl) (x_hasYearR _ _ _ _ _ _ _ _ _ _ _ _ _ _ _ _ _ _ _ _ _ _ _ _ _ _ hC1 hC3 (by omega) hr1 _ fun v5 y28_6 w7 gg8 hC9 hp10 => ?_)))
  have fr11 := wfM_tr fr2 gg8 nX1
  have hC12 := (gg8.2 19 (by (try dsimp only); decide)).trans hC3
  have hC13 := (gg8.2 21 (by (try dsimp only); decide)).trans hC4
  refine (?_ : R (_, _, .int (Int32.ofInt v5) :: [], w7, 0, 0))
  refine hR (k_ne (by omega) (fun hc14 => ?_) (fun hc14 => ?_))
  rotate_left
  · skip
    refine hR (t_c (-2) (by decide) ?_)
    exact hR (zret_i rfl (Nat.le_refl _) trivial (h _ _ _ fr11 hC9 (Or.inl ⟨by omega, rfl⟩)))
  have ht : 0 ≤ a1 ∧ a1 < tBy g19 1 ∧ a1 ≤ 1 := by omega
  have hb1 := hr2 a1 (by omega) (by omega)
  have hyy : a1 = y28_6 := by omega
  subst hyy
  iterate 2 refine hR (?_ : R (_, _, _, _, _, _))
  refine hR (j_ne (by omega) (by omega) (fun hc15 => ?_) (fun hc15 => ?_))
  rotate_left
  · skip
    refine hR (?_ : R (_, _, _, _, _, _))
    refine hR (k_ne (by omega) (fun hc26 => ?_) (fun hc26 => ?_))
    · skip
      refine hR (t_c (-2) (by decide) ?_)
      exact hR (zret_i rfl (Nat.le_refl _) trivial (h _ _ _ fr11 hC9 (Or.inr ⟨by omega, (by unfold rkY; (repeat' split) <;> first | rfl | omega | (exact congrArg (tBy _) (by omega)))⟩)))
    refine hR (?_ : R (_, _, _, _, _, _))
    refine hR (c_obj hC9 (zcall_i 0 0 (Nat.le_of_ble_eq_true rfl) (Nat.le_of_ble_eq_true rfl) (x_deedsR _ _ _ _ _ _ _ _ _ _ _ _ _ _ _ _ _ _ _ _ _ _ _ _ _ hC9 hC13 (by omega) _ fun v27 hp28 => ?_)))
    subst hp28
    refine (?_ : R (_, _, .int (Int32.ofInt (tBy g21 (121 * a1))) :: [], w7, 0, 0))
    refine hR (?_ : R (_, _, _, _, _, _))
    exact hR (zret_i rfl (Nat.le_refl _) trivial (h _ _ _ fr11 hC9 (Or.inr ⟨by omega, (by unfold rkY; (repeat' split) <;> first | rfl | omega | (exact congrArg (tBy _) (by omega)))⟩)))
  iterate 3 refine hR (?_ : R (_, _, _, _, _, _))
  refine hR (c_obj hC9 (zcall_i 0 0 (Nat.le_of_ble_eq_true rfl) (Nat.le_of_ble_eq_true rfl) (x_deedsR _ _ _ _ _ _ _ _ _ _ _ _ _ _ _ _ _ _ _ _ _ _ _ _ _ hC9 hC13 (by omega) _ fun v16 hp17 => ?_)))
  subst hp17
  refine (?_ : R (_, _, .int (Int32.ofInt (tBy g21 (121 * a1))) :: .int (Int32.ofInt 0) :: .int (Int32.ofInt a2) :: [], w7, 0, 0))
  refine hR (?_ : R (_, _, _, _, _, _))
  refine hR (t_sub ?_)
  refine hR (zcall_i 0 0 (Nat.le_of_ble_eq_true rfl) (Nat.le_of_ble_eq_true rfl) (m_in _ a2 0 ((tBy g21 (121 * a1)) - 1) _ (by omega) (by omega) (by omega) _ fun v18 hp19 => ?_))
  refine (?_ : R (_, _, .int (Int32.ofInt v18) :: [], w7, 0, 0))
  refine hR (k_eq (by omega) (fun hc20 => ?_) (fun hc20 => ?_))
  · skip
    refine hR (t_c (-2) (by decide) ?_)
    exact hR (zret_i rfl (Nat.le_refl _) trivial (h _ _ _ fr11 hC9 (Or.inr ⟨by omega, (by unfold rkY; (repeat' split) <;> first | rfl | omega | (exact congrArg (tBy _) (by omega)))⟩)))
  iterate 3 refine hR (?_ : R (_, _, _, _, _, _))
  refine hR (zcall_i 0 0 (Nat.le_of_ble_eq_true rfl) (Nat.le_of_ble_eq_true rfl) (m_in _ a3 0 2 _ (by omega) (by omega) (by omega) _ fun v21 hp22 => ?_))
  refine (?_ : R (_, _, .int (Int32.ofInt v21) :: [], w7, 0, 0))
  refine hR (k_eq (by omega) (fun hc23 => ?_) (fun hc23 => ?_))
  · skip
    refine hR (t_c (-2) (by decide) ?_)
    exact hR (zret_i rfl (Nat.le_refl _) trivial (h _ _ _ fr11 hC9 (Or.inr ⟨by omega, (by unfold rkY; (repeat' split) <;> first | rfl | omega | (exact congrArg (tBy _) (by omega)))⟩)))
  iterate 3 refine hR (?_ : R (_, _, _, _, _, _))
  refine hR (c_obj hC9 (zcall_i 0 0 (Nat.le_of_ble_eq_true rfl) (Nat.le_of_ble_eq_true rfl) (x_deedOfR _ _ _ _ _ _ _ _ _ _ _ _ _ _ _ _ _ _ _ _ _ _ _ _ _ _ _ hC9 hC13 (by omega) (by omega) (by omega) _ fun v24 hp25 => ?_)))
  subst hp25
  refine (?_ : R (_, _, .int (Int32.ofInt (tBy g21 (121 * a1 + 1 + 3 * a2 + a3))) :: [], w7, 0, 0))
  refine hR (?_ : R (_, _, _, _, _, _))
  exact hR (zret_i rfl (Nat.le_refl _) trivial (h _ _ _ fr11 hC9 (Or.inr ⟨by omega, (by unfold rkY; (repeat' split) <;> first | rfl | omega | (exact congrArg (tBy _) (by omega)))⟩)))
theorem x_hasSightR (w : zW) (d : Nat) (a1 : Int) (f0 f9 f10 f11 f12 f13 f15 f16 f17 f20 f21 f22 f23 f26 f28 f31 f32 f33 f38 f41 f44 : Int) (x14 : Int64) (g19 : Nat → Int32) (hK0 : zix w 14 = some (.inr (11, [.int (Int32.ofInt f0), .ref 15, .ref 16, .ref 17, .ref 18, .ref 19, .ref 20, .ref 21, .ref 22, .int (Int32.ofInt f9), .int (Int32.ofInt f10), .int (Int32.ofInt f11), .int (Int32.ofInt f12), .int (Int32.ofInt f13), .long x14, .int (Int32.ofInt f15), .int (Int32.ofInt f16), .int (Int32.ofInt f17), .ref 23, .ref 24, .int (Int32.ofInt f20), .int (Int32.ofInt f21), .int (Int32.ofInt f22), .int (Int32.ofInt f23), .ref 25, .ref 26, .int (Int32.ofInt f26), .ref 27, .int (Int32.ofInt f28), .ref 28, .ref 29, .int (Int32.ofInt f31), .int (Int32.ofInt f32), .int (Int32.ofInt f33), .ref 30, .ref 31, .ref 32, .ref 33, .int (Int32.ofInt f38), .ref 34, .ref 35, .int (Int32.ofInt f41), .ref 36, .ref 37, .int (Int32.ofInt f44), .ref 38, .ref 39, .ref 40, .ref 41, .ref 42, .ref 43, .ref 44]))) (hK1 : zix w 19 = some (.inl (1, 12, .inl g19))) (hr0 : (-2147483648 ≤ a1 ∧ a1 ≤ 2147483647)) (hr1 : ∀ i : Int, 0 ≤ i → i ≤ 2 → 0 ≤ tBy g19 i ∧ tBy g19 i ≤ 2) (Q : zQ) (h : ∀ (v : Int) (y41 : Int) (w' : zW), wfM (fun j => j ≠ 14) w w' → zix w' 14 = some (.inr (11, [.int (Int32.ofInt f0), .ref 15, .ref 16, .ref 17, .ref 18, .ref 19, .ref 20, .ref 21, .ref 22, .int (Int32.ofInt f9), .int (Int32.ofInt f10), .int (Int32.ofInt f11), .int (Int32.ofInt f12), .int (Int32.ofInt f13), .long x14, .int (Int32.ofInt f15), .int (Int32.ofInt f16), .int (Int32.ofInt f17), .ref 23, .ref 24, .int (Int32.ofInt f20), .int (Int32.ofInt f21), .int (Int32.ofInt f22), .int (Int32.ofInt f23), .ref 25, .ref 26, .int (Int32.ofInt f26), .ref 27, .int (Int32.ofInt f28), .ref 28, .ref 29, .int (Int32.ofInt f31), .int (Int32.ofInt f32), .int (Int32.ofInt f33), .ref 30, .ref 31, .ref 32, .ref 33, .int (Int32.ofInt f38), .ref 34, .ref 35, .int (Int32.ofInt y41), .ref 36, .ref 37, .int (Int32.ofInt f44), .ref 38, .ref 39, .ref 40, .ref 41, .ref 42, .ref 43, .ref 44])) → ((v = 1 ∧ 0 ≤ a1 ∧ a1 < tBy g19 2 ∧ a1 ≤ 1 ∧ y41 = a1) ∨ (v = 0 ∧ (a1 < 0 ∨ tBy g19 2 ≤ a1) ∧ y41 = a1)) → Q (some (.int (Int32.ofInt v))) w') : zCl zTab (d + 3) iX12_hasSight [.ref 14, .int (Int32.ofInt a1)] w 0 0 Q := by
  refine zCl_i (M := kX12_hasSight) rfl (Nat.le_of_ble_eq_true rfl) fun R hR => ?_
  have fr0 : wfM (fun j => j ≠ 14) w w := wfM_rf _ w
  have h19i := hr1 2 (by omega) (by omega)
  have nX0 : FX (∀ j : Nat, (j ≠ 14) → j ≠ 14) := fun j hj => by omega
  iterate 2 refine hR (?_ : R (_, _, _, _, _, _))
  refine hR (c_put hK0 rfl rfl fun w1 ff1 hC1 => ?_)
  have fr2 := wfM_st fr0 ff1 nX0
  have hC3 := (ff1.2 19 (by (try dsimp only); decide)).trans hK1
  replace hC1 : zix w1 14 = some (.inr (11, [.int (Int32.ofInt f0), .ref 15, .ref 16, .ref 17, .ref 18, .ref 19, .ref 20, .ref 21, .ref 22, .int (Int32.ofInt f9), .int (Int32.ofInt f10), .int (Int32.ofInt f11), .int (Int32.ofInt f12), .int (Int32.ofInt f13), .long x14, .int (Int32.ofInt f15), .int (Int32.ofInt f16), .int (Int32.ofInt f17), .ref 23, .ref 24, .int (Int32.ofInt f20), .int (Int32.ofInt f21), .int (Int32.ofInt f22), .int (Int32.ofInt f23), .ref 25, .ref 26, .int (Int32.ofInt f26), .ref 27, .int (Int32.ofInt f28), .ref 28, .ref 29, .int (Int32.ofInt f31), .int (Int32.ofInt f32), .int (Int32.ofInt f33), .ref 30, .ref 31, .ref 32, .ref 33, .int (Int32.ofInt f38), .ref 34, .ref 35, .int (Int32.ofInt a1), .ref 36, .ref 37, .int (Int32.ofInt f44), .ref 38, .ref 39, .ref 40, .ref 41, .ref 42, .ref 43, .ref 44])) := hC1
  iterate 3 refine hR (?_ : R (_, _, _, _, _, _))
  refine hR (c_obj hC1 (zcall_i 0 0 (Nat.le_of_ble_eq_true rfl) (Nat.le_of_ble_eq_true rfl) (x_isR _ _ _ _ _ _ _ _ _ _ _ _ _ _ _ _ _ _ _ _ _ _ _ _ _ _ _ hC1 hC3 (by omega) (by omega) hr1 _ fun v4 hp5 => ?_)))
  refine (?_ : R (_, _, .int (Int32.ofInt v4) :: [], w1, 0, 0))
  exact hR (zret_i rfl (Nat.le_refl _) (zbo (by omega)) (h _ _ _ fr2 hC1 (by omega)))
theorem x_factsR (w : zW) (d : Nat) (f0 f9 f10 f11 f12 f13 f15 f16 f17 f20 f21 f22 f23 f26 f28 f31 f32 f33 f38 f41 f44 : Int) (x14 : Int64) (g22 : Nat → Int32) (hK0 : zix w 14 = some (.inr (11, [.int (Int32.ofInt f0), .ref 15, .ref 16, .ref 17, .ref 18, .ref 19, .ref 20, .ref 21, .ref 22, .int (Int32.ofInt f9), .int (Int32.ofInt f10), .int (Int32.ofInt f11), .int (Int32.ofInt f12), .int (Int32.ofInt f13), .long x14, .int (Int32.ofInt f15), .int (Int32.ofInt f16), .int (Int32.ofInt f17), .ref 23, .ref 24, .int (Int32.ofInt f20), .int (Int32.ofInt f21), .int (Int32.ofInt f22), .int (Int32.ofInt f23), .ref 25, .ref 26, .int (Int32.ofInt f26), .ref 27, .int (Int32.ofInt f28), .ref 28, .ref 29, .int (Int32.ofInt f31), .int (Int32.ofInt f32), .int (Int32.ofInt f33), .ref 30, .ref 31, .ref 32, .ref 33, .int (Int32.ofInt f38), .ref 34, .ref 35, .int (Int32.ofInt f41), .ref 36, .ref 37, .int (Int32.ofInt f44), .ref 38, .ref 39, .ref 40, .ref 41, .ref 42, .ref 43, .ref 44]))) (hK1 : zix w 22 = some (.inl (1, 104, .inl g22))) (hr0 : 0 ≤ f41 ∧ f41 ≤ 1) (Q : zQ) (h : ∀ (v : Int), (v = tBy g22 (13 * f41)) → Q (some (.int (Int32.ofInt v))) w) : zCl zTab (d + 1) iX12_facts [.ref 14] w 0 0 Q := by
  refine zCl_i (M := kX12_facts) rfl (Nat.le_of_ble_eq_true rfl) fun R hR => ?_
  refine hR (?_ : R (_, _, _, _, _, _))
  refine hR (c_get hK0 rfl ?_)
  refine hR (t_c 13 (by decide) ?_)
  refine hR (?_ : R (_, _, _, _, _, _))
  refine hR (c_get hK0 rfl ?_)
  refine hR (t_mul ?_)
  refine hR (c_aldE hK1 (by omega) (by omega) (Nat.le_of_ble_eq_true rfl) fun v1 ev1 rv1 => ?_)
  replace ev1 : v1 = tBy g22 (13 * f41) := ev1
  subst ev1
  exact hR (zret_i rfl (Nat.le_refl _) trivial (h _ rfl))
theorem x_factOfR (w : zW) (d : Nat) (a1 a2 : Int) (f0 f9 f10 f11 f12 f13 f15 f16 f17 f20 f21 f22 f23 f26 f28 f31 f32 f33 f38 f41 f44 : Int) (x14 : Int64) (g22 : Nat → Int32) (hK0 : zix w 14 = some (.inr (11, [.int (Int32.ofInt f0), .ref 15, .ref 16, .ref 17, .ref 18, .ref 19, .ref 20, .ref 21, .ref 22, .int (Int32.ofInt f9), .int (Int32.ofInt f10), .int (Int32.ofInt f11), .int (Int32.ofInt f12), .int (Int32.ofInt f13), .long x14, .int (Int32.ofInt f15), .int (Int32.ofInt f16), .int (Int32.ofInt f17), .ref 23, .ref 24, .int (Int32.ofInt f20), .int (Int32.ofInt f21), .int (Int32.ofInt f22), .int (Int32.ofInt f23), .ref 25, .ref 26, .int (Int32.ofInt f26), .ref 27, .int (Int32.ofInt f28), .ref 28, .ref 29, .int (Int32.ofInt f31), .int (Int32.ofInt f32), .int (Int32.ofInt f33), .ref 30, .ref 31, .ref 32, .ref 33, .int (Int32.ofInt f38), .ref 34, .ref 35, .int (Int32.ofInt f41), .ref 36, .ref 37, .int (Int32.ofInt f44), .ref 38, .ref 39, .ref 40, .ref 41, .ref 42, .ref 43, .ref 44]))) (hK1 : zix w 22 = some (.inl (1, 104, .inl g22))) (hr0 : 0 ≤ f41 ∧ f41 ≤ 1) (hr1 : 0 ≤ a1 ∧ a1 < 6) (hr2 : 0 ≤ a2 ∧ a2 ≤ 1) (Q : zQ) (h : ∀ (v : Int), (v = tBy g22 (13 * f41 + 1 + 2 * a1 + a2)) → Q (some (.int (Int32.ofInt v))) w) : zCl zTab (d + 1) iX12_factOf [.ref 14, .int (Int32.ofInt a1), .int (Int32.ofInt a2)] w 0 0 Q := by
  refine zCl_i (M := kX12_factOf) rfl (Nat.le_of_ble_eq_true rfl) fun R hR => ?_
  refine hR (?_ : R (_, _, _, _, _, _))
  refine hR (c_get hK0 rfl ?_)
  refine hR (t_c 13 (by decide) ?_)
  refine hR (?_ : R (_, _, _, _, _, _))
  refine hR (c_get hK0 rfl ?_)
  refine hR (t_mul ?_)
  refine hR (?_ : R (_, _, _, _, _, _))
  refine hR (t_add ?_)
  iterate 2 refine hR (?_ : R (_, _, _, _, _, _))
  refine hR (t_mul ?_)
  refine hR (t_add ?_)
  refine hR (?_ : R (_, _, _, _, _, _))
  refine hR (t_add ?_)
  refine hR (c_aldE hK1 (by omega) (by omega) (Nat.le_of_ble_eq_true rfl) fun v1 ev1 rv1 => ?_)
  replace ev1 : v1 = tBy g22 ((((13 * f41) + 1) + (2 * a1)) + a2) := ev1
  subst ev1
  exact hR (zret_i rfl (Nat.le_refl _) trivial (h _ rfl))
theorem x_factR (w : zW) (d : Nat) (a1 a2 a3 : Int) (f0 f9 f10 f11 f12 f13 f15 f16 f17 f20 f21 f22 f23 f26 f28 f31 f32 f33 f38 f41 f44 : Int) (x14 : Int64) (g19 g22 : Nat → Int32) (hK0 : zix w 14 = some (.inr (11, [.int (Int32.ofInt f0), .ref 15, .ref 16, .ref 17, .ref 18, .ref 19, .ref 20, .ref 21, .ref 22, .int (Int32.ofInt f9), .int (Int32.ofInt f10), .int (Int32.ofInt f11), .int (Int32.ofInt f12), .int (Int32.ofInt f13), .long x14, .int (Int32.ofInt f15), .int (Int32.ofInt f16), .int (Int32.ofInt f17), .ref 23, .ref 24, .int (Int32.ofInt f20), .int (Int32.ofInt f21), .int (Int32.ofInt f22), .int (Int32.ofInt f23), .ref 25, .ref 26, .int (Int32.ofInt f26), .ref 27, .int (Int32.ofInt f28), .ref 28, .ref 29, .int (Int32.ofInt f31), .int (Int32.ofInt f32), .int (Int32.ofInt f33), .ref 30, .ref 31, .ref 32, .ref 33, .int (Int32.ofInt f38), .ref 34, .ref 35, .int (Int32.ofInt f41), .ref 36, .ref 37, .int (Int32.ofInt f44), .ref 38, .ref 39, .ref 40, .ref 41, .ref 42, .ref 43, .ref 44]))) (hK1 : zix w 19 = some (.inl (1, 12, .inl g19))) (hK2 : zix w 22 = some (.inl (1, 104, .inl g22))) (hr0 : (-2147483648 ≤ a1 ∧ a1 ≤ 2147483647) ∧ (-2147483648 ≤ a2 ∧ a2 ≤ 2147483647) ∧ (-2147483648 ≤ a3 ∧ a3 ≤ 2147483647)) (hr1 : ∀ i : Int, 0 ≤ i → i ≤ 2 → 0 ≤ tBy g19 i ∧ tBy g19 i ≤ 2) (hr2 : ∀ b : Int, 0 ≤ b → b ≤ 1 → 0 ≤ tBy g22 (13 * b) ∧ tBy g22 (13 * b) ≤ 6) (Q : zQ) (h : ∀ (v : Int) (y41 : Int) (w' : zW), wfM (fun j => j ≠ 14) w w' → zix w' 14 = some (.inr (11, [.int (Int32.ofInt 0), .ref 15, .ref 16, .ref 17, .ref 18, .ref 19, .ref 20, .ref 21, .ref 22, .int (Int32.ofInt f9), .int (Int32.ofInt f10), .int (Int32.ofInt f11), .int (Int32.ofInt f12), .int (Int32.ofInt f13), .long x14, .int (Int32.ofInt f15), .int (Int32.ofInt f16), .int (Int32.ofInt f17), .ref 23, .ref 24, .int (Int32.ofInt f20), .int (Int32.ofInt f21), .int (Int32.ofInt f22), .int (Int32.ofInt f23), .ref 25, .ref 26, .int (Int32.ofInt f26), .ref 27, .int (Int32.ofInt f28), .ref 28, .ref 29, .int (Int32.ofInt f31), .int (Int32.ofInt f32), .int (Int32.ofInt f33), .ref 30, .ref 31, .ref 32, .ref 33, .int (Int32.ofInt f38), .ref 34, .ref 35, .int (Int32.ofInt y41), .ref 36, .ref 37, .int (Int32.ofInt f44), .ref 38, .ref 39, .ref 40, .ref 41, .ref 42, .ref 43, .ref 44])) → (((a1 < 0 ∨ tBy g19 2 ≤ a1) ∧ v = -2) ∨ ((0 ≤ a1 ∧ a1 < tBy g19 2) ∧ v = rkS g22 (13 * a1) a2 a3)) → Q (some (.int (Int32.ofInt v))) w') : zCl zTab (d + 4) iX12_fact [.ref 14, .int (Int32.ofInt a1), .int (Int32.ofInt a2), .int (Int32.ofInt a3)] w 0 0 Q := by
  refine zCl_i (M := kX12_fact) rfl (Nat.le_of_ble_eq_true rfl) fun R hR => ?_
  have fr0 : wfM (fun j => j ≠ 14) w w := wfM_rf _ w
  have h19i := hr1 2 (by omega) (by omega)
  have nX0 : FX (∀ j : Nat, (j ≠ 14) → j ≠ 14) := fun j hj => by omega
  have nX1 : FX (∀ j : Nat, (j ≠ 14) → (j ≠ 14)) := fun j hj => by omega
  iterate 2 refine hR (?_ : R (_, _, _, _, _, _))
  refine hR (c_put hK0 rfl rfl fun w1 ff1 hC1 => ?_)
  have fr2 := wfM_st fr0 ff1 nX0
  have hC3 := (ff1.2 19 (by (try dsimp only); decide)).trans hK1
  have hC4 := (ff1.2 22 (by (try dsimp only); decide)).trans hK2
  replace hC1 : zix w1 14 = some (.inr (11, [.int (Int32.ofInt 0), .ref 15, .ref 16, .ref 17, .ref 18, .ref 19, .ref 20, .ref 21, .ref 22, .int (Int32.ofInt f9), .int (Int32.ofInt f10), .int (Int32.ofInt f11), .int (Int32.ofInt f12), .int (Int32.ofInt f13), .long x14, .int (Int32.ofInt f15), .int (Int32.ofInt f16), .int (Int32.ofInt f17), .ref 23, .ref 24, .int (Int32.ofInt f20), .int (Int32.ofInt f21), .int (Int32.ofInt f22), .int (Int32.ofInt f23), .ref 25, .ref 26, .int (Int32.ofInt f26), .ref 27, .int (Int32.ofInt f28), .ref 28, .ref 29, .int (Int32.ofInt f31), .int (Int32.ofInt f32), .int (Int32.ofInt f33), .ref 30, .ref 31, .ref 32, .ref 33, .int (Int32.ofInt f38), .ref 34, .ref 35, .int (Int32.ofInt f41), .ref 36, .ref 37, .int (Int32.ofInt f44), .ref 38, .ref 39, .ref 40, .ref 41, .ref 42, .ref 43, .ref 44])) := hC1
  iterate 2 refine hR (?_ : R (_, _, _, _, _, _))
  refine hR (c_obj hC1 (zcall_i 0 0 (Nat.le_of_ble_eq_true rfl) (Nat.le_of_ble_eq_true rfl) (x_hasSightR _ _ _ _ _ _ _ _ _ _ _ _ _ _ _ _ _ _ _ _ _ _ _ _ _ _ hC1 hC3 (by omega) hr1 _ fun v5 y41_6 w7 gg8 hC9 hp10 => ?_)))
  have fr11 := wfM_tr fr2 gg8 nX1
  have hC12 := (gg8.2 19 (by (try dsimp only); decide)).trans hC3
  have hC13 := (gg8.2 22 (by (try dsimp only); decide)).trans hC4
  refine (?_ : R (_, _, .int (Int32.ofInt v5) :: [], w7, 0, 0))
  refine hR (k_ne (by omega) (fun hc14 => ?_) (fun hc14 => ?_))
  rotate_left
  · skip
    refine hR (t_c (-2) (by decide) ?_)
    exact hR (zret_i rfl (Nat.le_refl _) trivial (h _ _ _ fr11 hC9 (Or.inl ⟨by omega, rfl⟩)))
  have ht : 0 ≤ a1 ∧ a1 < tBy g19 2 ∧ a1 ≤ 1 := by omega
  have hb1 := hr2 a1 (by omega) (by omega)
  have hyy : a1 = y41_6 := by omega
  subst hyy
  iterate 2 refine hR (?_ : R (_, _, _, _, _, _))
  refine hR (j_ne (by omega) (by omega) (fun hc15 => ?_) (fun hc15 => ?_))
  rotate_left
  · skip
    refine hR (?_ : R (_, _, _, _, _, _))
    refine hR (k_ne (by omega) (fun hc26 => ?_) (fun hc26 => ?_))
    · skip
      refine hR (t_c (-2) (by decide) ?_)
      exact hR (zret_i rfl (Nat.le_refl _) trivial (h _ _ _ fr11 hC9 (Or.inr ⟨by omega, (by unfold rkS; (repeat' split) <;> first | rfl | omega | (exact congrArg (tBy _) (by omega)))⟩)))
    refine hR (?_ : R (_, _, _, _, _, _))
    refine hR (c_obj hC9 (zcall_i 0 0 (Nat.le_of_ble_eq_true rfl) (Nat.le_of_ble_eq_true rfl) (x_factsR _ _ _ _ _ _ _ _ _ _ _ _ _ _ _ _ _ _ _ _ _ _ _ _ _ hC9 hC13 (by omega) _ fun v27 hp28 => ?_)))
    subst hp28
    refine (?_ : R (_, _, .int (Int32.ofInt (tBy g22 (13 * a1))) :: [], w7, 0, 0))
    refine hR (?_ : R (_, _, _, _, _, _))
    exact hR (zret_i rfl (Nat.le_refl _) trivial (h _ _ _ fr11 hC9 (Or.inr ⟨by omega, (by unfold rkS; (repeat' split) <;> first | rfl | omega | (exact congrArg (tBy _) (by omega)))⟩)))
  iterate 3 refine hR (?_ : R (_, _, _, _, _, _))
  refine hR (c_obj hC9 (zcall_i 0 0 (Nat.le_of_ble_eq_true rfl) (Nat.le_of_ble_eq_true rfl) (x_factsR _ _ _ _ _ _ _ _ _ _ _ _ _ _ _ _ _ _ _ _ _ _ _ _ _ hC9 hC13 (by omega) _ fun v16 hp17 => ?_)))
  subst hp17
  refine (?_ : R (_, _, .int (Int32.ofInt (tBy g22 (13 * a1))) :: .int (Int32.ofInt 0) :: .int (Int32.ofInt a2) :: [], w7, 0, 0))
  refine hR (?_ : R (_, _, _, _, _, _))
  refine hR (t_sub ?_)
  refine hR (zcall_i 0 0 (Nat.le_of_ble_eq_true rfl) (Nat.le_of_ble_eq_true rfl) (m_in _ a2 0 ((tBy g22 (13 * a1)) - 1) _ (by omega) (by omega) (by omega) _ fun v18 hp19 => ?_))
  refine (?_ : R (_, _, .int (Int32.ofInt v18) :: [], w7, 0, 0))
  refine hR (k_eq (by omega) (fun hc20 => ?_) (fun hc20 => ?_))
  · skip
    refine hR (t_c (-2) (by decide) ?_)
    exact hR (zret_i rfl (Nat.le_refl _) trivial (h _ _ _ fr11 hC9 (Or.inr ⟨by omega, (by unfold rkS; (repeat' split) <;> first | rfl | omega | (exact congrArg (tBy _) (by omega)))⟩)))
  iterate 3 refine hR (?_ : R (_, _, _, _, _, _))
  refine hR (zcall_i 0 0 (Nat.le_of_ble_eq_true rfl) (Nat.le_of_ble_eq_true rfl) (m_in _ a3 0 1 _ (by omega) (by omega) (by omega) _ fun v21 hp22 => ?_))
  refine (?_ : R (_, _, .int (Int32.ofInt v21) :: [], w7, 0, 0))
  refine hR (k_eq (by omega) (fun hc23 => ?_) (fun hc23 => ?_))
  · skip
    refine hR (t_c (-2) (by decide) ?_)
    exact hR (zret_i rfl (Nat.le_refl _) trivial (h _ _ _ fr11 hC9 (Or.inr ⟨by omega, (by unfold rkS; (repeat' split) <;> first | rfl | omega | (exact congrArg (tBy _) (by omega)))⟩)))
  iterate 3 refine hR (?_ : R (_, _, _, _, _, _))
  refine hR (c_obj hC9 (zcall_i 0 0 (Nat.le_of_ble_eq_true rfl) (Nat.le_of_ble_eq_true rfl) (x_factOfR _ _ _ _ _ _ _ _ _ _ _ _ _ _ _ _ _ _ _ _ _ _ _ _ _ _ _ hC9 hC13 (by omega) (by omega) (by omega) _ fun v24 hp25 => ?_)))
  subst hp25
  refine (?_ : R (_, _, .int (Int32.ofInt (tBy g22 (13 * a1 + 1 + 2 * a2 + a3))) :: [], w7, 0, 0))
  refine hR (?_ : R (_, _, _, _, _, _))
  exact hR (zret_i rfl (Nat.le_refl _) trivial (h _ _ _ fr11 hC9 (Or.inr ⟨by omega, (by unfold rkS; (repeat' split) <;> first | rfl | omega | (exact congrArg (tBy _) (by omega)))⟩)))
theorem x_faultR (w : zW) (d : Nat) (a1 : Int) (f0 f9 f10 f11 f12 f13 f15 f16 f17 f20 f21 f22 f23 f26 f28 f31 f32 f33 f38 f41 f44 : Int) (x14 : Int64) (g17 g18 : Nat → Int32) (hK0 : zix w 14 = some (.inr (11, [.int (Int32.ofInt f0), .ref 15, .ref 16, .ref 17, .ref 18, .ref 19, .ref 20, .ref 21, .ref 22, .int (Int32.ofInt f9), .int (Int32.ofInt f10), .int (Int32.ofInt f11), .int (Int32.ofInt f12), .int (Int32.ofInt f13), .long x14, .int (Int32.ofInt f15), .int (Int32.ofInt f16), .int (Int32.ofInt f17), .ref 23, .ref 24, .int (Int32.ofInt f20), .int (Int32.ofInt f21), .int (Int32.ofInt f22), .int (Int32.ofInt f23), .ref 25, .ref 26, .int (Int32.ofInt f26), .ref 27, .int (Int32.ofInt f28), .ref 28, .ref 29, .int (Int32.ofInt f31), .int (Int32.ofInt f32), .int (Int32.ofInt f33), .ref 30, .ref 31, .ref 32, .ref 33, .int (Int32.ofInt f38), .ref 34, .ref 35, .int (Int32.ofInt f41), .ref 36, .ref 37, .int (Int32.ofInt f44), .ref 38, .ref 39, .ref 40, .ref 41, .ref 42, .ref 43, .ref 44]))) (hK1 : zix w 17 = some (.inl (1, 4, .inl g17))) (hK2 : zix w 18 = some (.inl (1, 4, .inl g18))) (hr0 : (-2147483648 ≤ a1 ∧ a1 ≤ 2147483647)) (Q : zQ) (h : ∀ (v : Int) (w' : zW), wfM (fun j => j ≠ 14) w w' → zix w' 14 = some (.inr (11, [.int (Int32.ofInt 0), .ref 15, .ref 16, .ref 17, .ref 18, .ref 19, .ref 20, .ref 21, .ref 22, .int (Int32.ofInt f9), .int (Int32.ofInt f10), .int (Int32.ofInt f11), .int (Int32.ofInt f12), .int (Int32.ofInt f13), .long x14, .int (Int32.ofInt f15), .int (Int32.ofInt f16), .int (Int32.ofInt f17), .ref 23, .ref 24, .int (Int32.ofInt f20), .int (Int32.ofInt f21), .int (Int32.ofInt f22), .int (Int32.ofInt f23), .ref 25, .ref 26, .int (Int32.ofInt f26), .ref 27, .int (Int32.ofInt f28), .ref 28, .ref 29, .int (Int32.ofInt f31), .int (Int32.ofInt f32), .int (Int32.ofInt f33), .ref 30, .ref 31, .ref 32, .ref 33, .int (Int32.ofInt f38), .ref 34, .ref 35, .int (Int32.ofInt f41), .ref 36, .ref 37, .int (Int32.ofInt f44), .ref 38, .ref 39, .ref 40, .ref 41, .ref 42, .ref 43, .ref 44])) → (v = if a1 = 0 then tBy g17 0 else if a1 = 1 then tBy g18 0 else -1) → Q (some (.int (Int32.ofInt v))) w') : zCl zTab (d + 1) iX12_fault [.ref 14, .int (Int32.ofInt a1)] w 0 0 Q := by
  refine zCl_i (M := kX12_fault) rfl (Nat.le_of_ble_eq_true rfl) fun R hR => ?_
  have fr0 : wfM (fun j => j ≠ 14) w w := wfM_rf _ w
  have nX0 : FX (∀ j : Nat, (j ≠ 14) → j ≠ 14) := fun j hj => by omega
  iterate 2 refine hR (?_ : R (_, _, _, _, _, _))
  refine hR (c_put hK0 rfl rfl fun w1 ff1 hC1 => ?_)
  have fr2 := wfM_st fr0 ff1 nX0
  have hC3 := (ff1.2 17 (by (try dsimp only); decide)).trans hK1
  have hC4 := (ff1.2 18 (by (try dsimp only); decide)).trans hK2
  replace hC1 : zix w1 14 = some (.inr (11, [.int (Int32.ofInt 0), .ref 15, .ref 16, .ref 17, .ref 18, .ref 19, .ref 20, .ref 21, .ref 22, .int (Int32.ofInt f9), .int (Int32.ofInt f10), .int (Int32.ofInt f11), .int (Int32.ofInt f12), .int (Int32.ofInt f13), .long x14, .int (Int32.ofInt f15), .int (Int32.ofInt f16), .int (Int32.ofInt f17), .ref 23, .ref 24, .int (Int32.ofInt f20), .int (Int32.ofInt f21), .int (Int32.ofInt f22), .int (Int32.ofInt f23), .ref 25, .ref 26, .int (Int32.ofInt f26), .ref 27, .int (Int32.ofInt f28), .ref 28, .ref 29, .int (Int32.ofInt f31), .int (Int32.ofInt f32), .int (Int32.ofInt f33), .ref 30, .ref 31, .ref 32, .ref 33, .int (Int32.ofInt f38), .ref 34, .ref 35, .int (Int32.ofInt f41), .ref 36, .ref 37, .int (Int32.ofInt f44), .ref 38, .ref 39, .ref 40, .ref 41, .ref 42, .ref 43, .ref 44])) := hC1
  refine hR (?_ : R (_, _, _, _, _, _))
  refine hR (k_ne (by omega) (fun hc5 => ?_) (fun hc5 => ?_))
  rotate_left
  · skip
    refine hR (?_ : R (_, _, _, _, _, _))
    refine hR (c_get hC1 rfl ?_)
    refine hR (?_ : R (_, _, _, _, _, _))
    refine hR (c_aldE hC3 (by omega) (by omega) (Nat.le_of_ble_eq_true rfl) fun v8 ev8 rv8 => ?_)
    replace ev8 : v8 = tBy g17 0 := ev8
    subst ev8
    refine hR (?_ : R (_, _, _, _, _, _))
    exact hR (zret_i rfl (Nat.le_refl _) trivial (h _ _ fr2 hC1 (by (repeat' split) <;> first | rfl | omega)))
  iterate 2 refine hR (?_ : R (_, _, _, _, _, _))
  refine hR (j_ne (by omega) (by omega) (fun hc6 => ?_) (fun hc6 => ?_))
  · skip
    refine hR (?_ : R (_, _, _, _, _, _))
    exact hR (zret_i rfl (Nat.le_refl _) trivial (h _ _ fr2 hC1 (by (repeat' split) <;> first | rfl | omega)))
  refine hR (?_ : R (_, _, _, _, _, _))
  refine hR (c_get hC1 rfl ?_)
  refine hR (?_ : R (_, _, _, _, _, _))
  refine hR (c_aldE hC4 (by omega) (by omega) (Nat.le_of_ble_eq_true rfl) fun v7 ev7 rv7 => ?_)
  replace ev7 : v7 = tBy g18 0 := ev7
  subst ev7
  refine hR (?_ : R (_, _, _, _, _, _))
  exact hR (zret_i rfl (Nat.le_refl _) trivial (h _ _ fr2 hC1 (by (repeat' split) <;> first | rfl | omega)))
theorem x_countR (w : zW) (d : Nat) (a1 : Int) (f0 f9 f10 f11 f12 f13 f15 f16 f17 f20 f21 f22 f23 f26 f28 f31 f32 f33 f38 f41 f44 : Int) (x14 : Int64) (g19 : Nat → Int32) (hK0 : zix w 14 = some (.inr (11, [.int (Int32.ofInt f0), .ref 15, .ref 16, .ref 17, .ref 18, .ref 19, .ref 20, .ref 21, .ref 22, .int (Int32.ofInt f9), .int (Int32.ofInt f10), .int (Int32.ofInt f11), .int (Int32.ofInt f12), .int (Int32.ofInt f13), .long x14, .int (Int32.ofInt f15), .int (Int32.ofInt f16), .int (Int32.ofInt f17), .ref 23, .ref 24, .int (Int32.ofInt f20), .int (Int32.ofInt f21), .int (Int32.ofInt f22), .int (Int32.ofInt f23), .ref 25, .ref 26, .int (Int32.ofInt f26), .ref 27, .int (Int32.ofInt f28), .ref 28, .ref 29, .int (Int32.ofInt f31), .int (Int32.ofInt f32), .int (Int32.ofInt f33), .ref 30, .ref 31, .ref 32, .ref 33, .int (Int32.ofInt f38), .ref 34, .ref 35, .int (Int32.ofInt f41), .ref 36, .ref 37, .int (Int32.ofInt f44), .ref 38, .ref 39, .ref 40, .ref 41, .ref 42, .ref 43, .ref 44]))) (hK1 : zix w 19 = some (.inl (1, 12, .inl g19))) (hr0 : (-2147483648 ≤ a1 ∧ a1 ≤ 2147483647)) (hr1 : ∀ i : Int, 0 ≤ i → i ≤ 2 → 0 ≤ tBy g19 i ∧ tBy g19 i ≤ 2) (Q : zQ) (h : ∀ (v : Int) (w' : zW), wfM (fun j => j ≠ 14) w w' → zix w' 14 = some (.inr (11, [.int (Int32.ofInt 0), .ref 15, .ref 16, .ref 17, .ref 18, .ref 19, .ref 20, .ref 21, .ref 22, .int (Int32.ofInt f9), .int (Int32.ofInt f10), .int (Int32.ofInt f11), .int (Int32.ofInt f12), .int (Int32.ofInt f13), .long x14, .int (Int32.ofInt f15), .int (Int32.ofInt f16), .int (Int32.ofInt f17), .ref 23, .ref 24, .int (Int32.ofInt f20), .int (Int32.ofInt f21), .int (Int32.ofInt f22), .int (Int32.ofInt f23), .ref 25, .ref 26, .int (Int32.ofInt f26), .ref 27, .int (Int32.ofInt f28), .ref 28, .ref 29, .int (Int32.ofInt f31), .int (Int32.ofInt f32), .int (Int32.ofInt f33), .ref 30, .ref 31, .ref 32, .ref 33, .int (Int32.ofInt f38), .ref 34, .ref 35, .int (Int32.ofInt f41), .ref 36, .ref 37, .int (Int32.ofInt f44), .ref 38, .ref 39, .ref 40, .ref 41, .ref 42, .ref 43, .ref 44])) → (v = if 0 ≤ a1 ∧ a1 ≤ 2 then tBy g19 a1 else -2) → Q (some (.int (Int32.ofInt v))) w') : zCl zTab (d + 2) iX12_count [.ref 14, .int (Int32.ofInt a1)] w 0 0 Q := by
  refine zCl_i (M := kX12_count) rfl (Nat.le_of_ble_eq_true rfl) fun R hR => ?_
  have fr0 : wfM (fun j => j ≠ 14) w w := wfM_rf _ w
  have nX0 : FX (∀ j : Nat, (j ≠ 14) → j ≠ 14) := fun j hj => by omega
  iterate 2 refine hR (?_ : R (_, _, _, _, _, _))
  refine hR (c_put hK0 rfl rfl fun w1 ff1 hC1 => ?_)
  have fr2 := wfM_st fr0 ff1 nX0
  have hC3 := (ff1.2 19 (by (try dsimp only); decide)).trans hK1
  replace hC1 : zix w1 14 = some (.inr (11, [.int (Int32.ofInt 0), .ref 15, .ref 16, .ref 17, .ref 18, .ref 19, .ref 20, .ref 21, .ref 22, .int (Int32.ofInt f9), .int (Int32.ofInt f10), .int (Int32.ofInt f11), .int (Int32.ofInt f12), .int (Int32.ofInt f13), .long x14, .int (Int32.ofInt f15), .int (Int32.ofInt f16), .int (Int32.ofInt f17), .ref 23, .ref 24, .int (Int32.ofInt f20), .int (Int32.ofInt f21), .int (Int32.ofInt f22), .int (Int32.ofInt f23), .ref 25, .ref 26, .int (Int32.ofInt f26), .ref 27, .int (Int32.ofInt f28), .ref 28, .ref 29, .int (Int32.ofInt f31), .int (Int32.ofInt f32), .int (Int32.ofInt f33), .ref 30, .ref 31, .ref 32, .ref 33, .int (Int32.ofInt f38), .ref 34, .ref 35, .int (Int32.ofInt f41), .ref 36, .ref 37, .int (Int32.ofInt f44), .ref 38, .ref 39, .ref 40, .ref 41, .ref 42, .ref 43, .ref 44])) := hC1
  iterate 3 refine hR (?_ : R (_, _, _, _, _, _))
  refine hR (zcall_i 0 0 (Nat.le_of_ble_eq_true rfl) (Nat.le_of_ble_eq_true rfl) (m_in _ a1 0 2 _ (by omega) (by omega) (by omega) _ fun v4 hp5 => ?_))
  refine (?_ : R (_, _, .int (Int32.ofInt v4) :: [], w1, 0, 0))
  refine hR (k_eq (by omega) (fun hc6 => ?_) (fun hc6 => ?_))
  · skip
    refine hR (t_c (-2) (by decide) ?_)
    exact hR (zret_i rfl (Nat.le_refl _) trivial (h _ _ fr2 hC1 (by (repeat' split) <;> first | rfl | omega)))
  refine hR (?_ : R (_, _, _, _, _, _))
  refine hR (c_get hC1 rfl ?_)
  refine hR (?_ : R (_, _, _, _, _, _))
  refine hR (c_aldE hC3 (by omega) (by omega) (Nat.le_of_ble_eq_true rfl) fun v7 ev7 rv7 => ?_)
  replace ev7 : v7 = tBy g19 a1 := ev7
  subst ev7
  refine hR (?_ : R (_, _, _, _, _, _))
  exact hR (zret_i rfl (Nat.le_refl _) trivial (h _ _ fr2 hC1 (by (repeat' split) <;> first | rfl | omega)))
