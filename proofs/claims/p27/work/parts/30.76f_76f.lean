theorem x_isR (w : zW) (d : Nat) (a1 a2 : Int) (f0 f9 f10 f11 f12 f13 f15 f16 f17 f20 f21 f22 f23 f26 f28 f31 f32 f33 f38 f41 f44 : Int) (x14 : Int64) (g19 : Nat → Int32) (hK0 : zix w 14 = some (.inr (11, [.int (Int32.ofInt f0), .ref 15, .ref 16, .ref 17, .ref 18, .ref 19, .ref 20, .ref 21, .ref 22, .int (Int32.ofInt f9), .int (Int32.ofInt f10), .int (Int32.ofInt f11), .int (Int32.ofInt f12), .int (Int32.ofInt f13), .long x14, .int (Int32.ofInt f15), .int (Int32.ofInt f16), .int (Int32.ofInt f17), .ref 23, .ref 24, .int (Int32.ofInt f20), .int (Int32.ofInt f21), .int (Int32.ofInt f22), .int (Int32.ofInt f23), .ref 25, .ref 26, .int (Int32.ofInt f26), .ref 27, .int (Int32.ofInt f28), .ref 28, .ref 29, .int (Int32.ofInt f31), .int (Int32.ofInt f32), .int (Int32.ofInt f33), .ref 30, .ref 31, .ref 32, .ref 33, .int (Int32.ofInt f38), .ref 34, .ref 35, .int (Int32.ofInt f41), .ref 36, .ref 37, .int (Int32.ofInt f44), .ref 38, .ref 39, .ref 40, .ref 41, .ref 42, .ref 43, .ref 44]))) (hK1 : zix w 19 = some (.inl (1, 12, .inl g19))) (hr0 : 0 ≤ a1 ∧ a1 ≤ 2) (hr1 : (-2147483648 ≤ a2 ∧ a2 ≤ 2147483647)) (hr2 : ∀ i : Int, 0 ≤ i → i ≤ 2 → 0 ≤ tBy g19 i ∧ tBy g19 i ≤ 2) (Q : zQ) (h : ∀ (v : Int), ((v = 1 ∧ 0 ≤ a2 ∧ a2 < tBy g19 a1) ∨ (v = 0 ∧ (a2 < 0 ∨ tBy g19 a1 ≤ a2))) → Q (some (.int (Int32.ofInt v))) w) : zCl zTab (d + 2) iX12_is [.ref 14, .int (Int32.ofInt a1), .int (Int32.ofInt a2)] w 0 0 Q := by
  refine zCl_i (M := kX12_is) rfl (Nat.le_of_ble_eq_true rfl) fun R hR => ?_
  iterate 3 refine hR (?_ : R (_, _, _, _, _, _))
  refine hR (c_get hK0 rfl ?_)
  refine hR (?_ : R (_, _, _, _, _, _))
  refine hR (c_aldE hK1 (by omega) (by omega) (Nat.le_of_ble_eq_true rfl) fun v1 ev1 rv1 => ?_)
  replace ev1 : v1 = tBy g19 a1 := ev1
  subst ev1
  have hs := hr2 a1 (by omega) (by omega)
  refine hR (?_ : R (_, _, _, _, _, _))
  refine hR (t_sub ?_)
  refine hR (zcall_i 0 0 (Nat.le_of_ble_eq_true rfl) (Nat.le_of_ble_eq_true rfl) (m_in _ a2 0 ((tBy g19 a1) - 1) _ (by omega) (by omega) (by omega) _ fun v2 hp3 => ?_))
  refine (?_ : R (_, _, .int (Int32.ofInt v2) :: [], w, 0, 0))
  exact hR (zret_i rfl (Nat.le_refl _) (zbo (by omega)) (h _ (by omega)))
theorem x_ofR (w : zW) (d : Nat) (a1 : Int) (f0 f9 f10 f11 f12 f13 f15 f16 f17 f20 f21 f22 f23 f26 f28 f31 f32 f33 f38 f41 f44 : Int) (x14 : Int64) (g20 : Nat → Int32) (hK0 : zix w 14 = some (.inr (11, [.int (Int32.ofInt f0), .ref 15, .ref 16, .ref 17, .ref 18, .ref 19, .ref 20, .ref 21, .ref 22, .int (Int32.ofInt f9), .int (Int32.ofInt f10), .int (Int32.ofInt f11), .int (Int32.ofInt f12), .int (Int32.ofInt f13), .long x14, .int (Int32.ofInt f15), .int (Int32.ofInt f16), .int (Int32.ofInt f17), .ref 23, .ref 24, .int (Int32.ofInt f20), .int (Int32.ofInt f21), .int (Int32.ofInt f22), .int (Int32.ofInt f23), .ref 25, .ref 26, .int (Int32.ofInt f26), .ref 27, .int (Int32.ofInt f28), .ref 28, .ref 29, .int (Int32.ofInt f31), .int (Int32.ofInt f32), .int (Int32.ofInt f33), .ref 30, .ref 31, .ref 32, .ref 33, .int (Int32.ofInt f38), .ref 34, .ref 35, .int (Int32.ofInt f41), .ref 36, .ref 37, .int (Int32.ofInt f44), .ref 38, .ref 39, .ref 40, .ref 41, .ref 42, .ref 43, .ref 44]))) (hK1 : zix w 20 = some (.inl (1, 408, .inl g20))) (hr0 : 0 ≤ f20 ∧ f20 ≤ 1) (hr1 : 0 ≤ a1 ∧ a1 ≤ 50) (Q : zQ) (h : ∀ (v : Int), (v = tBy g20 (51 * f20 + a1)) → Q (some (.int (Int32.ofInt v))) w) : zCl zTab (d + 1) iX12_of [.ref 14, .int (Int32.ofInt a1)] w 0 0 Q := by
  refine zCl_i (M := kX12_of) rfl (Nat.le_of_ble_eq_true rfl) fun R hR => ?_
  refine hR (?_ : R (_, _, _, _, _, _))
  refine hR (c_get hK0 rfl ?_)
  refine hR (t_c 51 (by decide) ?_)
  refine hR (?_ : R (_, _, _, _, _, _))
  refine hR (c_get hK0 rfl ?_)
  refine hR (t_mul ?_)
  refine hR (?_ : R (_, _, _, _, _, _))
  refine hR (t_add ?_)
  refine hR (c_aldE hK1 (by omega) (by omega) (Nat.le_of_ble_eq_true rfl) fun v1 ev1 rv1 => ?_)
  replace ev1 : v1 = tBy g20 ((51 * f20) + a1) := ev1
  subst ev1
  exact hR (zret_i rfl (Nat.le_refl _) trivial (h _ rfl))
theorem x_handR (w : zW) (d : Nat) (a1 : Int) (f0 f9 f10 f11 f12 f13 f15 f16 f17 f20 f21 f22 f23 f26 f28 f31 f32 f33 f38 f41 f44 : Int) (x14 : Int64) (g19 g20 : Nat → Int32) (hK0 : zix w 14 = some (.inr (11, [.int (Int32.ofInt f0), .ref 15, .ref 16, .ref 17, .ref 18, .ref 19, .ref 20, .ref 21, .ref 22, .int (Int32.ofInt f9), .int (Int32.ofInt f10), .int (Int32.ofInt f11), .int (Int32.ofInt f12), .int (Int32.ofInt f13), .long x14, .int (Int32.ofInt f15), .int (Int32.ofInt f16), .int (Int32.ofInt f17), .ref 23, .ref 24, .int (Int32.ofInt f20), .int (Int32.ofInt f21), .int (Int32.ofInt f22), .int (Int32.ofInt f23), .ref 25, .ref 26, .int (Int32.ofInt f26), .ref 27, .int (Int32.ofInt f28), .ref 28, .ref 29, .int (Int32.ofInt f31), .int (Int32.ofInt f32), .int (Int32.ofInt f33), .ref 30, .ref 31, .ref 32, .ref 33, .int (Int32.ofInt f38), .ref 34, .ref 35, .int (Int32.ofInt f41), .ref 36, .ref 37, .int (Int32.ofInt f44), .ref 38, .ref 39, .ref 40, .ref 41, .ref 42, .ref 43, .ref 44]))) (hK1 : zix w 19 = some (.inl (1, 12, .inl g19))) (hK2 : zix w 20 = some (.inl (1, 408, .inl g20))) (hr0 : (-2147483648 ≤ a1 ∧ a1 ≤ 2147483647)) (hr1 : ∀ i : Int, 0 ≤ i → i ≤ 2 → 0 ≤ tBy g19 i ∧ tBy g19 i ≤ 2) (Q : zQ) (h : ∀ (v : Int) (y20 y22 y23 : Int) (w' : zW), wfM (fun j => j ≠ 14) w w' → zix w' 14 = some (.inr (11, [.int (Int32.ofInt f0), .ref 15, .ref 16, .ref 17, .ref 18, .ref 19, .ref 20, .ref 21, .ref 22, .int (Int32.ofInt f9), .int (Int32.ofInt f10), .int (Int32.ofInt f11), .int (Int32.ofInt f12), .int (Int32.ofInt f13), .long x14, .int (Int32.ofInt f15), .int (Int32.ofInt f16), .int (Int32.ofInt f17), .ref 23, .ref 24, .int (Int32.ofInt y20), .int (Int32.ofInt f21), .int (Int32.ofInt y22), .int (Int32.ofInt y23), .ref 25, .ref 26, .int (Int32.ofInt f26), .ref 27, .int (Int32.ofInt f28), .ref 28, .ref 29, .int (Int32.ofInt f31), .int (Int32.ofInt f32), .int (Int32.ofInt f33), .ref 30, .ref 31, .ref 32, .ref 33, .int (Int32.ofInt f38), .ref 34, .ref 35, .int (Int32.ofInt f41), .ref 36, .ref 37, .int (Int32.ofInt f44), .ref 38, .ref 39, .ref 40, .ref 41, .ref 42, .ref 43, .ref 44])) → ((v = 1 ∧ 0 ≤ a1 ∧ a1 < tBy g19 0 ∧ a1 ≤ 1 ∧ y20 = a1 ∧ y22 = tBy g20 (51 * a1 + 0) ∧ y23 = tBy g20 (51 * a1 + 1)) ∨ (v = 0 ∧ (a1 < 0 ∨ tBy g19 0 ≤ a1) ∧ y20 = f20 ∧ y22 = f22 ∧ y23 = f23)) → Q (some (.int (Int32.ofInt v))) w') : zCl zTab (d + 3) iX12_hand [.ref 14, .int (Int32.ofInt a1)] w 0 0 Q := by
  refine zCl_i (M := kX12_hand) rfl (Nat.le_of_ble_eq_true rfl) fun R hR => ?_
  have fr0 : wfM (fun j => j ≠ 14) w w := wfM_rf _ w
  have h190 := hr1 0 (by omega) (by omega)
  have nX0 : FX (∀ j : Nat, (j ≠ 14) → j ≠ 14) := fun j hj => by omega
  iterate 3 refine hR (?_ : R (_, _, _, _, _, _))
  refine hR (c_obj hK0 (zcall_i 0 0 (Nat.le_of_ble_eq_true rfl) (Nat.le_of_ble_eq_true rfl) (x_isR _ _ _ _ _ _ _ _ _ _ _ _ _ _ _ _ _ _ _ _ _ _ _ _ _ _ _ hK0 hK1 (by omega) (by omega) hr1 _ fun v1 hp2 => ?_)))
  refine (?_ : R (_, _, .int (Int32.ofInt v1) :: [], w, 0, 0))
  refine hR (k_ne (by omega) (fun hc3 => ?_) (fun hc3 => ?_))
  rotate_left
  · skip
    refine hR (?_ : R (_, _, _, _, _, _))
    exact hR (zret_i rfl (Nat.le_refl _) (zbo (by omega)) (h _ _ _ _ _ fr0 hK0 (Or.inr ⟨rfl, by omega, rfl, rfl, rfl⟩)))
  iterate 2 refine hR (?_ : R (_, _, _, _, _, _))
  refine hR (c_put hK0 rfl rfl fun w4 ff4 hC4 => ?_)
  have fr5 := wfM_st fr0 ff4 nX0
  have hC6 := (ff4.2 19 (by (try dsimp only); decide)).trans hK1
  have hC7 := (ff4.2 20 (by (try dsimp only); decide)).trans hK2
  replace hC4 : zix w4 14 = some (.inr (11, [.int (Int32.ofInt f0), .ref 15, .ref 16, .ref 17, .ref 18, .ref 19, .ref 20, .ref 21, .ref 22, .int (Int32.ofInt f9), .int (Int32.ofInt f10), .int (Int32.ofInt f11), .int (Int32.ofInt f12), .int (Int32.ofInt f13), .long x14, .int (Int32.ofInt f15), .int (Int32.ofInt f16), .int (Int32.ofInt f17), .ref 23, .ref 24, .int (Int32.ofInt a1), .int (Int32.ofInt f21), .int (Int32.ofInt f22), .int (Int32.ofInt f23), .ref 25, .ref 26, .int (Int32.ofInt f26), .ref 27, .int (Int32.ofInt f28), .ref 28, .ref 29, .int (Int32.ofInt f31), .int (Int32.ofInt f32), .int (Int32.ofInt f33), .ref 30, .ref 31, .ref 32, .ref 33, .int (Int32.ofInt f38), .ref 34, .ref 35, .int (Int32.ofInt f41), .ref 36, .ref 37, .int (Int32.ofInt f44), .ref 38, .ref 39, .ref 40, .ref 41, .ref 42, .ref 43, .ref 44])) := hC4
  iterate 3 refine hR (?_ : R (_, _, _, _, _, _))
  refine hR (c_obj hC4 (zcall_i 0 0 (Nat.le_of_ble_eq_true rfl) (Nat.le_of_ble_eq_true rfl) (x_ofR _ _ _ _ _ _ _ _ _ _ _ _ _ _ _ _ _ _ _ _ _ _ _ _ _ _ hC4 hC7 (by omega) (by omega) _ fun v8 hp9 => ?_)))
  subst hp9
  refine (?_ : R (_, _, .int (Int32.ofInt (tBy g20 (51 * a1 + 0))) :: .ref 14 :: [], w4, 0, 0))
  refine hR (c_put hC4 rfl rfl fun w10 ff10 hC10 => ?_)
  have fr11 := wfM_st fr5 ff10 nX0
  have hC12 := (ff10.2 19 (by (try dsimp only); decide)).trans hC6
  have hC13 := (ff10.2 20 (by (try dsimp only); decide)).trans hC7
  replace hC10 : zix w10 14 = some (.inr (11, [.int (Int32.ofInt f0), .ref 15, .ref 16, .ref 17, .ref 18, .ref 19, .ref 20, .ref 21, .ref 22, .int (Int32.ofInt f9), .int (Int32.ofInt f10), .int (Int32.ofInt f11), .int (Int32.ofInt f12), .int (Int32.ofInt f13), .long x14, .int (Int32.ofInt f15), .int (Int32.ofInt f16), .int (Int32.ofInt f17), .ref 23, .ref 24, .int (Int32.ofInt a1), .int (Int32.ofInt f21), .int (Int32.ofInt (tBy g20 (51 * a1 + 0))), .int (Int32.ofInt f23), .ref 25, .ref 26, .int (Int32.ofInt f26), .ref 27, .int (Int32.ofInt f28), .ref 28, .ref 29, .int (Int32.ofInt f31), .int (Int32.ofInt f32), .int (Int32.ofInt f33), .ref 30, .ref 31, .ref 32, .ref 33, .int (Int32.ofInt f38), .ref 34, .ref 35, .int (Int32.ofInt f41), .ref 36, .ref 37, .int (Int32.ofInt f44), .ref 38, .ref 39, .ref 40, .ref 41, .ref 42, .ref 43, .ref 44])) := hC10
  iterate 3 refine hR (?_ : R (_, _, _, _, _, _))
  refine hR (c_obj hC10 (zcall_i 0 0 (Nat.le_of_ble_eq_true rfl) (Nat.le_of_ble_eq_true rfl) (x_ofR _ _ _ _ _ _ _ _ _ _ _ _ _ _ _ _ _ _ _ _ _ _ _ _ _ _ hC10 hC13 (by omega) (by omega) _ fun v14 hp15 => ?_)))
  subst hp15
  refine (?_ : R (_, _, .int (Int32.ofInt (tBy g20 (51 * a1 + 1))) :: .ref 14 :: [], w10, 0, 0))
  refine hR (c_put hC10 rfl rfl fun w16 ff16 hC16 => ?_)
  have fr17 := wfM_st fr11 ff16 nX0
  have hC18 := (ff16.2 19 (by (try dsimp only); decide)).trans hC12
  have hC19 := (ff16.2 20 (by (try dsimp only); decide)).trans hC13
  replace hC16 : zix w16 14 = some (.inr (11, [.int (Int32.ofInt f0), .ref 15, .ref 16, .ref 17, .ref 18, .ref 19, .ref 20, .ref 21, .ref 22, .int (Int32.ofInt f9), .int (Int32.ofInt f10), .int (Int32.ofInt f11), .int (Int32.ofInt f12), .int (Int32.ofInt f13), .long x14, .int (Int32.ofInt f15), .int (Int32.ofInt f16), .int (Int32.ofInt f17), .ref 23, .ref 24, .int (Int32.ofInt a1), .int (Int32.ofInt f21), .int (Int32.ofInt (tBy g20 (51 * a1 + 0))), .int (Int32.ofInt (tBy g20 (51 * a1 + 1))), .ref 25, .ref 26, .int (Int32.ofInt f26), .ref 27, .int (Int32.ofInt f28), .ref 28, .ref 29, .int (Int32.ofInt f31), .int (Int32.ofInt f32), .int (Int32.ofInt f33), .ref 30, .ref 31, .ref 32, .ref 33, .int (Int32.ofInt f38), .ref 34, .ref 35, .int (Int32.ofInt f41), .ref 36, .ref 37, .int (Int32.ofInt f44), .ref 38, .ref 39, .ref 40, .ref 41, .ref 42, .ref 43, .ref 44])) := hC16
  refine hR (?_ : R (_, _, _, _, _, _))
  exact hR (zret_i rfl (Nat.le_refl _) (zbo (by omega)) (h _ _ _ _ _ fr17 hC16 (Or.inl ⟨rfl, by omega, by omega, by omega, rfl, rfl, rfl⟩)))
