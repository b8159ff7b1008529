/-! THE REFERENCE'S LEVELS, BY PLACES. -/
theorem all_hh {n r : Int} (hn : 0 ≤ n ∧ n ≤ 5) (r0 : 0 ≤ r) (r1 : r < n) : hHas (bShl 1 n - 1) r = 1 := by
  have h : decide (hHas (bShl 1 n - 1) r = 1) = true := (all_h hn r0 r1).trans rfl
  exact of_decide_eq_true h
theorem bk_x0 {g : Nat → Int32} {a : Int} (h : bkOK g) (a0 : 0 ≤ a) (a1 : a ≤ 1) : 0 ≤ tBy g (51 * a) ∧ tBy g (51 * a) ≤ 5460 := by
  have hb := (h a.toNat (by omega)).1
  unfold tBy
  rw [show (51 * a).toNat = 51 * a.toNat + 0 by omega]
  exact hb
theorem x_everybodyR (w : zW) (d : Nat) (f0 f9 f10 f11 f12 f13 f15 f16 f17 f20 f21 f22 f23 f26 f28 f31 f32 f33 f38 f41 f44 : Int) (x14 : Int64) (hK0 : zix w 14 = some (.inr (11, [.int (Int32.ofInt f0), .ref 15, .ref 16, .ref 17, .ref 18, .ref 19, .ref 20, .ref 21, .ref 22, .int (Int32.ofInt f9), .int (Int32.ofInt f10), .int (Int32.ofInt f11), .int (Int32.ofInt f12), .int (Int32.ofInt f13), .long x14, .int (Int32.ofInt f15), .int (Int32.ofInt f16), .int (Int32.ofInt f17), .ref 23, .ref 24, .int (Int32.ofInt f20), .int (Int32.ofInt f21), .int (Int32.ofInt f22), .int (Int32.ofInt f23), .ref 25, .ref 26, .int (Int32.ofInt f26), .ref 27, .int (Int32.ofInt f28), .ref 28, .ref 29, .int (Int32.ofInt f31), .int (Int32.ofInt f32), .int (Int32.ofInt f33), .ref 30, .ref 31, .ref 32, .ref 33, .int (Int32.ofInt f38), .ref 34, .ref 35, .int (Int32.ofInt f41), .ref 36, .ref 37, .int (Int32.ofInt f44), .ref 38, .ref 39, .ref 40, .ref 41, .ref 42, .ref 43, .ref 44]))) (hr0 : 0 ≤ f23 ∧ f23 ≤ 5) (Q : zQ) (h : ∀ (v : Int), (v = bShl 1 f23 - 1) → Q (some (.int (Int32.ofInt v))) w) : zCl zTab (d + 1) iX12_everybody [.ref 14] w 0 0 Q := by
  refine zCl_i (M := kX12_everybody) rfl (Nat.le_of_ble_eq_true rfl) fun R hR => ?_
  have hsb := shl_b hr0
  iterate 2 refine hR (?_ : R (_, _, _, _, _, _))
  refine hR (c_get hK0 rfl ?_)
  refine hR (t_c (bShl 1 f23) (zoi _).symm ?_)
  have hbt1 : r32 (bShl 1 f23) := zrg _
  refine hR (?_ : R (_, _, _, _, _, _))
  refine hR (t_sub ?_)
  exact hR (zret_i rfl (Nat.le_refl _) trivial (h _ rfl))
theorem x_layDriftsR (w : zW) (d : Nat) (f0 f9 f10 f11 f12 f13 f15 f16 f17 f20 f21 f22 f23 f26 f28 f31 f32 f33 f38 f41 f44 : Int) (x14 : Int64) (g25 g26 g27 g35 : Nat → Int32) (hK0 : zix w 14 = some (.inr (11, [.int (Int32.ofInt f0), .ref 15, .ref 16, .ref 17, .ref 18, .ref 19, .ref 20, .ref 21, .ref 22, .int (Int32.ofInt f9), .int (Int32.ofInt f10), .int (Int32.ofInt f11), .int (Int32.ofInt f12), .int (Int32.ofInt f13), .long x14, .int (Int32.ofInt f15), .int (Int32.ofInt f16), .int (Int32.ofInt f17), .ref 23, .ref 24, .int (Int32.ofInt f20), .int (Int32.ofInt f21), .int (Int32.ofInt f22), .int (Int32.ofInt f23), .ref 25, .ref 26, .int (Int32.ofInt f26), .ref 27, .int (Int32.ofInt f28), .ref 28, .ref 29, .int (Int32.ofInt f31), .int (Int32.ofInt f32), .int (Int32.ofInt f33), .ref 30, .ref 31, .ref 32, .ref 33, .int (Int32.ofInt f38), .ref 34, .ref 35, .int (Int32.ofInt f41), .ref 36, .ref 37, .int (Int32.ofInt f44), .ref 38, .ref 39, .ref 40, .ref 41, .ref 42, .ref 43, .ref 44]))) (hK1 : zix w 25 = some (.inl (1, 7, .inl g25))) (hK2 : zix w 26 = some (.inl (1, 7, .inl g26))) (hK3 : zix w 27 = some (.inl (1, 49, .inl g27))) (hK4 : zix w 35 = some (.inl (1, 54610, .inl g35))) (hr0 : 0 ≤ f22 ∧ f22 ≤ 5460) (Q : zQ) (h : ∀ (T25 T26 T27 T35 : Nat → Int32) (w' : zW), wfM (fun j => j ≠ 25 ∧ j ≠ 26 ∧ j ≠ 27 ∧ j ≠ 35) w w' → zix w' 25 = some (.inl (1, 7, .inl T25)) → zix w' 26 = some (.inl (1, 7, .inl T26)) → zix w' 27 = some (.inl (1, 49, .inl T27)) → zix w' 35 = some (.inl (1, 54610, .inl T35)) → (∀ t : Int, 0 ≤ t → t ≤ 5460 → tBy T35 t = dft t f22) → Q (none) w') : zCl zTab (d + 5) iX12_layDrifts [.ref 14] w 0 0 Q := by
  refine zCl_i (M := kX12_layDrifts) rfl (Nat.le_of_ble_eq_true rfl) fun R hR => ?_
  have fr0 : wfM (fun j => j ≠ 25 ∧ j ≠ 26 ∧ j ≠ 27 ∧ j ≠ 35) w w := wfM_rf _ w
  have nX0 : FX (∀ j : Nat, (j ≠ 25 ∧ j ≠ 26 ∧ j ≠ 27 ∧ j ≠ 35) → (j ≠ 25 ∧ j ≠ 26 ∧ j ≠ 27)) := fun j hj => by omega
  have nX1 : FX (∀ j : Nat, (j ≠ 25 ∧ j ≠ 26 ∧ j ≠ 27 ∧ j ≠ 35) → j ≠ 35) := fun j hj => by omega
  iterate 2 refine hR (?_ : R (_, _, _, _, _, _))
  have lp2 : ∀ (N : Nat) (tt : Int) (U25 U26 U27 U : Nat → Int32) (w_2 : zW), (wfM (fun j => j ≠ 25 ∧ j ≠ 26 ∧ j ≠ 27 ∧ j ≠ 35) w w_2) → (zix w_2 14 = some (.inr (11, [.int (Int32.ofInt f0), .ref 15, .ref 16, .ref 17, .ref 18, .ref 19, .ref 20, .ref 21, .ref 22, .int (Int32.ofInt f9), .int (Int32.ofInt f10), .int (Int32.ofInt f11), .int (Int32.ofInt f12), .int (Int32.ofInt f13), .long x14, .int (Int32.ofInt f15), .int (Int32.ofInt f16), .int (Int32.ofInt f17), .ref 23, .ref 24, .int (Int32.ofInt f20), .int (Int32.ofInt f21), .int (Int32.ofInt f22), .int (Int32.ofInt f23), .ref 25, .ref 26, .int (Int32.ofInt f26), .ref 27, .int (Int32.ofInt f28), .ref 28, .ref 29, .int (Int32.ofInt f31), .int (Int32.ofInt f32), .int (Int32.ofInt f33), .ref 30, .ref 31, .ref 32, .ref 33, .int (Int32.ofInt f38), .ref 34, .ref 35, .int (Int32.ofInt f41), .ref 36, .ref 37, .int (Int32.ofInt f44), .ref 38, .ref 39, .ref 40, .ref 41, .ref 42, .ref 43, .ref 44]))) → (zix w_2 25 = some (.inl (1, 7, .inl U25))) → (zix w_2 26 = some (.inl (1, 7, .inl U26))) → (zix w_2 27 = some (.inl (1, 49, .inl U27))) → (zix w_2 35 = some (.inl (1, 54610, .inl U))) → (0 ≤ tt ∧ tt ≤ 5461) → (∀ t : Int, 0 ≤ t → t < tt → tBy U t = dft t f22) → (5462 - tt < N) → R (2, [some (.ref 14), some (.int (Int32.ofInt tt))], [], w_2, 0, 0) := by
    intro N
    induction N with
    | zero => intros; omega
    | succ N ih2 =>
      intro tt U25 U26 U27 U w_2 fr_2 hC14_2 hC25_2 hC26_2 hC27_2 hC35_2 hf0_2 hp0_2 hN2
      refine hR (?_ : R (_, _, _, _, _, _))
      refine hR (t_c 5461 (by decide) ?_)
      refine hR (j_ge (by omega) (by omega) (fun hc1 => ?_) (fun hc1 => ?_))
      · skip
        exact hR (zret_i rfl (Nat.le_refl _) rfl (h _ _ _ _ _ fr_2 hC25_2 hC26_2 hC27_2 hC35_2 (fun t t0 t1 => hp0_2 t t0 (by omega))))
      refine hR (?_ : R (_, _, _, _, _, _))
      refine hR (c_get hC14_2 rfl ?_)
      iterate 4 refine hR (?_ : R (_, _, _, _, _, _))
      refine hR (c_get hC14_2 rfl ?_)
      refine hR (c_obj hC14_2 (zcall_i 0 0 (Nat.le_of_ble_eq_true rfl) (Nat.le_of_ble_eq_true rfl) (x_apartR _ _ _ _ _ _ _ _ _ _ _ _ _ _ _ _ _ _ _ _ _ _ _ _ _ _ _ _ _ hC14_2 hC25_2 hC26_2 hC27_2 (by omega) (by omega) _ fun v2 T25_3 T26_4 T27_5 w6 gg7 hC8 hC9 hC10 hp11 => ?_)))
      have fr12 := wfM_tr fr_2 gg7 nX0
      have hC13 := (gg7.2 14 (by (try dsimp only); decide)).trans hC14_2
      have hC14 := (gg7.2 35 (by (try dsimp only); decide)).trans hC35_2
      subst hp11
      refine (?_ : R (_, _, .int (Int32.ofInt (dft tt f22)) :: .int (Int32.ofInt tt) :: .ref 35 :: [], w6, 0, 0))
      have hda := dft_r (a := tt) (b := f22)
      refine hR (x_ast hC14 (by omega) (by omega) (Nat.le_of_ble_eq_true rfl) fun w15 ff15 hC15 => ?_)
      have fr16 := wfM_st fr12 ff15 nX1
      have hC17 := (ff15.2 14 (by (try dsimp only); decide)).trans hC13
      have hC18 := (ff15.2 25 (by (try dsimp only); decide)).trans hC8
      have hC19 := (ff15.2 26 (by (try dsimp only); decide)).trans hC9
      have hC20 := (ff15.2 27 (by (try dsimp only); decide)).trans hC10
      refine hR (t_inc ?_)
      refine hR (?_ : R (_, _, _, _, _, _))
      exact ih2 _ _ _ _ _ _ fr16 hC17 hC18 hC19 hC20 hC15 (by omega) (fun t t0 t1 => by rw [zupI (by exact ⟨by omega, by omega⟩) (by omega) t0]; by_cases c : t = tt; (· rw [if_pos c, c]); rw [if_neg c]; exact hp0_2 t t0 (by omega)) (by omega)
  exact lp2 400000000 _ _ _ _ _ _ fr0 hK0 hK1 hK2 hK3 hK4 (by omega) (fun t t0 t1 => by omega) (by omega)
theorem x_commonR (w : zW) (d : Nat) (a1 a2 : Int)  (hr0 : 0 ≤ a1 ∧ a1 < 4294967296) (hr1 : 0 ≤ a2 ∧ a2 < 4294967296) (Q : zQ) (h : ∀ (v : Int), (v = gcI a1 a2) → Q (some (.long (Int64.ofInt v))) w) : zCl zTab (d + 1) iX12_common [.long (Int64.ofInt a1), .long (Int64.ofInt a2)] w 0 0 Q := by
  refine zCl_i (M := kX12_common) rfl (Nat.le_of_ble_eq_true rfl) fun R hR => ?_
  iterate 4 refine hR (?_ : R (_, _, _, _, _, _))
  have lp6 : ∀ (N : Nat) (xx : Int) (yy : Int) (o8_6 : Option Value), (True) → (0 ≤ xx ∧ xx ≤ 4294967295) → (0 ≤ yy ∧ yy ≤ 4294967295) → (gcI xx yy = gcI a1 a2) → (yy + 1 < N) → R (6, [some (.long (Int64.ofInt a1)), none, some (.long (Int64.ofInt a2)), none, some (.long (Int64.ofInt xx)), none, some (.long (Int64.ofInt yy)), none, o8_6, none], [], w, 0, 0) := by
    intro N
    induction N with
    | zero => intros; omega
    | succ N ih6 =>
      intro xx yy o8_6 hzo8_6 hf0_6 hf1_6 hp0_6 hN6
      iterate 3 refine hR (?_ : R (_, _, _, _, _, _))
      have hle1 := li_t (e := yy) (by omega) (by omega)
      refine hR (x_lcmpE (a := 0) (by decide) (fun hc2 => ?_) (fun hc2 => ?_))
      · skip
        refine hR (?_ : R (_, _, _, _, _, _))
        exact hR (zret_i rfl (Nat.le_refl _) trivial (h _ (by rw [← hp0_6]; exact (gc_0 (by omega) (by omega)).symm)))
      iterate 2 refine hR (?_ : R (_, _, _, _, _, _))
      have hr0 := Int.emod_nonneg xx (show yy ≠ 0 by omega)
      have hr9 := Int.emod_lt_of_pos xx (show 0 < yy by omega)
      refine hR (And.intro (li_ne (by omega) (by omega)) (tl_c (li_rem (by omega) (by omega) (by omega) (by omega)) ?_))
      iterate 6 refine hR (?_ : R (_, _, _, _, _, _))
      exact ih6 _ _ _ trivial (by omega) (by omega) ((gc_s (by omega) (by omega)).trans hp0_6) (by omega)
  exact lp6 5000000000 _ _ _ trivial (by omega) (by omega) rfl (by omega)
theorem x_meanR (w : zW) (d : Nat) (a1 a2 a3 : Int) (f0 f9 f10 f11 f12 f13 f15 f16 f17 f20 f21 f22 f23 f26 f28 f31 f32 f33 f38 f41 f44 : Int) (x14 : Int64) (g19 g20 g25 g30 g26 g27 g35 : Nat → Int32) (hK0 : zix w 14 = some (.inr (11, [.int (Int32.ofInt f0), .ref 15, .ref 16, .ref 17, .ref 18, .ref 19, .ref 20, .ref 21, .ref 22, .int (Int32.ofInt f9), .int (Int32.ofInt f10), .int (Int32.ofInt f11), .int (Int32.ofInt f12), .int (Int32.ofInt f13), .long x14, .int (Int32.ofInt f15), .int (Int32.ofInt f16), .int (Int32.ofInt f17), .ref 23, .ref 24, .int (Int32.ofInt f20), .int (Int32.ofInt f21), .int (Int32.ofInt f22), .int (Int32.ofInt f23), .ref 25, .ref 26, .int (Int32.ofInt f26), .ref 27, .int (Int32.ofInt f28), .ref 28, .ref 29, .int (Int32.ofInt f31), .int (Int32.ofInt f32), .int (Int32.ofInt f33), .ref 30, .ref 31, .ref 32, .ref 33, .int (Int32.ofInt f38), .ref 34, .ref 35, .int (Int32.ofInt f41), .ref 36, .ref 37, .int (Int32.ofInt f44), .ref 38, .ref 39, .ref 40, .ref 41, .ref 42, .ref 43, .ref 44]))) (hK1 : zix w 19 = some (.inl (1, 12, .inl g19))) (hK2 : zix w 20 = some (.inl (1, 408, .inl g20))) (hK3 : zix w 25 = some (.inl (1, 7, .inl g25))) (hK4 : zix w 30 = some (.inl (1, 27305, .inl g30))) (hK5 : zix w 26 = some (.inl (1, 7, .inl g26))) (hK6 : zix w 27 = some (.inl (1, 49, .inl g27))) (hK7 : zix w 35 = some (.inl (1, 54610, .inl g35))) (hr0 : (-2147483648 ≤ a1 ∧ a1 ≤ 2147483647) ∧ (-2147483648 ≤ a2 ∧ a2 ≤ 2147483647) ∧ (-2147483648 ≤ a3 ∧ a3 ≤ 2147483647)) (hr1 : ∀ i : Int, 0 ≤ i → i ≤ 2 → 0 ≤ tBy g19 i ∧ tBy g19 i ≤ 2) (hr2 : bkOK g20) (hr3 : (-1 ≤ f21 ∧ f21 ≤ 1) ∧ RMD g30 g20 f21) (Q : zQ) (h : ∀ (v : Int) (y20 y21 y22 y23 y26 : Int) (T25 T30 T26 T27 T35 : Nat → Int32) (w' : zW), wfM (fun j => j ≠ 14 ∧ j ≠ 25 ∧ j ≠ 30 ∧ j ≠ 26 ∧ j ≠ 27 ∧ j ≠ 35) w w' → zix w' 14 = some (.inr (11, [.int (Int32.ofInt 0), .ref 15, .ref 16, .ref 17, .ref 18, .ref 19, .ref 20, .ref 21, .ref 22, .int (Int32.ofInt f9), .int (Int32.ofInt f10), .int (Int32.ofInt f11), .int (Int32.ofInt f12), .int (Int32.ofInt f13), .long x14, .int (Int32.ofInt f15), .int (Int32.ofInt f16), .int (Int32.ofInt f17), .ref 23, .ref 24, .int (Int32.ofInt y20), .int (Int32.ofInt y21), .int (Int32.ofInt y22), .int (Int32.ofInt y23), .ref 25, .ref 26, .int (Int32.ofInt y26), .ref 27, .int (Int32.ofInt f28), .ref 28, .ref 29, .int (Int32.ofInt f31), .int (Int32.ofInt f32), .int (Int32.ofInt f33), .ref 30, .ref 31, .ref 32, .ref 33, .int (Int32.ofInt f38), .ref 34, .ref 35, .int (Int32.ofInt f41), .ref 36, .ref 37, .int (Int32.ofInt f44), .ref 38, .ref 39, .ref 40, .ref 41, .ref 42, .ref 43, .ref 44])) → zix w' 25 = some (.inl (1, 7, .inl T25)) → zix w' 30 = some (.inl (1, 27305, .inl T30)) → zix w' 26 = some (.inl (1, 7, .inl T26)) → zix w' 27 = some (.inl (1, 49, .inl T27)) → zix w' 35 = some (.inl (1, 54610, .inl T35)) → (((a1 < 0 ∨ tBy g19 0 ≤ a1) ∧ v = -1) ∨ ((0 ≤ a1 ∧ a1 < tBy g19 0) ∧ v = meaV (rF g20 (51 * a1)) (tBy g20 (51 * a1)) (tBy g20 (51 * a1 + 1)) a2 a3)) → Q (some (.long (Int64.ofInt v))) w') : zCl zTab (d + 6) iX12_mean [.ref 14, .int (Int32.ofInt a1), .int (Int32.ofInt a2), .int (Int32.ofInt a3)] w 0 0 Q := by
  refine zCl_i (M := kX12_mean) rfl (Nat.le_of_ble_eq_true rfl) fun R hR => ?_
  have fr0 : wfM (fun j => j ≠ 14 ∧ j ≠ 25 ∧ j ≠ 30 ∧ j ≠ 26 ∧ j ≠ 27 ∧ j ≠ 35) w w := wfM_rf _ w
  have h190 := hr1 0 (by omega) (by omega)
  have nX0 : FX (∀ j : Nat, (j ≠ 14 ∧ j ≠ 25 ∧ j ≠ 30 ∧ j ≠ 26 ∧ j ≠ 27 ∧ j ≠ 35) → j ≠ 14) := fun j hj => by omega
  have nX1 : FX (∀ j : Nat, (j ≠ 14 ∧ j ≠ 25 ∧ j ≠ 30 ∧ j ≠ 26 ∧ j ≠ 27 ∧ j ≠ 35) → (j ≠ 14)) := fun j hj => by omega
  have nX2 : FX (∀ j : Nat, (j ≠ 14 ∧ j ≠ 25 ∧ j ≠ 30 ∧ j ≠ 26 ∧ j ≠ 27 ∧ j ≠ 35) → (j ≠ 14 ∧ j ≠ 25 ∧ j ≠ 30)) := fun j hj => by omega
  have nX3 : FX (∀ j : Nat, (j ≠ 14 ∧ j ≠ 25 ∧ j ≠ 30 ∧ j ≠ 26 ∧ j ≠ 27 ∧ j ≠ 35) → (j ≠ 25 ∧ j ≠ 26 ∧ j ≠ 27 ∧ j ≠ 35)) := fun j hj => by omega
  have nX4 : FX (∀ j : Nat, (j ≠ 14 ∧ j ≠ 25 ∧ j ≠ 30 ∧ j ≠ 26 ∧ j ≠ 27 ∧ j ≠ 35) → j ≠ 35) := fun j hj => by omega
  iterate 2 refine hR (?_ : R (_, _, _, _, _, _))
  refine hR (c_put hK0 rfl rfl fun w1 ff1 hC1 => ?_)
  have fr2 := wfM_st fr0 ff1 nX0
  have hC3 := (ff1.2 19 (by (try dsimp only); decide)).trans hK1
  have hC4 := (ff1.2 20 (by (try dsimp only); decide)).trans hK2
  have hC5 := (ff1.2 25 (by (try dsimp only); decide)).trans hK3
  have hC6 := (ff1.2 30 (by (try dsimp only); decide)).trans hK4
  have hC7 := (ff1.2 26 (by (try dsimp only); decide)).trans hK5
  have hC8 := (ff1.2 27 (by (try dsimp only); decide)).trans hK6
  have hC9 := (ff1.2 35 (by (try dsimp only); decide)).trans hK7
  replace hC1 : zix w1 14 = some (.inr (11, [.int (Int32.ofInt 0), .ref 15, .ref 16, .ref 17, .ref 18, .ref 19, .ref 20, .ref 21, .ref 22, .int (Int32.ofInt f9), .int (Int32.ofInt f10), .int (Int32.ofInt f11), .int (Int32.ofInt f12), .int (Int32.ofInt f13), .long x14, .int (Int32.ofInt f15), .int (Int32.ofInt f16), .int (Int32.ofInt f17), .ref 23, .ref 24, .int (Int32.ofInt f20), .int (Int32.ofInt f21), .int (Int32.ofInt f22), .int (Int32.ofInt f23), .ref 25, .ref 26, .int (Int32.ofInt f26), .ref 27, .int (Int32.ofInt f28), .ref 28, .ref 29, .int (Int32.ofInt f31), .int (Int32.ofInt f32), .int (Int32.ofInt f33), .ref 30, .ref 31, .ref 32, .ref 33, .int (Int32.ofInt f38), .ref 34, .ref 35, .int (Int32.ofInt f41), .ref 36, .ref 37, .int (Int32.ofInt f44), .ref 38, .ref 39, .ref 40, .ref 41, .ref 42, .ref 43, .ref 44])) := hC1
  iterate 2 refine hR (?_ : R (_, _, _, _, _, _))
  refine hR (t_c 9 (by decide) ?_)
  refine hR (zcall_i 0 0 (Nat.le_of_ble_eq_true rfl) (Nat.le_of_ble_eq_true rfl) (m_in _ a2 0 9 _ (by omega) (by omega) (by omega) _ fun v10 hp11 => ?_))
  refine (?_ : R (_, _, .int (Int32.ofInt v10) :: [], w1, 0, 0))
  refine hR (k_eq (by omega) (fun hc12 => ?_) (fun hc12 => ?_))
  · skip
    refine hR (tl_c (y := Int64.ofInt ((-1))) (by decide) ?_)
    exact hR (zret_i rfl (Nat.le_refl _) trivial (h _ _ _ _ _ _ _ _ _ _ _ _ fr2 hC1 hC5 hC6 hC7 hC8 hC9 (w_bad (show (a1 < 0 ∨ tBy g19 0 ≤ a1) ∨ (0 ≤ a1 ∧ a1 < tBy g19 0) by omega) (mea_n (by omega)))))
  iterate 2 refine hR (?_ : R (_, _, _, _, _, _))
  refine hR (c_obj hC1 (zcall_i 0 0 (Nat.le_of_ble_eq_true rfl) (Nat.le_of_ble_eq_true rfl) (x_handR _ _ _ _ _ _ _ _ _ _ _ _ _ _ _ _ _ _ _ _ _ _ _ _ _ _ _ hC1 hC3 hC4 (by omega) hr1 _ fun v13 y20_14 y22_15 y23_16 w17 gg18 hC19 hp20 => ?_)))
  have fr21 := wfM_tr fr2 gg18 nX1
  have hC22 := (gg18.2 19 (by (try dsimp only); decide)).trans hC3
  have hC23 := (gg18.2 20 (by (try dsimp only); decide)).trans hC4
  have hC24 := (gg18.2 25 (by (try dsimp only); decide)).trans hC5
  have hC25 := (gg18.2 30 (by (try dsimp only); decide)).trans hC6
  have hC26 := (gg18.2 26 (by (try dsimp only); decide)).trans hC7
  have hC27 := (gg18.2 27 (by (try dsimp only); decide)).trans hC8
  have hC28 := (gg18.2 35 (by (try dsimp only); decide)).trans hC9
  refine (?_ : R (_, _, .int (Int32.ofInt v13) :: [], w17, 0, 0))
  refine hR (k_eq (by omega) (fun hc29 => ?_) (fun hc29 => ?_))
  · skip
    refine hR (tl_c (y := Int64.ofInt ((-1))) (by decide) ?_)
    exact hR (zret_i rfl (Nat.le_refl _) trivial (h _ _ _ _ _ _ _ _ _ _ _ _ fr21 hC19 hC24 hC25 hC26 hC27 hC28 (Or.inl ⟨by omega, rfl⟩)))
  have ht : (0 ≤ a1 ∧ a1 < tBy g19 0 ∧ a1 ≤ 1) ∧ a1 = y20_14 ∧ y22_15 = tBy g20 (51 * a1 + 0) ∧ y23_16 = tBy g20 (51 * a1 + 1) := by omega
  obtain ⟨ht1, ht2, ht3, ht4⟩ := ht
  subst ht2
  have hb1 := bk_b1 hr2 a1 (by omega) (by omega)
  rw [Int.add_zero] at ht3
  have hbr : 0 ≤ y22_15 ∧ y22_15 ≤ 5460 := by rw [ht3]; exact bk_x0 hr2 ht1.1 ht1.2.2
  refine hR (?_ : R (_, _, _, _, _, _))
  refine hR (c_get hC19 rfl ?_)
  refine hR (k_ne (by omega) (fun hc30 => ?_) (fun hc30 => ?_))
  · skip
    refine hR (?_ : R (_, _, _, _, _, _))
    refine hR (c_obj hC19 (zcall_i 0 0 (Nat.le_of_ble_eq_true rfl) (Nat.le_of_ble_eq_true rfl) (x_layMadeR _ _ _ _ _ _ _ _ _ _ _ _ _ _ _ _ _ _ _ _ _ _ _ _ _ _ _ hC19 hC23 hC24 hC25 hr2 (by omega) ⟨ht4, by omega, by omega⟩ hr3 _ fun y26_31 T25_32 T30_33 w34 gg35 hC36 hC37 hC38 hp39 => ?_)))
    have fr40 := wfM_tr fr21 gg35 nX2
    have hC41 := (gg35.2 19 (by (try dsimp only); decide)).trans hC22
    have hC42 := (gg35.2 20 (by (try dsimp only); decide)).trans hC23
    have hC43 := (gg35.2 26 (by (try dsimp only); decide)).trans hC26
    have hC44 := (gg35.2 27 (by (try dsimp only); decide)).trans hC27
    have hC45 := (gg35.2 35 (by (try dsimp only); decide)).trans hC28
    refine (?_ : R (_, _, [], w34, 0, 0))
    have hF := hp39
    refine hR (?_ : R (_, _, _, _, _, _))
    refine hR (c_obj hC36 (zcall_i 0 0 (Nat.le_of_ble_eq_true rfl) (Nat.le_of_ble_eq_true rfl) (x_layDriftsR _ _ _ _ _ _ _ _ _ _ _ _ _ _ _ _ _ _ _ _ _ _ _ _ _ _ _ _ hC36 hC37 hC43 hC44 hC45 (by omega) _ fun T25_46 T26_47 T27_48 T35_49 w50 gg51 hC52 hC53 hC54 hC55 hp56 => ?_)))
    have fr57 := wfM_tr fr40 gg51 nX3
    have hC58 := (gg51.2 14 (by (try dsimp only); decide)).trans hC36
    have hC59 := (gg51.2 19 (by (try dsimp only); decide)).trans hC41
    have hC60 := (gg51.2 20 (by (try dsimp only); decide)).trans hC42
    have hC61 := (gg51.2 30 (by (try dsimp only); decide)).trans hC38
    refine (?_ : R (_, _, [], w50, 0, 0))
    have hld := hp56
    have hFO := rm_ok hF
    refine hR (tl_c (y := Int64.ofInt 1) (by decide) ?_)
    iterate 3 refine hR (?_ : R (_, _, _, _, _, _))
    have lp52 : ∀ (N : Nat) (dn : Int) (kk : Int) (o7_52 : Option Value) (o8_52 : Option Value) (o9_52 : Option Value) (T : Nat → Int32) (w_52 : zW), (zc2 o7_52 = false) → (zc2 o8_52 = false) → (zc2 o9_52 = false) → (wfM (fun j => j ≠ 14 ∧ j ≠ 25 ∧ j ≠ 30 ∧ j ≠ 26 ∧ j ≠ 27 ∧ j ≠ 35) w w_52) → (zix w_52 14 = some (.inr (11, [.int (Int32.ofInt 0), .ref 15, .ref 16, .ref 17, .ref 18, .ref 19, .ref 20, .ref 21, .ref 22, .int (Int32.ofInt f9), .int (Int32.ofInt f10), .int (Int32.ofInt f11), .int (Int32.ofInt f12), .int (Int32.ofInt f13), .long x14, .int (Int32.ofInt f15), .int (Int32.ofInt f16), .int (Int32.ofInt f17), .ref 23, .ref 24, .int (Int32.ofInt a1), .int (Int32.ofInt a1), .int (Int32.ofInt y22_15), .int (Int32.ofInt y23_16), .ref 25, .ref 26, .int (Int32.ofInt y26_31), .ref 27, .int (Int32.ofInt f28), .ref 28, .ref 29, .int (Int32.ofInt f31), .int (Int32.ofInt f32), .int (Int32.ofInt f33), .ref 30, .ref 31, .ref 32, .ref 33, .int (Int32.ofInt f38), .ref 34, .ref 35, .int (Int32.ofInt f41), .ref 36, .ref 37, .int (Int32.ofInt f44), .ref 38, .ref 39, .ref 40, .ref 41, .ref 42, .ref 43, .ref 44]))) → (zix w_52 19 = some (.inl (1, 12, .inl g19))) → (zix w_52 20 = some (.inl (1, 408, .inl g20))) → (zix w_52 25 = some (.inl (1, 7, .inl T25_46))) → (zix w_52 30 = some (.inl (1, 27305, .inl T30_33))) → (zix w_52 26 = some (.inl (1, 7, .inl T26_47))) → (zix w_52 27 = some (.inl (1, 49, .inl T27_48))) → (zix w_52 35 = some (.inl (1, 54610, .inl T))) → (0 ≤ dn ∧ dn ≤ 1953125) → (1 ≤ kk ∧ kk ≤ 10) → (LTQ (saF (rF g20 (51 * a1)) y23_16 (fun t => dft t y22_15)) T kk) → (kk ≤ a2 + 1) → (dn = rPw y23_16 (kk - 1).toNat) → (11 - kk < N) → R (52, [some (.ref 14), some (.int (Int32.ofInt a1)), some (.int (Int32.ofInt a2)), some (.int (Int32.ofInt a3)), some (.long (Int64.ofInt dn)), none, some (.int (Int32.ofInt kk)), o7_52, o8_52, o9_52], [], w_52, 0, 0) := by
      intro N
      induction N with
      | zero => intros; omega
      | succ N ih52 =>
        intro dn kk o7_52 o8_52 o9_52 T w_52 hzo7_52 hzo8_52 hzo9_52 fr_52 hC14_52 hC19_52 hC20_52 hC25_52 hC30_52 hC26_52 hC27_52 hC35_52 hf0_52 hf1_52 hp0_52 hp1_52 hp2_52 hN52
        iterate 2 refine hR (?_ : R (_, _, _, _, _, _))
        refine hR (j_gt (by omega) (by omega) (fun hc62 => ?_) (fun hc62 => ?_))
        · skip
          refine hR (?_ : R (_, _, _, _, _, _))
          refine hR (c_get hC14_52 rfl ?_)
          refine hR (t_c 5461 (by decide) ?_)
          refine hR (?_ : R (_, _, _, _, _, _))
          refine hR (t_mul ?_)
          refine hR (?_ : R (_, _, _, _, _, _))
          refine hR (c_get hC14_52 rfl ?_)
          refine hR (t_add ?_)
          refine hR (c_aldE hC35_52 (by omega) (by omega) (Nat.le_of_ble_eq_true rfl) fun v63 ev63 rv63 => ?_)
          replace ev63 : v63 = tBy T ((5461 * a2) + y22_15) := ev63
          subst ev63
          have hup := hp0_52 a2 y22_15 (by omega) (by omega) (by omega) (by omega)
          have hdn : dn = rPw y23_16 a2.toNat := by rw [hp2_52, show kk - 1 = a2 by omega]
          have hub := sa_b hFO (by omega) (by decide) (dft_b y22_15) a2.toNat y22_15 (by omega) (by omega)
          have hub2 := cp5_b (C := 12) (by omega) (k := a2.toNat) (by omega)
          rw [← hup] at hub
          have hdp : 0 < dn := by
            rw [hdn]
            by_cases z : 0 < a2
            · exact rp_p (by omega) _
            · rw [show a2.toNat = 0 by omega]
              exact (show (0 : Int) < 1 by decide)
          refine hR (tl_c (i2l_e (by exact ⟨by omega, by omega⟩)) ?_)
          iterate 2 refine hR (?_ : R (_, _, _, _, _, _))
          refine hR (k_eq (by omega) (fun hc64 => ?_) (fun hc64 => ?_))
          · skip
            iterate 3 refine hR (?_ : R (_, _, _, _, _, _))
            refine hR (zcall_i 0 0 (Nat.le_of_ble_eq_true rfl) (Nat.le_of_ble_eq_true rfl) (x_commonR _ _ _ _ (by omega) (by omega) _ fun v65 hp66 => ?_))
            refine (?_ : R (_, _, .long (Int64.ofInt v65) :: .long (Int64.ofInt (tBy T ((5461 * a2) + y22_15))) :: [], w_52, 0, 0))
            have hgv := hp66
            have hg1 := gc_p (a := dn) (b := tBy T ((5461 * a2) + y22_15)) (Or.inl hdp)
            have hg2 := gc_le (a := dn) (b := tBy T ((5461 * a2) + y22_15)) hdp
            refine hR (And.intro (li_ne (by omega) (by omega)) (tl_c (li_div (by omega) (by omega) (by omega) (by omega)) ?_))
            exact hR (zret_i rfl (Nat.le_refl _) trivial (h _ _ _ _ _ _ _ _ _ _ _ _ fr_52 hC14_52 hC25_52 hC30_52 hC26_52 hC27_52 hC35_52 (Or.inr ⟨by omega, (by rw [← ht3, ← ht4, mea_0 (by omega) (fun _ => by omega) (by omega), ← hup, ← hdn, ← hgv])⟩)))
          iterate 4 refine hR (?_ : R (_, _, _, _, _, _))
          refine hR (zcall_i 0 0 (Nat.le_of_ble_eq_true rfl) (Nat.le_of_ble_eq_true rfl) (x_commonR _ _ _ _ (by omega) (by omega) _ fun v67 hp68 => ?_))
          refine (?_ : R (_, _, .long (Int64.ofInt v67) :: .long (Int64.ofInt dn) :: [], w_52, 0, 0))
          have hgv := hp68
          have hg1 := gc_p (a := dn) (b := tBy T ((5461 * a2) + y22_15)) (Or.inl hdp)
          have hg2 := gc_le (a := dn) (b := tBy T ((5461 * a2) + y22_15)) hdp
          refine hR (And.intro (li_ne (by omega) (by omega)) (tl_c (li_div (by omega) (by omega) (by omega) (by omega)) ?_))
          exact hR (zret_i rfl (Nat.le_refl _) trivial (h _ _ _ _ _ _ _ _ _ _ _ _ fr_52 hC14_52 hC25_52 hC30_52 hC26_52 hC27_52 hC35_52 (Or.inr ⟨by omega, (by rw [← ht3, ← ht4, mea_1 (by omega) (fun _ => by omega) (by omega), ← hup, ← hdn, ← hgv])⟩)))
        have hpb := rp_b (R := y23_16) (by omega) kk.toNat
        have hp5 := p5_bd kk.toNat (by omega)
        have hps : rPw y23_16 kk.toNat = dn * y23_16 := by rw [hp2_52, show kk.toNat = (kk - 1).toNat + 1 by omega]; rfl
        iterate 2 refine hR (?_ : R (_, _, _, _, _, _))
        refine hR (c_get hC14_52 rfl ?_)
        refine hR (tl_c (i2l_e (by exact ⟨by omega, by omega⟩)) ?_)
        refine hR (tl_c (Int64.ofInt_mul _ _).symm ?_)
        iterate 3 refine hR (?_ : R (_, _, _, _, _, _))
        have lp71 : ∀ (N : Nat) (tt : Int) (o8_71 : Option Value) (o9_71 : Option Value) (U : Nat → Int32) (w_71 : zW), (zc2 o8_71 = false) → (zc2 o9_71 = false) → (wfM (fun j => j ≠ 14 ∧ j ≠ 25 ∧ j ≠ 30 ∧ j ≠ 26 ∧ j ≠ 27 ∧ j ≠ 35) w w_71) → (zix w_71 14 = some (.inr (11, [.int (Int32.ofInt 0), .ref 15, .ref 16, .ref 17, .ref 18, .ref 19, .ref 20, .ref 21, .ref 22, .int (Int32.ofInt f9), .int (Int32.ofInt f10), .int (Int32.ofInt f11), .int (Int32.ofInt f12), .int (Int32.ofInt f13), .long x14, .int (Int32.ofInt f15), .int (Int32.ofInt f16), .int (Int32.ofInt f17), .ref 23, .ref 24, .int (Int32.ofInt a1), .int (Int32.ofInt a1), .int (Int32.ofInt y22_15), .int (Int32.ofInt y23_16), .ref 25, .ref 26, .int (Int32.ofInt y26_31), .ref 27, .int (Int32.ofInt f28), .ref 28, .ref 29, .int (Int32.ofInt f31), .int (Int32.ofInt f32), .int (Int32.ofInt f33), .ref 30, .ref 31, .ref 32, .ref 33, .int (Int32.ofInt f38), .ref 34, .ref 35, .int (Int32.ofInt f41), .ref 36, .ref 37, .int (Int32.ofInt f44), .ref 38, .ref 39, .ref 40, .ref 41, .ref 42, .ref 43, .ref 44]))) → (zix w_71 19 = some (.inl (1, 12, .inl g19))) → (zix w_71 20 = some (.inl (1, 408, .inl g20))) → (zix w_71 25 = some (.inl (1, 7, .inl T25_46))) → (zix w_71 30 = some (.inl (1, 27305, .inl T30_33))) → (zix w_71 26 = some (.inl (1, 7, .inl T26_47))) → (zix w_71 27 = some (.inl (1, 49, .inl T27_48))) → (zix w_71 35 = some (.inl (1, 54610, .inl U))) → (0 ≤ tt ∧ tt ≤ 5461) → (∀ t : Int, 0 ≤ t → t < tt → tBy U (5461 * kk + t) = (saF (rF g20 (51 * a1)) y23_16 (fun t => dft t y22_15)) kk.toNat t) → (∀ i : Int, 0 ≤ i → i < 5461 * kk → tBy U i = tBy T i) → (5462 - tt < N) → R (71, [some (.ref 14), some (.int (Int32.ofInt a1)), some (.int (Int32.ofInt a2)), some (.int (Int32.ofInt a3)), some (.long (Int64.ofInt (dn * y23_16))), none, some (.int (Int32.ofInt kk)), some (.int (Int32.ofInt tt)), o8_71, o9_71], [], w_71, 0, 0) := by
          intro N
          induction N with
          | zero => intros; omega
          | succ N ih71 =>
            intro tt o8_71 o9_71 U w_71 hzo8_71 hzo9_71 fr_71 hC14_71 hC19_71 hC20_71 hC25_71 hC30_71 hC26_71 hC27_71 hC35_71 hf0_71 hp0_71 hp1_71 hN71
            refine hR (?_ : R (_, _, _, _, _, _))
            refine hR (t_c 5461 (by decide) ?_)
            refine hR (j_ge (by omega) (by omega) (fun hc69 => ?_) (fun hc69 => ?_))
            · skip
              refine hR (t_inc ?_)
              refine hR (?_ : R (_, _, _, _, _, _))
              exact ih52 _ _ _ _ _ _ _ (by rfl) hzo8_71 hzo9_71 fr_71 hC14_71 hC19_71 hC20_71 hC25_71 hC30_71 hC26_71 hC27_71 hC35_71 (by omega) (by omega) (fun k t a b t0 t1 => by by_cases e : k = kk; (· rw [e]; exact hp0_71 t t0 (by omega)); rw [hp1_71 _ (by omega) (by omega)]; exact hp0_52 k t a (by omega) t0 t1) (by omega) (by rw [hp2_52, show (kk + 1 - 1).toNat = (kk - 1).toNat + 1 by omega]; rfl) (by omega)
            iterate 4 refine hR (?_ : R (_, _, _, _, _, _))
            have lp85 : ∀ (N : Nat) (sv : Int) (rr : Int), (0 ≤ sv ∧ sv ≤ 117187500) → (0 ≤ rr ∧ rr ≤ 5) → (sv = smF (fun a => (saF (rF g20 (51 * a1)) y23_16 (fun t => dft t y22_15)) (kk - 1).toNat ((rF g20 (51 * a1)) a tt)) rr.toNat) → (rr ≤ y23_16) → (sv ≤ 23437500 * rr) → (6 - rr < N) → R (85, [some (.ref 14), some (.int (Int32.ofInt a1)), some (.int (Int32.ofInt a2)), some (.int (Int32.ofInt a3)), some (.long (Int64.ofInt (dn * y23_16))), none, some (.int (Int32.ofInt kk)), some (.int (Int32.ofInt tt)), some (.int (Int32.ofInt sv)), some (.int (Int32.ofInt rr))], [], w_71, 0, 0) := by
              intro N
              induction N with
              | zero => intros; omega
              | succ N ih85 =>
                intro sv rr hf0_85 hf1_85 hp0_85 hp1_85 hp2_85 hN85
                iterate 2 refine hR (?_ : R (_, _, _, _, _, _))
                refine hR (c_get hC14_71 rfl ?_)
                refine hR (j_ge (by omega) (by omega) (fun hc70 => ?_) (fun hc70 => ?_))
                · skip
                  have hsv : sv = (saF (rF g20 (51 * a1)) y23_16 (fun t => dft t y22_15)) kk.toNat tt := by rw [hp0_85, show kk.toNat = (kk - 1).toNat + 1 by omega, show rr = y23_16 by omega]; rfl
                  refine hR (?_ : R (_, _, _, _, _, _))
                  refine hR (c_get hC14_71 rfl ?_)
                  refine hR (t_c 5461 (by decide) ?_)
                  refine hR (?_ : R (_, _, _, _, _, _))
                  refine hR (t_mul ?_)
                  refine hR (?_ : R (_, _, _, _, _, _))
                  refine hR (t_add ?_)
                  refine hR (?_ : R (_, _, _, _, _, _))
                  refine hR (x_ast hC35_71 (by omega) (by omega) (Nat.le_of_ble_eq_true rfl) fun w71 ff71 hC71 => ?_)
                  have fr72 := wfM_st fr_71 ff71 nX4
                  have hC73 := (ff71.2 14 (by (try dsimp only); decide)).trans hC14_71
                  have hC74 := (ff71.2 19 (by (try dsimp only); decide)).trans hC19_71
                  have hC75 := (ff71.2 20 (by (try dsimp only); decide)).trans hC20_71
                  have hC76 := (ff71.2 25 (by (try dsimp only); decide)).trans hC25_71
                  have hC77 := (ff71.2 30 (by (try dsimp only); decide)).trans hC30_71
                  have hC78 := (ff71.2 26 (by (try dsimp only); decide)).trans hC26_71
                  have hC79 := (ff71.2 27 (by (try dsimp only); decide)).trans hC27_71
                  refine hR (t_inc ?_)
                  refine hR (?_ : R (_, _, _, _, _, _))
                  exact ih71 _ _ _ _ _ (by rfl) (by rfl) fr72 hC73 hC74 hC75 hC76 hC77 hC78 hC79 hC71 (by omega) (fun t t0 t1 => by rw [zupI (by exact ⟨by omega, by omega⟩) (by omega) (by omega)]; by_cases c : t = tt; (· rw [if_pos (by omega), c]; exact hsv); rw [if_neg (by omega)]; exact hp0_71 t t0 (by omega)) (fun i i0 i1 => by rw [zupI (by exact ⟨by omega, by omega⟩) (by omega) i0, if_neg (by omega)]; exact hp1_71 i i0 i1) (by omega)
                iterate 2 refine hR (?_ : R (_, _, _, _, _, _))
                refine hR (c_get hC14_71 rfl ?_)
                refine hR (t_c 5461 (by decide) ?_)
                iterate 2 refine hR (?_ : R (_, _, _, _, _, _))
                refine hR (t_sub ?_)
                refine hR (t_mul ?_)
                refine hR (?_ : R (_, _, _, _, _, _))
                refine hR (c_get hC14_71 rfl ?_)
                refine hR (t_c 5461 (by decide) ?_)
                refine hR (?_ : R (_, _, _, _, _, _))
                refine hR (t_mul ?_)
                refine hR (?_ : R (_, _, _, _, _, _))
                refine hR (t_add ?_)
                refine hR (c_aldE hC30_71 (by omega) (by omega) (Nat.le_of_ble_eq_true rfl) fun v80 ev80 rv80 => ?_)
                replace ev80 : v80 = tBy T30_33 ((5461 * rr) + tt) := ev80
                have hf81 := rm_ld (r := rr) (t := tt) hF ev80 (by omega) (by omega) (by omega) (by omega)
                have hl0 := hp1_71 (5461 * (kk - 1) + v80) (by omega) (by omega)
                have hl1 := hp0_52 (kk - 1) v80 (by omega) (by omega) (by omega) (by omega)
                have hl2 := sa_b hFO (by omega) (by decide) (dft_b y22_15) (kk - 1).toNat v80 (by omega) (by omega)
                have hl3 := cp5_b (C := 12) (by omega) (k := (kk - 1).toNat) (by omega)
                refine hR (t_add ?_)
                refine hR (c_aldE hC35_71 (by omega) (by omega) (Nat.le_of_ble_eq_true rfl) fun v82 ev82 rv82 => ?_)
                replace ev82 : v82 = tBy U ((5461 * (kk - 1)) + v80) := ev82
                subst ev82
                refine hR (t_add ?_)
                refine hR (?_ : R (_, _, _, _, _, _))
                refine hR (t_inc ?_)
                refine hR (?_ : R (_, _, _, _, _, _))
                exact ih85 _ _ (by omega) (by omega) (by rw [show (rr + 1).toNat = rr.toNat + 1 by omega]; show _ = smF _ rr.toNat + (fun a => (saF (rF g20 (51 * a1)) y23_16 (fun t => dft t y22_15)) (kk - 1).toNat ((rF g20 (51 * a1)) a tt)) ((rr.toNat : Nat) : Int); rw [← hp0_85, Int.toNat_of_nonneg (by omega)]; (try dsimp only); rw [← hf81.1, ← hl1]; omega) (by omega) (by omega) (by omega)
            exact lp85 400000000 _ _ (by omega) (by omega) rfl (by omega) (by omega) (by omega)
        exact lp71 400000000 _ _ _ _ _ hzo8_52 hzo9_52 fr_52 hC14_52 hC19_52 hC20_52 hC25_52 hC30_52 hC26_52 hC27_52 hC35_52 (by omega) (fun t t0 t1 => by omega) (fun i i0 i1 => rfl) (by omega)
    exact lp52 400000000 _ _ _ _ _ _ _ (by rfl) (by rfl) (by rfl) fr57 hC58 hC59 hC60 hC52 hC61 hC53 hC54 hC55 (by omega) (by omega) (lt_1 hld) (by omega) rfl (by omega)
  refine hR (?_ : R (_, _, _, _, _, _))
  refine hR (k_le (by omega) (fun hc83 => ?_) (fun hc83 => ?_))
  rotate_left
  · skip
    refine hR (tl_c (y := Int64.ofInt ((-1))) (by decide) ?_)
    exact hR (zret_i rfl (Nat.le_refl _) trivial (h _ _ _ _ _ _ _ _ _ _ _ _ fr21 hC19 hC24 hC25 hC26 hC27 hC28 (Or.inr ⟨by omega, (by rw [← ht4]; exact (mea_n (by omega)).symm)⟩)))
  refine hR (?_ : R (_, _, _, _, _, _))
  refine hR (c_obj hC19 (zcall_i 0 0 (Nat.le_of_ble_eq_true rfl) (Nat.le_of_ble_eq_true rfl) (x_layMadeR _ _ _ _ _ _ _ _ _ _ _ _ _ _ _ _ _ _ _ _ _ _ _ _ _ _ _ hC19 hC23 hC24 hC25 hr2 (by omega) ⟨ht4, by omega, by omega⟩ hr3 _ fun y26_84 T25_85 T30_86 w87 gg88 hC89 hC90 hC91 hp92 => ?_)))
  have fr93 := wfM_tr fr21 gg88 nX2
  have hC94 := (gg88.2 19 (by (try dsimp only); decide)).trans hC22
  have hC95 := (gg88.2 20 (by (try dsimp only); decide)).trans hC23
  have hC96 := (gg88.2 26 (by (try dsimp only); decide)).trans hC26
  have hC97 := (gg88.2 27 (by (try dsimp only); decide)).trans hC27
  have hC98 := (gg88.2 35 (by (try dsimp only); decide)).trans hC28
  refine (?_ : R (_, _, [], w87, 0, 0))
  have hF := hp92
  refine hR (?_ : R (_, _, _, _, _, _))
  refine hR (c_obj hC89 (zcall_i 0 0 (Nat.le_of_ble_eq_true rfl) (Nat.le_of_ble_eq_true rfl) (x_layDriftsR _ _ _ _ _ _ _ _ _ _ _ _ _ _ _ _ _ _ _ _ _ _ _ _ _ _ _ _ hC89 hC90 hC96 hC97 hC98 (by omega) _ fun T25_99 T26_100 T27_101 T35_102 w103 gg104 hC105 hC106 hC107 hC108 hp109 => ?_)))
  have fr110 := wfM_tr fr93 gg104 nX3
  have hC111 := (gg104.2 14 (by (try dsimp only); decide)).trans hC89
  have hC112 := (gg104.2 19 (by (try dsimp only); decide)).trans hC94
  have hC113 := (gg104.2 20 (by (try dsimp only); decide)).trans hC95
  have hC114 := (gg104.2 30 (by (try dsimp only); decide)).trans hC91
  refine (?_ : R (_, _, [], w103, 0, 0))
  have hld := hp109
  have hFO := rm_ok hF
  refine hR (tl_c (y := Int64.ofInt 1) (by decide) ?_)
  iterate 3 refine hR (?_ : R (_, _, _, _, _, _))
  have lp52 : ∀ (N : Nat) (dn : Int) (kk : Int) (o7_52 : Option Value) (o8_52 : Option Value) (o9_52 : Option Value) (T : Nat → Int32) (w_52 : zW), (zc2 o7_52 = false) → (zc2 o8_52 = false) → (zc2 o9_52 = false) → (wfM (fun j => j ≠ 14 ∧ j ≠ 25 ∧ j ≠ 30 ∧ j ≠ 26 ∧ j ≠ 27 ∧ j ≠ 35) w w_52) → (zix w_52 14 = some (.inr (11, [.int (Int32.ofInt 0), .ref 15, .ref 16, .ref 17, .ref 18, .ref 19, .ref 20, .ref 21, .ref 22, .int (Int32.ofInt f9), .int (Int32.ofInt f10), .int (Int32.ofInt f11), .int (Int32.ofInt f12), .int (Int32.ofInt f13), .long x14, .int (Int32.ofInt f15), .int (Int32.ofInt f16), .int (Int32.ofInt f17), .ref 23, .ref 24, .int (Int32.ofInt a1), .int (Int32.ofInt a1), .int (Int32.ofInt y22_15), .int (Int32.ofInt y23_16), .ref 25, .ref 26, .int (Int32.ofInt y26_84), .ref 27, .int (Int32.ofInt f28), .ref 28, .ref 29, .int (Int32.ofInt f31), .int (Int32.ofInt f32), .int (Int32.ofInt f33), .ref 30, .ref 31, .ref 32, .ref 33, .int (Int32.ofInt f38), .ref 34, .ref 35, .int (Int32.ofInt f41), .ref 36, .ref 37, .int (Int32.ofInt f44), .ref 38, .ref 39, .ref 40, .ref 41, .ref 42, .ref 43, .ref 44]))) → (zix w_52 19 = some (.inl (1, 12, .inl g19))) → (zix w_52 20 = some (.inl (1, 408, .inl g20))) → (zix w_52 25 = some (.inl (1, 7, .inl T25_99))) → (zix w_52 30 = some (.inl (1, 27305, .inl T30_86))) → (zix w_52 26 = some (.inl (1, 7, .inl T26_100))) → (zix w_52 27 = some (.inl (1, 49, .inl T27_101))) → (zix w_52 35 = some (.inl (1, 54610, .inl T))) → (0 ≤ dn ∧ dn ≤ 1953125) → (1 ≤ kk ∧ kk ≤ 10) → (LTQ (saF (rF g20 (51 * a1)) y23_16 (fun t => dft t y22_15)) T kk) → (kk ≤ a2 + 1) → (dn = rPw y23_16 (kk - 1).toNat) → (11 - kk < N) → R (52, [some (.ref 14), some (.int (Int32.ofInt a1)), some (.int (Int32.ofInt a2)), some (.int (Int32.ofInt a3)), some (.long (Int64.ofInt dn)), none, some (.int (Int32.ofInt kk)), o7_52, o8_52, o9_52], [], w_52, 0, 0) := by
    intro N
    induction N with
    | zero => intros; omega
    | succ N ih52 =>
      intro dn kk o7_52 o8_52 o9_52 T w_52 hzo7_52 hzo8_52 hzo9_52 fr_52 hC14_52 hC19_52 hC20_52 hC25_52 hC30_52 hC26_52 hC27_52 hC35_52 hf0_52 hf1_52 hp0_52 hp1_52 hp2_52 hN52
      iterate 2 refine hR (?_ : R (_, _, _, _, _, _))
      refine hR (j_gt (by omega) (by omega) (fun hc115 => ?_) (fun hc115 => ?_))
      · skip
        refine hR (?_ : R (_, _, _, _, _, _))
        refine hR (c_get hC14_52 rfl ?_)
        refine hR (t_c 5461 (by decide) ?_)
        refine hR (?_ : R (_, _, _, _, _, _))
        refine hR (t_mul ?_)
        refine hR (?_ : R (_, _, _, _, _, _))
        refine hR (c_get hC14_52 rfl ?_)
        refine hR (t_add ?_)
        refine hR (c_aldE hC35_52 (by omega) (by omega) (Nat.le_of_ble_eq_true rfl) fun v116 ev116 rv116 => ?_)
        replace ev116 : v116 = tBy T ((5461 * a2) + y22_15) := ev116
        subst ev116
        have hup := hp0_52 a2 y22_15 (by omega) (by omega) (by omega) (by omega)
        have hdn : dn = rPw y23_16 a2.toNat := by rw [hp2_52, show kk - 1 = a2 by omega]
        have hub := sa_b hFO (by omega) (by decide) (dft_b y22_15) a2.toNat y22_15 (by omega) (by omega)
        have hub2 := cp5_b (C := 12) (by omega) (k := a2.toNat) (by omega)
        rw [← hup] at hub
        have hdp : 0 < dn := by
          rw [hdn]
          by_cases z : 0 < a2
          · exact rp_p (by omega) _
          · rw [show a2.toNat = 0 by omega]
            exact (show (0 : Int) < 1 by decide)
        refine hR (tl_c (i2l_e (by exact ⟨by omega, by omega⟩)) ?_)
        iterate 2 refine hR (?_ : R (_, _, _, _, _, _))
        refine hR (k_eq (by omega) (fun hc117 => ?_) (fun hc117 => ?_))
        · skip
          iterate 3 refine hR (?_ : R (_, _, _, _, _, _))
          refine hR (zcall_i 0 0 (Nat.le_of_ble_eq_true rfl) (Nat.le_of_ble_eq_true rfl) (x_commonR _ _ _ _ (by omega) (by omega) _ fun v118 hp119 => ?_))
          refine (?_ : R (_, _, .long (Int64.ofInt v118) :: .long (Int64.ofInt (tBy T ((5461 * a2) + y22_15))) :: [], w_52, 0, 0))
          have hgv := hp119
          have hg1 := gc_p (a := dn) (b := tBy T ((5461 * a2) + y22_15)) (Or.inl hdp)
          have hg2 := gc_le (a := dn) (b := tBy T ((5461 * a2) + y22_15)) hdp
          refine hR (And.intro (li_ne (by omega) (by omega)) (tl_c (li_div (by omega) (by omega) (by omega) (by omega)) ?_))
          exact hR (zret_i rfl (Nat.le_refl _) trivial (h _ _ _ _ _ _ _ _ _ _ _ _ fr_52 hC14_52 hC25_52 hC30_52 hC26_52 hC27_52 hC35_52 (Or.inr ⟨by omega, (by rw [← ht3, ← ht4, mea_0 (by omega) (fun _ => by omega) (by omega), ← hup, ← hdn, ← hgv])⟩)))
        iterate 4 refine hR (?_ : R (_, _, _, _, _, _))
        refine hR (zcall_i 0 0 (Nat.le_of_ble_eq_true rfl) (Nat.le_of_ble_eq_true rfl) (x_commonR _ _ _ _ (by omega) (by omega) _ fun v120 hp121 => ?_))
        refine (?_ : R (_, _, .long (Int64.ofInt v120) :: .long (Int64.ofInt dn) :: [], w_52, 0, 0))
        have hgv := hp121
        have hg1 := gc_p (a := dn) (b := tBy T ((5461 * a2) + y22_15)) (Or.inl hdp)
        have hg2 := gc_le (a := dn) (b := tBy T ((5461 * a2) + y22_15)) hdp
        refine hR (And.intro (li_ne (by omega) (by omega)) (tl_c (li_div (by omega) (by omega) (by omega) (by omega)) ?_))
        exact hR (zret_i rfl (Nat.le_refl _) trivial (h _ _ _ _ _ _ _ _ _ _ _ _ fr_52 hC14_52 hC25_52 hC30_52 hC26_52 hC27_52 hC35_52 (Or.inr ⟨by omega, (by rw [← ht3, ← ht4, mea_1 (by omega) (fun _ => by omega) (by omega), ← hup, ← hdn, ← hgv])⟩)))
      have hpb := rp_b (R := y23_16) (by omega) kk.toNat
      have hp5 := p5_bd kk.toNat (by omega)
      have hps : rPw y23_16 kk.toNat = dn * y23_16 := by rw [hp2_52, show kk.toNat = (kk - 1).toNat + 1 by omega]; rfl
      iterate 2 refine hR (?_ : R (_, _, _, _, _, _))
      refine hR (c_get hC14_52 rfl ?_)
      refine hR (tl_c (i2l_e (by exact ⟨by omega, by omega⟩)) ?_)
      refine hR (tl_c (Int64.ofInt_mul _ _).symm ?_)
      iterate 3 refine hR (?_ : R (_, _, _, _, _, _))
      have lp71 : ∀ (N : Nat) (tt : Int) (o8_71 : Option Value) (o9_71 : Option Value) (U : Nat → Int32) (w_71 : zW), (zc2 o8_71 = false) → (zc2 o9_71 = false) → (wfM (fun j => j ≠ 14 ∧ j ≠ 25 ∧ j ≠ 30 ∧ j ≠ 26 ∧ j ≠ 27 ∧ j ≠ 35) w w_71) → (zix w_71 14 = some (.inr (11, [.int (Int32.ofInt 0), .ref 15, .ref 16, .ref 17, .ref 18, .ref 19, .ref 20, .ref 21, .ref 22, .int (Int32.ofInt f9), .int (Int32.ofInt f10), .int (Int32.ofInt f11), .int (Int32.ofInt f12), .int (Int32.ofInt f13), .long x14, .int (Int32.ofInt f15), .int (Int32.ofInt f16), .int (Int32.ofInt f17), .ref 23, .ref 24, .int (Int32.ofInt a1), .int (Int32.ofInt a1), .int (Int32.ofInt y22_15), .int (Int32.ofInt y23_16), .ref 25, .ref 26, .int (Int32.ofInt y26_84), .ref 27, .int (Int32.ofInt f28), .ref 28, .ref 29, .int (Int32.ofInt f31), .int (Int32.ofInt f32), .int (Int32.ofInt f33), .ref 30, .ref 31, .ref 32, .ref 33, .int (Int32.ofInt f38), .ref 34, .ref 35, .int (Int32.ofInt f41), .ref 36, .ref 37, .int (Int32.ofInt f44), .ref 38, .ref 39, .ref 40, .ref 41, .ref 42, .ref 43, .ref 44]))) → (zix w_71 19 = some (.inl (1, 12, .inl g19))) → (zix w_71 20 = some (.inl (1, 408, .inl g20))) → (zix w_71 25 = some (.inl (1, 7, .inl T25_99))) → (zix w_71 30 = some (.inl (1, 27305, .inl T30_86))) → (zix w_71 26 = some (.inl (1, 7, .inl T26_100))) → (zix w_71 27 = some (.inl (1, 49, .inl T27_101))) → (zix w_71 35 = some (.inl (1, 54610, .inl U))) → (0 ≤ tt ∧ tt ≤ 5461) → (∀ t : Int, 0 ≤ t → t < tt → tBy U (5461 * kk + t) = (saF (rF g20 (51 * a1)) y23_16 (fun t => dft t y22_15)) kk.toNat t) → (∀ i : Int, 0 ≤ i → i < 5461 * kk → tBy U i = tBy T i) → (5462 - tt < N) → R (71, [some (.ref 14), some (.int (Int32.ofInt a1)), some (.int (Int32.ofInt a2)), some (.int (Int32.ofInt a3)), some (.long (Int64.ofInt (dn * y23_16))), none, some (.int (Int32.ofInt kk)), some (.int (Int32.ofInt tt)), o8_71, o9_71], [], w_71, 0, 0) := by
        intro N
        induction N with
        | zero => intros; omega
        | succ N ih71 =>
          intro tt o8_71 o9_71 U w_71 hzo8_71 hzo9_71 fr_71 hC14_71 hC19_71 hC20_71 hC25_71 hC30_71 hC26_71 hC27_71 hC35_71 hf0_71 hp0_71 hp1_71 hN71
          refine hR (?_ : R (_, _, _, _, _, _))
          refine hR (t_c 5461 (by decide) ?_)
          refine hR (j_ge (by omega) (by omega) (fun hc122 => ?_) (fun hc122 => ?_))
          · skip
            refine hR (t_inc ?_)
            refine hR (?_ : R (_, _, _, _, _, _))
            exact ih52 _ _ _ _ _ _ _ (by rfl) hzo8_71 hzo9_71 fr_71 hC14_71 hC19_71 hC20_71 hC25_71 hC30_71 hC26_71 hC27_71 hC35_71 (by omega) (by omega) (fun k t a b t0 t1 => by by_cases e : k = kk; (· rw [e]; exact hp0_71 t t0 (by omega)); rw [hp1_71 _ (by omega) (by omega)]; exact hp0_52 k t a (by omega) t0 t1) (by omega) (by rw [hp2_52, show (kk + 1 - 1).toNat = (kk - 1).toNat + 1 by omega]; rfl) (by omega)
          iterate 4 refine hR (?_ : R (_, _, _, _, _, _))
          have lp85 : ∀ (N : Nat) (sv : Int) (rr : Int), (0 ≤ sv ∧ sv ≤ 117187500) → (0 ≤ rr ∧ rr ≤ 5) → (sv = smF (fun a => (saF (rF g20 (51 * a1)) y23_16 (fun t => dft t y22_15)) (kk - 1).toNat ((rF g20 (51 * a1)) a tt)) rr.toNat) → (rr ≤ y23_16) → (sv ≤ 23437500 * rr) → (6 - rr < N) → R (85, [some (.ref 14), some (.int (Int32.ofInt a1)), some (.int (Int32.ofInt a2)), some (.int (Int32.ofInt a3)), some (.long (Int64.ofInt (dn * y23_16))), none, some (.int (Int32.ofInt kk)), some (.int (Int32.ofInt tt)), some (.int (Int32.ofInt sv)), some (.int (Int32.ofInt rr))], [], w_71, 0, 0) := by
            intro N
            induction N with
            | zero => intros; omega
            | succ N ih85 =>
              intro sv rr hf0_85 hf1_85 hp0_85 hp1_85 hp2_85 hN85
              iterate 2 refine hR (?_ : R (_, _, _, _, _, _))
              refine hR (c_get hC14_71 rfl ?_)
              refine hR (j_ge (by omega) (by omega) (fun hc123 => ?_) (fun hc123 => ?_))
              · skip
                have hsv : sv = (saF (rF g20 (51 * a1)) y23_16 (fun t => dft t y22_15)) kk.toNat tt := by rw [hp0_85, show kk.toNat = (kk - 1).toNat + 1 by omega, show rr = y23_16 by omega]; rfl
                refine hR (?_ : R (_, _, _, _, _, _))
                refine hR (c_get hC14_71 rfl ?_)
                refine hR (t_c 5461 (by decide) ?_)
                refine hR (?_ : R (_, _, _, _, _, _))
                refine hR (t_mul ?_)
                refine hR (?_ : R (_, _, _, _, _, _))
                refine hR (t_add ?_)
                refine hR (?_ : R (_, _, _, _, _, _))
                refine hR (x_ast hC35_71 (by omega) (by omega) (Nat.le_of_ble_eq_true rfl) fun w124 ff124 hC124 => ?_)
                have fr125 := wfM_st fr_71 ff124 nX4
                have hC126 := (ff124.2 14 (by (try dsimp only); decide)).trans hC14_71
                have hC127 := (ff124.2 19 (by (try dsimp only); decide)).trans hC19_71
                have hC128 := (ff124.2 20 (by (try dsimp only); decide)).trans hC20_71
                have hC129 := (ff124.2 25 (by (try dsimp only); decide)).trans hC25_71
                have hC130 := (ff124.2 30 (by (try dsimp only); decide)).trans hC30_71
                have hC131 := (ff124.2 26 (by (try dsimp only); decide)).trans hC26_71
                have hC132 := (ff124.2 27 (by (try dsimp only); decide)).trans hC27_71
                refine hR (t_inc ?_)
                refine hR (?_ : R (_, _, _, _, _, _))
                exact ih71 _ _ _ _ _ (by rfl) (by rfl) fr125 hC126 hC127 hC128 hC129 hC130 hC131 hC132 hC124 (by omega) (fun t t0 t1 => by rw [zupI (by exact ⟨by omega, by omega⟩) (by omega) (by omega)]; by_cases c : t = tt; (· rw [if_pos (by omega), c]; exact hsv); rw [if_neg (by omega)]; exact hp0_71 t t0 (by omega)) (fun i i0 i1 => by rw [zupI (by exact ⟨by omega, by omega⟩) (by omega) i0, if_neg (by omega)]; exact hp1_71 i i0 i1) (by omega)
              iterate 2 refine hR (?_ : R (_, _, _, _, _, _))
              refine hR (c_get hC14_71 rfl ?_)
              refine hR (t_c 5461 (by decide) ?_)
              iterate 2 refine hR (?_ : R (_, _, _, _, _, _))
              refine hR (t_sub ?_)
              refine hR (t_mul ?_)
              refine hR (?_ : R (_, _, _, _, _, _))
              refine hR (c_get hC14_71 rfl ?_)
              refine hR (t_c 5461 (by decide) ?_)
              refine hR (?_ : R (_, _, _, _, _, _))
              refine hR (t_mul ?_)
              refine hR (?_ : R (_, _, _, _, _, _))
              refine hR (t_add ?_)
              refine hR (c_aldE hC30_71 (by omega) (by omega) (Nat.le_of_ble_eq_true rfl) fun v133 ev133 rv133 => ?_)
              replace ev133 : v133 = tBy T30_86 ((5461 * rr) + tt) := ev133
              have hf134 := rm_ld (r := rr) (t := tt) hF ev133 (by omega) (by omega) (by omega) (by omega)
              have hl0 := hp1_71 (5461 * (kk - 1) + v133) (by omega) (by omega)
              have hl1 := hp0_52 (kk - 1) v133 (by omega) (by omega) (by omega) (by omega)
              have hl2 := sa_b hFO (by omega) (by decide) (dft_b y22_15) (kk - 1).toNat v133 (by omega) (by omega)
              have hl3 := cp5_b (C := 12) (by omega) (k := (kk - 1).toNat) (by omega)
              refine hR (t_add ?_)
              refine hR (c_aldE hC35_71 (by omega) (by omega) (Nat.le_of_ble_eq_true rfl) fun v135 ev135 rv135 => ?_)
              replace ev135 : v135 = tBy U ((5461 * (kk - 1)) + v133) := ev135
              subst ev135
              refine hR (t_add ?_)
              refine hR (?_ : R (_, _, _, _, _, _))
              refine hR (t_inc ?_)
              refine hR (?_ : R (_, _, _, _, _, _))
              exact ih85 _ _ (by omega) (by omega) (by rw [show (rr + 1).toNat = rr.toNat + 1 by omega]; show _ = smF _ rr.toNat + (fun a => (saF (rF g20 (51 * a1)) y23_16 (fun t => dft t y22_15)) (kk - 1).toNat ((rF g20 (51 * a1)) a tt)) ((rr.toNat : Nat) : Int); rw [← hp0_85, Int.toNat_of_nonneg (by omega)]; (try dsimp only); rw [← hf134.1, ← hl1]; omega) (by omega) (by omega) (by omega)
          exact lp85 400000000 _ _ (by omega) (by omega) rfl (by omega) (by omega) (by omega)
      exact lp71 400000000 _ _ _ _ _ hzo8_52 hzo9_52 fr_52 hC14_52 hC19_52 hC20_52 hC25_52 hC30_52 hC26_52 hC27_52 hC35_52 (by omega) (fun t t0 t1 => by omega) (fun i i0 i1 => rfl) (by omega)
  exact lp52 400000000 _ _ _ _ _ _ _ (by rfl) (by rfl) (by rfl) fr110 hC111 hC112 hC113 hC105 hC114 hC106 hC107 hC108 (by omega) (by omega) (lt_1 hld) (by omega) rfl (by omega)
