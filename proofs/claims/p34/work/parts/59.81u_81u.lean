/-! THE REFERENCE'S READINGS, BY PLACES. -/
theorem x_layMadeR (w : zW) (d : Nat) (f0 f9 f10 f11 f12 f13 f15 f16 f17 f20 f21 f22 f23 f26 f28 f31 f32 f33 f38 f41 f44 : Int) (x14 : Int64) (g20 g25 g30 : Nat → Int32) (hK0 : zix w 14 = some (.inr (11, [.int (Int32.ofInt f0), .ref 15, .ref 16, .ref 17, .ref 18, .ref 19, .ref 20, .ref 21, .ref 22, .int (Int32.ofInt f9), .int (Int32.ofInt f10), .int (Int32.ofInt f11), .int (Int32.ofInt f12), .int (Int32.ofInt f13), .long x14, .int (Int32.ofInt f15), .int (Int32.ofInt f16), .int (Int32.ofInt f17), .ref 23, .ref 24, .int (Int32.ofInt f20), .int (Int32.ofInt f21), .int (Int32.ofInt f22), .int (Int32.ofInt f23), .ref 25, .ref 26, .int (Int32.ofInt f26), .ref 27, .int (Int32.ofInt f28), .ref 28, .ref 29, .int (Int32.ofInt f31), .int (Int32.ofInt f32), .int (Int32.ofInt f33), .ref 30, .ref 31, .ref 32, .ref 33, .int (Int32.ofInt f38), .ref 34, .ref 35, .int (Int32.ofInt f41), .ref 36, .ref 37, .int (Int32.ofInt f44), .ref 38, .ref 39, .ref 40, .ref 41, .ref 42, .ref 43, .ref 44]))) (hK1 : zix w 20 = some (.inl (1, 408, .inl g20))) (hK2 : zix w 25 = some (.inl (1, 7, .inl g25))) (hK3 : zix w 30 = some (.inl (1, 27305, .inl g30))) (hr0 : bkOK g20) (hr1 : 0 ≤ f20 ∧ f20 ≤ 1) (hr2 : f23 = tBy g20 (51 * f20 + 1) ∧ 0 ≤ f23 ∧ f23 ≤ 5) (hr3 : (-1 ≤ f21 ∧ f21 ≤ 1) ∧ RMD g30 g20 f21) (Q : zQ) (h : ∀ (y26 : Int) (T25 T30 : Nat → Int32) (w' : zW), wfM (fun j => j ≠ 14 ∧ j ≠ 25 ∧ j ≠ 30) w w' → zix w' 14 = some (.inr (11, [.int (Int32.ofInt f0), .ref 15, .ref 16, .ref 17, .ref 18, .ref 19, .ref 20, .ref 21, .ref 22, .int (Int32.ofInt f9), .int (Int32.ofInt f10), .int (Int32.ofInt f11), .int (Int32.ofInt f12), .int (Int32.ofInt f13), .long x14, .int (Int32.ofInt f15), .int (Int32.ofInt f16), .int (Int32.ofInt f17), .ref 23, .ref 24, .int (Int32.ofInt f20), .int (Int32.ofInt f20), .int (Int32.ofInt f22), .int (Int32.ofInt f23), .ref 25, .ref 26, .int (Int32.ofInt y26), .ref 27, .int (Int32.ofInt f28), .ref 28, .ref 29, .int (Int32.ofInt f31), .int (Int32.ofInt f32), .int (Int32.ofInt f33), .ref 30, .ref 31, .ref 32, .ref 33, .int (Int32.ofInt f38), .ref 34, .ref 35, .int (Int32.ofInt f41), .ref 36, .ref 37, .int (Int32.ofInt f44), .ref 38, .ref 39, .ref 40, .ref 41, .ref 42, .ref 43, .ref 44])) → zix w' 25 = some (.inl (1, 7, .inl T25)) → zix w' 30 = some (.inl (1, 27305, .inl T30)) → (RMF T30 f23 (rF g20 (51 * f20))) → Q (none) w') : zCl zTab (d + 5) iX12_layMade [.ref 14] w 0 0 Q := by
  refine zCl_i (M := kX12_layMade) rfl (Nat.le_of_ble_eq_true rfl) fun R hR => ?_
  have fr0 : wfM (fun j => j ≠ 14 ∧ j ≠ 25 ∧ j ≠ 30) w w := wfM_rf _ w
  have nX0 : FX (∀ j : Nat, (j ≠ 14 ∧ j ≠ 25 ∧ j ≠ 30) → j ≠ 14) := fun j hj => by omega
  have nX1 : FX (∀ j : Nat, (j ≠ 14 ∧ j ≠ 25 ∧ j ≠ 30) → (j ≠ 14 ∧ j ≠ 25)) := fun j hj => by omega
  have nX2 : FX (∀ j : Nat, (j ≠ 14 ∧ j ≠ 25 ∧ j ≠ 30) → j ≠ 30) := fun j hj => by omega
  iterate 2 refine hR (?_ : R (_, _, _, _, _, _))
  have lp2 : ∀ (N : Nat) (rr : Int) (o2_2 : Option Value) (d26 : Int) (T0 T1 : Nat → Int32) (w_2 : zW), (zc2 o2_2 = false) → (wfM (fun j => j ≠ 14 ∧ j ≠ 25 ∧ j ≠ 30) w w_2) → (zix w_2 14 = some (.inr (11, [.int (Int32.ofInt f0), .ref 15, .ref 16, .ref 17, .ref 18, .ref 19, .ref 20, .ref 21, .ref 22, .int (Int32.ofInt f9), .int (Int32.ofInt f10), .int (Int32.ofInt f11), .int (Int32.ofInt f12), .int (Int32.ofInt f13), .long x14, .int (Int32.ofInt f15), .int (Int32.ofInt f16), .int (Int32.ofInt f17), .ref 23, .ref 24, .int (Int32.ofInt f20), .int (Int32.ofInt f21), .int (Int32.ofInt f22), .int (Int32.ofInt f23), .ref 25, .ref 26, .int (Int32.ofInt d26), .ref 27, .int (Int32.ofInt f28), .ref 28, .ref 29, .int (Int32.ofInt f31), .int (Int32.ofInt f32), .int (Int32.ofInt f33), .ref 30, .ref 31, .ref 32, .ref 33, .int (Int32.ofInt f38), .ref 34, .ref 35, .int (Int32.ofInt f41), .ref 36, .ref 37, .int (Int32.ofInt f44), .ref 38, .ref 39, .ref 40, .ref 41, .ref 42, .ref 43, .ref 44]))) → (zix w_2 20 = some (.inl (1, 408, .inl g20))) → (zix w_2 25 = some (.inl (1, 7, .inl T0))) → (zix w_2 30 = some (.inl (1, 27305, .inl T1))) → (0 ≤ rr ∧ rr ≤ 5) → ((f21 ≠ f20 ∧ RML T1 g20 f20 (5461 * rr.toNat)) ∨ (rr = 0 ∧ RMD T1 g20 f21)) → (rr ≤ f23) → (6 - rr < N) → R (2, [some (.ref 14), some (.int (Int32.ofInt rr)), o2_2], [], w_2, 0, 0) := by
    intro N
    induction N with
    | zero => intros; omega
    | succ N ih2 =>
      intro rr o2_2 d26 T0 T1 w_2 hzo2_2 fr_2 hC14_2 hC20_2 hC25_2 hC30_2 hf0_2 hp0_2 hp1_2 hN2
      iterate 2 refine hR (?_ : R (_, _, _, _, _, _))
      refine hR (c_get hC14_2 rfl ?_)
      refine hR (j_ge (by omega) (by omega) (fun hc1 => ?_) (fun hc1 => ?_))
      · skip
        iterate 2 refine hR (?_ : R (_, _, _, _, _, _))
        refine hR (c_get hC14_2 rfl ?_)
        refine hR (c_put hC14_2 rfl rfl fun w2 ff2 hC2 => ?_)
        have fr3 := wfM_st fr_2 ff2 nX0
        have hC4 := (ff2.2 20 (by (try dsimp only); decide)).trans hC20_2
        have hC5 := (ff2.2 25 (by (try dsimp only); decide)).trans hC25_2
        have hC6 := (ff2.2 30 (by (try dsimp only); decide)).trans hC30_2
        replace hC2 : zix w2 14 = some (.inr (11, [.int (Int32.ofInt f0), .ref 15, .ref 16, .ref 17, .ref 18, .ref 19, .ref 20, .ref 21, .ref 22, .int (Int32.ofInt f9), .int (Int32.ofInt f10), .int (Int32.ofInt f11), .int (Int32.ofInt f12), .int (Int32.ofInt f13), .long x14, .int (Int32.ofInt f15), .int (Int32.ofInt f16), .int (Int32.ofInt f17), .ref 23, .ref 24, .int (Int32.ofInt f20), .int (Int32.ofInt f20), .int (Int32.ofInt f22), .int (Int32.ofInt f23), .ref 25, .ref 26, .int (Int32.ofInt d26), .ref 27, .int (Int32.ofInt f28), .ref 28, .ref 29, .int (Int32.ofInt f31), .int (Int32.ofInt f32), .int (Int32.ofInt f33), .ref 30, .ref 31, .ref 32, .ref 33, .int (Int32.ofInt f38), .ref 34, .ref 35, .int (Int32.ofInt f41), .ref 36, .ref 37, .int (Int32.ofInt f44), .ref 38, .ref 39, .ref 40, .ref 41, .ref 42, .ref 43, .ref 44])) := hC2
        exact hR (zret_i rfl (Nat.le_refl _) rfl (h _ _ _ _ fr3 hC2 hC5 hC6 (lay_e hp0_2 (by omega) hr0 hr1 hr2)))
      refine hR (?_ : R (_, _, _, _, _, _))
      refine hR (c_get hC14_2 rfl ?_)
      refine hR (?_ : R (_, _, _, _, _, _))
      refine hR (c_get hC14_2 rfl ?_)
      refine hR (j_eq (by omega) (by omega) (fun hc7 => ?_) (fun hc7 => ?_))
      · skip
        iterate 2 refine hR (?_ : R (_, _, _, _, _, _))
        refine hR (c_get hC14_2 rfl ?_)
        refine hR (c_put hC14_2 rfl rfl fun w8 ff8 hC8 => ?_)
        have fr9 := wfM_st fr_2 ff8 nX0
        have hC10 := (ff8.2 20 (by (try dsimp only); decide)).trans hC20_2
        have hC11 := (ff8.2 25 (by (try dsimp only); decide)).trans hC25_2
        have hC12 := (ff8.2 30 (by (try dsimp only); decide)).trans hC30_2
        replace hC8 : zix w8 14 = some (.inr (11, [.int (Int32.ofInt f0), .ref 15, .ref 16, .ref 17, .ref 18, .ref 19, .ref 20, .ref 21, .ref 22, .int (Int32.ofInt f9), .int (Int32.ofInt f10), .int (Int32.ofInt f11), .int (Int32.ofInt f12), .int (Int32.ofInt f13), .long x14, .int (Int32.ofInt f15), .int (Int32.ofInt f16), .int (Int32.ofInt f17), .ref 23, .ref 24, .int (Int32.ofInt f20), .int (Int32.ofInt f20), .int (Int32.ofInt f22), .int (Int32.ofInt f23), .ref 25, .ref 26, .int (Int32.ofInt d26), .ref 27, .int (Int32.ofInt f28), .ref 28, .ref 29, .int (Int32.ofInt f31), .int (Int32.ofInt f32), .int (Int32.ofInt f33), .ref 30, .ref 31, .ref 32, .ref 33, .int (Int32.ofInt f38), .ref 34, .ref 35, .int (Int32.ofInt f41), .ref 36, .ref 37, .int (Int32.ofInt f44), .ref 38, .ref 39, .ref 40, .ref 41, .ref 42, .ref 43, .ref 44])) := hC8
        exact hR (zret_i rfl (Nat.le_refl _) rfl (h _ _ _ _ fr9 hC8 hC11 hC12 (lay_e hp0_2 (by omega) hr0 hr1 hr2)))
      iterate 2 refine hR (?_ : R (_, _, _, _, _, _))
      have lp23 : ∀ (N : Nat) (tt : Int) (d27 : Int) (T2 T3 : Nat → Int32) (w_23 : zW), (wfM (fun j => j ≠ 14 ∧ j ≠ 25 ∧ j ≠ 30) w w_23) → (zix w_23 14 = some (.inr (11, [.int (Int32.ofInt f0), .ref 15, .ref 16, .ref 17, .ref 18, .ref 19, .ref 20, .ref 21, .ref 22, .int (Int32.ofInt f9), .int (Int32.ofInt f10), .int (Int32.ofInt f11), .int (Int32.ofInt f12), .int (Int32.ofInt f13), .long x14, .int (Int32.ofInt f15), .int (Int32.ofInt f16), .int (Int32.ofInt f17), .ref 23, .ref 24, .int (Int32.ofInt f20), .int (Int32.ofInt f21), .int (Int32.ofInt f22), .int (Int32.ofInt f23), .ref 25, .ref 26, .int (Int32.ofInt d27), .ref 27, .int (Int32.ofInt f28), .ref 28, .ref 29, .int (Int32.ofInt f31), .int (Int32.ofInt f32), .int (Int32.ofInt f33), .ref 30, .ref 31, .ref 32, .ref 33, .int (Int32.ofInt f38), .ref 34, .ref 35, .int (Int32.ofInt f41), .ref 36, .ref 37, .int (Int32.ofInt f44), .ref 38, .ref 39, .ref 40, .ref 41, .ref 42, .ref 43, .ref 44]))) → (zix w_23 20 = some (.inl (1, 408, .inl g20))) → (zix w_23 25 = some (.inl (1, 7, .inl T2))) → (zix w_23 30 = some (.inl (1, 27305, .inl T3))) → (0 ≤ tt ∧ tt ≤ 5461) → (RML T3 g20 f20 (5461 * rr.toNat + tt.toNat)) → (5462 - tt < N) → R (23, [some (.ref 14), some (.int (Int32.ofInt rr)), some (.int (Int32.ofInt tt))], [], w_23, 0, 0) := by
        intro N
        induction N with
        | zero => intros; omega
        | succ N ih23 =>
          intro tt d27 T2 T3 w_23 fr_23 hC14_23 hC20_23 hC25_23 hC30_23 hf0_23 hp0_23 hN23
          refine hR (?_ : R (_, _, _, _, _, _))
          refine hR (t_c 5461 (by decide) ?_)
          refine hR (j_ge (by omega) (by omega) (fun hc13 => ?_) (fun hc13 => ?_))
          · skip
            refine hR (t_inc ?_)
            refine hR (?_ : R (_, _, _, _, _, _))
            exact ih2 _ _ _ _ _ _ (by rfl) fr_23 hC14_23 hC20_23 hC25_23 hC30_23 (by omega) (Or.inl ⟨by omega, RML_n hp0_23 (by omega)⟩) (by omega) (by omega)
          refine hR (?_ : R (_, _, _, _, _, _))
          refine hR (c_get hC14_23 rfl ?_)
          refine hR (t_c 5461 (by decide) ?_)
          refine hR (?_ : R (_, _, _, _, _, _))
          refine hR (t_mul ?_)
          refine hR (?_ : R (_, _, _, _, _, _))
          refine hR (t_add ?_)
          iterate 3 refine hR (?_ : R (_, _, _, _, _, _))
          refine hR (c_obj hC14_23 (zcall_i 0 0 (Nat.le_of_ble_eq_true rfl) (Nat.le_of_ble_eq_true rfl) (x_readByR _ _ _ _ _ _ _ _ _ _ _ _ _ _ _ _ _ _ _ _ _ _ _ _ _ _ _ _ hC14_23 hC20_23 hC25_23 (by omega) hr0 (by omega) (by omega) _ fun v14 y26_15 T'_16 w17 gg18 hC19 hC20 hp21 => ?_)))
          have fr22 := wfM_tr fr_23 gg18 nX1
          have hC23 := (gg18.2 20 (by (try dsimp only); decide)).trans hC20_23
          have hC24 := (gg18.2 30 (by (try dsimp only); decide)).trans hC30_23
          subst hp21
          refine (?_ : R (_, _, .int (Int32.ofInt (rBY g20 (51 * f20) rr tt)) :: .int (Int32.ofInt ((5461 * rr) + tt)) :: .ref 30 :: [], w17, 0, 0))
          have hq25 := rBY_r hr0 hr1.1 hr1.2 (show 0 ≤ rr by omega) (show rr ≤ 4 by omega) (show 0 ≤ tt by omega) (show tt ≤ 5460 by omega)
          refine hR (x_ast hC24 (by omega) (by omega) (Nat.le_of_ble_eq_true rfl) fun w26 ff26 hC26 => ?_)
          have fr27 := wfM_st fr22 ff26 nX2
          have hC28 := (ff26.2 14 (by (try dsimp only); decide)).trans hC19
          have hC29 := (ff26.2 20 (by (try dsimp only); decide)).trans hC23
          have hC30 := (ff26.2 25 (by (try dsimp only); decide)).trans hC20
          refine hR (t_inc ?_)
          refine hR (?_ : R (_, _, _, _, _, _))
          exact ih23 _ _ _ _ _ fr27 hC28 hC29 hC30 hC26 (by omega) (RML_s hp0_23 (by omega) (by omega) rfl (rBY_r hr0 hr1.1 hr1.2 (by omega) (by omega) (by omega) (by omega))) (by omega)
      exact lp23 400000000 _ _ _ _ _ fr_2 hC14_2 hC20_2 hC25_2 hC30_2 (by omega) (RML_n (lay_i hp0_2 (by omega)) (by omega)) (by omega)
  exact lp2 400000000 _ _ _ _ _ _ (by rfl) fr0 hK0 hK1 hK2 hK3 (by omega) (lay_0 hr3.2) (by omega) (by omega)
theorem x_handAllR (w : zW) (d : Nat) (a1 : Int) (f0 f9 f10 f11 f12 f13 f15 f16 f17 f20 f21 f22 f23 f26 f28 f31 f32 f33 f38 f41 f44 : Int) (x14 : Int64) (g19 g20 g25 g30 : Nat → Int32) (hK0 : zix w 14 = some (.inr (11, [.int (Int32.ofInt f0), .ref 15, .ref 16, .ref 17, .ref 18, .ref 19, .ref 20, .ref 21, .ref 22, .int (Int32.ofInt f9), .int (Int32.ofInt f10), .int (Int32.ofInt f11), .int (Int32.ofInt f12), .int (Int32.ofInt f13), .long x14, .int (Int32.ofInt f15), .int (Int32.ofInt f16), .int (Int32.ofInt f17), .ref 23, .ref 24, .int (Int32.ofInt f20), .int (Int32.ofInt f21), .int (Int32.ofInt f22), .int (Int32.ofInt f23), .ref 25, .ref 26, .int (Int32.ofInt f26), .ref 27, .int (Int32.ofInt f28), .ref 28, .ref 29, .int (Int32.ofInt f31), .int (Int32.ofInt f32), .int (Int32.ofInt f33), .ref 30, .ref 31, .ref 32, .ref 33, .int (Int32.ofInt f38), .ref 34, .ref 35, .int (Int32.ofInt f41), .ref 36, .ref 37, .int (Int32.ofInt f44), .ref 38, .ref 39, .ref 40, .ref 41, .ref 42, .ref 43, .ref 44]))) (hK1 : zix w 19 = some (.inl (1, 12, .inl g19))) (hK2 : zix w 20 = some (.inl (1, 408, .inl g20))) (hK3 : zix w 25 = some (.inl (1, 7, .inl g25))) (hK4 : zix w 30 = some (.inl (1, 27305, .inl g30))) (hr0 : (-2147483648 ≤ a1 ∧ a1 ≤ 2147483647)) (hr1 : ∀ i : Int, 0 ≤ i → i ≤ 2 → 0 ≤ tBy g19 i ∧ tBy g19 i ≤ 2) (hr2 : bkOK g20) (hr3 : (-1 ≤ f21 ∧ f21 ≤ 1) ∧ RMD g30 g20 f21) (Q : zQ) (h : ∀ (v : Int) (y20 y21 y22 y23 y26 : Int) (T25 T30 : Nat → Int32) (w' : zW), wfM (fun j => j ≠ 14 ∧ j ≠ 25 ∧ j ≠ 30) w w' → zix w' 14 = some (.inr (11, [.int (Int32.ofInt f0), .ref 15, .ref 16, .ref 17, .ref 18, .ref 19, .ref 20, .ref 21, .ref 22, .int (Int32.ofInt f9), .int (Int32.ofInt f10), .int (Int32.ofInt f11), .int (Int32.ofInt f12), .int (Int32.ofInt f13), .long x14, .int (Int32.ofInt f15), .int (Int32.ofInt f16), .int (Int32.ofInt f17), .ref 23, .ref 24, .int (Int32.ofInt y20), .int (Int32.ofInt y21), .int (Int32.ofInt y22), .int (Int32.ofInt y23), .ref 25, .ref 26, .int (Int32.ofInt y26), .ref 27, .int (Int32.ofInt f28), .ref 28, .ref 29, .int (Int32.ofInt f31), .int (Int32.ofInt f32), .int (Int32.ofInt f33), .ref 30, .ref 31, .ref 32, .ref 33, .int (Int32.ofInt f38), .ref 34, .ref 35, .int (Int32.ofInt f41), .ref 36, .ref 37, .int (Int32.ofInt f44), .ref 38, .ref 39, .ref 40, .ref 41, .ref 42, .ref 43, .ref 44])) → zix w' 25 = some (.inl (1, 7, .inl T25)) → zix w' 30 = some (.inl (1, 27305, .inl T30)) → ((v = 1 ∧ 0 ≤ a1 ∧ a1 < tBy g19 0 ∧ a1 ≤ 1 ∧ y20 = a1 ∧ y21 = a1 ∧ y22 = tBy g20 (51 * a1 + 0) ∧ y23 = tBy g20 (51 * a1 + 1) ∧ RMF T30 y23 (rF g20 (51 * a1))) ∨ (v = 0 ∧ (a1 < 0 ∨ tBy g19 0 ≤ a1))) → Q (some (.int (Int32.ofInt v))) w') : zCl zTab (d + 6) iX12_handAll [.ref 14, .int (Int32.ofInt a1)] w 0 0 Q := by
  refine zCl_i (M := kX12_handAll) rfl (Nat.le_of_ble_eq_true rfl) fun R hR => ?_
  have fr0 : wfM (fun j => j ≠ 14 ∧ j ≠ 25 ∧ j ≠ 30) w w := wfM_rf _ w
  have h190 := hr1 0 (by omega) (by omega)
  have nX0 : FX (∀ j : Nat, (j ≠ 14 ∧ j ≠ 25 ∧ j ≠ 30) → (j ≠ 14)) := fun j hj => by omega
  have nX1 : FX (∀ j : Nat, (j ≠ 14 ∧ j ≠ 25 ∧ j ≠ 30) → (j ≠ 14 ∧ j ≠ 25 ∧ j ≠ 30)) := fun j hj => by omega
  iterate 2 refine hR (?_ : R (_, _, _, _, _, _))
  refine hR (c_obj hK0 (zcall_i 0 0 (Nat.le_of_ble_eq_true rfl) (Nat.le_of_ble_eq_true rfl) (x_handR _ _ _ _ _ _ _ _ _ _ _ _ _ _ _ _ _ _ _ _ _ _ _ _ _ _ _ hK0 hK1 hK2 (by omega) hr1 _ fun v1 y20_2 y22_3 y23_4 w5 gg6 hC7 hp8 => ?_)))
  have fr9 := wfM_tr fr0 gg6 nX0
  have hC10 := (gg6.2 19 (by (try dsimp only); decide)).trans hK1
  have hC11 := (gg6.2 20 (by (try dsimp only); decide)).trans hK2
  have hC12 := (gg6.2 25 (by (try dsimp only); decide)).trans hK3
  have hC13 := (gg6.2 30 (by (try dsimp only); decide)).trans hK4
  refine (?_ : R (_, _, .int (Int32.ofInt v1) :: [], w5, 0, 0))
  refine hR (k_ne (by omega) (fun hc14 => ?_) (fun hc14 => ?_))
  rotate_left
  · skip
    refine hR (?_ : R (_, _, _, _, _, _))
    exact hR (zret_i rfl (Nat.le_refl _) (zbo (by omega)) (h _ _ _ _ _ _ _ _ _ fr9 hC7 hC12 hC13 (Or.inr ⟨rfl, by omega⟩)))
  have ht : (0 ≤ a1 ∧ a1 < tBy g19 0 ∧ a1 ≤ 1) ∧ a1 = y20_2 ∧ y22_3 = tBy g20 (51 * a1 + 0) ∧ y23_4 = tBy g20 (51 * a1 + 1) := by omega
  obtain ⟨ht1, ht2, ht3, ht4⟩ := ht
  subst ht2
  have hb1 := bk_b1 hr2 a1 (by omega) (by omega)
  refine hR (?_ : R (_, _, _, _, _, _))
  refine hR (c_obj hC7 (zcall_i 0 0 (Nat.le_of_ble_eq_true rfl) (Nat.le_of_ble_eq_true rfl) (x_layMadeR _ _ _ _ _ _ _ _ _ _ _ _ _ _ _ _ _ _ _ _ _ _ _ _ _ _ _ hC7 hC11 hC12 hC13 hr2 (by omega) ⟨ht4, by omega, by omega⟩ hr3 _ fun y26_15 T25_16 T30_17 w18 gg19 hC20 hC21 hC22 hp23 => ?_)))
  have fr24 := wfM_tr fr9 gg19 nX1
  have hC25 := (gg19.2 19 (by (try dsimp only); decide)).trans hC10
  have hC26 := (gg19.2 20 (by (try dsimp only); decide)).trans hC11
  refine (?_ : R (_, _, [], w18, 0, 0))
  refine hR (?_ : R (_, _, _, _, _, _))
  exact hR (zret_i rfl (Nat.le_refl _) (zbo (by omega)) (h _ _ _ _ _ _ _ _ _ fr24 hC20 hC21 hC22 (Or.inl ⟨rfl, by omega, by omega, by omega, rfl, rfl, by omega, by omega, hp23⟩)))
theorem x_isKeptR (w : zW) (d : Nat) (a1 a2 : Int) (f0 f9 f10 f11 f12 f13 f15 f16 f17 f20 f21 f22 f23 f26 f28 f31 f32 f33 f38 f41 f44 : Int) (x14 : Int64) (g30 : Nat → Int32) (F : Int → Int → Int) (hK0 : zix w 14 = some (.inr (11, [.int (Int32.ofInt f0), .ref 15, .ref 16, .ref 17, .ref 18, .ref 19, .ref 20, .ref 21, .ref 22, .int (Int32.ofInt f9), .int (Int32.ofInt f10), .int (Int32.ofInt f11), .int (Int32.ofInt f12), .int (Int32.ofInt f13), .long x14, .int (Int32.ofInt f15), .int (Int32.ofInt f16), .int (Int32.ofInt f17), .ref 23, .ref 24, .int (Int32.ofInt f20), .int (Int32.ofInt f21), .int (Int32.ofInt f22), .int (Int32.ofInt f23), .ref 25, .ref 26, .int (Int32.ofInt f26), .ref 27, .int (Int32.ofInt f28), .ref 28, .ref 29, .int (Int32.ofInt f31), .int (Int32.ofInt f32), .int (Int32.ofInt f33), .ref 30, .ref 31, .ref 32, .ref 33, .int (Int32.ofInt f38), .ref 34, .ref 35, .int (Int32.ofInt f41), .ref 36, .ref 37, .int (Int32.ofInt f44), .ref 38, .ref 39, .ref 40, .ref 41, .ref 42, .ref 43, .ref 44]))) (hK1 : zix w 30 = some (.inl (1, 27305, .inl g30))) (hr0 : 0 ≤ f23 ∧ f23 ≤ 5) (hr1 : 0 ≤ a1 ∧ a1 ≤ 5460) (hr2 : 0 ≤ a2 ∧ a2 ≤ 31) (hr3 : RMF g30 f23 F) (Q : zQ) (h : ∀ (v : Int), ((v = 1 ∧ kpU F a2 a1 f23.toNat = true) ∨ (v = 0 ∧ kpU F a2 a1 f23.toNat = false)) → Q (some (.int (Int32.ofInt v))) w) : zCl zTab (d + 2) iX12_isKept [.ref 14, .int (Int32.ofInt a1), .int (Int32.ofInt a2)] w 0 0 Q := by
  refine zCl_i (M := kX12_isKept) rfl (Nat.le_of_ble_eq_true rfl) fun R hR => ?_
  iterate 2 refine hR (?_ : R (_, _, _, _, _, _))
  have lp2 : ∀ (N : Nat) (rr : Int), (0 ≤ rr ∧ rr ≤ 5) → (kpU F a2 a1 rr.toNat = true) → (rr ≤ f23) → (6 - rr < N) → R (2, [some (.ref 14), some (.int (Int32.ofInt a1)), some (.int (Int32.ofInt a2)), some (.int (Int32.ofInt rr))], [], w, 0, 0) := by
    intro N
    induction N with
    | zero => intros; omega
    | succ N ih2 =>
      intro rr hf0_2 hp0_2 hp1_2 hN2
      iterate 2 refine hR (?_ : R (_, _, _, _, _, _))
      refine hR (c_get hK0 rfl ?_)
      refine hR (j_ge (by omega) (by omega) (fun hc1 => ?_) (fun hc1 => ?_))
      · skip
        refine hR (?_ : R (_, _, _, _, _, _))
        exact hR (zret_i rfl (Nat.le_refl _) (zbo (by omega)) (h _ (Or.inl ⟨rfl, kp_e hp0_2 (by omega)⟩)))
      iterate 2 refine hR (?_ : R (_, _, _, _, _, _))
      refine hR (zcall_i 0 0 (Nat.le_of_ble_eq_true rfl) (Nat.le_of_ble_eq_true rfl) (x_hasR _ _ _ _ _ fun v2 hp3 => ?_))
      refine (?_ : R (_, _, .int (Int32.ofInt v2) :: [], w, 0, 0))
      refine hR (k_eq (by omega) (fun hc4 => ?_) (fun hc4 => ?_))
      · skip
        refine hR (t_inc ?_)
        refine hR (?_ : R (_, _, _, _, _, _))
        exact ih2 _ (by omega) (kp_s hp0_2 (by omega) (Or.inl (hs_f (by omega) (by omega) (by omega)))) (by omega) (by omega)
      refine hR (?_ : R (_, _, _, _, _, _))
      refine hR (c_get hK0 rfl ?_)
      refine hR (t_c 5461 (by decide) ?_)
      refine hR (?_ : R (_, _, _, _, _, _))
      refine hR (t_mul ?_)
      refine hR (?_ : R (_, _, _, _, _, _))
      refine hR (t_add ?_)
      refine hR (c_aldE hK1 (by omega) (by omega) (Nat.le_of_ble_eq_true rfl) fun v5 ev5 rv5 => ?_)
      replace ev5 : v5 = tBy g30 ((5461 * rr) + a1) := ev5
      have hf6 := rm_ld (r := rr) (t := a1) hr3 ev5 (by omega) (by omega) (by omega) (by omega)
      refine hR (?_ : R (_, _, _, _, _, _))
      refine hR (j_eq (by omega) (by omega) (fun hc7 => ?_) (fun hc7 => ?_))
      rotate_left
      · skip
        refine hR (?_ : R (_, _, _, _, _, _))
        exact hR (zret_i rfl (Nat.le_refl _) (zbo (by omega)) (h _ (Or.inr ⟨rfl, kp_x (r := rr) (by omega) (by omega) (hs_t (by omega) (by omega) (by omega)) (by omega)⟩)))
      refine hR (t_inc ?_)
      refine hR (?_ : R (_, _, _, _, _, _))
      exact ih2 _ (by omega) (kp_s hp0_2 (by omega) (Or.inr (by omega))) (by omega) (by omega)
  exact lp2 400000000 _ (by omega) rfl (by omega) (by omega)
