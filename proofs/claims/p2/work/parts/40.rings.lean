theorem c_putThoseOfNone {ρ : Nat → Nat} {w : zW} (d : Nat) (p : Nat) (hw : CI ρ w) (hρp : ρ p = 80) (Q : zQ) (h : ∀ (v : Int) (w' : zW), CI ρ w' → wfR [83] ρ w w' → (0 ≤ v ∧ v ≤ 5461) → Q (some (.int (Int32.ofInt v))) w') : zCl zTab (d + 1) iX5_putThoseOfNone [.ref p] w 0 0 Q := by
  refine zCl_i (M := kX5_putThoseOfNone) rfl (Nat.le_of_ble_eq_true rfl) fun R hR => ?_
  have fr0 := wfR_rf [83] ρ w
  iterate 4 refine hR (?_ : R (_, _, _, _, _, _))
  have lp4 : ∀ (N : Nat) (n : Int) (t : Int) (w_4 : zW), (CI ρ w_4) → (wfR [83] ρ w w_4) → (0 ≤ n ∧ n ≤ 5461) → (0 ≤ t ∧ t ≤ 5461) → (n ≤ t) → (5462 - t < N) → R (4, [some (.ref p), some (.int (Int32.ofInt n)), some (.int (Int32.ofInt t))], [], w_4, 0, 0) := by
    intro N
    induction N with
    | zero => intros; omega
    | succ N ih4 =>
      intro n t w_4 hw_4 fr_4 hf0_4 hf1_4 hp0_4 hN4
      refine hR (?_ : R (_, _, _, _, _, _))
      refine hR (t_c 5461 (by decide) ?_)
      refine hR (j_ge (by omega) (by omega) (fun hc1 => ?_) (fun hc1 => ?_))
      · skip
        refine hR (?_ : R (_, _, _, _, _, _))
        exact hR (zret_i rfl (Nat.le_refl _) trivial (h _ _ hw_4 fr_4 (by omega)))
      refine hR (?_ : R (_, _, _, _, _, _))
      obtain ⟨x1_2, x2_2, x3_2, x4_2, x5_2, hO2, hk2_0, hk2_1, hk2_2, hk2_3, hk2_4, hk2_5, hk2_6, hk2_7, hk2_8, hk2_9, hk2_10, hk2_11, hk2_12, hk2_13, hk2_14⟩ := CI_o80 hw_4 hρp
      refine hR (c_get hO2 rfl ?_)
      refine hR (?_ : R (_, _, _, _, _, _))
      refine hR (c_ald hw_4 (by rw [hk2_6]; rfl) (by omega) (by omega) (Nat.le_of_ble_eq_true rfl) fun v3 lv3 uv3 => ?_)
      refine hR (j_any ?_ ?_)
      · skip
        refine hR (t_inc ?_)
        refine hR (?_ : R (_, _, _, _, _, _))
        exact ih4 _ _ _ hw_4 fr_4 (by omega) (by omega) (by omega) (by omega)
      refine hR (?_ : R (_, _, _, _, _, _))
      refine hR (c_get hO2 rfl ?_)
      iterate 2 refine hR (?_ : R (_, _, _, _, _, _))
      refine hR (c_ast hw_4 (by rw [hk2_7]; rfl) ⟨by rw [hk2_7]; decide, by rw [hk2_7]; decide⟩ (by omega) (by omega) (by omega) (by omega) (by omega) (by omega) (Nat.le_of_ble_eq_true rfl) fun w4 hw4 f4 => ?_)
      have fr5 := wfR_st fr_4 f4 (by rw [hk2_7]; decide)
      have hO6 := (f4.2 p (rne hρp hk2_7 (by decide))).trans hO2
      refine hR (t_inc ?_)
      refine hR (t_inc ?_)
      refine hR (?_ : R (_, _, _, _, _, _))
      exact ih4 _ _ _ hw4 fr5 (by omega) (by omega) (by omega) (by omega)
  exact lp4 400000000 _ _ _ hw fr0 (by omega) (by omega) (by omega) (by omega)
theorem c_takeOutside {ρ : Nat → Nat} {w : zW} (d : Nat) (p rd : Nat) (a1 a2 : Int) (hw : CI ρ w) (hρp : ρ p = 80) (hρrd : ρ rd = 50) (hr0 : 0 ≤ a1 ∧ a1 ≤ 4) (hr1 : 0 ≤ a2 ∧ a2 ≤ 5461) (Q : zQ) (h : ∀ (v : Int) (w' : zW), CI ρ w' → wfR [51, 82, 83, 84] ρ w w' → (0 ≤ v ∧ v ≤ 5461) → Q (some (.int (Int32.ofInt v))) w') : zCl zTab (d + 5) iX5_takeOutside [.ref p, .ref rd, .int (Int32.ofInt a1), .int (Int32.ofInt a2)] w 0 0 Q := by
  refine zCl_i (M := kX5_takeOutside) rfl (Nat.le_of_ble_eq_true rfl) fun R hR => ?_
  have fr0 := wfR_rf [51, 82, 83, 84] ρ w
  iterate 4 refine hR (?_ : R (_, _, _, _, _, _))
  have lp6 : ∀ (N : Nat) (n : Int) (i : Int) (o6_6 : Option Value) (o7_6 : Option Value) (w_6 : zW), (zc2 o6_6 = false) → (zc2 o7_6 = false) → (CI ρ w_6) → (wfR [51, 82, 83, 84] ρ w w_6) → (0 ≤ n ∧ n ≤ 5461) → (0 ≤ i ∧ i ≤ 5461) → (5462 - i < N) → R (6, [some (.ref p), some (.ref rd), some (.int (Int32.ofInt a1)), some (.int (Int32.ofInt a2)), some (.int (Int32.ofInt n)), some (.int (Int32.ofInt i)), o6_6, o7_6], [], w_6, 0, 0) := by
    intro N
    induction N with
    | zero => intros; omega
    | succ N ih6 =>
      intro n i o6_6 o7_6 w_6 hzo6_6 hzo7_6 hw_6 fr_6 hf0_6 hf1_6 hN6
      iterate 2 refine hR (?_ : R (_, _, _, _, _, _))
      refine hR (j_ge (by omega) (by omega) (fun hc1 => ?_) (fun hc1 => ?_))
      · skip
        refine hR (?_ : R (_, _, _, _, _, _))
        exact hR (zret_i rfl (Nat.le_refl _) trivial (h _ _ hw_6 fr_6 (by omega)))
      refine hR (?_ : R (_, _, _, _, _, _))
      refine hR (t_c 5461 (by decide) ?_)
      refine hR (j_ge (by omega) (by omega) (fun hc2 => ?_) (fun hc2 => ?_))
      · skip
        refine hR (?_ : R (_, _, _, _, _, _))
        exact hR (zret_i rfl (Nat.le_refl _) trivial (h _ _ hw_6 fr_6 (by omega)))
      refine hR (?_ : R (_, _, _, _, _, _))
      obtain ⟨x1_3, x2_3, x3_3, x4_3, x5_3, hO3, hk3_0, hk3_1, hk3_2, hk3_3, hk3_4, hk3_5, hk3_6, hk3_7, hk3_8, hk3_9, hk3_10, hk3_11, hk3_12, hk3_13, hk3_14⟩ := CI_o80 hw_6 hρp
      refine hR (c_get hO3 rfl ?_)
      refine hR (?_ : R (_, _, _, _, _, _))
      refine hR (c_ald hw_6 (by rw [hk3_7]; rfl) (by omega) (by omega) (Nat.le_of_ble_eq_true rfl) fun v4 lv4 uv4 => ?_)
      iterate 4 refine hR (?_ : R (_, _, _, _, _, _))
      obtain ⟨z0_8, z2_8, z3_8, hO8, hk8_0, hk8_1, hk8_2, hk8_3, hk8_4⟩ := CI_o50 hw_6 hρrd
      refine hR (c_obj hO8 (zcall_i 0 0 (Nat.le_of_ble_eq_true rfl) (Nat.le_of_ble_eq_true rfl) (c_after _ rd a1 v4 hw_6 hρrd (by omega) (by omega) _ fun v5 w6 hw6 g6 hp7 => ?_)))
      have fr9 := wfR_tr fr_6 g6 (by decide)
      have hO10 := (g6.2 p (by rw [hρp]; decide)).trans hO3
      have hO11 := (g6.2 rd (by rw [hρrd]; decide)).trans hO8
      refine (?_ : R (_, _, (.int (Int32.ofInt v5)) :: [], w6, 0, 0))
      iterate 2 refine hR (?_ : R (_, _, _, _, _, _))
      refine hR (c_get hO10 rfl ?_)
      iterate 2 refine hR (?_ : R (_, _, _, _, _, _))
      refine hR (c_get hO10 rfl ?_)
      refine hR (?_ : R (_, _, _, _, _, _))
      refine hR (c_ald hw6 (by rw [hk3_8]; rfl) (by omega) (by omega) (Nat.le_of_ble_eq_true rfl) fun v12 lv12 uv12 => ?_)
      refine hR (?_ : R (_, _, _, _, _, _))
      refine hR (c_get hO10 rfl ?_)
      refine hR (?_ : R (_, _, _, _, _, _))
      refine hR (c_ald hw6 (by rw [hk3_8]; rfl) (by omega) (by omega) (Nat.le_of_ble_eq_true rfl) fun v13 lv13 uv13 => ?_)
      refine hR (?_ : R (_, _, _, _, _, _))
      refine hR (t_add ?_)
      refine hR (t_o fun v14 rv14 => ?_)
      refine hR (c_astx hw6 (by rw [hk3_8]; rfl) ⟨by rw [hk3_8]; decide, by rw [hk3_8]; decide⟩ (by omega) (by omega) (Nat.le_of_ble_eq_true rfl) fun w15 hw15 f15 => ?_)
      have fr16 := wfR_st fr9 f15 (by rw [hk3_8]; decide)
      have hO17 := (f15.2 p (rne hρp hk3_8 (by decide))).trans hO10
      have hO18 := (f15.2 rd (rne hρrd hk3_8 (by decide))).trans hO11
      refine hR (?_ : R (_, _, _, _, _, _))
      refine hR (c_get hO17 rfl ?_)
      iterate 2 refine hR (?_ : R (_, _, _, _, _, _))
      refine hR (c_ald hw15 (by rw [hk3_6]; rfl) (by omega) (by omega) (Nat.le_of_ble_eq_true rfl) fun v19 lv19 uv19 => ?_)
      refine hR (?_ : R (_, _, _, _, _, _))
      refine hR (t_sub ?_)
      refine hR (c_astx hw15 (by rw [hk3_6]; rfl) ⟨by rw [hk3_6]; decide, by rw [hk3_6]; decide⟩ (by omega) (by omega) (Nat.le_of_ble_eq_true rfl) fun w20 hw20 f20 => ?_)
      have fr21 := wfR_st fr16 f20 (by rw [hk3_6]; decide)
      have hO22 := (f20.2 p (rne hρp hk3_6 (by decide))).trans hO17
      have hO23 := (f20.2 rd (rne hρrd hk3_6 (by decide))).trans hO18
      refine hR (?_ : R (_, _, _, _, _, _))
      refine hR (c_get hO22 rfl ?_)
      refine hR (?_ : R (_, _, _, _, _, _))
      refine hR (c_ald hw20 (by rw [hk3_6]; rfl) (by omega) (by omega) (Nat.le_of_ble_eq_true rfl) fun v24 lv24 uv24 => ?_)
      refine hR (j_any ?_ ?_)
      · skip
        refine hR (t_inc ?_)
        refine hR (?_ : R (_, _, _, _, _, _))
        exact ih6 _ _ _ _ _ (by rfl) (by rfl) hw20 fr21 (by omega) (by omega) (by omega)
      refine hR (?_ : R (_, _, _, _, _, _))
      refine hR (t_c 5461 (by decide) ?_)
      refine hR (j_ge (by omega) (by omega) (fun hc25 => ?_) (fun hc25 => ?_))
      · skip
        refine hR (t_inc ?_)
        refine hR (?_ : R (_, _, _, _, _, _))
        exact ih6 _ _ _ _ _ (by rfl) (by rfl) hw20 fr21 (by omega) (by omega) (by omega)
      refine hR (?_ : R (_, _, _, _, _, _))
      refine hR (c_get hO22 rfl ?_)
      iterate 2 refine hR (?_ : R (_, _, _, _, _, _))
      refine hR (c_ast hw20 (by rw [hk3_7]; rfl) ⟨by rw [hk3_7]; decide, by rw [hk3_7]; decide⟩ (by omega) (by omega) (by omega) (by omega) (by omega) (by omega) (Nat.le_of_ble_eq_true rfl) fun w26 hw26 f26 => ?_)
      have fr27 := wfR_st fr21 f26 (by rw [hk3_7]; decide)
      have hO28 := (f26.2 p (rne hρp hk3_7 (by decide))).trans hO22
      have hO29 := (f26.2 rd (rne hρrd hk3_7 (by decide))).trans hO23
      refine hR (t_inc ?_)
      refine hR (t_inc ?_)
      refine hR (?_ : R (_, _, _, _, _, _))
      exact ih6 _ _ _ _ _ (by rfl) (by rfl) hw26 fr27 (by omega) (by omega) (by omega)
  exact lp6 400000000 _ _ _ _ _ (by rfl) (by rfl) hw fr0 (by omega) (by omega) (by omega)
theorem c_goRound {ρ : Nat → Nat} {w : zW} (d : Nat) (p rd : Nat) (a1 a2 : Int) (hw : CI ρ w) (hρp : ρ p = 80) (hρrd : ρ rd = 50) (hr0 : 0 ≤ a1 ∧ a1 ≤ 4) (hr1 : 0 ≤ a2 ∧ a2 ≤ 5460) (Q : zQ) (h : ∀ (v : Int) (w' : zW), CI ρ w' → wfR [51, 82] ρ w w' → (0 ≤ v ∧ v ≤ 5461) → Q (some (.int (Int32.ofInt v))) w') : zCl zTab (d + 5) iX5_goRound [.ref p, .ref rd, .int (Int32.ofInt a1), .int (Int32.ofInt a2)] w 0 0 Q := by
  refine zCl_i (M := kX5_goRound) rfl (Nat.le_of_ble_eq_true rfl) fun R hR => ?_
  have fr0 := wfR_rf [51, 82] ρ w
  iterate 4 refine hR (?_ : R (_, _, _, _, _, _))
  have lp6 : ∀ (N : Nat) (t : Int) (n : Int) (w_6 : zW), (CI ρ w_6) → (wfR [51, 82] ρ w w_6) → (0 ≤ t ∧ t ≤ 5460) → (0 ≤ n ∧ n ≤ 5461) → (5462 - n < N) → R (6, [some (.ref p), some (.ref rd), some (.int (Int32.ofInt a1)), some (.int (Int32.ofInt a2)), some (.int (Int32.ofInt t)), some (.int (Int32.ofInt n))], [], w_6, 0, 0) := by
    intro N
    induction N with
    | zero => intros; omega
    | succ N ih6 =>
      intro t n w_6 hw_6 fr_6 hf0_6 hf1_6 hN6
      refine hR (?_ : R (_, _, _, _, _, _))
      refine hR (t_c 5461 (by decide) ?_)
      refine hR (j_ge (by omega) (by omega) (fun hc1 => ?_) (fun hc1 => ?_))
      · skip
        refine hR (?_ : R (_, _, _, _, _, _))
        exact hR (zret_i rfl (Nat.le_refl _) trivial (h _ _ hw_6 fr_6 (by omega)))
      refine hR (?_ : R (_, _, _, _, _, _))
      obtain ⟨x1_2, x2_2, x3_2, x4_2, x5_2, hO2, hk2_0, hk2_1, hk2_2, hk2_3, hk2_4, hk2_5, hk2_6, hk2_7, hk2_8, hk2_9, hk2_10, hk2_11, hk2_12, hk2_13, hk2_14⟩ := CI_o80 hw_6 hρp
      refine hR (c_get hO2 rfl ?_)
      refine hR (?_ : R (_, _, _, _, _, _))
      refine hR (c_ald hw_6 (by rw [hk2_6]; rfl) (by omega) (by omega) (Nat.le_of_ble_eq_true rfl) fun v3 lv3 uv3 => ?_)
      refine hR (j_any ?_ ?_)
      · skip
        refine hR (?_ : R (_, _, _, _, _, _))
        exact hR (zret_i rfl (Nat.le_refl _) trivial (h _ _ hw_6 fr_6 (by omega)))
      refine hR (?_ : R (_, _, _, _, _, _))
      refine hR (c_get hO2 rfl ?_)
      iterate 2 refine hR (?_ : R (_, _, _, _, _, _))
      refine hR (c_astx hw_6 (by rw [hk2_6]; rfl) ⟨by rw [hk2_6]; decide, by rw [hk2_6]; decide⟩ (by omega) (by omega) (Nat.le_of_ble_eq_true rfl) fun w4 hw4 f4 => ?_)
      have fr5 := wfR_st fr_6 f4 (by rw [hk2_6]; decide)
      have hO6 := (f4.2 p (rne hρp hk2_6 (by decide))).trans hO2
      iterate 3 refine hR (?_ : R (_, _, _, _, _, _))
      obtain ⟨z0_10, z2_10, z3_10, hO10, hk10_0, hk10_1, hk10_2, hk10_3, hk10_4⟩ := CI_o50 hw4 hρrd
      refine hR (c_obj hO10 (zcall_i 0 0 (Nat.le_of_ble_eq_true rfl) (Nat.le_of_ble_eq_true rfl) (c_after _ rd a1 t hw4 hρrd (by omega) (by omega) _ fun v7 w8 hw8 g8 hp9 => ?_)))
      have fr11 := wfR_tr fr5 g8 (by decide)
      have hO12 := (g8.2 p (by rw [hρp]; decide)).trans hO6
      have hO13 := (g8.2 rd (by rw [hρrd]; decide)).trans hO10
      refine (?_ : R (_, _, (.int (Int32.ofInt v7)) :: [], w8, 0, 0))
      refine hR (?_ : R (_, _, _, _, _, _))
      refine hR (t_inc ?_)
      refine hR (?_ : R (_, _, _, _, _, _))
      exact ih6 _ _ _ hw8 fr11 (by omega) (by omega) (by omega)
  exact lp6 400000000 _ _ _ hw fr0 (by omega) (by omega) (by omega)
theorem c_findOrbits {ρ : Nat → Nat} {w : zW} (d : Nat) (p rd : Nat) (a1 : Int) (hw : CI ρ w) (hρp : ρ p = 80) (hρrd : ρ rd = 50) (hr0 : 0 ≤ a1 ∧ a1 ≤ 4) (Q : zQ) (h : ∀ (w' : zW), CI ρ w' → wfR [51, 81, 82, 83, 84] ρ w w' → Q (none) w') : zCl zTab (d + 6) iX5_findOrbits [.ref p, .ref rd, .int (Int32.ofInt a1)] w 0 0 Q := by
  refine zCl_i (M := kX5_findOrbits) rfl (Nat.le_of_ble_eq_true rfl) fun R hR => ?_
  have fr0 := wfR_rf [51, 81, 82, 83, 84] ρ w
  refine hR (?_ : R (_, _, _, _, _, _))
  obtain ⟨x1_1, x2_1, x3_1, x4_1, x5_1, hO1, hk1_0, hk1_1, hk1_2, hk1_3, hk1_4, hk1_5, hk1_6, hk1_7, hk1_8, hk1_9, hk1_10, hk1_11, hk1_12, hk1_13, hk1_14⟩ := CI_o80 hw hρp
  refine hR (c_get hO1 rfl ?_)
  refine hR (?_ : R (_, _, _, _, _, _))
  refine hR (zcall_i 0 0 (Nat.le_of_ble_eq_true rfl) (Nat.le_of_ble_eq_true rfl) (c_fill _ (p + 1) 6 0 (-2147483648) 2147483647 hw (by rw [hk1_0]; rfl) ⟨by rw [hk1_0]; decide, by rw [hk1_0]; decide⟩ (by omega) (by omega) (by omega) _ fun w2 hw2 f2 hg2 => ?_))
  refine (?_ : R (_, _, [], w2, 0, 0))
  have fr3 := wfR_st fr0 f2 (by rw [hk1_0]; decide)
  have hO4 := (f2.2 p (rne hρp hk1_0 (by decide))).trans hO1
  refine hR (?_ : R (_, _, _, _, _, _))
  refine hR (c_get hO4 rfl ?_)
  refine hR (?_ : R (_, _, _, _, _, _))
  refine hR (zcall_i 0 0 (Nat.le_of_ble_eq_true rfl) (Nat.le_of_ble_eq_true rfl) (c_fill _ (p + 2) 5461 0 (-2147483648) 2147483647 hw2 (by rw [hk1_6]; rfl) ⟨by rw [hk1_6]; decide, by rw [hk1_6]; decide⟩ (by omega) (by omega) (by omega) _ fun w5 hw5 f5 hg5 => ?_))
  refine (?_ : R (_, _, [], w5, 0, 0))
  have fr6 := wfR_st fr3 f5 (by rw [hk1_6]; decide)
  have hO7 := (f5.2 p (rne hρp hk1_6 (by decide))).trans hO4
  refine hR (?_ : R (_, _, _, _, _, _))
  refine hR (c_get hO7 rfl ?_)
  refine hR (?_ : R (_, _, _, _, _, _))
  refine hR (zcall_i 0 0 (Nat.le_of_ble_eq_true rfl) (Nat.le_of_ble_eq_true rfl) (c_fill _ (p + 4) 5461 0 (-2147483648) 2147483647 hw5 (by rw [hk1_8]; rfl) ⟨by rw [hk1_8]; decide, by rw [hk1_8]; decide⟩ (by omega) (by omega) (by omega) _ fun w8 hw8 f8 hg8 => ?_))
  refine (?_ : R (_, _, [], w8, 0, 0))
  have fr9 := wfR_st fr6 f8 (by rw [hk1_8]; decide)
  have hO10 := (f8.2 p (rne hρp hk1_8 (by decide))).trans hO7
  iterate 2 refine hR (?_ : R (_, _, _, _, _, _))
  have lp26 : ∀ (N : Nat) (t : Int) (o4_26 : Option Value) (w_26 : zW), (zc2 o4_26 = false) → (CI ρ w_26) → (wfR [51, 81, 82, 83, 84] ρ w w_26) → (zix w_26 p = some (.inr (4, [.ref (p + 1), .int (Int32.ofInt x1_1), .int (Int32.ofInt x2_1), .int (Int32.ofInt x3_1), .int (Int32.ofInt x4_1), .int (Int32.ofInt x5_1), .ref (p + 2), .ref (p + 3), .ref (p + 4), .ref (p + 5), .ref (p + 6), .ref (p + 7), .ref (p + 8), .ref (p + 9), .ref (p + 10)]))) → (0 ≤ t ∧ t ≤ 5461) → (5462 - t < N) → R (26, [some (.ref p), some (.ref rd), some (.int (Int32.ofInt a1)), some (.int (Int32.ofInt t)), o4_26], [], w_26, 0, 0) := by
    intro N
    induction N with
    | zero => intros; omega
    | succ N ih26 =>
      intro t o4_26 w_26 hzo4_26 hw_26 fr_26 hOp_26 hf0_26 hN26
      refine hR (?_ : R (_, _, _, _, _, _))
      refine hR (t_c 5461 (by decide) ?_)
      refine hR (j_ge (by omega) (by omega) (fun hc11 => ?_) (fun hc11 => ?_))
      rotate_left
      · skip
        iterate 3 refine hR (?_ : R (_, _, _, _, _, _))
        obtain ⟨z0_58, z2_58, z3_58, hO58, hk58_0, hk58_1, hk58_2, hk58_3, hk58_4⟩ := CI_o50 hw_26 hρrd
        refine hR (c_obj hO58 (zcall_i 0 0 (Nat.le_of_ble_eq_true rfl) (Nat.le_of_ble_eq_true rfl) (c_after _ rd a1 t hw_26 hρrd (by omega) (by omega) _ fun v55 w56 hw56 g56 hp57 => ?_)))
        have fr59 := wfR_tr fr_26 g56 (by decide)
        have hO60 := (g56.2 p (by rw [hρp]; decide)).trans hOp_26
        have hO61 := (g56.2 rd (by rw [hρrd]; decide)).trans hO58
        refine (?_ : R (_, _, (.int (Int32.ofInt v55)) :: [], w56, 0, 0))
        iterate 2 refine hR (?_ : R (_, _, _, _, _, _))
        refine hR (c_get hO60 rfl ?_)
        iterate 2 refine hR (?_ : R (_, _, _, _, _, _))
        refine hR (c_ald hw56 (by rw [hk1_6]; rfl) (by omega) (by omega) (Nat.le_of_ble_eq_true rfl) fun v62 lv62 uv62 => ?_)
        refine hR (?_ : R (_, _, _, _, _, _))
        refine hR (t_add ?_)
        refine hR (c_astx hw56 (by rw [hk1_6]; rfl) ⟨by rw [hk1_6]; decide, by rw [hk1_6]; decide⟩ (by omega) (by omega) (Nat.le_of_ble_eq_true rfl) fun w63 hw63 f63 => ?_)
        have fr64 := wfR_st fr59 f63 (by rw [hk1_6]; decide)
        have hO65 := (f63.2 p (rne hρp hk1_6 (by decide))).trans hO60
        have hO66 := (f63.2 rd (rne hρrd hk1_6 (by decide))).trans hO61
        iterate 2 refine hR (?_ : R (_, _, _, _, _, _))
        refine hR (j_ne (by omega) (by omega) (fun hc67 => ?_) (fun hc67 => ?_))
        · skip
          refine hR (t_inc ?_)
          refine hR (?_ : R (_, _, _, _, _, _))
          exact ih26 _ _ _ (by rfl) hw63 fr64 hO65 (by omega) (by omega)
        refine hR (?_ : R (_, _, _, _, _, _))
        refine hR (c_get hO65 rfl ?_)
        iterate 2 refine hR (?_ : R (_, _, _, _, _, _))
        refine hR (c_ald hw63 (by rw [hk1_0]; rfl) (by omega) (by omega) (Nat.le_of_ble_eq_true rfl) fun v68 lv68 uv68 => ?_)
        refine hR (?_ : R (_, _, _, _, _, _))
        refine hR (t_add ?_)
        refine hR (c_astx hw63 (by rw [hk1_0]; rfl) ⟨by rw [hk1_0]; decide, by rw [hk1_0]; decide⟩ (by omega) (by omega) (Nat.le_of_ble_eq_true rfl) fun w69 hw69 f69 => ?_)
        have fr70 := wfR_st fr64 f69 (by rw [hk1_0]; decide)
        have hO71 := (f69.2 p (rne hρp hk1_0 (by decide))).trans hO65
        have hO72 := (f69.2 rd (rne hρrd hk1_0 (by decide))).trans hO66
        refine hR (t_inc ?_)
        refine hR (?_ : R (_, _, _, _, _, _))
        exact ih26 _ _ _ (by rfl) hw69 fr70 hO71 (by omega) (by omega)
      refine hR (?_ : R (_, _, _, _, _, _))
      refine hR (c_get hOp_26 rfl ?_)
      iterate 2 refine hR (?_ : R (_, _, _, _, _, _))
      refine hR (c_obj hOp_26 (zcall_i 0 0 (Nat.le_of_ble_eq_true rfl) (Nat.le_of_ble_eq_true rfl) (c_putThoseOfNone _ p hw_26 hρp _ fun v12 w13 hw13 g13 hp14 => ?_)))
      have fr15 := wfR_tr fr_26 g13 (by decide)
      have hO16 := (g13.2 p (by rw [hρp]; decide)).trans hOp_26
      refine (?_ : R (_, _, (.int (Int32.ofInt v12)) :: (.int (Int32.ofInt 4)) :: (.ref (p + 1)) :: [], w13, 0, 0))
      obtain ⟨ge18, hge18, hBe18⟩ := CI_ar hw13 (q := p + 1) (by rw [hk1_0]; rfl)
      refine hR (c_astE hw13 hge18 hBe18 (by rw [hk1_0]; rfl) ⟨by rw [hk1_0]; decide, by rw [hk1_0]; decide⟩ (by omega) (by omega) (by omega) (by omega) (Nat.le_of_ble_eq_true rfl) fun w17 hw17 f17 hs17 hb17 => ?_)
      have fr19 := wfR_st fr15 f17 (by rw [hk1_0]; decide)
      have hO20 := (f17.2 p (rne hρp hk1_0 (by decide))).trans hO16
      refine hR (?_ : R (_, _, _, _, _, _))
      refine hR (c_get hO20 rfl ?_)
      refine hR (?_ : R (_, _, _, _, _, _))
      refine hR (t_c 5461 (by decide) ?_)
      iterate 4 refine hR (?_ : R (_, _, _, _, _, _))
      refine hR (c_get hO20 rfl ?_)
      refine hR (?_ : R (_, _, _, _, _, _))
      refine hR (c_aldE hs17 (by omega) (by omega) (Nat.le_of_ble_eq_true rfl) fun v21 e22 rv21 => ?_)
      rw [pk_us, zti (by omega) (by omega)] at e22
      refine hR (c_obj hO20 (zcall_i 0 0 (Nat.le_of_ble_eq_true rfl) (Nat.le_of_ble_eq_true rfl) (c_takeOutside _ p rd a1 v21 hw17 hρp hρrd (by omega) (by omega) _ fun v23 w24 hw24 g24 hp25 => ?_)))
      have fr26 := wfR_tr fr19 g24 (by decide)
      have hO27 := (g24.2 p (by rw [hρp]; decide)).trans hO20
      refine (?_ : R (_, _, (.int (Int32.ofInt v23)) :: (.int (Int32.ofInt 5461)) :: (.int (Int32.ofInt 2)) :: (.ref (p + 1)) :: [], w24, 0, 0))
      refine hR (t_sub ?_)
      refine hR (c_astx hw24 (by rw [hk1_0]; rfl) ⟨by rw [hk1_0]; decide, by rw [hk1_0]; decide⟩ (by omega) (by omega) (Nat.le_of_ble_eq_true rfl) fun w28 hw28 f28 => ?_)
      have fr29 := wfR_st fr26 f28 (by rw [hk1_0]; decide)
      have hO30 := (f28.2 p (rne hρp hk1_0 (by decide))).trans hO27
      iterate 2 refine hR (?_ : R (_, _, _, _, _, _))
      have lp108 : ∀ (N : Nat) (t2 : Int) (w_108 : zW), (CI ρ w_108) → (wfR [51, 81, 82, 83, 84] ρ w w_108) → (zix w_108 p = some (.inr (4, [.ref (p + 1), .int (Int32.ofInt x1_1), .int (Int32.ofInt x2_1), .int (Int32.ofInt x3_1), .int (Int32.ofInt x4_1), .int (Int32.ofInt x5_1), .ref (p + 2), .ref (p + 3), .ref (p + 4), .ref (p + 5), .ref (p + 6), .ref (p + 7), .ref (p + 8), .ref (p + 9), .ref (p + 10)]))) → (0 ≤ t2 ∧ t2 ≤ 5461) → (5462 - t2 < N) → R (108, [some (.ref p), some (.ref rd), some (.int (Int32.ofInt a1)), some (.int (Int32.ofInt t2)), o4_26], [], w_108, 0, 0) := by
        intro N
        induction N with
        | zero => intros; omega
        | succ N ih108 =>
          intro t2 w_108 hw_108 fr_108 hOp_108 hf0_108 hN108
          refine hR (?_ : R (_, _, _, _, _, _))
          refine hR (t_c 5461 (by decide) ?_)
          refine hR (j_ge (by omega) (by omega) (fun hc31 => ?_) (fun hc31 => ?_))
          rotate_left
          · skip
            refine hR (?_ : R (_, _, _, _, _, _))
            refine hR (c_get hOp_108 rfl ?_)
            refine hR (?_ : R (_, _, _, _, _, _))
            refine hR (c_ald hw_108 (by rw [hk1_6]; rfl) (by omega) (by omega) (Nat.le_of_ble_eq_true rfl) fun v48 lv48 uv48 => ?_)
            refine hR (j_any ?_ ?_)
            · skip
              refine hR (t_inc ?_)
              refine hR (?_ : R (_, _, _, _, _, _))
              exact ih108 _ _ hw_108 fr_108 hOp_108 (by omega) (by omega)
            refine hR (?_ : R (_, _, _, _, _, _))
            refine hR (c_get hOp_108 rfl ?_)
            iterate 2 refine hR (?_ : R (_, _, _, _, _, _))
            refine hR (c_get hOp_108 rfl ?_)
            refine hR (?_ : R (_, _, _, _, _, _))
            refine hR (c_ald hw_108 (by rw [hk1_0]; rfl) (by omega) (by omega) (Nat.le_of_ble_eq_true rfl) fun v49 lv49 uv49 => ?_)
            refine hR (?_ : R (_, _, _, _, _, _))
            refine hR (c_get hOp_108 rfl ?_)
            refine hR (?_ : R (_, _, _, _, _, _))
            refine hR (c_ald hw_108 (by rw [hk1_8]; rfl) (by omega) (by omega) (Nat.le_of_ble_eq_true rfl) fun v50 lv50 uv50 => ?_)
            refine hR (t_o fun v51 rv51 => ?_)
            refine hR (c_astx hw_108 (by rw [hk1_0]; rfl) ⟨by rw [hk1_0]; decide, by rw [hk1_0]; decide⟩ (by omega) (by omega) (Nat.le_of_ble_eq_true rfl) fun w52 hw52 f52 => ?_)
            have fr53 := wfR_st fr_108 f52 (by rw [hk1_0]; decide)
            have hO54 := (f52.2 p (rne hρp hk1_0 (by decide))).trans hOp_108
            refine hR (t_inc ?_)
            refine hR (?_ : R (_, _, _, _, _, _))
            exact ih108 _ _ hw52 fr53 hO54 (by omega) (by omega)
          iterate 2 refine hR (?_ : R (_, _, _, _, _, _))
          have lp153 : ∀ (N : Nat) (t3 : Int) (w_153 : zW), (CI ρ w_153) → (wfR [51, 81, 82, 83, 84] ρ w w_153) → (zix w_153 p = some (.inr (4, [.ref (p + 1), .int (Int32.ofInt x1_1), .int (Int32.ofInt x2_1), .int (Int32.ofInt x3_1), .int (Int32.ofInt x4_1), .int (Int32.ofInt x5_1), .ref (p + 2), .ref (p + 3), .ref (p + 4), .ref (p + 5), .ref (p + 6), .ref (p + 7), .ref (p + 8), .ref (p + 9), .ref (p + 10)]))) → (0 ≤ t3 ∧ t3 ≤ 5461) → (5462 - t3 < N) → R (153, [some (.ref p), some (.ref rd), some (.int (Int32.ofInt a1)), some (.int (Int32.ofInt t3)), o4_26], [], w_153, 0, 0) := by
            intro N
            induction N with
            | zero => intros; omega
            | succ N ih153 =>
              intro t3 w_153 hw_153 fr_153 hOp_153 hf0_153 hN153
              refine hR (?_ : R (_, _, _, _, _, _))
              refine hR (t_c 5461 (by decide) ?_)
              refine hR (j_ge (by omega) (by omega) (fun hc32 => ?_) (fun hc32 => ?_))
              · skip
                exact hR (zret_i rfl (Nat.le_refl _) rfl (h _ hw_153 fr_153))
              refine hR (?_ : R (_, _, _, _, _, _))
              refine hR (c_get hOp_153 rfl ?_)
              refine hR (?_ : R (_, _, _, _, _, _))
              refine hR (c_ald hw_153 (by rw [hk1_6]; rfl) (by omega) (by omega) (Nat.le_of_ble_eq_true rfl) fun v33 lv33 uv33 => ?_)
              refine hR (j_any ?_ ?_)
              · skip
                refine hR (t_inc ?_)
                refine hR (?_ : R (_, _, _, _, _, _))
                exact ih153 _ _ hw_153 fr_153 hOp_153 (by omega) (by omega)
              refine hR (?_ : R (_, _, _, _, _, _))
              refine hR (c_get hOp_153 rfl ?_)
              iterate 2 refine hR (?_ : R (_, _, _, _, _, _))
              refine hR (c_ald hw_153 (by rw [hk1_0]; rfl) (by omega) (by omega) (Nat.le_of_ble_eq_true rfl) fun v34 lv34 uv34 => ?_)
              refine hR (?_ : R (_, _, _, _, _, _))
              refine hR (t_add ?_)
              refine hR (c_astx hw_153 (by rw [hk1_0]; rfl) ⟨by rw [hk1_0]; decide, by rw [hk1_0]; decide⟩ (by omega) (by omega) (Nat.le_of_ble_eq_true rfl) fun w35 hw35 f35 => ?_)
              have fr36 := wfR_st fr_153 f35 (by rw [hk1_0]; decide)
              have hO37 := (f35.2 p (rne hρp hk1_0 (by decide))).trans hOp_153
              refine hR (?_ : R (_, _, _, _, _, _))
              refine hR (c_get hO37 rfl ?_)
              iterate 2 refine hR (?_ : R (_, _, _, _, _, _))
              refine hR (c_get hO37 rfl ?_)
              refine hR (?_ : R (_, _, _, _, _, _))
              refine hR (c_ald hw35 (by rw [hk1_0]; rfl) (by omega) (by omega) (Nat.le_of_ble_eq_true rfl) fun v38 lv38 uv38 => ?_)
              iterate 4 refine hR (?_ : R (_, _, _, _, _, _))
              refine hR (c_obj hO37 (zcall_i 0 0 (Nat.le_of_ble_eq_true rfl) (Nat.le_of_ble_eq_true rfl) (c_goRound _ p rd a1 t3 hw35 hρp hρrd (by omega) (by omega) _ fun v39 w40 hw40 g40 hp41 => ?_)))
              have fr42 := wfR_tr fr36 g40 (by decide)
              have hO43 := (g40.2 p (by rw [hρp]; decide)).trans hO37
              refine (?_ : R (_, _, (.int (Int32.ofInt v39)) :: (.int (Int32.ofInt v38)) :: (.int (Int32.ofInt 1)) :: (.ref (p + 1)) :: [], w40, 0, 0))
              refine hR (t_o fun v44 rv44 => ?_)
              refine hR (c_astx hw40 (by rw [hk1_0]; rfl) ⟨by rw [hk1_0]; decide, by rw [hk1_0]; decide⟩ (by omega) (by omega) (Nat.le_of_ble_eq_true rfl) fun w45 hw45 f45 => ?_)
              have fr46 := wfR_st fr42 f45 (by rw [hk1_0]; decide)
              have hO47 := (f45.2 p (rne hρp hk1_0 (by decide))).trans hO43
              refine hR (t_inc ?_)
              refine hR (?_ : R (_, _, _, _, _, _))
              exact ih153 _ _ hw45 fr46 hO47 (by omega) (by omega)
          exact lp153 400000000 _ _ hw_108 fr_108 hOp_108 (by omega) (by omega)
      exact lp108 400000000 _ _ hw28 fr29 hO30 (by omega) (by omega)
  exact lp26 400000000 _ _ _ (by rfl) hw8 fr9 hO10 (by omega) (by omega)
