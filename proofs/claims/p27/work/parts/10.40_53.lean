theorem c_putThoseOfNone {ρ : Nat → Nat} {w : zW} (d : Nat) (p : Nat) (hw : CI ρ w) (hρp : ρ p = 80) (Q : zQ) (h : ∀ (v : Int) (w' : zW), CI ρ w' → wfR [83] ρ w w' → (0 ≤ v ∧ v ≤ 5461) → Q (some (.int (Int32.ofInt v))) w') : zCl zTab (d + 1) iX5_putThoseOfNone [.ref p] w 0 0 Q := by
  refine zCl_i (M := kX5_putThoseOfNone) rfl (Nat.le_of_ble_eq_true rfl) fun R hR => ?_
  have fr0 := wfR_rf [83] ρ w
  iterate 4 refine hR (?_ : R (_, _, _, _, _, _))
  have lp4 : ∀ (N : Nat) (n : Int) (t : Int) (w_4 : zW), (CI ρ w_4) → (wfR [83] ρ w w_4) → (0 ≤ n ∧ n ≤ 5461) → (0 ≤ t ∧ t ≤ 5461) → (n ≤ t) → (5462 - t < N) → R (4, [some (.ref p), some (.int (Int32.ofInt n)), some (.int (Int32.ofInt t))], [], w_4, 0, 0) := by
    intro N
    induction N with
    | zero => intros; omega
    | succ N ih4 =>
      intro n t w_4 hw_4 fr_4 hf0_4 hf1_4 hp0_4 hN4
      refine hR (?_ : R (_, _, _, _, _, _))
      refine hR (t_c 5461 (by decide) ?_)
      refine hR (j_ge (by omega) (by omega) (fun hc1 => ?_) (fun hc1 => ?_))
      · skip
        refine hR (?_ : R (_, _, _, _, _, _))
        exact hR (zret_i rfl (Nat.le_refl _) trivial (h _ _ hw_4 fr_4 (by omega)))
      refine hR (?_ : R (_, _, _, _, _, _))
      obtain ⟨x1_2, x2_2, x3_2, x4_2, x5_2, hO2, hk2_0, hk2_1, hk2_2, hk2_3, hk2_4, hk2_5, hk2_6, hk2_7, hk2_8, hk2_9, hk2_10, hk2_11, hk2_12, hk2_13, hk2_14⟩ := CI_o80 hw_4 hρp
      refine hR (c_get hO2 rfl ?_)
      refine hR (?_ : R (_, _, _, _, _, _))
      refine hR (c_ald hw_4 (by rw [hk2_6]; rfl) (by omega) (by omega) (Nat.le_of_ble_eq_true rfl) fun v3 lv3 uv3 => ?_)
      refine hR (j_any ?_ ?_)
      · skip
        refine hR (t_inc ?_)
        refine hR (?_ : R (_, _, _, _, _, _))
        exact ih4 _ _ _ hw_4 fr_4 (by omega) (by omega) (by omega) (by omega)
      refine hR (?_ : R (_, _, _, _, _, _))
      refine hR (c_get hO2 rfl ?_)
      iterate 2 refine hR (?_ : R (_, _, _, _, _, _))
      refine hR (c_ast hw_4 (by rw [hk2_7]; rfl) ⟨by rw [hk2_7]; decide, by rw [hk2_7]; decide⟩ (by omega) (by omega) (by omega) (by omega) (by omega) (by omega) (Nat.le_of_ble_eq_true rfl) fun w4 hw4 f4 => ?_)
      have fr5 := wfR_st fr_4 f4 (by rw [hk2_7]; decide)
      have hO6 := (f4.2 p (rne hρp hk2_7 (by decide))).trans hO2
      refine hR (t_inc ?_)
      refine hR (t_inc ?_)
      refine hR (?_ : R (_, _, _, _, _, _))
      exact ih4 _ _ _ hw4 fr5 (by omega) (by omega) (by omega) (by omega)
  exact lp4 400000000 _ _ _ hw fr0 (by omega) (by omega) (by omega) (by omega)
theorem c_takeOutside {ρ : Nat → Nat} {w : zW} (d : Nat) (p rd : Nat) (a1 a2 : Int) (hw : CI ρ w) (hρp : ρ p = 80) (hρrd : ρ rd = 50) (hr0 : 0 ≤ a1 ∧ a1 ≤ 4) (hr1 : 0 ≤ a2 ∧ a2 ≤ 5461) (Q : zQ) (h : ∀ (v : Int) (w' : zW), CI ρ w' → wfR [51, 82, 83, 84] ρ w w' → (0 ≤ v ∧ v ≤ 5461) → Q (some (.int (Int32.ofInt v))) w') : zCl zTab (d + 5) iX5_takeOutside [.ref p, .ref rd, .int (Int32.ofInt a1), .int (Int32.ofInt a2)] w 0 0 Q := by
  refine zCl_i (M := kX5_takeOutside) rfl (Nat.le_of_ble_eq_true rfl) fun R hR => ?_
  have fr0 := wfR_rf [51, 82, 83, 84] ρ w
  iterate 4 refine hR (?_ : R (_, _, _, _, _, _))
  have lp6 : ∀ (N : Nat) (n : Int) (i : Int) (o6_6 : Option Value) (o7_6 : Option Value) (w_6 : zW), (zc2 o6_6 = false) → (zc2 o7_6 = false) → (CI ρ w_6) → (wfR [51, 82, 83, 84] ρ w w_6) → (0 ≤ n ∧ n ≤ 5461) → (0 ≤ i ∧ i ≤ 5461) → (5462 - i < N) → R (6, [some (.ref p), some (.ref rd), some (.int (Int32.ofInt a1)), some (.int (Int32.ofInt a2)), some (.int (Int32.ofInt n)), some (.int (Int32.ofInt i)), o6_6, o7_6], [], w_6, 0, 0) := by
    intro N
    induction N with
    | zero => intros; omega
    | succ N ih6 =>
      intro n i o6_6 o7_6 w_6 hzo6_6 hzo7_6 hw_6 fr_6 hf0_6 hf1_6 hN6
      iterate 2 refine hR (?_ : R (_, _, _, _, _, _))
      refine hR (j_ge (by omega) (by omega) (fun hc1 => ?_) (fun hc1 => ?_))
      · skip
        refine hR (?_ : R (_, _, _, _, _, _))
        exact hR (zret_i rfl (Nat.le_refl _) trivial (h _ _ hw_6 fr_6 (by omega)))
      refine hR (?_ : R (_, _, _, _, _, _))
      refine hR (t_c 5461 (by decide) ?_)
      refine hR (j_ge (by omega) (by omega) (fun hc2 => ?_) (fun hc2 => ?_))
      · skip
        refine hR (?_ : R (_, _, _, _, _, _))
        exact hR (zret_i rfl (Nat.le_refl _) trivial (h _ _ hw_6 fr_6 (by omega)))
      refine hR (?_ : R (_, _, _, _, _, _))
      obtain ⟨x1_3, x2_3, x3_3, x4_3, x5_3, hO3, hk3_0, hk3_1, hk3_2, hk3_3, hk3_4, hk3_5, hk3_6, hk3_7, hk3_8, hk3_9, hk3_10, hk3_11, hk3_12, hk3_13, hk3_14⟩ := CI_o80 hw_6 hρp
      refine hR (c_get hO3 rfl ?_)
      refine hR (?_ : R (_, _, _, _, _, _))
      refine hR (c_ald hw_6 (by rw [hk3_7]; rfl) (by omega) (by omega) (Nat.le_of_ble_eq_true rfl) fun v4 lv4 uv4 => ?_)
      iterate 4 refine hR (?_ : R (_, _, _, _, _, _))
      obtain ⟨z0_8, z2_8, z3_8, hO8, hk8_0, hk8_1, hk8_2, hk8_3, hk8_4⟩ := CI_o50 hw_6 hρrd
      refine hR (c_obj hO8 (zcall_i 0 0 (Nat.le_of_ble_eq_true rfl) (Nat.le_of_ble_eq_true rfl) (c_after _ rd a1 v4 hw_6 hρrd (by omega) (by omega) _ fun v5 w6 hw6 g6 hp7 => ?_)))
      have fr9 := wfR_tr fr_6 g6 (by decide)
      have hO10 := (g6.2 p (by rw [hρp]; decide)).trans hO3
      have hO11 := (g6.2 rd (by rw [hρrd]; decide)).trans hO8
      refine (?_ : R (_, _, (.int (Int32.ofInt v5)) :: [], w6, 0, 0))
      iterate 2 refine hR (?_ : R (_, _, _, _, _, _))
      refine hR (c_get hO10 rfl ?_)
      iterate 2 refine hR (?_ : R (_, _, _, _, _, _))
      refine hR (c_get hO10 rfl ?_)
      refine hR (?_ : R (_, _, _, _, _, _))
      refine hR (c_ald hw6 (by rw [hk3_8]; rfl) (by omega) (by omega) (Nat.le_of_ble_eq_true rfl) fun v12 lv12 uv12 => ?_)
      refine hR (?_ : R (_, _, _, _, _, _))
      refine hR (c_get hO10 rfl ?_)
      refine hR (?_ : R (_, _, _, _, _, _))
      refine hR (c_ald hw6 (by rw [hk3_8]; rfl) (by omega) (by omega) (Nat.le_of_ble_eq_true rfl) fun v13 lv13 uv13 => ?_)
      refine hR (?_ : R (_, _, _, _, _, _))
      refine hR (t_add ?_)
      refine hR (t_o fun v14 rv14 => ?_)
      refine hR (c_astx hw6 (by rw [hk3_8]; rfl) ⟨by rw [hk3_8]; decide, by rw [hk3_8]; decide⟩ (by omega) (by omega) (Nat.le_of_ble_eq_true rfl) fun w15 hw15 f15 => ?_)
      have fr16 := wfR_st fr9 f15 (by rw [hk3_8]; decide)
      have hO17 := (f15.2 p (rne hρp hk3_8 (by decide))).trans hO10
      have hO18 := (f15.2 rd (rne hρrd hk3_8 (by decide))).trans hO11
      refine hR (?_ : R (_, _, _, _, _, _))
      refine hR (c_get hO17 rfl ?_)
      iterate 2 refine hR (?_ : R (_, _, _, _, _, _))
      refine hR (c_ald hw15 (by rw [hk3_6]; rfl) (by omega) (by omega) (Nat.le_of_ble_eq_true rfl) fun v19 lv19 uv19 => ?_)
      refine hR (?_ : R (_, _, _, _, _, _))
      refine hR (t_sub ?_)
      refine hR (c_astx hw15 (by rw [hk3_6]; rfl) ⟨by rw [hk3_6]; decide, by rw [hk3_6]; decide⟩ (by omega) (by omega) (Nat.le_of_ble_eq_true rfl) fun w20 hw20 f20 => ?_)
      have fr21 := wfR_st fr16 f20 (by rw [hk3_6]; decide)
      have hO22 := (f20.2 p (rne hρp hk3_6 (by decide))).trans hO17
      have hO23 := (f20.2 rd (rne hρrd hk3_6 (by decide))).trans hO18
      refine hR (?_ : R (_, _, _, _, _, _))
      refine hR (c_get hO22 rfl ?_)
      refine hR (?_ : R (_, _, _, _, _, _))
      refine hR (c_ald hw20 (by rw [hk3_6]; rfl) (by omega) (by omega) (Nat.le_of_ble_eq_true rfl) fun v24 lv24 uv24 => ?_)
      refine hR (j_any ?_ ?_)
      · skip
        refine hR (t_inc ?_)
        refine hR (?_ : R (_, _, _, _, _, _))
        exact ih6 _ _ _ _ _ (by rfl) (by rfl) hw20 fr21 (by omega) (by omega) (by omega)
      refine hR (?_ : R (_, _, _, _, _, _))
      refine hR (t_c 5461 (by decide) ?_)
      refine hR (j_ge (by omega) (by omega) (fun hc25 => ?_) (fun hc25 => ?_))
      · skip
        refine hR (t_inc ?_)
        refine hR (?_ : R (_, _, _, _, _, _))
        exact ih6 _ _ _ _ _ (by rfl) (by rfl) hw20 fr21 (by omega) (by omega) (by omega)
      refine hR (?_ : R (_, _, _, _, _, _))
      refine hR (c_get hO22 rfl ?_)
      iterate 2 refine hR (?_ : R (_, _, _, _, _, _))
      refine hR (c_ast hw20 (by rw [hk3_7]; rfl) ⟨by rw [hk3_7]; decide, by rw [hk3_7]; decide⟩ (by omega) (by omega) (by omega) (by omega) (by omega) (by omega) (Nat.le_of_ble_eq_true rfl) fun w26 hw26 f26 => ?_)
      have fr27 := wfR_st fr21 f26 (by rw [hk3_7]; decide)
      have hO28 := (f26.2 p (rne hρp hk3_7 (by decide))).trans hO22
      have hO29 := (f26.2 rd (rne hρrd hk3_7 (by decide))).trans hO23
      refine hR (t_inc ?_)
      refine hR (t_inc ?_)
      refine hR (?_ : R (_, _, _, _, _, _))
      exact ih6 _ _ _ _ _ (by rfl) (by rfl) hw26 fr27 (by omega) (by omega) (by omega)
  exact lp6 400000000 _ _ _ _ _ (by rfl) (by rfl) hw fr0 (by omega) (by omega) (by omega)
theorem c_goRound {ρ : Nat → Nat} {w : zW} (d : Nat) (p rd : Nat) (a1 a2 : Int) (hw : CI ρ w) (hρp : ρ p = 80) (hρrd : ρ rd = 50) (hr0 : 0 ≤ a1 ∧ a1 ≤ 4) (hr1 : 0 ≤ a2 ∧ a2 ≤ 5460) (Q : zQ) (h : ∀ (v : Int) (w' : zW), CI ρ w' → wfR [51, 82] ρ w w' → (0 ≤ v ∧ v ≤ 5461) → Q (some (.int (Int32.ofInt v))) w') : zCl zTab (d + 5) iX5_goRound [.ref p, .ref rd, .int (Int32.ofInt a1), .int (Int32.ofInt a2)] w 0 0 Q := by
  refine zCl_i (M := kX5_goRound) rfl (Nat.le_of_ble_eq_true rfl) fun R hR => ?_
  have fr0 := wfR_rf [51, 82] ρ w
  iterate 4 refine hR (?_ : R (_, _, _, _, _, _))
  have lp6 : ∀ (N : Nat) (t : Int) (n : Int) (w_6 : zW), (CI ρ w_6) → (wfR [51, 82] ρ w w_6) → (0 ≤ t ∧ t ≤ 5460) → (0 ≤ n ∧ n ≤ 5461) → (5462 - n < N) → R (6, [some (.ref p), some (.ref rd), some (.int (Int32.ofInt a1)), some (.int (Int32.ofInt a2)), some (.int (Int32.ofInt t)), some (.int (Int32.ofInt n))], [], w_6, 0, 0) := by
    intro N
    induction N with
    | zero => intros; omega
    | succ N ih6 =>
      intro t n w_6 hw_6 fr_6 hf0_6 hf1_6 hN6
      refine hR (?_ : R (_, _, _, _, _, _))
      refine hR (t_c 5461 (by decide) ?_)
      refine hR (j_ge (by omega) (by omega) (fun hc1 => ?_) (fun hc1 => ?_))
      · skip
        refine hR (?_ : R (_, _, _, _, _, _))
        exact hR (zret_i rfl (Nat.le_refl _) trivial (h _ _ hw_6 fr_6 (by omega)))
      refine hR (?_ : R (_, _, _, _, _, _))
      obtain ⟨x1_2, x2_2, x3_2, x4_2, x5_2, hO2, hk2_0, hk2_1, hk2_2, hk2_3, hk2_4, hk2_5, hk2_6, hk2_7, hk2_8, hk2_9, hk2_10, hk2_11, hk2_12, hk2_13, hk2_14⟩ := CI_o80 hw_6 hρp
      refine hR (c_get hO2 rfl ?_)
      refine hR (?_ : R (_, _, _, _, _, _))
      refine hR (c_ald hw_6 (by rw [hk2_6]; rfl) (by omega) (by omega) (Nat.le_of_ble_eq_true rfl) fun v3 lv3 uv3 => ?_)
      refine hR (j_any ?_ ?_)
      · skip
        refine hR (?_ : R (_, _, _, _, _, _))
        exact hR (zret_i rfl (Nat.le_refl _) trivial (h _ _ hw_6 fr_6 (by omega)))
      refine hR (?_ : R (_, _, _, _, _, _))
      refine hR (c_get hO2 rfl ?_)
      iterate 2 refine hR (?_ : R (_, _, _, _, _, _))
      refine hR (c_astx hw_6 (by rw [hk2_6]; rfl) ⟨by rw [hk2_6]; decide, by rw [hk2_6]; decide⟩ (by omega) (by omega) (Nat.le_of_ble_eq_true rfl) fun w4 hw4 f4 => ?_)
      have fr5 := wfR_st fr_6 f4 (by rw [hk2_6]; decide)
      have hO6 := (f4.2 p (rne hρp hk2_6 (by decide))).trans hO2
      iterate 3 refine hR (?_ : R (_, _, _, _, _, _))
      obtain ⟨z0_10, z2_10, z3_10, hO10, hk10_0, hk10_1, hk10_2, hk10_3, hk10_4⟩ := CI_o50 hw4 hρrd
      refine hR (c_obj hO10 (zcall_i 0 0 (Nat.le_of_ble_eq_true rfl) (Nat.le_of_ble_eq_true rfl) (c_after _ rd a1 t hw4 hρrd (by omega) (by omega) _ fun v7 w8 hw8 g8 hp9 => ?_)))
      have fr11 := wfR_tr fr5 g8 (by decide)
      have hO12 := (g8.2 p (by rw [hρp]; decide)).trans hO6
      have hO13 := (g8.2 rd (by rw [hρrd]; decide)).trans hO10
      refine (?_ : R (_, _, (.int (Int32.ofInt v7)) :: [], w8, 0, 0))
      refine hR (?_ : R (_, _, _, _, _, _))
      refine hR (t_inc ?_)
      refine hR (?_ : R (_, _, _, _, _, _))
      exact ih6 _ _ _ hw8 fr11 (by omega) (by omega) (by omega)
  exact lp6 400000000 _ _ _ hw fr0 (by omega) (by omega) (by omega)
theorem c_findOrbits {ρ : Nat → Nat} {w : zW} (d : Nat) (p rd : Nat) (a1 : Int) (hw : CI ρ w) (hρp : ρ p = 80) (hρrd : ρ rd = 50) (hr0 : 0 ≤ a1 ∧ a1 ≤ 4) (Q : zQ) (h : ∀ (w' : zW), CI ρ w' → wfR [51, 81, 82, 83, 84] ρ w w' → Q (none) w') : zCl zTab (d + 6) iX5_findOrbits [.ref p, .ref rd, .int (Int32.ofInt a1)] w 0 0 Q := by
  refine zCl_i (M := kX5_findOrbits) rfl (Nat.le_of_ble_eq_true rfl) fun R hR => ?_
  have fr0 := wfR_rf [51, 81, 82, 83, 84] ρ w
  refine hR (?_ : R (_, _, _, _, _, _))
  obtain ⟨x1_1, x2_1, x3_1, x4_1, x5_1, hO1, hk1_0, hk1_1, hk1_2, hk1_3, hk1_4, hk1_5, hk1_6, hk1_7, hk1_8, hk1_9, hk1_10, hk1_11, hk1_12, hk1_13, hk1_14⟩ := CI_o80 hw hρp
  refine hR (c_get hO1 rfl ?_)
  refine hR (?_ : R (_, _, _, _, _, _))
  refine hR (zcall_i 0 0 (Nat.le_of_ble_eq_true rfl) (Nat.le_of_ble_eq_true rfl) (c_fill _ (p + 1) 6 0 (-2147483648) 2147483647 hw (by rw [hk1_0]; rfl) ⟨by rw [hk1_0]; decide, by rw [hk1_0]; decide⟩ (by omega) (by omega) (by omega) _ fun w2 hw2 f2 hg2 => ?_))
  refine (?_ : R (_, _, [], w2, 0, 0))
  have fr3 := wfR_st fr0 f2 (by rw [hk1_0]; decide)
  have hO4 := (f2.2 p (rne hρp hk1_0 (by decide))).trans hO1
  refine hR (?_ : R (_, _, _, _, _, _))
  refine hR (c_get hO4 rfl ?_)
  refine hR (?_ : R (_, _, _, _, _, _))
  refine hR (zcall_i 0 0 (Nat.le_of_ble_eq_true rfl) (Nat.le_of_ble_eq_true rfl) (c_fill _ (p + 2) 5461 0 (-2147483648) 2147483647 hw2 (by rw [hk1_6]; rfl) ⟨by rw [hk1_6]; decide, by rw [hk1_6]; decide⟩ (by omega) (by omega) (by omega) _ fun w5 hw5 f5 hg5 => ?_))
  refine (?_ : R (_, _, [], w5, 0, 0))
  have fr6 := wfR_st fr3 f5 (by rw [hk1_6]; decide)
  have hO7 := (f5.2 p (rne hρp hk1_6 (by decide))).trans hO4
  refine hR (?_ : R (_, _, _, _, _, _))
  refine hR (c_get hO7 rfl ?_)
  refine hR (?_ : R (_, _, _, _, _, _))
  refine hR (zcall_i 0 0 (Nat.le_of_ble_eq_true rfl) (Nat.le_of_ble_eq_true rfl) (c_fill _ (p + 4) 5461 0 (-2147483648) 2147483647 hw5 (by rw [hk1_8]; rfl) ⟨by rw [hk1_8]; decide, by rw [hk1_8]; decide⟩ (by omega) (by omega) (by omega) _ fun w8 hw8 f8 hg8 => ?_))
  refine (?_ : R (_, _, [], w8, 0, 0))
  have fr9 := wfR_st fr6 f8 (by rw [hk1_8]; decide)
  have hO10 := (f8.2 p (rne hρp hk1_8 (by decide))).trans hO7
  iterate 2 refine hR (?_ : R (_, _, _, _, _, _))
  have lp26 : ∀ (N : Nat) (t : Int) (o4_26 : Option Value) (w_26 : zW), (zc2 o4_26 = false) → (CI ρ w_26) → (wfR [51, 81, 82, 83, 84] ρ w w_26) → (zix w_26 p = some (.inr (4, [.ref (p + 1), .int (Int32.ofInt x1_1), .int (Int32.ofInt x2_1), .int (Int32.ofInt x3_1), .int (Int32.ofInt x4_1), .int (Int32.ofInt x5_1), .ref (p + 2), .ref (p + 3), .ref (p + 4), .ref (p + 5), .ref (p + 6), .ref (p + 7), .ref (p + 8), .ref (p + 9), .ref (p + 10)]))) → (0 ≤ t ∧ t ≤ 5461) → (5462 - t < N) → R (26, [some (.ref p), some (.ref rd), some (.int (Int32.ofInt a1)), some (.int (Int32.ofInt t)), o4_26], [], w_26, 0, 0) := by
    intro N
    induction N with
    | zero => intros; omega
    | succ N ih26 =>
      intro t o4_26 w_26 hzo4_26 hw_26 fr_26 hOp_26 hf0_26 hN26
      refine hR (?_ : R (_, _, _, _, _, _))
      refine hR (t_c 5461 (by decide) ?_)
      refine hR (j_ge (by omega) (by omega) (fun hc11 => ?_) (fun hc11 => ?_))
      rotate_left
      · skip
        iterate 3 refine hR (?_ : R (_, _, _, _, _, _))
        obtain ⟨z0_58, z2_58, z3_58, hO58, hk58_0, hk58_1, hk58_2, hk58_3, hk58_4⟩ := CI_o50 hw_26 hρrd
        refine hR (c_obj hO58 (zcall_i 0 0 (Nat.le_of_ble_eq_true rfl) (Nat.le_of_ble_eq_true rfl) (c_after _ rd a1 t hw_26 hρrd (by omega) (by omega) _ fun v55 w56 hw56 g56 hp57 => ?_)))
        have fr59 := wfR_tr fr_26 g56 (by decide)
        have hO60 := (g56.2 p (by rw [hρp]; decide)).trans hOp_26
        have hO61 := (g56.2 rd (by rw [hρrd]; decide)).trans hO58
        refine (?_ : R (_, _, (.int (Int32.ofInt v55)) :: [], w56, 0, 0))
        iterate 2 refine hR (?_ : R (_, _, _, _, _, _))
        refine hR (c_get hO60 rfl ?_)
        iterate 2 refine hR (?_ : R (_, _, _, _, _, _))
        refine hR (c_ald hw56 (by rw [hk1_6]; rfl) (by omega) (by omega) (Nat.le_of_ble_eq_true rfl) fun v62 lv62 uv62 => ?_)
        refine hR (?_ : R (_, _, _, _, _, _))
        refine hR (t_add ?_)
        refine hR (c_astx hw56 (by rw [hk1_6]; rfl) ⟨by rw [hk1_6]; decide, by rw [hk1_6]; decide⟩ (by omega) (by omega) (Nat.le_of_ble_eq_true rfl) fun w63 hw63 f63 => ?_)
        have fr64 := wfR_st fr59 f63 (by rw [hk1_6]; decide)
        have hO65 := (f63.2 p (rne hρp hk1_6 (by decide))).trans hO60
        have hO66 := (f63.2 rd (rne hρrd hk1_6 (by decide))).trans hO61
        iterate 2 refine hR (?_ : R (_, _, _, _, _, _))
        refine hR (j_ne (by omega) (by omega) (fun hc67 => ?_) (fun hc67 => ?_))
        · skip
          refine hR (t_inc ?_)
          refine hR (?_ : R (_, _, _, _, _, _))
          exact ih26 _ _ _ (by rfl) hw63 fr64 hO65 (by omega) (by omega)
        refine hR (?_ : R (_, _, _, _, _, _))
        refine hR (c_get hO65 rfl ?_)
        iterate 2 refine hR (?_ : R (_, _, _, _, _, _))
        refine hR (c_ald hw63 (by rw [hk1_0]; rfl) (by omega) (by omega) (Nat.le_of_ble_eq_true rfl) fun v68 lv68 uv68 => ?_)
        refine hR (?_ : R (_, _, _, _, _, _))
        refine hR (t_add ?_)
        refine hR (c_astx hw63 (by rw [hk1_0]; rfl) ⟨by rw [hk1_0]; decide, by rw [hk1_0]; decide⟩ (by omega) (by omega) (Nat.le_of_ble_eq_true rfl) fun w69 hw69 f69 => ?_)
        have fr70 := wfR_st fr64 f69 (by rw [hk1_0]; decide)
        have hO71 := (f69.2 p (rne hρp hk1_0 (by decide))).trans hO65
        have hO72 := (f69.2 rd (rne hρrd hk1_0 (by decide))).trans hO66
        refine hR (t_inc ?_)
        refine hR (?_ : R (_, _, _, _, _, _))
        exact ih26 _ _ _ (by rfl) hw69 fr70 hO71 (by omega) (by omega)
      refine hR (?_ : R (_, _, _, _, _, _))
      refine hR (c_get hOp_26 rfl ?_)
      iterate 2 refine hR (?_ : R (_, _, _, _, _, _))
      refine hR (c_obj hOp_26 (zcall_i 0 0 (Nat.le_of_ble_eq_true rfl) (Nat.le_of_ble_eq_true rfl) (c_putThoseOfNone _ p hw_26 hρp _ fun v12 w13 hw13 g13 hp14 => ?_)))
      have fr15 := wfR_tr fr_26 g13 (by decide)
      have hO16 := (g13.2 p (by rw [hρp]; decide)).trans hOp_26
      refine (?_ : R (_, _, (.int (Int32.ofInt v12)) :: (.int (Int32.ofInt 4)) :: (.ref (p + 1)) :: [], w13, 0, 0))
      obtain ⟨ge18, hge18, hBe18⟩ := CI_ar hw13 (q := p + 1) (by rw [hk1_0]; rfl)
      refine hR (c_astE hw13 hge18 hBe18 (by rw [hk1_0]; rfl) ⟨by rw [hk1_0]; decide, by rw [hk1_0]; decide⟩ (by omega) (by omega) (by omega) (by omega) (Nat.le_of_ble_eq_true rfl) fun w17 hw17 f17 hs17 hb17 => ?_)
      have fr19 := wfR_st fr15 f17 (by rw [hk1_0]; decide)
      have hO20 := (f17.2 p (rne hρp hk1_0 (by decide))).trans hO16
      refine hR (?_ : R (_, _, _, _, _, _))
      refine hR (c_get hO20 rfl ?_)
      refine hR (?_ : R (_, _, _, _, _, _))
      refine hR (t_c 5461 (by decide) ?_)
      iterate 4 refine hR (?_ : R (_, _, _, _, _, _))
      refine hR (c_get hO20 rfl ?_)
      refine hR (?_ : R (_, _, _, _, _, _))
      refine hR (c_aldE hs17 (by omega) (by omega) (Nat.le_of_ble_eq_true rfl) fun v21 e22 rv21 => ?_)
      rw [pk_us, zti (by omega) (by omega)] at e22
      refine hR (c_obj hO20 (zcall_i 0 0 (Nat.le_of_ble_eq_true rfl) (Nat.le_of_ble_eq_true rfl) (c_takeOutside _ p rd a1 v21 hw17 hρp hρrd (by omega) (by omega) _ fun v23 w24 hw24 g24 hp25 => ?_)))
      have fr26 := wfR_tr fr19 g24 (by decide)
      have hO27 := (g24.2 p (by rw [hρp]; decide)).trans hO20
      refine (?_ : R (_, _, (.int (Int32.ofInt v23)) :: (.int (Int32.ofInt 5461)) :: (.int (Int32.ofInt 2)) :: (.ref (p + 1)) :: [], w24, 0, 0))
      refine hR (t_sub ?_)
      refine hR (c_astx hw24 (by rw [hk1_0]; rfl) ⟨by rw [hk1_0]; decide, by rw [hk1_0]; decide⟩ (by omega) (by omega) (Nat.le_of_ble_eq_true rfl) fun w28 hw28 f28 => ?_)
      have fr29 := wfR_st fr26 f28 (by rw [hk1_0]; decide)
      have hO30 := (f28.2 p (rne hρp hk1_0 (by decide))).trans hO27
      iterate 2 refine hR (?_ : R (_, _, _, _, _, _))
      have lp108 : ∀ (N : Nat) (t2 : Int) (w_108 : zW), (CI ρ w_108) → (wfR [51, 81, 82, 83, 84] ρ w w_108) → (zix w_108 p = some (.inr (4, [.ref (p + 1), .int (Int32.ofInt x1_1), .int (Int32.ofInt x2_1), .int (Int32.ofInt x3_1), .int (Int32.ofInt x4_1), .int (Int32.ofInt x5_1), .ref (p + 2), .ref (p + 3), .ref (p + 4), .ref (p + 5), .ref (p + 6), .ref (p + 7), .ref (p + 8), .ref (p + 9), .ref (p + 10)]))) → (0 ≤ t2 ∧ t2 ≤ 5461) → (5462 - t2 < N) → R (108, [some (.ref p), some (.ref rd), some (.int (Int32.ofInt a1)), some (.int (Int32.ofInt t2)), o4_26], [], w_108, 0, 0) := by
        intro N
        induction N with
        | zero => intros; omega
        | succ N ih108 =>
          intro t2 w_108 hw_108 fr_108 hOp_108 hf0_108 hN108
          refine hR (?_ : R (_, _, _, _, _, _))
          refine hR (t_c 5461 (by decide) ?_)
          refine hR (j_ge (by omega) (by omega) (fun hc31 => ?_) (fun hc31 => ?_))
          rotate_left
          · skip
            refine hR (?_ : R (_, _, _, _, _, _))
            refine hR (c_get hOp_108 rfl ?_)
            refine hR (?_ : R (_, _, _, _, _, _))
            refine hR (c_ald hw_108 (by rw [hk1_6]; rfl) (by omega) (by omega) (Nat.le_of_ble_eq_true rfl) fun v48 lv48 uv48 => ?_)
            refine hR (j_any ?_ ?_)
            · skip
              refine hR (t_inc ?_)
              refine hR (?_ : R (_, _, _, _, _, _))
              exact ih108 _ _ hw_108 fr_108 hOp_108 (by omega) (by omega)
            refine hR (?_ : R (_, _, _, _, _, _))
            refine hR (c_get hOp_108 rfl ?_)
            iterate 2 refine hR (?_ : R (_, _, _, _, _, _))
            refine hR (c_get hOp_108 rfl ?_)
            refine hR (?_ : R (_, _, _, _, _, _))
            refine hR (c_ald hw_108 (by rw [hk1_0]; rfl) (by omega) (by omega) (Nat.le_of_ble_eq_true rfl) fun v49 lv49 uv49 => ?_)
            refine hR (?_ : R (_, _, _, _, _, _))
            refine hR (c_get hOp_108 rfl ?_)
            refine hR (?_ : R (_, _, _, _, _, _))
            refine hR (c_ald hw_108 (by rw [hk1_8]; rfl) (by omega) (by omega) (Nat.le_of_ble_eq_true rfl) fun v50 lv50 uv50 => ?_)
            refine hR (t_o fun v51 rv51 => ?_)
            refine hR (c_astx hw_108 (by rw [hk1_0]; rfl) ⟨by rw [hk1_0]; decide, by rw [hk1_0]; decide⟩ (by omega) (by omega) (Nat.le_of_ble_eq_true rfl) fun w52 hw52 f52 => ?_)
            have fr53 := wfR_st fr_108 f52 (by rw [hk1_0]; decide)
            have hO54 := (f52.2 p (rne hρp hk1_0 (by decide))).trans hOp_108
            refine hR (t_inc ?_)
            refine hR (?_ : R (_, _, _, _, _, _))
            exact ih108 _ _ hw52 fr53 hO54 (by omega) (by omega)
          iterate 2 refine hR (?_ : R (_, _, _, _, _, _))
          have lp153 : ∀ (N : Nat) (t3 : Int) (w_153 : zW), (CI ρ w_153) → (wfR [51, 81, 82, 83, 84] ρ w w_153) → (zix w_153 p = some (.inr (4, [.ref (p + 1), .int (Int32.ofInt x1_1), .int (Int32.ofInt x2_1), .int (Int32.ofInt x3_1), .int (Int32.ofInt x4_1), .int (Int32.ofInt x5_1), .ref (p + 2), .ref (p + 3), .ref (p + 4), .ref (p + 5), .ref (p + 6), .ref (p + 7), .ref (p + 8), .ref (p + 9), .ref (p + 10)]))) → (0 ≤ t3 ∧ t3 ≤ 5461) → (5462 - t3 < N) → R (153, [some (.ref p), some (.ref rd), some (.int (Int32.ofInt a1)), some (.int (Int32.ofInt t3)), o4_26], [], w_153, 0, 0) := by
            intro N
            induction N with
            | zero => intros; omega
            | succ N ih153 =>
              intro t3 w_153 hw_153 fr_153 hOp_153 hf0_153 hN153
              refine hR (?_ : R (_, _, _, _, _, _))
              refine hR (t_c 5461 (by decide) ?_)
              refine hR (j_ge (by omega) (by omega) (fun hc32 => ?_) (fun hc32 => ?_))
              · skip
                exact hR (zret_i rfl (Nat.le_refl _) rfl (h _ hw_153 fr_153))
              refine hR (?_ : R (_, _, _, _, _, _))
              refine hR (c_get hOp_153 rfl ?_)
              refine hR (?_ : R (_, _, _, _, _, _))
              refine hR (c_ald hw_153 (by rw [hk1_6]; rfl) (by omega) (by omega) (Nat.le_of_ble_eq_true rfl) fun v33 lv33 uv33 => ?_)
              refine hR (j_any ?_ ?_)
              · skip
                refine hR (t_inc ?_)
                refine hR (?_ : R (_, _, _, _, _, _))
                exact ih153 _ _ hw_153 fr_153 hOp_153 (by omega) (by omega)
              refine hR (?_ : R (_, _, _, _, _, _))
              refine hR (c_get hOp_153 rfl ?_)
              iterate 2 refine hR (?_ : R (_, _, _, _, _, _))
              refine hR (c_ald hw_153 (by rw [hk1_0]; rfl) (by omega) (by omega) (Nat.le_of_ble_eq_true rfl) fun v34 lv34 uv34 => ?_)
              refine hR (?_ : R (_, _, _, _, _, _))
              refine hR (t_add ?_)
              refine hR (c_astx hw_153 (by rw [hk1_0]; rfl) ⟨by rw [hk1_0]; decide, by rw [hk1_0]; decide⟩ (by omega) (by omega) (Nat.le_of_ble_eq_true rfl) fun w35 hw35 f35 => ?_)
              have fr36 := wfR_st fr_153 f35 (by rw [hk1_0]; decide)
              have hO37 := (f35.2 p (rne hρp hk1_0 (by decide))).trans hOp_153
              refine hR (?_ : R (_, _, _, _, _, _))
              refine hR (c_get hO37 rfl ?_)
              iterate 2 refine hR (?_ : R (_, _, _, _, _, _))
              refine hR (c_get hO37 rfl ?_)
              refine hR (?_ : R (_, _, _, _, _, _))
              refine hR (c_ald hw35 (by rw [hk1_0]; rfl) (by omega) (by omega) (Nat.le_of_ble_eq_true rfl) fun v38 lv38 uv38 => ?_)
              iterate 4 refine hR (?_ : R (_, _, _, _, _, _))
              refine hR (c_obj hO37 (zcall_i 0 0 (Nat.le_of_ble_eq_true rfl) (Nat.le_of_ble_eq_true rfl) (c_goRound _ p rd a1 t3 hw35 hρp hρrd (by omega) (by omega) _ fun v39 w40 hw40 g40 hp41 => ?_)))
              have fr42 := wfR_tr fr36 g40 (by decide)
              have hO43 := (g40.2 p (by rw [hρp]; decide)).trans hO37
              refine (?_ : R (_, _, (.int (Int32.ofInt v39)) :: (.int (Int32.ofInt v38)) :: (.int (Int32.ofInt 1)) :: (.ref (p + 1)) :: [], w40, 0, 0))
              refine hR (t_o fun v44 rv44 => ?_)
              refine hR (c_astx hw40 (by rw [hk1_0]; rfl) ⟨by rw [hk1_0]; decide, by rw [hk1_0]; decide⟩ (by omega) (by omega) (Nat.le_of_ble_eq_true rfl) fun w45 hw45 f45 => ?_)
              have fr46 := wfR_st fr42 f45 (by rw [hk1_0]; decide)
              have hO47 := (f45.2 p (rne hρp hk1_0 (by decide))).trans hO43
              refine hR (t_inc ?_)
              refine hR (?_ : R (_, _, _, _, _, _))
              exact ih153 _ _ hw45 fr46 hO47 (by omega) (by omega)
          exact lp153 400000000 _ _ hw_108 fr_108 hOp_108 (by omega) (by omega)
      exact lp108 400000000 _ _ hw28 fr29 hO30 (by omega) (by omega)
  exact lp26 400000000 _ _ _ (by rfl) hw8 fr9 hO10 (by omega) (by omega)
/-- the cell of a reading holds v -/
noncomputable def kn (w : zW) (p : Nat) (at_ v : Int) : Prop := ∃ g : Nat → Int32, zix w (p + 1) = some (.inl (1, 27305, .inl g)) ∧ (g at_.toNat).toInt = v
theorem c_afterE {ρ : Nat → Nat} {w : zW} (d p : Nat) (a1 a2 : Int) (hw : CI ρ w) (hρp : ρ p = 50) (hr0 : 0 ≤ a1 ∧ a1 ≤ 4) (hr1 : 0 ≤ a2 ∧ a2 ≤ 5460) (Q : zQ) (h : ∀ (v : Int) (w' : zW), CI ρ w' → wfR [51] ρ w w' → (0 ≤ v ∧ v ≤ 5460) → (kn w' p (a1 * 5461 + a2) v) → (∀ m, kn w p (a1 * 5461 + a2) m → m ≠ -1 → v = m) → Q (some (.int (Int32.ofInt v))) w') : zCl zTab (d + 4) iX4_after [.ref p, .int (Int32.ofInt a1), .int (Int32.ofInt a2)] w 0 0 Q := by
  obtain ⟨b, z2, z3, hO, hρb, hk1, _, _, _⟩ := CI_o50 hw hρp
  obtain ⟨g, hg, hB⟩ := CI_ar hw (q := p + 1) (by rw [hk1]; rfl)
  obtain ⟨x0, x1, x2, hOb, _⟩ := CI_o20 hw hρb
  refine zCl_i (M := kX4_after) rfl (Nat.le_of_ble_eq_true rfl) fun R hR => ?_
  have tail : ∀ (w1 : zW) (g1 : Nat → Int32), CI ρ w1 → wfR [51] ρ w w1 → zix w1 (p + 1) = some (.inl (1, 27305, .inl g1)) → (0 ≤ (g1 (a1 * 5461 + a2).toNat).toInt ∧ (g1 (a1 * 5461 + a2).toNat).toInt ≤ 5460) → (∀ m, kn w p (a1 * 5461 + a2) m → m ≠ -1 → (g1 (a1 * 5461 + a2).toNat).toInt = m) → R (33, [some (.ref p), some (.int (Int32.ofInt a1)), some (.int (Int32.ofInt a2)), some (.int (Int32.ofInt (a1 * 5461 + a2)))], [], w1, 0, 0) := by
    intro w1 g1 hw1 f1 hg1 hb hm
    have hO1 := (f1.2 p (by rw [hρp]; decide)).trans hO
    refine hR (?_ : R (_, _, _, _, _, _))
    refine hR (c_get hO1 rfl ?_)
    refine hR (?_ : R (_, _, _, _, _, _))
    refine hR (c_aldE hg1 (by omega) (by omega) (by omega) fun v e hv => ?_)
    exact hR (zret_i rfl (Nat.le_refl _) trivial (h _ _ hw1 f1 (by rw [e]; exact hb) ⟨g1, hg1, e.symm⟩ (fun m h1 h2 => e.trans (hm m h1 h2))))
  refine hR (?_ : R (_, _, _, _, _, _))
  refine hR (t_c 5461 (by decide) ?_)
  refine hR (t_mul ?_)
  refine hR (?_ : R (_, _, _, _, _, _))
  refine hR (t_add ?_)
  iterate 2 refine hR (?_ : R (_, _, _, _, _, _))
  refine hR (c_get hO rfl ?_)
  refine hR (?_ : R (_, _, _, _, _, _))
  refine hR (c_aldE hg (by omega) (by omega) (by omega) fun v e hv => ?_)
  refine hR (?_ : R (_, _, _, _, _, _))
  have hBv := hB (a1 * 5461 + a2).toNat
  have hkn : ∀ m, kn w p (a1 * 5461 + a2) m → m = v := by
    intro m hm
    obtain ⟨g2, h2, h3⟩ := hm
    rw [hg] at h2
    cases h2
    rw [← h3, e]
  refine hR (j_ne (by omega) (by omega) (fun hc => ?_) (fun hc => ?_))
  · exact tail w g hw (wfR_rf _ _ _) hg (by omega) (fun m h1 _ => by rw [hkn m h1, e])
  · refine hR (?_ : R (_, _, _, _, _, _))
    refine hR (c_get hO rfl ?_)
    iterate 2 refine hR (?_ : R (_, _, _, _, _, _))
    refine hR (c_get hO rfl ?_)
    iterate 2 refine hR (?_ : R (_, _, _, _, _, _))
    refine hR (c_obj hOb (zcall_i 0 0 (Nat.le_of_ble_eq_true rfl) (Nat.le_of_ble_eq_true rfl) (c_readBy _ b a1 a2 hw hρb hr0 hr1 _ fun v2 hv2 => ?_)))
    refine (?_ : R (_, _, .int (Int32.ofInt v2) :: .int (Int32.ofInt (a1 * 5461 + a2)) :: .ref (p + 1) :: [], w, 0, 0))
    refine hR (c_astE hw hg hB (by rw [hk1]; rfl) ⟨by rw [hk1]; decide, by rw [hk1]; decide⟩ (by omega) (by omega) (by omega) (by omega) (by omega) fun w1 hw1 f1 hg1 hB1 => ?_)
    refine tail w1 _ hw1 (wfR_st (wfR_rf _ _ _) f1 (by rw [hk1]; decide)) hg1 ?_ ?_
    · rw [pk_us, zti (by omega) (by omega)]
      exact hv2
    · intro m h1 h2
      have := hkn m h1
      omega
/-- a reading of a TEXT at a node comes to a TEXT that has a node -/
noncomputable def GA (w : zW) (p : Nat) (x r : Int) : Prop := ∃ (z : Nat) (fs : List Value) (gt gno : Nat → Int32) (t m : Int), zix w p = some (.inr (2, .ref z :: fs)) ∧ zix w (p + 3) = some (.inl (1, 25750, .inl gt)) ∧ (gt x.toNat).toInt = t ∧ kn w z (r * 5461 + t) m ∧ (0 ≤ m ∧ m ≤ 5460) ∧ zix w (p + 6) = some (.inl (1, 5461, .inl gno)) ∧ (gno m.toNat).toInt ≠ -1
theorem c_firstAsGood {ρ : Nat → Nat} {w : zW} (d : Nat) (p : Nat) (a1 a2 : Int) (hw : CI ρ w) (hρp : ρ p = 70) (hnp : nn w p) (hr0 : 0 ≤ a1 ∧ a1 ≤ 9) (hr1 : 0 ≤ a2 ∧ a2 ≤ 25749) (Q : zQ) (h : ∀ (v : Int) (w' : zW), CI ρ w' → wfR [51] ρ w w' → (v = -1 ∨ ((0 ≤ v ∧ v ≤ 4) ∧ GA w' p a2 v)) → Q (some (.int (Int32.ofInt v))) w') : zCl zTab (d + 5) iX2_firstAsGood [.ref p, .int (Int32.ofInt a1), .int (Int32.ofInt a2)] w 0 0 Q := by
  refine zCl_i (M := kX2_firstAsGood) rfl (Nat.le_of_ble_eq_true rfl) fun R hR => ?_
  have fr0 := wfR_rf [51] ρ w
  iterate 2 refine hR (?_ : R (_, _, _, _, _, _))
  have lp2 : ∀ (N : Nat) (r : Int) (o4_2 : Option Value) (w_2 : zW), (zc2 o4_2 = false) → (CI ρ w_2) → (wfR [51] ρ w w_2) → (nn w_2 p) → (0 ≤ r ∧ r ≤ 5) → (6 - r < N) → R (2, [some (.ref p), some (.int (Int32.ofInt a1)), some (.int (Int32.ofInt a2)), some (.int (Int32.ofInt r)), o4_2], [], w_2, 0, 0) := by
    intro N
    induction N with
    | zero => intros; omega
    | succ N ih2 =>
      intro r o4_2 w_2 hzo4_2 hw_2 fr_2 hnp_2 hf0_2 hN2
      iterate 2 refine hR (?_ : R (_, _, _, _, _, _))
      obtain ⟨y0_1, x1_1, x2_1, x3_1, hO1, hk1_0, hk1_1, hk1_2, hk1_3, hk1_4, hk1_5, hk1_6, hk1_7, hk1_8, hk1_9⟩ := CI_o70 hw_2 hρp
      refine hR (c_get hO1 rfl ?_)
      obtain ⟨z2, rfl⟩ := nn_some hnp_2 hO1
      have hz2 : ρ z2 = 50 := hk1_0 z2 rfl
      obtain ⟨z0_3, z2_3, z3_3, hO3, hk3_0, hk3_1, hk3_2, hk3_3, hk3_4⟩ := CI_o50 hw_2 hz2
      refine hR (c_get hO3 rfl ?_)
      obtain ⟨x0_4, x1_4, x2_4, hO4, hk4_0, hk4_1, hk4_2, hk4_3, hk4_4, hk4_5, hk4_6⟩ := CI_o20 hw_2 hk3_0
      refine hR (c_get hO4 rfl ?_)
      refine hR (j_ge (by omega) (by omega) (fun hc5 => ?_) (fun hc5 => ?_))
      · skip
        refine hR (?_ : R (_, _, _, _, _, _))
        exact hR (zret_i rfl (Nat.le_refl _) trivial (h _ _ hw_2 fr_2 (Or.inl rfl)))
      iterate 2 refine hR (?_ : R (_, _, _, _, _, _))
      refine hR (c_obj hO1 (zcall_i 0 0 (Nat.le_of_ble_eq_true rfl) (Nat.le_of_ble_eq_true rfl) (c_onesAt _ p a1 hw_2 hρp (by omega) _ fun v6 hp8 => ?_)))
      refine (?_ : R (_, _, (.int (Int32.ofInt v6)) :: [], w_2, 0, 0))
      refine hR (?_ : R (_, _, _, _, _, _))
      refine hR (zcall_i 0 0 (Nat.le_of_ble_eq_true rfl) (Nat.le_of_ble_eq_true rfl) (c_isIn _ _ v6 r _ fun v9 hp11 => ?_))
      refine (?_ : R (_, _, (.int (Int32.ofInt v9)) :: [], w_2, 0, 0))
      refine hR (k_eq (by omega) (fun hc12 => ?_) (fun hc12 => ?_))
      · skip
        iterate 4 refine hR (?_ : R (_, _, _, _, _, _))
        refine hR (j_eq (by omega) (by omega) (fun _ => ?_) (fun hc => by omega))
        refine hR (t_inc ?_)
        refine hR (?_ : R (_, _, _, _, _, _))
        exact ih2 _ _ _ (by rfl) hw_2 fr_2 hnp_2 (by omega) (by omega)
      refine hR (?_ : R (_, _, _, _, _, _))
      refine hR (c_get hO1 rfl ?_)
      refine hR (?_ : R (_, _, _, _, _, _))
      refine hR (c_get hO1 rfl ?_)
      iterate 2 refine hR (?_ : R (_, _, _, _, _, _))
      refine hR (c_get hO1 rfl ?_)
      refine hR (?_ : R (_, _, _, _, _, _))
      obtain ⟨ge14, hge14, hBe14⟩ := CI_ar hw_2 (q := p + 3) (by rw [hk1_6]; rfl)
      refine hR (c_aldE hge14 (by omega) (by omega) (Nat.le_of_ble_eq_true rfl) fun v13 e14 rv13 => ?_)
      have bv13 : 0 ≤ v13 ∧ v13 ≤ 5460 := by rw [e14]; exact hBe14 _
      refine hR (c_obj hO3 (zcall_i 0 0 (Nat.le_of_ble_eq_true rfl) (Nat.le_of_ble_eq_true rfl) (c_afterE _ z2 r v13 hw_2 hz2 (by omega) (by omega) _ fun v15 w16 hw16 g16 hp17 hp18 hp19 => ?_)))
      have fr20 := wfR_tr fr_2 g16 (by decide)
      have hn21 := nn_eq (g16.2 p (by rw [hρp]; decide)) hnp_2
      have hO22 := (g16.2 p (by rw [hρp]; decide)).trans hO1
      have hO23 := (g16.2 z2 (by rw [hz2]; decide)).trans hO3
      have hO24 := (g16.2 z0_3 (by rw [hk3_0]; decide)).trans hO4
      refine (?_ : R (_, _, (.int (Int32.ofInt v15)) :: (.ref (p + 6)) :: [], w16, 0, 0))
      have hx25 := (g16.2 (p + 3) (by rw [hk1_6]; decide)).trans hge14
      obtain ⟨ge27, hge27, hBe27⟩ := CI_ar hw16 (q := p + 6) (by rw [hk1_9]; rfl)
      refine hR (c_aldE hge27 (by omega) (by omega) (Nat.le_of_ble_eq_true rfl) fun v26 e27 rv26 => ?_)
      have bv26 : (-1) ≤ v26 ∧ v26 ≤ 25749 := by rw [e27]; exact hBe27 _
      iterate 4 refine hR (?_ : R (_, _, _, _, _, _))
      refine hR (j_eq (by omega) (by omega) (fun hc28 => ?_) (fun hc28 => ?_))
      · skip
        refine hR (t_inc ?_)
        refine hR (?_ : R (_, _, _, _, _, _))
        exact ih2 _ _ _ (by rfl) hw16 fr20 hn21 (by omega) (by omega)
      refine hR (?_ : R (_, _, _, _, _, _))
      refine hR (c_get hO22 rfl ?_)
      refine hR (?_ : R (_, _, _, _, _, _))
      refine hR (c_ald hw16 (by rw [hk1_8]; rfl) (by omega) (by omega) (Nat.le_of_ble_eq_true rfl) fun v29 lv29 uv29 => ?_)
      refine hR (?_ : R (_, _, _, _, _, _))
      refine hR (c_get hO22 rfl ?_)
      refine hR (?_ : R (_, _, _, _, _, _))
      refine hR (c_ald hw16 (by rw [hk1_8]; rfl) (by omega) (by omega) (Nat.le_of_ble_eq_true rfl) fun v30 lv30 uv30 => ?_)
      refine hR (j_any ?_ ?_)
      rotate_left
      · skip
        refine hR (?_ : R (_, _, _, _, _, _))
        exact hR (zret_i rfl (Nat.le_refl _) trivial (h _ _ hw16 fr20 (Or.inr ⟨by omega, _, _, _, _, _, _, hO22, hx25, e14.symm, hp18, hp17, hge27, by rw [← e27]; omega⟩)))
      refine hR (t_inc ?_)
      refine hR (?_ : R (_, _, _, _, _, _))
      exact ih2 _ _ _ (by rfl) hw16 fr20 hn21 (by omega) (by omega)
  exact lp2 400000000 _ _ _ (by rfl) hw fr0 hnp (by omega) (by omega)
theorem c_chosenAt {ρ : Nat → Nat} {w : zW} (d : Nat) (p : Nat) (a1 : Int) (hw : CI ρ w) (hρp : ρ p = 70) (hnp : nn w p) (hr0 : -2147483648 ≤ a1 ∧ a1 ≤ 2147483647) (Q : zQ) (h : ∀ (v : Int) (w' : zW), CI ρ w' → wfR [51, 76] ρ w w' → (-1 ≤ v ∧ v ≤ 4) → Q (some (.int (Int32.ofInt v))) w') : zCl zTab (d + 6) iX2_chosenAt [.ref p, .int (Int32.ofInt a1)] w 0 0 Q := by
  refine zCl_i (M := kX2_chosenAt) rfl (Nat.le_of_ble_eq_true rfl) fun R hR => ?_
  have fr0 := wfR_rf [51, 76] ρ w
  iterate 6 refine hR (?_ : R (_, _, _, _, _, _))
  have lp7 : ∀ (N : Nat) (x : Int) (ch : Int) (l : Int) (w_7 : zW), (CI ρ w_7) → (wfR [51, 76] ρ w w_7) → (nn w_7 p) → (0 ≤ x ∧ x ≤ 25749) → (-1 ≤ ch ∧ ch ≤ 4) → (0 ≤ l ∧ l ≤ 9) → (10 - l < N) → R (7, [some (.ref p), some (.int (Int32.ofInt a1)), some (.int (Int32.ofInt x)), some (.int (Int32.ofInt ch)), some (.int (Int32.ofInt l))], [], w_7, 0, 0) := by
    intro N
    induction N with
    | zero => intros; omega
    | succ N ih7 =>
      intro x ch l w_7 hw_7 fr_7 hnp_7 hf0_7 hf1_7 hf2_7 hN7
      iterate 2 refine hR (?_ : R (_, _, _, _, _, _))
      refine hR (j_gt (by omega) (by omega) (fun hc1 => ?_) (fun hc1 => ?_))
      · skip
        refine hR (?_ : R (_, _, _, _, _, _))
        exact hR (zret_i rfl (Nat.le_refl _) trivial (h _ _ hw_7 fr_7 (by omega)))
      iterate 2 refine hR (?_ : R (_, _, _, _, _, _))
      obtain ⟨y0_2, x1_2, x2_2, x3_2, hO2, hk2_0, hk2_1, hk2_2, hk2_3, hk2_4, hk2_5, hk2_6, hk2_7, hk2_8, hk2_9⟩ := CI_o70 hw_7 hρp
      refine hR (c_get hO2 rfl ?_)
      refine hR (j_ge (by omega) (by omega) (fun hc3 => ?_) (fun hc3 => ?_))
      · skip
        refine hR (?_ : R (_, _, _, _, _, _))
        exact hR (zret_i rfl (Nat.le_refl _) trivial (h _ _ hw_7 fr_7 (by omega)))
      iterate 3 refine hR (?_ : R (_, _, _, _, _, _))
      refine hR (t_add ?_)
      refine hR (c_obj hO2 (zcall_i 0 0 (Nat.le_of_ble_eq_true rfl) (Nat.le_of_ble_eq_true rfl) (c_recall _ p (l + 1) hw_7 hρp (by omega) _ fun w4 hw4 g4 => ?_)))
      have fr5 := wfR_tr fr_7 g4 (by decide)
      have hn6 := nn_eq (g4.2 p (by rw [hρp]; decide)) hnp_7
      have hO7 := (g4.2 p (by rw [hρp]; decide)).trans hO2
      refine (?_ : R (_, _, [], w4, 0, 0))
      iterate 3 refine hR (?_ : R (_, _, _, _, _, _))
      refine hR (c_obj hO7 (zcall_i 0 0 (Nat.le_of_ble_eq_true rfl) (Nat.le_of_ble_eq_true rfl) (c_firstAsGood _ p l x hw4 hρp hn6 (by omega) (by omega) _ fun v8 w9 hw9 g9 hp10 => ?_)))
      have fr11 := wfR_tr fr5 g9 (by decide)
      have hn12 := nn_eq (g9.2 p (by rw [hρp]; decide)) hn6
      have hO13 := (g9.2 p (by rw [hρp]; decide)).trans hO7
      refine (?_ : R (_, _, (.int (Int32.ofInt v8)) :: [], w9, 0, 0))
      iterate 3 refine hR (?_ : R (_, _, _, _, _, _))
      refine hR (j_eq (by omega) (by omega) (fun hc14 => ?_) (fun hc14 => ?_))
      · skip
        iterate 3 refine hR (?_ : R (_, _, _, _, _, _))
        refine hR (t_add ?_)
        refine hR (c_obj hO13 (zcall_i 0 0 (Nat.le_of_ble_eq_true rfl) (Nat.le_of_ble_eq_true rfl) (c_forget _ p (l + 1) hw9 hρp (by omega) _ fun w15 hw15 g15 => ?_)))
        have fr16 := wfR_tr fr11 g15 (by decide)
        have hn17 := nn_eq (g15.2 p (by rw [hρp]; decide)) hn12
        have hO18 := (g15.2 p (by rw [hρp]; decide)).trans hO13
        refine (?_ : R (_, _, [], w15, 0, 0))
        iterate 2 refine hR (?_ : R (_, _, _, _, _, _))
        refine hR (j_ne (by omega) (by omega) (fun hc => by omega) (fun _ => ?_))
        refine hR (?_ : R (_, _, _, _, _, _))
        exact hR (zret_i rfl (Nat.le_refl _) trivial (h _ _ hw15 fr16 (by omega)))
      obtain ⟨zzA19, fzA19, gtA19, gnoA19, xA19, mA19, A19a, A19b, A19c, A19d, A19e, A19f, A19g⟩ := (hp10.resolve_left (by omega)).2
      obtain ⟨z20, rfl⟩ := nn_some hn12 hO13
      have hz20 : ρ z20 = 50 := hk2_0 z20 rfl
      rw [hO13] at A19a
      have hqA19 : z20 = zzA19 := by cases A19a; rfl
      subst hqA19
      refine hR (?_ : R (_, _, _, _, _, _))
      refine hR (c_get hO13 rfl ?_)
      refine hR (?_ : R (_, _, _, _, _, _))
      refine hR (c_get hO13 rfl ?_)
      iterate 2 refine hR (?_ : R (_, _, _, _, _, _))
      refine hR (c_get hO13 rfl ?_)
      refine hR (?_ : R (_, _, _, _, _, _))
      refine hR (c_aldE A19b (by omega) (by omega) (Nat.le_of_ble_eq_true rfl) fun v21 e22 rv21 => ?_)
      obtain ⟨gXA19, hXA19, bXA19⟩ := CI_ar hw9 (q := p + 3) (by rw [hk2_6]; rfl)
      rw [A19b] at hXA19
      cases hXA19
      have hYA19 := bXA19 (x).toNat
      rw [A19c] at e22
      rw [A19c] at hYA19
      subst e22
      obtain ⟨z0_28, z2_28, z3_28, hO28, hk28_0, hk28_1, hk28_2, hk28_3, hk28_4⟩ := CI_o50 hw9 hz20
      refine hR (c_obj hO28 (zcall_i 0 0 (Nat.le_of_ble_eq_true rfl) (Nat.le_of_ble_eq_true rfl) (c_afterE _ z20 v8 v21 hw9 hz20 (by omega) (by omega) _ fun v23 w24 hw24 g24 hp25 hp26 hp27 => ?_)))
      have fr29 := wfR_tr fr11 g24 (by decide)
      have hn30 := nn_eq (g24.2 p (by rw [hρp]; decide)) hn12
      have hO31 := (g24.2 p (by rw [hρp]; decide)).trans hO13
      have hO32 := (g24.2 z20 (by rw [hz20]; decide)).trans hO28
      refine (?_ : R (_, _, (.int (Int32.ofInt v23)) :: (.ref (p + 6)) :: [], w24, 0, 0))
      have emA19 := hp27 _ A19d (by omega)
      have hNA19 := (g24.2 (p + 6) (by rw [hk2_9]; decide)).trans A19f
      refine hR (c_aldE hNA19 (by omega) (by omega) (Nat.le_of_ble_eq_true rfl) fun v33 e34 rv33 => ?_)
      obtain ⟨gZA19, hZA19, bZA19⟩ := CI_ar hw24 (q := p + 6) (by rw [hk2_9]; rfl)
      rw [hNA19] at hZA19
      cases hZA19
      have hWA19 := bZA19 (v23).toNat
      rw [← e34] at hWA19
      rw [emA19] at e34
      rw [← e34] at A19g
      iterate 4 refine hR (?_ : R (_, _, _, _, _, _))
      refine hR (t_add ?_)
      refine hR (c_obj hO31 (zcall_i 0 0 (Nat.le_of_ble_eq_true rfl) (Nat.le_of_ble_eq_true rfl) (c_forget _ p (l + 1) hw24 hρp (by omega) _ fun w35 hw35 g35 => ?_)))
      have fr36 := wfR_tr fr29 g35 (by decide)
      have hn37 := nn_eq (g35.2 p (by rw [hρp]; decide)) hn30
      have hO38 := (g35.2 p (by rw [hρp]; decide)).trans hO31
      have hO39 := (g35.2 z20 (by rw [hz20]; decide)).trans hO32
      refine (?_ : R (_, _, [], w35, 0, 0))
      iterate 2 refine hR (?_ : R (_, _, _, _, _, _))
      refine hR (j_ne (by omega) (by omega) (fun _ => ?_) (fun hc => by omega))
      refine hR (t_inc ?_)
      refine hR (?_ : R (_, _, _, _, _, _))
      exact ih7 _ _ _ _ hw35 fr36 hn37 (by omega) (by omega) (by omega) (by omega)
  exact lp7 400000000 _ _ _ _ hw fr0 hnp (by omega) (by omega) (by omega) (by omega)
theorem pg_hole : ∀ (m n : Nat) (f : Nat → Nat), (∀ i, i < n → f i < m) → (∀ i j, i < n → j < n → f i = f j → i = j) → n ≤ m
  | 0, n, f, h, _ => by
    cases n with
    | zero => exact Nat.le_refl _
    | succ n => exact absurd (h 0 (by omega)) (by omega)
  | m + 1, n, f, h, hi => by
    by_cases hk : ∃ k, k < n ∧ f k = m
    · obtain ⟨k, k1, k2⟩ := hk
      have := pg_hole m (n - 1) (fun i => if i < k then f i else f (i + 1)) (fun i hi2 => by
        split
        · have h1 := h i (by omega)
          have h2 : f i ≠ m := fun e => by have := hi i k (by omega) k1 (by omega); omega
          omega
        · have h1 := h (i + 1) (by omega)
          have h2 : f (i + 1) ≠ m := fun e => by have := hi (i + 1) k (by omega) k1 (by omega); omega
          omega) (fun i j h1 h2 e => by
        split at e <;> split at e
        · exact hi i j (by omega) (by omega) e
        · have := hi i (j + 1) (by omega) (by omega) e; omega
        · have := hi (i + 1) j (by omega) (by omega) e; omega
        · have := hi (i + 1) (j + 1) (by omega) (by omega) e; omega)
      omega
    · have := pg_hole m n f (fun i hi2 => by
        have h1 := h i hi2
        have h2 : f i ≠ m := fun e => hk ⟨i, hi2, e⟩
        omega) hi
      omega
/-- the nodes of a level stand for different TEXTS -/
noncomputable def INJ (w : zW) (p : Nat) (s1 en : Int) : Prop := ∃ gt gno : Nat → Int32, zix w (p + 3) = some (.inl (1, 25750, .inl gt)) ∧ zix w (p + 6) = some (.inl (1, 5461, .inl gno)) ∧ ∀ i : Nat, s1 ≤ i → (i : Int) < en → (gno (gt i).toInt.toNat).toInt = i
theorem INJ_0 {ρ : Nat → Nat} {w : zW} {p : Nat} (hw : CI ρ w) (h3 : ρ (p + 3) = 73) (h6 : ρ (p + 6) = 76) (s1 : Int) : INJ w p s1 s1 := by
  obtain ⟨g, a, _⟩ := CI_ar hw (q := p + 3) (by rw [h3]; rfl)
  obtain ⟨g2, b, _⟩ := CI_ar hw (q := p + 6) (by rw [h6]; rfl)
  exact ⟨g, g2, a, b, fun i h1 h2 => by omega⟩
theorem INJ_eq {w w1 : zW} {p : Nat} {s1 en : Int} (e3 : zix w1 (p + 3) = zix w (p + 3)) (e6 : zix w1 (p + 6) = zix w (p + 6)) (h : INJ w p s1 en) : INJ w1 p s1 en := by
  obtain ⟨g, g2, a, b, c⟩ := h
  exact ⟨g, g2, e3.trans a, e6.trans b, c⟩
theorem INJ_le {ρ : Nat → Nat} {w : zW} {p : Nat} (hw : CI ρ w) (h3 : ρ (p + 3) = 73) {s1 en : Int} (h0 : 0 ≤ s1) (h : INJ w p s1 en) : en - s1 ≤ 5461 := by
  obtain ⟨g, g2, a, b, c⟩ := h
  obtain ⟨g', a', hB⟩ := CI_ar hw (q := p + 3) (by rw [h3]; rfl)
  rw [a] at a'
  cases a'
  have := pg_hole 5461 (en - s1).toNat (fun i => (g (s1.toNat + i)).toInt.toNat) (fun i hi => by have := hB (s1.toNat + i); omega) (fun i j hi hj e => by
    have e1 := c (s1.toNat + i) (by omega) (by omega)
    have e2 := c (s1.toNat + j) (by omega) (by omega)
    rw [e] at e1
    omega)
  omega
theorem INJ_add {w w1 w2 w3 : zW} {p : Nat} {s1 en made v : Int} {g g2 gt : Nat → Int32} (h : INJ w p s1 en) (h0 : 0 ≤ s1) (hs : s1 ≤ en) (hE : en < 25750) (hm : 0 ≤ made ∧ made ≤ 5460) (hg : zix w (p + 6) = some (.inl (1, 5461, .inl g))) (e : v = (g made.toNat).toInt) (hv : v = -1) (hg2 : zix w (p + 6) = some (.inl (1, 5461, .inl g2))) (f1 : wfr (p + 6) w w1) (k1 : zix w1 (p + 6) = some (.inl (1, 5461, .inl (upd g2 made.toNat (Int32.ofInt en))))) (hgt : zix w1 (p + 3) = some (.inl (1, 25750, .inl gt))) (f2 : wfr (p + 3) w1 w2) (k2 : zix w2 (p + 3) = some (.inl (1, 25750, .inl (upd gt en.toNat (Int32.ofInt made))))) (f3 : wfr (p + 4) w2 w3) : INJ w3 p s1 (en + 1) := by
  obtain ⟨ga, gb, a, b, c⟩ := h
  rw [hg] at b
  cases b
  rw [hg] at hg2
  cases hg2
  have a1 := (f1.2 (p + 3) (by omega)).trans a
  rw [hgt] at a1
  cases a1
  refine ⟨_, _, (f3.2 (p + 3) (by omega)).trans k2, (f3.2 (p + 6) (by omega)).trans ((f2.2 (p + 6) (by omega)).trans k1), fun i i1 i2 => ?_⟩
  by_cases ci : i = en.toNat
  · subst ci
    rw [pk_us, zti (by omega) (by omega), pk_us, zti (by omega) (by omega)]
    omega
  · have := c i i1 (by omega)
    rw [pk_un ci, pk_un ?_]
    · exact this
    · intro e2
      rw [e2] at this
      omega
theorem c_fillBehind {ρ : Nat → Nat} {w : zW} (d : Nat) (p : Nat) (a1 : Int) (s0 s1 : Int) (gs : Nat → Int32) (hw : CI ρ w) (hρp : ρ p = 70) (hnp : nn w p) (hr0 : 0 ≤ a1 ∧ a1 ≤ 8) (hr1 : zix w (p + 1) = some (.inl (1, 11, .inl gs))) (hr2 : (gs a1.toNat).toInt = s0) (hr3 : (gs (a1 + 1).toNat).toInt = s1) (hr4 : 0 ≤ s0 ∧ s0 ≤ s1 ∧ s1 ≤ 25750) (Q : zQ) (h : ∀ (v : Int) (w' : zW), CI ρ w' → wfR [51, 73, 74, 76] ρ w w' → (s1 ≤ v ∧ v ≤ 25750 ∧ v - s1 ≤ 5 * (s1 - s0)) → (v - s1 ≤ 5461) → Q (some (.int (Int32.ofInt v))) w') : zCl zTab (d + 5) iX2_fillBehind [.ref p, .int (Int32.ofInt a1)] w 0 0 Q := by
  refine zCl_i (M := kX2_fillBehind) rfl (Nat.le_of_ble_eq_true rfl) fun R hR => ?_
  have fr0 := wfR_rf [51, 73, 74, 76] ρ w
  refine hR (?_ : R (_, _, _, _, _, _))
  obtain ⟨y0_1, x1_1, x2_1, x3_1, hO1, hk1_0, hk1_1, hk1_2, hk1_3, hk1_4, hk1_5, hk1_6, hk1_7, hk1_8, hk1_9⟩ := CI_o70 hw hρp
  refine hR (c_get hO1 rfl ?_)
  iterate 2 refine hR (?_ : R (_, _, _, _, _, _))
  refine hR (t_add ?_)
  refine hR (c_aldE ((fr0.2 (p + 1) (by rw [hk1_4]; decide)).trans hr1) (by omega) (by omega) (Nat.le_of_ble_eq_true rfl) fun v2 e3 rv2 => ?_)
  rw [hr3] at e3
  have e3x := e3.symm
  subst e3x
  iterate 2 refine hR (?_ : R (_, _, _, _, _, _))
  refine hR (c_get hO1 rfl ?_)
  refine hR (?_ : R (_, _, _, _, _, _))
  refine hR (c_aldE ((fr0.2 (p + 1) (by rw [hk1_4]; decide)).trans hr1) (by omega) (by omega) (Nat.le_of_ble_eq_true rfl) fun v4 e5 rv4 => ?_)
  rw [hr2] at e5
  have e5x := e5.symm
  subst e5x
  refine hR (?_ : R (_, _, _, _, _, _))
  have lp16 : ∀ (N : Nat) (en : Int) (x : Int) (o4_16 : Option Value) (o5_16 : Option Value) (w_16 : zW), (zc2 o4_16 = false) → (zc2 o5_16 = false) → (CI ρ w_16) → (wfR [51, 73, 74, 76] ρ w w_16) → (zix w_16 p = some (.inr (2, [va_rf y0_1, .int (Int32.ofInt x1_1), .int (Int32.ofInt x2_1), .int (Int32.ofInt x3_1), .ref (p + 1), .ref (p + 2), .ref (p + 3), .ref (p + 4), .ref (p + 5), .ref (p + 6)]))) → (nn w_16 p) → (0 ≤ en ∧ en ≤ 25750) → (0 ≤ x ∧ x ≤ 25750) → (s0 ≤ x ∧ x ≤ s1 ∧ s1 ≤ en ∧ en ≤ s1 + 5 * (x - s0)) → (INJ w_16 p s1 en) → (25751 - x < N) → R (16, [some (.ref p), some (.int (Int32.ofInt a1)), some (.int (Int32.ofInt en)), some (.int (Int32.ofInt x)), o4_16, o5_16], [], w_16, 0, 0) := by
    intro N
    induction N with
    | zero => intros; omega
    | succ N ih16 =>
      intro en x o4_16 o5_16 w_16 hzo4_16 hzo5_16 hw_16 fr_16 hOp_16 hnp_16 hf0_16 hf1_16 hp0_16 hp1_16 hN16
      iterate 2 refine hR (?_ : R (_, _, _, _, _, _))
      refine hR (c_get hOp_16 rfl ?_)
      iterate 2 refine hR (?_ : R (_, _, _, _, _, _))
      refine hR (t_add ?_)
      refine hR (c_aldE ((fr_16.2 (p + 1) (by rw [hk1_4]; decide)).trans hr1) (by omega) (by omega) (Nat.le_of_ble_eq_true rfl) fun v6 e7 rv6 => ?_)
      rw [hr3] at e7
      have e7x := e7.symm
      subst e7x
      refine hR (j_ge (by omega) (by omega) (fun hc8 => ?_) (fun hc8 => ?_))
      · skip
        refine hR (?_ : R (_, _, _, _, _, _))
        exact hR (zret_i rfl (Nat.le_refl _) trivial (h _ _ hw_16 fr_16 (by omega) (INJ_le hw_16 hk1_6 (by omega) hp1_16)))
      iterate 2 refine hR (?_ : R (_, _, _, _, _, _))
      have lp31 : ∀ (N : Nat) (en2 : Int) (r : Int) (o5_31 : Option Value) (w_31 : zW), (zc2 o5_31 = false) → (CI ρ w_31) → (wfR [51, 73, 74, 76] ρ w w_31) → (zix w_31 p = some (.inr (2, [va_rf y0_1, .int (Int32.ofInt x1_1), .int (Int32.ofInt x2_1), .int (Int32.ofInt x3_1), .ref (p + 1), .ref (p + 2), .ref (p + 3), .ref (p + 4), .ref (p + 5), .ref (p + 6)]))) → (nn w_31 p) → (0 ≤ en2 ∧ en2 ≤ 25750) → (0 ≤ r ∧ r ≤ 5) → (s1 ≤ en2 ∧ en2 ≤ s1 + 5 * (x - s0) + r) → (INJ w_31 p s1 en2) → (6 - r < N) → R (31, [some (.ref p), some (.int (Int32.ofInt a1)), some (.int (Int32.ofInt en2)), some (.int (Int32.ofInt x)), some (.int (Int32.ofInt r)), o5_31], [], w_31, 0, 0) := by
        intro N
        induction N with
        | zero => intros; omega
        | succ N ih31 =>
          intro en2 r o5_31 w_31 hzo5_31 hw_31 fr_31 hOp_31 hnp_31 hf0_31 hf1_31 hp0_31 hp1_31 hN31
          iterate 2 refine hR (?_ : R (_, _, _, _, _, _))
          refine hR (c_get hOp_31 rfl ?_)
          obtain ⟨z9, rfl⟩ := nn_some hnp_31 hOp_31
          have hz9 : ρ z9 = 50 := hk1_0 z9 rfl
          obtain ⟨z0_10, z2_10, z3_10, hO10, hk10_0, hk10_1, hk10_2, hk10_3, hk10_4⟩ := CI_o50 hw_31 hz9
          refine hR (c_get hO10 rfl ?_)
          obtain ⟨x0_11, x1_11, x2_11, hO11, hk11_0, hk11_1, hk11_2, hk11_3, hk11_4, hk11_5, hk11_6⟩ := CI_o20 hw_31 hk10_0
          refine hR (c_get hO11 rfl ?_)
          refine hR (j_ge (by omega) (by omega) (fun hc12 => ?_) (fun hc12 => ?_))
          · skip
            refine hR (t_inc ?_)
            refine hR (?_ : R (_, _, _, _, _, _))
            exact ih16 _ _ _ _ _ (by rfl) hzo5_31 hw_31 fr_31 hOp_31 hnp_31 (by omega) (by omega) (by omega) hp1_31 (by omega)
          iterate 2 refine hR (?_ : R (_, _, _, _, _, _))
          refine hR (c_obj hOp_31 (zcall_i 0 0 (Nat.le_of_ble_eq_true rfl) (Nat.le_of_ble_eq_true rfl) (c_onesAt _ p a1 hw_31 hρp (by omega) _ fun v13 hp15 => ?_)))
          refine (?_ : R (_, _, (.int (Int32.ofInt v13)) :: [], w_31, 0, 0))
          refine hR (?_ : R (_, _, _, _, _, _))
          refine hR (zcall_i 0 0 (Nat.le_of_ble_eq_true rfl) (Nat.le_of_ble_eq_true rfl) (c_isIn _ _ v13 r _ fun v16 hp18 => ?_))
          refine (?_ : R (_, _, (.int (Int32.ofInt v16)) :: [], w_31, 0, 0))
          refine hR (k_ne (by omega) (fun hc19 => ?_) (fun hc19 => ?_))
          rotate_left
          · skip
            refine hR (?_ : R (_, _, _, _, _, _))
            refine hR (t_inc ?_)
            refine hR (?_ : R (_, _, _, _, _, _))
            exact ih31 _ _ _ _ hzo5_31 hw_31 fr_31 hOp_31 hnp_31 (by omega) (by omega) (by omega) hp1_31 (by omega)
          refine hR (?_ : R (_, _, _, _, _, _))
          refine hR (c_get hOp_31 rfl ?_)
          iterate 2 refine hR (?_ : R (_, _, _, _, _, _))
          refine hR (c_get hOp_31 rfl ?_)
          refine hR (?_ : R (_, _, _, _, _, _))
          refine hR (c_ald hw_31 (by rw [hk1_6]; rfl) (by omega) (by omega) (Nat.le_of_ble_eq_true rfl) fun v20 lv20 uv20 => ?_)
          refine hR (c_obj hO10 (zcall_i 0 0 (Nat.le_of_ble_eq_true rfl) (Nat.le_of_ble_eq_true rfl) (c_after _ z9 r v20 hw_31 hz9 (by omega) (by omega) _ fun v21 w22 hw22 g22 hp23 => ?_)))
          have fr24 := wfR_tr fr_31 g22 (by decide)
          have hn25 := nn_eq (g22.2 p (by rw [hρp]; decide)) hnp_31
          have hO26 := (g22.2 p (by rw [hρp]; decide)).trans hOp_31
          have hO27 := (g22.2 z9 (by rw [hz9]; decide)).trans hO10
          have hO28 := (g22.2 z0_10 (by rw [hk10_0]; decide)).trans hO11
          refine (?_ : R (_, _, (.int (Int32.ofInt v21)) :: [], w22, 0, 0))
          have J29 := INJ_eq (g22.2 (p + 3) (by rw [hk1_6]; decide)) (g22.2 (p + 6) (by rw [hk1_9]; decide)) hp1_31
          iterate 2 refine hR (?_ : R (_, _, _, _, _, _))
          refine hR (c_get hO26 rfl ?_)
          refine hR (?_ : R (_, _, _, _, _, _))
          obtain ⟨ge31, hge31, hBe31⟩ := CI_ar hw22 (q := p + 6) (by rw [hk1_9]; rfl)
          refine hR (c_aldE hge31 (by omega) (by omega) (Nat.le_of_ble_eq_true rfl) fun v30 e31 rv30 => ?_)
          have bv30 : (-1) ≤ v30 ∧ v30 ≤ 25749 := by rw [e31]; exact hBe31 _
          refine hR (?_ : R (_, _, _, _, _, _))
          refine hR (j_ne (by omega) (by omega) (fun hc32 => ?_) (fun hc32 => ?_))
          · skip
            refine hR (?_ : R (_, _, _, _, _, _))
            refine hR (c_get hO26 rfl ?_)
            refine hR (?_ : R (_, _, _, _, _, _))
            obtain ⟨ge34, hge34, hBe34⟩ := CI_ar hw22 (q := p + 6) (by rw [hk1_9]; rfl)
            refine hR (c_aldE hge34 (by omega) (by omega) (Nat.le_of_ble_eq_true rfl) fun v33 e34 rv33 => ?_)
            have bv33 : (-1) ≤ v33 ∧ v33 ≤ 25749 := by rw [e34]; exact hBe34 _
            refine hR (?_ : R (_, _, _, _, _, _))
            refine hR (j_eq (by omega) (by omega) (fun hc35 => ?_) (fun hc35 => ?_))
            · skip
              refine hR (t_inc ?_)
              refine hR (?_ : R (_, _, _, _, _, _))
              exact ih31 _ _ _ _ (by rfl) hw22 fr24 hO26 hn25 (by omega) (by omega) (by omega) J29 (by omega)
            refine hR (?_ : R (_, _, _, _, _, _))
            refine hR (c_get hO26 rfl ?_)
            refine hR (?_ : R (_, _, _, _, _, _))
            refine hR (c_get hO26 rfl ?_)
            refine hR (?_ : R (_, _, _, _, _, _))
            refine hR (c_aldE hge34 (by omega) (by omega) (Nat.le_of_ble_eq_true rfl) fun v37 e38 rv37 => ?_)
            obtain rfl : v37 = v33 := e38.trans e34.symm
            refine hR (?_ : R (_, _, _, _, _, _))
            refine hR (c_ald hw22 (by rw [hk1_7]; rfl) (by omega) (by omega) (Nat.le_of_ble_eq_true rfl) fun v39 lv39 uv39 => ?_)
            refine hR (?_ : R (_, _, _, _, _, _))
            refine hR (c_get hO26 rfl ?_)
            refine hR (?_ : R (_, _, _, _, _, _))
            refine hR (c_ald hw22 (by rw [hk1_7]; rfl) (by omega) (by omega) (Nat.le_of_ble_eq_true rfl) fun v40 lv40 uv40 => ?_)
            refine hR (t_o fun v41 rv41 => ?_)
            refine hR (c_astx hw22 (by rw [hk1_7]; rfl) ⟨by rw [hk1_7]; decide, by rw [hk1_7]; decide⟩ (by omega) (by omega) (Nat.le_of_ble_eq_true rfl) fun w42 hw42 f42 => ?_)
            have fr43 := wfR_st fr24 f42 (by rw [hk1_7]; decide)
            have hn44 := nn_eq (f42.2 p (rne hρp hk1_7 (by decide))) hn25
            have hO45 := (f42.2 p (rne hρp hk1_7 (by decide))).trans hO26
            have hO46 := (f42.2 z9 (rne hz9 hk1_7 (by decide))).trans hO27
            have hO47 := (f42.2 z0_10 (rne hk10_0 hk1_7 (by decide))).trans hO28
            have J48 := INJ_eq (f42.2 (p + 3) (by omega)) (f42.2 (p + 6) (by omega)) J29
            refine hR (t_inc ?_)
            refine hR (?_ : R (_, _, _, _, _, _))
            exact ih31 _ _ _ _ (by rfl) hw42 fr43 hO45 hn44 (by omega) (by omega) (by omega) J48 (by omega)
          iterate 3 refine hR (?_ : R (_, _, _, _, _, _))
          refine hR (t_add ?_)
          refine hR (?_ : R (_, _, _, _, _, _))
          refine hR (c_obj hO26 (zcall_i 0 0 (Nat.le_of_ble_eq_true rfl) (Nat.le_of_ble_eq_true rfl) (c_isWanted _ p (a1 + 1) v21 hw22 hρp (by omega) (by omega) _ fun v49 hp51 => ?_)))
          refine (?_ : R (_, _, (.int (Int32.ofInt v49)) :: [], w22, 0, 0))
          refine hR (k_eq (by omega) (fun hc52 => ?_) (fun hc52 => ?_))
          · skip
            refine hR (?_ : R (_, _, _, _, _, _))
            refine hR (c_get hO26 rfl ?_)
            refine hR (?_ : R (_, _, _, _, _, _))
            obtain ⟨ge54, hge54, hBe54⟩ := CI_ar hw22 (q := p + 6) (by rw [hk1_9]; rfl)
            refine hR (c_aldE hge54 (by omega) (by omega) (Nat.le_of_ble_eq_true rfl) fun v53 e54 rv53 => ?_)
            have bv53 : (-1) ≤ v53 ∧ v53 ≤ 25749 := by rw [e54]; exact hBe54 _
            refine hR (?_ : R (_, _, _, _, _, _))
            refine hR (j_eq (by omega) (by omega) (fun hc55 => ?_) (fun hc55 => ?_))
            · skip
              refine hR (t_inc ?_)
              refine hR (?_ : R (_, _, _, _, _, _))
              exact ih31 _ _ _ _ (by rfl) hw22 fr24 hO26 hn25 (by omega) (by omega) (by omega) J29 (by omega)
            refine hR (?_ : R (_, _, _, _, _, _))
            refine hR (c_get hO26 rfl ?_)
            refine hR (?_ : R (_, _, _, _, _, _))
            refine hR (c_get hO26 rfl ?_)
            refine hR (?_ : R (_, _, _, _, _, _))
            refine hR (c_aldE hge54 (by omega) (by omega) (Nat.le_of_ble_eq_true rfl) fun v57 e58 rv57 => ?_)
            obtain rfl : v57 = v53 := e58.trans e54.symm
            refine hR (?_ : R (_, _, _, _, _, _))
            refine hR (c_ald hw22 (by rw [hk1_7]; rfl) (by omega) (by omega) (Nat.le_of_ble_eq_true rfl) fun v59 lv59 uv59 => ?_)
            refine hR (?_ : R (_, _, _, _, _, _))
            refine hR (c_get hO26 rfl ?_)
            refine hR (?_ : R (_, _, _, _, _, _))
            refine hR (c_ald hw22 (by rw [hk1_7]; rfl) (by omega) (by omega) (Nat.le_of_ble_eq_true rfl) fun v60 lv60 uv60 => ?_)
            refine hR (t_o fun v61 rv61 => ?_)
            refine hR (c_astx hw22 (by rw [hk1_7]; rfl) ⟨by rw [hk1_7]; decide, by rw [hk1_7]; decide⟩ (by omega) (by omega) (Nat.le_of_ble_eq_true rfl) fun w62 hw62 f62 => ?_)
            have fr63 := wfR_st fr24 f62 (by rw [hk1_7]; decide)
            have hn64 := nn_eq (f62.2 p (rne hρp hk1_7 (by decide))) hn25
            have hO65 := (f62.2 p (rne hρp hk1_7 (by decide))).trans hO26
            have hO66 := (f62.2 z9 (rne hz9 hk1_7 (by decide))).trans hO27
            have hO67 := (f62.2 z0_10 (rne hk10_0 hk1_7 (by decide))).trans hO28
            have J68 := INJ_eq (f62.2 (p + 3) (by omega)) (f62.2 (p + 6) (by omega)) J29
            refine hR (t_inc ?_)
            refine hR (?_ : R (_, _, _, _, _, _))
            exact ih31 _ _ _ _ (by rfl) hw62 fr63 hO65 hn64 (by omega) (by omega) (by omega) J68 (by omega)
          refine hR (?_ : R (_, _, _, _, _, _))
          refine hR (t_c 25750 (by decide) ?_)
          refine hR (j_ge (by omega) (by omega) (fun hc69 => ?_) (fun hc69 => ?_))
          · skip
            refine hR (?_ : R (_, _, _, _, _, _))
            refine hR (c_get hO26 rfl ?_)
            refine hR (?_ : R (_, _, _, _, _, _))
            obtain ⟨ge71, hge71, hBe71⟩ := CI_ar hw22 (q := p + 6) (by rw [hk1_9]; rfl)
            refine hR (c_aldE hge71 (by omega) (by omega) (Nat.le_of_ble_eq_true rfl) fun v70 e71 rv70 => ?_)
            have bv70 : (-1) ≤ v70 ∧ v70 ≤ 25749 := by rw [e71]; exact hBe71 _
            refine hR (?_ : R (_, _, _, _, _, _))
            refine hR (j_eq (by omega) (by omega) (fun hc72 => ?_) (fun hc72 => ?_))
            · skip
              refine hR (t_inc ?_)
              refine hR (?_ : R (_, _, _, _, _, _))
              exact ih31 _ _ _ _ (by rfl) hw22 fr24 hO26 hn25 (by omega) (by omega) (by omega) J29 (by omega)
            refine hR (?_ : R (_, _, _, _, _, _))
            refine hR (c_get hO26 rfl ?_)
            refine hR (?_ : R (_, _, _, _, _, _))
            refine hR (c_get hO26 rfl ?_)
            refine hR (?_ : R (_, _, _, _, _, _))
            refine hR (c_aldE hge71 (by omega) (by omega) (Nat.le_of_ble_eq_true rfl) fun v74 e75 rv74 => ?_)
            obtain rfl : v74 = v70 := e75.trans e71.symm
            refine hR (?_ : R (_, _, _, _, _, _))
            refine hR (c_ald hw22 (by rw [hk1_7]; rfl) (by omega) (by omega) (Nat.le_of_ble_eq_true rfl) fun v76 lv76 uv76 => ?_)
            refine hR (?_ : R (_, _, _, _, _, _))
            refine hR (c_get hO26 rfl ?_)
            refine hR (?_ : R (_, _, _, _, _, _))
            refine hR (c_ald hw22 (by rw [hk1_7]; rfl) (by omega) (by omega) (Nat.le_of_ble_eq_true rfl) fun v77 lv77 uv77 => ?_)
            refine hR (t_o fun v78 rv78 => ?_)
            refine hR (c_astx hw22 (by rw [hk1_7]; rfl) ⟨by rw [hk1_7]; decide, by rw [hk1_7]; decide⟩ (by omega) (by omega) (Nat.le_of_ble_eq_true rfl) fun w79 hw79 f79 => ?_)
            have fr80 := wfR_st fr24 f79 (by rw [hk1_7]; decide)
            have hn81 := nn_eq (f79.2 p (rne hρp hk1_7 (by decide))) hn25
            have hO82 := (f79.2 p (rne hρp hk1_7 (by decide))).trans hO26
            have hO83 := (f79.2 z9 (rne hz9 hk1_7 (by decide))).trans hO27
            have hO84 := (f79.2 z0_10 (rne hk10_0 hk1_7 (by decide))).trans hO28
            have J85 := INJ_eq (f79.2 (p + 3) (by omega)) (f79.2 (p + 6) (by omega)) J29
            refine hR (t_inc ?_)
            refine hR (?_ : R (_, _, _, _, _, _))
            exact ih31 _ _ _ _ (by rfl) hw79 fr80 hO82 hn81 (by omega) (by omega) (by omega) J85 (by omega)
          refine hR (?_ : R (_, _, _, _, _, _))
          refine hR (c_get hO26 rfl ?_)
          iterate 2 refine hR (?_ : R (_, _, _, _, _, _))
          obtain ⟨ge87, hge87, hBe87⟩ := CI_ar hw22 (q := p + 6) (by rw [hk1_9]; rfl)
          refine hR (c_astE hw22 hge87 hBe87 (by rw [hk1_9]; rfl) ⟨by rw [hk1_9]; decide, by rw [hk1_9]; decide⟩ (by omega) (by omega) (by omega) (by omega) (Nat.le_of_ble_eq_true rfl) fun w86 hw86 f86 hs86 hb86 => ?_)
          have fr88 := wfR_st fr24 f86 (by rw [hk1_9]; decide)
          have hn89 := nn_eq (f86.2 p (rne hρp hk1_9 (by decide))) hn25
          have hO90 := (f86.2 p (rne hρp hk1_9 (by decide))).trans hO26
          have hO91 := (f86.2 z9 (rne hz9 hk1_9 (by decide))).trans hO27
          have hO92 := (f86.2 z0_10 (rne hk10_0 hk1_9 (by decide))).trans hO28
          refine hR (?_ : R (_, _, _, _, _, _))
          refine hR (c_get hO90 rfl ?_)
          iterate 2 refine hR (?_ : R (_, _, _, _, _, _))
          obtain ⟨ge94, hge94, hBe94⟩ := CI_ar hw86 (q := p + 3) (by rw [hk1_6]; rfl)
          refine hR (c_astE hw86 hge94 hBe94 (by rw [hk1_6]; rfl) ⟨by rw [hk1_6]; decide, by rw [hk1_6]; decide⟩ (by omega) (by omega) (by omega) (by omega) (Nat.le_of_ble_eq_true rfl) fun w93 hw93 f93 hs93 hb93 => ?_)
          have fr95 := wfR_st fr88 f93 (by rw [hk1_6]; decide)
          have hn96 := nn_eq (f93.2 p (rne hρp hk1_6 (by decide))) hn89
          have hO97 := (f93.2 p (rne hρp hk1_6 (by decide))).trans hO90
          have hO98 := (f93.2 z9 (rne hz9 hk1_6 (by decide))).trans hO91
          have hO99 := (f93.2 z0_10 (rne hk10_0 hk1_6 (by decide))).trans hO92
          refine hR (?_ : R (_, _, _, _, _, _))
          refine hR (c_get hO97 rfl ?_)
          iterate 2 refine hR (?_ : R (_, _, _, _, _, _))
          refine hR (c_astx hw93 (by rw [hk1_7]; rfl) ⟨by rw [hk1_7]; decide, by rw [hk1_7]; decide⟩ (by omega) (by omega) (Nat.le_of_ble_eq_true rfl) fun w100 hw100 f100 => ?_)
          have fr101 := wfR_st fr95 f100 (by rw [hk1_7]; decide)
          have hn102 := nn_eq (f100.2 p (rne hρp hk1_7 (by decide))) hn96
          have hO103 := (f100.2 p (rne hρp hk1_7 (by decide))).trans hO97
          have hO104 := (f100.2 z9 (rne hz9 hk1_7 (by decide))).trans hO98
          have hO105 := (f100.2 z0_10 (rne hk10_0 hk1_7 (by decide))).trans hO99
          have J106 := INJ_add J29 (by omega) (by omega) (by omega) (by omega) hge31 e31 (by omega) hge87 f86 hs86 hge94 f93 hs93 f100
          refine hR (t_inc ?_)
          refine hR (?_ : R (_, _, _, _, _, _))
          refine hR (c_get hO103 rfl ?_)
          refine hR (?_ : R (_, _, _, _, _, _))
          obtain ⟨ge108, hge108, hBe108⟩ := CI_ar hw100 (q := p + 6) (by rw [hk1_9]; rfl)
          refine hR (c_aldE hge108 (by omega) (by omega) (Nat.le_of_ble_eq_true rfl) fun v107 e108 rv107 => ?_)
          have bv107 : (-1) ≤ v107 ∧ v107 ≤ 25749 := by rw [e108]; exact hBe108 _
          refine hR (?_ : R (_, _, _, _, _, _))
          refine hR (j_eq (by omega) (by omega) (fun hc109 => ?_) (fun hc109 => ?_))
          · skip
            refine hR (t_inc ?_)
            refine hR (?_ : R (_, _, _, _, _, _))
            exact ih31 _ _ _ _ (by rfl) hw100 fr101 hO103 hn102 (by omega) (by omega) (by omega) J106 (by omega)
          refine hR (?_ : R (_, _, _, _, _, _))
          refine hR (c_get hO103 rfl ?_)
          refine hR (?_ : R (_, _, _, _, _, _))
          refine hR (c_get hO103 rfl ?_)
          refine hR (?_ : R (_, _, _, _, _, _))
          refine hR (c_aldE hge108 (by omega) (by omega) (Nat.le_of_ble_eq_true rfl) fun v111 e112 rv111 => ?_)
          obtain rfl : v111 = v107 := e112.trans e108.symm
          refine hR (?_ : R (_, _, _, _, _, _))
          refine hR (c_ald hw100 (by rw [hk1_7]; rfl) (by omega) (by omega) (Nat.le_of_ble_eq_true rfl) fun v113 lv113 uv113 => ?_)
          refine hR (?_ : R (_, _, _, _, _, _))
          refine hR (c_get hO103 rfl ?_)
          refine hR (?_ : R (_, _, _, _, _, _))
          refine hR (c_ald hw100 (by rw [hk1_7]; rfl) (by omega) (by omega) (Nat.le_of_ble_eq_true rfl) fun v114 lv114 uv114 => ?_)
          refine hR (t_o fun v115 rv115 => ?_)
          refine hR (c_astx hw100 (by rw [hk1_7]; rfl) ⟨by rw [hk1_7]; decide, by rw [hk1_7]; decide⟩ (by omega) (by omega) (Nat.le_of_ble_eq_true rfl) fun w116 hw116 f116 => ?_)
          have fr117 := wfR_st fr101 f116 (by rw [hk1_7]; decide)
          have hn118 := nn_eq (f116.2 p (rne hρp hk1_7 (by decide))) hn102
          have hO119 := (f116.2 p (rne hρp hk1_7 (by decide))).trans hO103
          have hO120 := (f116.2 z9 (rne hz9 hk1_7 (by decide))).trans hO104
          have hO121 := (f116.2 z0_10 (rne hk10_0 hk1_7 (by decide))).trans hO105
          have J122 := INJ_eq (f116.2 (p + 3) (by omega)) (f116.2 (p + 6) (by omega)) J106
          refine hR (t_inc ?_)
          refine hR (?_ : R (_, _, _, _, _, _))
          exact ih31 _ _ _ _ (by rfl) hw116 fr117 hO119 hn118 (by omega) (by omega) (by omega) J122 (by omega)
      exact lp31 400000000 _ _ _ _ hzo5_16 hw_16 fr_16 hOp_16 hnp_16 (by omega) (by omega) (by omega) hp1_16 (by omega)
  exact lp16 400000000 _ _ _ _ _ (by rfl) (by rfl) hw fr0 hO1 hnp (by omega) (by omega) (by omega) (INJ_0 hw hk1_6 hk1_9 s1) (by omega)
noncomputable def sB : Nat → Int
  | 0 => 0 | 1 => 1 | 2 => 6 | 3 => 31 | 4 => 156 | 5 => 781 | 6 => 3906 | 7 => 9367 | 8 => 14828 | _ => 20289
noncomputable def sC : Nat → Int
  | 0 => 1 | 1 => 5 | 2 => 25 | 3 => 125 | 4 => 625 | 5 => 3125 | _ => 5461
noncomputable def okS (l s0 s1 : Int) : Prop := 0 ≤ s0 ∧ s0 ≤ s1 ∧ s1 ≤ 25750 ∧ s0 ≤ sB l.toNat ∧ s1 - s0 ≤ sC l.toNat
theorem okS_s {l s0 s1 v : Int} (h : okS l s0 s1) (hl : 0 ≤ l ∧ l ≤ 8) (h1 : s1 ≤ v ∧ v ≤ 25750 ∧ v - s1 ≤ 5 * (s1 - s0)) (h2 : v - s1 ≤ 5461) : okS (l + 1) s1 v := by
  obtain ⟨a, b, c, d, e⟩ := h
  have hd : l = 0 ∨ l = 1 ∨ l = 2 ∨ l = 3 ∨ l = 4 ∨ l = 5 ∨ l = 6 ∨ l = 7 ∨ l = 8 := by omega
  refine ⟨by omega, by omega, by omega, ?_, ?_⟩
  · rcases hd with rfl | rfl | rfl | rfl | rfl | rfl | rfl | rfl | rfl
    · change s0 ≤ 0 at d; change s1 - s0 ≤ 1 at e; show s1 ≤ 1; omega
    · change s0 ≤ 1 at d; change s1 - s0 ≤ 5 at e; show s1 ≤ 6; omega
    · change s0 ≤ 6 at d; change s1 - s0 ≤ 25 at e; show s1 ≤ 31; omega
    · change s0 ≤ 31 at d; change s1 - s0 ≤ 125 at e; show s1 ≤ 156; omega
    · change s0 ≤ 156 at d; change s1 - s0 ≤ 625 at e; show s1 ≤ 781; omega
    · change s0 ≤ 781 at d; change s1 - s0 ≤ 3125 at e; show s1 ≤ 3906; omega
    · change s0 ≤ 3906 at d; change s1 - s0 ≤ 5461 at e; show s1 ≤ 9367; omega
    · change s0 ≤ 9367 at d; change s1 - s0 ≤ 5461 at e; show s1 ≤ 14828; omega
    · change s0 ≤ 14828 at d; change s1 - s0 ≤ 5461 at e; show s1 ≤ 20289; omega
  · rcases hd with rfl | rfl | rfl | rfl | rfl | rfl | rfl | rfl | rfl
    · change s1 - s0 ≤ 1 at e; show v - s1 ≤ 5; omega
    · change s1 - s0 ≤ 5 at e; show v - s1 ≤ 25; omega
    · change s1 - s0 ≤ 25 at e; show v - s1 ≤ 125; omega
    · change s1 - s0 ≤ 125 at e; show v - s1 ≤ 625; omega
    · change s1 - s0 ≤ 625 at e; show v - s1 ≤ 3125; omega
    · exact h2
    · exact h2
    · exact h2
    · exact h2
theorem okS_b {l s0 s1 : Int} (h : okS l s0 s1) (hl : 0 ≤ l ∧ l ≤ 9) : 0 ≤ s0 ∧ s0 ≤ 25749 := by
  obtain ⟨a, b, c, d, e⟩ := h
  refine ⟨a, ?_⟩
  have hd : l = 0 ∨ l = 1 ∨ l = 2 ∨ l = 3 ∨ l = 4 ∨ l = 5 ∨ l = 6 ∨ l = 7 ∨ l = 8 ∨ l = 9 := by omega
  rcases hd with rfl | rfl | rfl | rfl | rfl | rfl | rfl | rfl | rfl | rfl
  · change s0 ≤ 0 at d; omega
  · change s0 ≤ 1 at d; omega
  · change s0 ≤ 6 at d; omega
  · change s0 ≤ 31 at d; omega
  · change s0 ≤ 156 at d; omega
  · change s0 ≤ 781 at d; omega
  · change s0 ≤ 3906 at d; omega
  · change s0 ≤ 9367 at d; omega
  · change s0 ≤ 14828 at d; omega
  · change s0 ≤ 20289 at d; omega
noncomputable def SPI (w : zW) (p : Nat) (l : Int) : Prop := ∃ gs : Nat → Int32, zix w (p + 1) = some (.inl (1, 11, .inl gs)) ∧ okS l (gs l.toNat).toInt (gs (l + 1).toNat).toInt
theorem SPI_eq {w w1 : zW} {p : Nat} {l : Int} (e : zix w1 (p + 1) = zix w (p + 1)) (h : SPI w p l) : SPI w1 p l := by
  obtain ⟨g, a, b⟩ := h
  exact ⟨g, e.trans a, b⟩
theorem spi_b {w1 w2 : zW} {p : Nat} {g g2 : Nat → Int32} (ha : zix w1 (p + 1) = some (.inl (1, 11, .inl (upd g (0 : Int).toNat (Int32.ofInt 0))))) (hg : zix w1 (p + 1) = some (.inl (1, 11, .inl g2))) (hb : zix w2 (p + 1) = some (.inl (1, 11, .inl (upd g2 (1 : Int).toNat (Int32.ofInt 0))))) : SPI w2 p 0 := by
  rw [ha] at hg
  cases hg
  refine ⟨_, hb, ?_⟩
  have e1 : ∀ G : Nat → Int32, (upd (upd G (0 : Int).toNat (Int32.ofInt 0)) (1 : Int).toNat (Int32.ofInt 0) (0 : Int).toNat).toInt = 0 := fun G => by show (Int32.ofInt 0).toInt = 0; decide
  have e2 : ∀ G : Nat → Int32, (upd (upd G (0 : Int).toNat (Int32.ofInt 0)) (1 : Int).toNat (Int32.ofInt 0) ((0 : Int) + 1).toNat).toInt = 0 := fun G => by show (Int32.ofInt 0).toInt = 0; decide
  rw [e1, e2]
  exact ⟨by omega, by omega, by omega, Int.le_refl _, by decide⟩
theorem spi_c {w w2 : zW} {p : Nat} {g2 : Nat → Int32} (h : SPI w p 0) (hg : zix w (p + 1) = some (.inl (1, 11, .inl g2))) (hb : zix w2 (p + 1) = some (.inl (1, 11, .inl (upd g2 (1 : Int).toNat (Int32.ofInt 1))))) : SPI w2 p 0 := by
  obtain ⟨g, a, b, c, d, e, f⟩ := h
  rw [a] at hg
  cases hg
  refine ⟨_, hb, ?_⟩
  change (g2 0).toInt ≤ 0 at e
  change 0 ≤ (g2 0).toInt at b
  have e1 : (upd g2 (1 : Int).toNat (Int32.ofInt 1) (0 : Int).toNat) = g2 0 := rfl
  have e2 : (upd g2 (1 : Int).toNat (Int32.ofInt 1) ((0 : Int) + 1).toNat).toInt = 1 := by show (Int32.ofInt 1).toInt = 1; decide
  rw [e1, e2]
  refine ⟨by omega, by omega, by omega, ?_, ?_⟩
  · show (g2 0).toInt ≤ 0; omega
  · show 1 - (g2 0).toInt ≤ 1; omega
theorem spi_s {w w2 : zW} {p : Nat} {l v : Int} {gs g2 : Nat → Int32} (hl : 0 ≤ l ∧ l ≤ 8) (hB : zix w (p + 1) = some (.inl (1, 11, .inl gs))) (hS : okS l (gs l.toNat).toInt (gs (l + 1).toNat).toInt) (h1 : (gs (l + 1).toNat).toInt ≤ v ∧ v ≤ 25750 ∧ v - (gs (l + 1).toNat).toInt ≤ 5 * ((gs (l + 1).toNat).toInt - (gs l.toNat).toInt)) (h2 : v - (gs (l + 1).toNat).toInt ≤ 5461) (hg : zix w (p + 1) = some (.inl (1, 11, .inl g2))) (hs : zix w2 (p + 1) = some (.inl (1, 11, .inl (upd g2 (l + 2).toNat (Int32.ofInt v))))) : SPI w2 p (l + 1) := by
  rw [hB] at hg
  cases hg
  refine ⟨_, hs, ?_⟩
  have h3 := hS.1
  have h4 := hS.2.1
  rw [pk_un (by omega), show (l + 1 + 1).toNat = (l + 2).toNat by congr 1; omega, pk_us, zti (by omega) (by omega)]
  exact okS_s hS hl h1 h2
/-- the last level begins within the row -/
noncomputable def SPN (w : zW) (p : Nat) : Prop := ∃ (n : Int) (y : Value) (fs : List Value) (gs : Nat → Int32), zix w p = some (.inr (2, y :: .int (Int32.ofInt n) :: fs)) ∧ (0 ≤ n ∧ n ≤ 9) ∧ zix w (p + 1) = some (.inl (1, 11, .inl gs)) ∧ 0 ≤ (gs n.toNat).toInt ∧ (gs n.toNat).toInt ≤ 25749
theorem spn_of {w : zW} {p : Nat} {n l : Int} {y : Value} {fs : List Value} (hO : zix w p = some (.inr (2, y :: .int (Int32.ofInt n) :: fs))) (h : SPI w p l) (hn : 0 ≤ n ∧ n ≤ 9) (e : l = n) : SPN w p := by
  subst e
  obtain ⟨g, a, b⟩ := h
  exact ⟨l, y, fs, g, hO, hn, a, okS_b b hn⟩
theorem SPN_eq {w w1 : zW} {p : Nat} (e0 : zix w1 p = zix w p) (e1 : zix w1 (p + 1) = zix w (p + 1)) (h : SPN w p) : SPN w1 p := by
  obtain ⟨n, y, fs, g, a, b, c, d⟩ := h
  exact ⟨n, y, fs, g, e0.trans a, b, e1.trans c, d⟩
theorem spn_at {w : zW} {p : Nat} {x : Int} {y : Value} {fs : List Value} (h : SPN w p) (hO : zix w p = some (.inr (2, y :: .int (Int32.ofInt x) :: fs))) (hx : 0 ≤ x ∧ x ≤ 9) : ∃ gs : Nat → Int32, zix w (p + 1) = some (.inl (1, 11, .inl gs)) ∧ 0 ≤ (gs x.toNat).toInt ∧ (gs x.toNat).toInt ≤ 25749 := by
  obtain ⟨n, y2, fs2, g, a, b, c, d⟩ := h
  rw [hO] at a
  have e : Int32.ofInt x = Int32.ofInt n := by
    injection a with e1
    injection e1 with e2
    injection e2 with _ e3
    injection e3 with _ e4
    injection e4 with e5
    injection e5
  have e2 := (zeq_o ⟨by omega, by omega⟩ ⟨by omega, by omega⟩).mp e
  subst e2
  exact ⟨g, c, d⟩
theorem c_spread {ρ : Nat → Nat} {w : zW} (d : Nat) (p rd : Nat) (a1 a2 a3 : Int) (hw : CI ρ w) (hρp : ρ p = 70) (hρrd : ρ rd = 50) (hr0 : 0 ≤ a1 ∧ a1 ≤ 9) (hr1 : -2147483648 ≤ a2 ∧ a2 ≤ 2147483647) (hr2 : -2147483648 ≤ a3 ∧ a3 ≤ 2147483647) (Q : zQ) (h : ∀ (w' : zW), CI ρ w' → wfR [51, 70, 71, 73, 74, 76] ρ w w' → nn w' p → (SPN w' p) → Q (none) w') : zCl zTab (d + 6) iX2_spread [.ref p, .ref rd, .int (Int32.ofInt a1), .int (Int32.ofInt a2), .int (Int32.ofInt a3)] w 0 0 Q := by
  refine zCl_i (M := kX2_spread) rfl (Nat.le_of_ble_eq_true rfl) fun R hR => ?_
  have fr0 := wfR_rf [51, 70, 71, 73, 74, 76] ρ w
  iterate 2 refine hR (?_ : R (_, _, _, _, _, _))
  obtain ⟨y0_1, x1_1, x2_1, x3_1, hO1, hk1_0, hk1_1, hk1_2, hk1_3, hk1_4, hk1_5, hk1_6, hk1_7, hk1_8, hk1_9⟩ := CI_o70 hw hρp
  refine hR (c_put hO1 rfl rfl fun w2 f2 hO2 => ?_)
  have hw2 := CI_w70 hw hρp f2 (y0 := some rd) hO2 ⟨(fun z h => by cases h; exact hρrd), ⟨by omega, by omega⟩, ⟨by omega, by omega⟩, ⟨by omega, by omega⟩, hk1_4, hk1_5, hk1_6, hk1_7, hk1_8, hk1_9⟩
  have fr3 := wfR_st fr0 f2 (by rw [hρp]; decide)
  have hn4 := nn_of hO2
  iterate 2 refine hR (?_ : R (_, _, _, _, _, _))
  refine hR (c_put hO2 rfl rfl fun w5 f5 hO5 => ?_)
  have hw5 := CI_w70 hw2 hρp f5 (y0 := some rd) hO5 ⟨(fun z h => by cases h; exact hρrd), ⟨by omega, by omega⟩, ⟨by omega, by omega⟩, ⟨by omega, by omega⟩, hk1_4, hk1_5, hk1_6, hk1_7, hk1_8, hk1_9⟩
  have fr6 := wfR_st fr3 f5 (by rw [hρp]; decide)
  have hn7 := nn_of hO5
  iterate 2 refine hR (?_ : R (_, _, _, _, _, _))
  refine hR (c_put hO5 rfl rfl fun w8 f8 hO8 => ?_)
  have hw8 := CI_w70 hw5 hρp f8 (y0 := some rd) hO8 ⟨(fun z h => by cases h; exact hρrd), ⟨by omega, by omega⟩, ⟨by omega, by omega⟩, ⟨by omega, by omega⟩, hk1_4, hk1_5, hk1_6, hk1_7, hk1_8, hk1_9⟩
  have fr9 := wfR_st fr6 f8 (by rw [hρp]; decide)
  have hn10 := nn_of hO8
  iterate 2 refine hR (?_ : R (_, _, _, _, _, _))
  refine hR (c_put hO8 rfl rfl fun w11 f11 hO11 => ?_)
  have hw11 := CI_w70 hw8 hρp f11 (y0 := some rd) hO11 ⟨(fun z h => by cases h; exact hρrd), ⟨by omega, by omega⟩, ⟨by omega, by omega⟩, ⟨by omega, by omega⟩, hk1_4, hk1_5, hk1_6, hk1_7, hk1_8, hk1_9⟩
  have fr12 := wfR_st fr9 f11 (by rw [hρp]; decide)
  have hn13 := nn_of hO11
  refine hR (?_ : R (_, _, _, _, _, _))
  refine hR (c_get hO11 rfl ?_)
  iterate 2 refine hR (?_ : R (_, _, _, _, _, _))
  obtain ⟨ge15, hge15, hBe15⟩ := CI_ar hw11 (q := p + 1) (by rw [hk1_4]; rfl)
  refine hR (c_astE hw11 hge15 hBe15 (by rw [hk1_4]; rfl) ⟨by rw [hk1_4]; decide, by rw [hk1_4]; decide⟩ (by omega) (by omega) (by omega) (by omega) (Nat.le_of_ble_eq_true rfl) fun w14 hw14 f14 hs14 hb14 => ?_)
  have fr16 := wfR_st fr12 f14 (by rw [hk1_4]; decide)
  have hn17 := nn_eq (f14.2 p (rne hρp hk1_4 (by decide))) hn13
  have hO18 := (f14.2 p (rne hρp hk1_4 (by decide))).trans hO11
  refine hR (?_ : R (_, _, _, _, _, _))
  refine hR (c_get hO18 rfl ?_)
  iterate 2 refine hR (?_ : R (_, _, _, _, _, _))
  obtain ⟨ge20, hge20, hBe20⟩ := CI_ar hw14 (q := p + 1) (by rw [hk1_4]; rfl)
  refine hR (c_astE hw14 hge20 hBe20 (by rw [hk1_4]; rfl) ⟨by rw [hk1_4]; decide, by rw [hk1_4]; decide⟩ (by omega) (by omega) (by omega) (by omega) (Nat.le_of_ble_eq_true rfl) fun w19 hw19 f19 hs19 hb19 => ?_)
  have fr21 := wfR_st fr16 f19 (by rw [hk1_4]; decide)
  have hn22 := nn_eq (f19.2 p (rne hρp hk1_4 (by decide))) hn17
  have hO23 := (f19.2 p (rne hρp hk1_4 (by decide))).trans hO18
  have S24 := spi_b hs14 hge20 hs19
  iterate 3 refine hR (?_ : R (_, _, _, _, _, _))
  obtain ⟨z0_25, z2_25, z3_25, hO25, hk25_0, hk25_1, hk25_2, hk25_3, hk25_4⟩ := CI_o50 hw19 hρrd
  refine hR (c_get hO25 rfl ?_)
  obtain ⟨x0_26, x1_26, x2_26, hO26, hk26_0, hk26_1, hk26_2, hk26_3, hk26_4, hk26_5, hk26_6⟩ := CI_o20 hw19 hk25_0
  refine hR (c_get hO26 rfl ?_)
  refine hR (c_obj hO23 (zcall_i 0 0 (Nat.le_of_ble_eq_true rfl) (Nat.le_of_ble_eq_true rfl) (c_isWanted _ p 0 x0_26 hw19 hρp (by omega) (by omega) _ fun v27 hp29 => ?_)))
  refine (?_ : R (_, _, (.int (Int32.ofInt v27)) :: [], w19, 0, 0))
  refine hR (k_eq (by omega) (fun hc30 => ?_) (fun hc30 => ?_))
  · skip
    iterate 2 refine hR (?_ : R (_, _, _, _, _, _))
    have lp80 : ∀ (N : Nat) (l : Int) (w_80 : zW), (CI ρ w_80) → (wfR [51, 70, 71, 73, 74, 76] ρ w w_80) → (zix w_80 p = some (.inr (2, [.ref rd, .int (Int32.ofInt a1), .int (Int32.ofInt a2), .int (Int32.ofInt a3), .ref (p + 1), .ref (p + 2), .ref (p + 3), .ref (p + 4), .ref (p + 5), .ref (p + 6)]))) → (zix w_80 rd = some (.inr (3, [.ref z0_25, .ref (rd + 1), .ref z2_25, .ref z3_25]))) → (zix w_80 z0_25 = some (.inr (0, [.int (Int32.ofInt x0_26), .int (Int32.ofInt x1_26), .int (Int32.ofInt x2_26), .ref (z0_25 + 1), .ref (z0_25 + 2), .ref (z0_25 + 3), .ref (z0_25 + 4)]))) → (nn w_80 p) → (0 ≤ l ∧ l ≤ 9) → (l ≤ a1) → (SPI w_80 p l) → (10 - l < N) → R (80, [some (.ref p), some (.ref rd), some (.int (Int32.ofInt a1)), some (.int (Int32.ofInt a2)), some (.int (Int32.ofInt a3)), some (.int (Int32.ofInt l))], [], w_80, 0, 0) := by
      intro N
      induction N with
      | zero => intros; omega
      | succ N ih80 =>
        intro l w_80 hw_80 fr_80 hOp_80 hOrd_80 hOz0_25_80 hnp_80 hf0_80 hp0_80 hp1_80 hN80
        iterate 2 refine hR (?_ : R (_, _, _, _, _, _))
        refine hR (c_get hOp_80 rfl ?_)
        refine hR (j_ge (by omega) (by omega) (fun hc31 => ?_) (fun hc31 => ?_))
        · skip
          exact hR (zret_i rfl (Nat.le_refl _) rfl (h _ hw_80 fr_80 hnp_80 (spn_of hOp_80 hp1_80 (by omega) (by omega))))
        refine hR (?_ : R (_, _, _, _, _, _))
        refine hR (c_get hOp_80 rfl ?_)
        iterate 2 refine hR (?_ : R (_, _, _, _, _, _))
        refine hR (t_add ?_)
        iterate 2 refine hR (?_ : R (_, _, _, _, _, _))
        obtain ⟨gs, hS1, hS2⟩ := hp1_80
        refine hR (c_obj hOp_80 (zcall_i 0 0 (Nat.le_of_ble_eq_true rfl) (Nat.le_of_ble_eq_true rfl) (c_fillBehind _ p l _ _ gs hw_80 hρp hnp_80 (by omega) hS1 rfl rfl ⟨hS2.1, hS2.2.1, hS2.2.2.1⟩ _ fun v32 w33 hw33 g33 hp34 hp35 => ?_)))
        have fr36 := wfR_tr fr_80 g33 (by decide)
        have hn37 := nn_eq (g33.2 p (by rw [hρp]; decide)) hnp_80
        have hO38 := (g33.2 p (by rw [hρp]; decide)).trans hOp_80
        have hO39 := (g33.2 rd (by rw [hρrd]; decide)).trans hOrd_80
        have hO40 := (g33.2 z0_25 (by rw [hk25_0]; decide)).trans hOz0_25_80
        refine (?_ : R (_, _, (.int (Int32.ofInt v32)) :: (.int (Int32.ofInt (l + 2))) :: (.ref (p + 1)) :: [], w33, 0, 0))
        have hS3 := (g33.2 (p + 1) (by rw [hk1_4]; decide)).trans hS1
        have hS4 := hS2.1
        have hS5 := hS2.2.1
        obtain ⟨ge42, hge42, hBe42⟩ := CI_ar hw33 (q := p + 1) (by rw [hk1_4]; rfl)
        refine hR (c_astE hw33 hge42 hBe42 (by rw [hk1_4]; rfl) ⟨by rw [hk1_4]; decide, by rw [hk1_4]; decide⟩ (by omega) (by omega) (by omega) (by omega) (Nat.le_of_ble_eq_true rfl) fun w41 hw41 f41 hs41 hb41 => ?_)
        have fr43 := wfR_st fr36 f41 (by rw [hk1_4]; decide)
        have hn44 := nn_eq (f41.2 p (rne hρp hk1_4 (by decide))) hn37
        have hO45 := (f41.2 p (rne hρp hk1_4 (by decide))).trans hO38
        have hO46 := (f41.2 rd (rne hρrd hk1_4 (by decide))).trans hO39
        have hO47 := (f41.2 z0_25 (rne hk25_0 hk1_4 (by decide))).trans hO40
        have S48 := spi_s (by omega) hS3 hS2 hp34 hp35 hge42 hs41
        iterate 3 refine hR (?_ : R (_, _, _, _, _, _))
        refine hR (t_add ?_)
        refine hR (c_obj hO45 (zcall_i 0 0 (Nat.le_of_ble_eq_true rfl) (Nat.le_of_ble_eq_true rfl) (c_forget _ p (l + 1) hw41 hρp (by omega) _ fun w49 hw49 g49 => ?_)))
        have fr50 := wfR_tr fr43 g49 (by decide)
        have hn51 := nn_eq (g49.2 p (by rw [hρp]; decide)) hn44
        have hO52 := (g49.2 p (by rw [hρp]; decide)).trans hO45
        have hO53 := (g49.2 rd (by rw [hρrd]; decide)).trans hO46
        have hO54 := (g49.2 z0_25 (by rw [hk25_0]; decide)).trans hO47
        refine (?_ : R (_, _, [], w49, 0, 0))
        have S55 := SPI_eq (g49.2 (p + 1) (by rw [hk1_4]; decide)) S48
        refine hR (t_inc ?_)
        refine hR (?_ : R (_, _, _, _, _, _))
        exact ih80 _ _ hw49 fr50 hO52 hO53 hO54 hn51 (by omega) (by omega) S55 (by omega)
    exact lp80 400000000 _ _ hw19 fr21 hO23 hO25 hO26 hn22 (by omega) (by omega) S24 (by omega)
  refine hR (?_ : R (_, _, _, _, _, _))
  refine hR (c_get hO23 rfl ?_)
  iterate 2 refine hR (?_ : R (_, _, _, _, _, _))
  refine hR (c_get hO25 rfl ?_)
  refine hR (c_get hO26 rfl ?_)
  refine hR (c_ast hw19 (by rw [hk1_6]; rfl) ⟨by rw [hk1_6]; decide, by rw [hk1_6]; decide⟩ (by omega) (by omega) (by omega) (by omega) (by omega) (by omega) (Nat.le_of_ble_eq_true rfl) fun w56 hw56 f56 => ?_)
  have fr57 := wfR_st fr21 f56 (by rw [hk1_6]; decide)
  have hn58 := nn_eq (f56.2 p (rne hρp hk1_6 (by decide))) hn22
  have hO59 := (f56.2 p (rne hρp hk1_6 (by decide))).trans hO23
  have hO60 := (f56.2 rd (rne hρrd hk1_6 (by decide))).trans hO25
  have hO61 := (f56.2 z0_25 (rne hk25_0 hk1_6 (by decide))).trans hO26
  have S62 := SPI_eq (f56.2 (p + 1) (by omega)) S24
  refine hR (?_ : R (_, _, _, _, _, _))
  refine hR (c_get hO59 rfl ?_)
  iterate 2 refine hR (?_ : R (_, _, _, _, _, _))
  refine hR (c_astx hw56 (by rw [hk1_7]; rfl) ⟨by rw [hk1_7]; decide, by rw [hk1_7]; decide⟩ (by omega) (by omega) (Nat.le_of_ble_eq_true rfl) fun w63 hw63 f63 => ?_)
  have fr64 := wfR_st fr57 f63 (by rw [hk1_7]; decide)
  have hn65 := nn_eq (f63.2 p (rne hρp hk1_7 (by decide))) hn58
  have hO66 := (f63.2 p (rne hρp hk1_7 (by decide))).trans hO59
  have hO67 := (f63.2 rd (rne hρrd hk1_7 (by decide))).trans hO60
  have hO68 := (f63.2 z0_25 (rne hk25_0 hk1_7 (by decide))).trans hO61
  have S69 := SPI_eq (f63.2 (p + 1) (by omega)) S62
  refine hR (?_ : R (_, _, _, _, _, _))
  refine hR (c_get hO66 rfl ?_)
  iterate 2 refine hR (?_ : R (_, _, _, _, _, _))
  obtain ⟨ge71, hge71, hBe71⟩ := CI_ar hw63 (q := p + 1) (by rw [hk1_4]; rfl)
  refine hR (c_astE hw63 hge71 hBe71 (by rw [hk1_4]; rfl) ⟨by rw [hk1_4]; decide, by rw [hk1_4]; decide⟩ (by omega) (by omega) (by omega) (by omega) (Nat.le_of_ble_eq_true rfl) fun w70 hw70 f70 hs70 hb70 => ?_)
  have fr72 := wfR_st fr64 f70 (by rw [hk1_4]; decide)
  have hn73 := nn_eq (f70.2 p (rne hρp hk1_4 (by decide))) hn65
  have hO74 := (f70.2 p (rne hρp hk1_4 (by decide))).trans hO66
  have hO75 := (f70.2 rd (rne hρrd hk1_4 (by decide))).trans hO67
  have hO76 := (f70.2 z0_25 (rne hk25_0 hk1_4 (by decide))).trans hO68
  have S77 := spi_c S69 hge71 hs70
  iterate 2 refine hR (?_ : R (_, _, _, _, _, _))
  have lp80 : ∀ (N : Nat) (l : Int) (w_80 : zW), (CI ρ w_80) → (wfR [51, 70, 71, 73, 74, 76] ρ w w_80) → (zix w_80 p = some (.inr (2, [.ref rd, .int (Int32.ofInt a1), .int (Int32.ofInt a2), .int (Int32.ofInt a3), .ref (p + 1), .ref (p + 2), .ref (p + 3), .ref (p + 4), .ref (p + 5), .ref (p + 6)]))) → (zix w_80 rd = some (.inr (3, [.ref z0_25, .ref (rd + 1), .ref z2_25, .ref z3_25]))) → (zix w_80 z0_25 = some (.inr (0, [.int (Int32.ofInt x0_26), .int (Int32.ofInt x1_26), .int (Int32.ofInt x2_26), .ref (z0_25 + 1), .ref (z0_25 + 2), .ref (z0_25 + 3), .ref (z0_25 + 4)]))) → (nn w_80 p) → (0 ≤ l ∧ l ≤ 9) → (l ≤ a1) → (SPI w_80 p l) → (10 - l < N) → R (80, [some (.ref p), some (.ref rd), some (.int (Int32.ofInt a1)), some (.int (Int32.ofInt a2)), some (.int (Int32.ofInt a3)), some (.int (Int32.ofInt l))], [], w_80, 0, 0) := by
    intro N
    induction N with
    | zero => intros; omega
    | succ N ih80 =>
      intro l w_80 hw_80 fr_80 hOp_80 hOrd_80 hOz0_25_80 hnp_80 hf0_80 hp0_80 hp1_80 hN80
      iterate 2 refine hR (?_ : R (_, _, _, _, _, _))
      refine hR (c_get hOp_80 rfl ?_)
      refine hR (j_ge (by omega) (by omega) (fun hc78 => ?_) (fun hc78 => ?_))
      · skip
        exact hR (zret_i rfl (Nat.le_refl _) rfl (h _ hw_80 fr_80 hnp_80 (spn_of hOp_80 hp1_80 (by omega) (by omega))))
      refine hR (?_ : R (_, _, _, _, _, _))
      refine hR (c_get hOp_80 rfl ?_)
      iterate 2 refine hR (?_ : R (_, _, _, _, _, _))
      refine hR (t_add ?_)
      iterate 2 refine hR (?_ : R (_, _, _, _, _, _))
      obtain ⟨gs, hS1, hS2⟩ := hp1_80
      refine hR (c_obj hOp_80 (zcall_i 0 0 (Nat.le_of_ble_eq_true rfl) (Nat.le_of_ble_eq_true rfl) (c_fillBehind _ p l _ _ gs hw_80 hρp hnp_80 (by omega) hS1 rfl rfl ⟨hS2.1, hS2.2.1, hS2.2.2.1⟩ _ fun v79 w80 hw80 g80 hp81 hp82 => ?_)))
      have fr83 := wfR_tr fr_80 g80 (by decide)
      have hn84 := nn_eq (g80.2 p (by rw [hρp]; decide)) hnp_80
      have hO85 := (g80.2 p (by rw [hρp]; decide)).trans hOp_80
      have hO86 := (g80.2 rd (by rw [hρrd]; decide)).trans hOrd_80
      have hO87 := (g80.2 z0_25 (by rw [hk25_0]; decide)).trans hOz0_25_80
      refine (?_ : R (_, _, (.int (Int32.ofInt v79)) :: (.int (Int32.ofInt (l + 2))) :: (.ref (p + 1)) :: [], w80, 0, 0))
      have hS3 := (g80.2 (p + 1) (by rw [hk1_4]; decide)).trans hS1
      have hS4 := hS2.1
      have hS5 := hS2.2.1
      obtain ⟨ge89, hge89, hBe89⟩ := CI_ar hw80 (q := p + 1) (by rw [hk1_4]; rfl)
      refine hR (c_astE hw80 hge89 hBe89 (by rw [hk1_4]; rfl) ⟨by rw [hk1_4]; decide, by rw [hk1_4]; decide⟩ (by omega) (by omega) (by omega) (by omega) (Nat.le_of_ble_eq_true rfl) fun w88 hw88 f88 hs88 hb88 => ?_)
      have fr90 := wfR_st fr83 f88 (by rw [hk1_4]; decide)
      have hn91 := nn_eq (f88.2 p (rne hρp hk1_4 (by decide))) hn84
      have hO92 := (f88.2 p (rne hρp hk1_4 (by decide))).trans hO85
      have hO93 := (f88.2 rd (rne hρrd hk1_4 (by decide))).trans hO86
      have hO94 := (f88.2 z0_25 (rne hk25_0 hk1_4 (by decide))).trans hO87
      have S95 := spi_s (by omega) hS3 hS2 hp81 hp82 hge89 hs88
      iterate 3 refine hR (?_ : R (_, _, _, _, _, _))
      refine hR (t_add ?_)
      refine hR (c_obj hO92 (zcall_i 0 0 (Nat.le_of_ble_eq_true rfl) (Nat.le_of_ble_eq_true rfl) (c_forget _ p (l + 1) hw88 hρp (by omega) _ fun w96 hw96 g96 => ?_)))
      have fr97 := wfR_tr fr90 g96 (by decide)
      have hn98 := nn_eq (g96.2 p (by rw [hρp]; decide)) hn91
      have hO99 := (g96.2 p (by rw [hρp]; decide)).trans hO92
      have hO100 := (g96.2 rd (by rw [hρrd]; decide)).trans hO93
      have hO101 := (g96.2 z0_25 (by rw [hk25_0]; decide)).trans hO94
      refine (?_ : R (_, _, [], w96, 0, 0))
      have S102 := SPI_eq (g96.2 (p + 1) (by rw [hk1_4]; decide)) S95
      refine hR (t_inc ?_)
      refine hR (?_ : R (_, _, _, _, _, _))
      exact ih80 _ _ hw96 fr97 hO99 hO100 hO101 hn98 (by omega) (by omega) S102 (by omega)
  exact lp80 400000000 _ _ hw70 fr72 hO74 hO75 hO76 hn73 (by omega) (by omega) S77 (by omega)
theorem c_bestEnd {ρ : Nat → Nat} {w : zW} (d : Nat) (p : Nat) (a1 : Int) (hw : CI ρ w) (hρp : ρ p = 70) (hr0 : SPN w p) (hr1 : 0 ≤ a1 ∧ a1 ≤ 1) (Q : zQ) (h : ∀ (v : Int), (-2147483648 ≤ v ∧ v ≤ 2147483647) → Q (some (.int (Int32.ofInt v))) w) : zCl zTab (d + 2) iX2_bestEnd [.ref p, .int (Int32.ofInt a1)] w 0 0 Q := by
  refine zCl_i (M := kX2_bestEnd) rfl (Nat.le_of_ble_eq_true rfl) fun R hR => ?_
  have fr0 := wfR_rf [] ρ w
  refine hR (?_ : R (_, _, _, _, _, _))
  obtain ⟨y0_1, x1_1, x2_1, x3_1, hO1, hk1_0, hk1_1, hk1_2, hk1_3, hk1_4, hk1_5, hk1_6, hk1_7, hk1_8, hk1_9⟩ := CI_o70 hw hρp
  refine hR (c_get hO1 rfl ?_)
  refine hR (?_ : R (_, _, _, _, _, _))
  refine hR (c_get hO1 rfl ?_)
  refine hR (?_ : R (_, _, _, _, _, _))
  refine hR (c_get hO1 rfl ?_)
  obtain ⟨gse3, hSe3, hTe3⟩ := spn_at hr0 hO1 (by omega)
  refine hR (c_aldE hSe3 (by omega) (by omega) (Nat.le_of_ble_eq_true rfl) fun v2 e3 rv2 => ?_)
  rw [← e3] at hTe3
  refine hR (c_ald hw (by rw [hk1_8]; rfl) (by omega) (by omega) (Nat.le_of_ble_eq_true rfl) fun v4 lv4 uv4 => ?_)
  iterate 2 refine hR (?_ : R (_, _, _, _, _, _))
  refine hR (c_get hO1 rfl ?_)
  refine hR (?_ : R (_, _, _, _, _, _))
  refine hR (c_get hO1 rfl ?_)
  obtain ⟨gse6, hSe6, hTe6⟩ := spn_at hr0 hO1 (by omega)
  refine hR (c_aldE hSe6 (by omega) (by omega) (Nat.le_of_ble_eq_true rfl) fun v5 e6 rv5 => ?_)
  rw [← e6] at hTe6
  refine hR (?_ : R (_, _, _, _, _, _))
  refine hR (t_add ?_)
  refine hR (?_ : R (_, _, _, _, _, _))
  have lp27 : ∀ (N : Nat) (be : Int) (x : Int), (-2147483648 ≤ be ∧ be ≤ 2147483647) → (0 ≤ x ∧ x ≤ 25750) → (25751 - x < N) → R (27, [some (.ref p), some (.int (Int32.ofInt a1)), some (.int (Int32.ofInt be)), some (.int (Int32.ofInt x))], [], w, 0, 0) := by
    intro N
    induction N with
    | zero => intros; omega
    | succ N ih27 =>
      intro be x hf0_27 hf1_27 hN27
      iterate 2 refine hR (?_ : R (_, _, _, _, _, _))
      refine hR (c_get hO1 rfl ?_)
      refine hR (?_ : R (_, _, _, _, _, _))
      refine hR (c_get hO1 rfl ?_)
      refine hR (?_ : R (_, _, _, _, _, _))
      refine hR (t_add ?_)
      refine hR (c_ald hw (by rw [hk1_4]; rfl) (by omega) (by omega) (Nat.le_of_ble_eq_true rfl) fun v7 lv7 uv7 => ?_)
      refine hR (j_ge (by omega) (by omega) (fun hc8 => ?_) (fun hc8 => ?_))
      · skip
        refine hR (?_ : R (_, _, _, _, _, _))
        exact hR (zret_i rfl (Nat.le_refl _) trivial (h _ (by omega)))
      refine hR (?_ : R (_, _, _, _, _, _))
      refine hR (k_eq (by omega) (fun hc9 => ?_) (fun hc9 => ?_))
      · skip
        iterate 2 refine hR (?_ : R (_, _, _, _, _, _))
        refine hR (c_get hO1 rfl ?_)
        refine hR (?_ : R (_, _, _, _, _, _))
        refine hR (c_ald hw (by rw [hk1_8]; rfl) (by omega) (by omega) (Nat.le_of_ble_eq_true rfl) fun v10 lv10 uv10 => ?_)
        refine hR (t_o fun v11 rv11 => ?_)
        refine hR (?_ : R (_, _, _, _, _, _))
        refine hR (t_inc ?_)
        refine hR (?_ : R (_, _, _, _, _, _))
        exact ih27 _ _ (by omega) (by omega) (by omega)
      iterate 2 refine hR (?_ : R (_, _, _, _, _, _))
      refine hR (c_get hO1 rfl ?_)
      refine hR (?_ : R (_, _, _, _, _, _))
      refine hR (c_ald hw (by rw [hk1_8]; rfl) (by omega) (by omega) (Nat.le_of_ble_eq_true rfl) fun v12 lv12 uv12 => ?_)
      refine hR (t_o fun v13 rv13 => ?_)
      iterate 2 refine hR (?_ : R (_, _, _, _, _, _))
      refine hR (t_inc ?_)
      refine hR (?_ : R (_, _, _, _, _, _))
      exact ih27 _ _ (by omega) (by omega) (by omega)
  exact lp27 400000000 _ _ (by omega) (by omega) (by omega)
/-! CIRCLES: what is found, what is open, the way. -/
noncomputable def TI (fo op de : Int) (gO gP gW : Nat → Int32) : Prop := 0 ≤ de ∧ 0 ≤ op ∧ op ≤ fo ∧ (∃ ls : Nat → Nat, ∀ i : Nat, (i : Int) < fo → ls i < 5461 ∧ (gO (ls i)).toInt = i) ∧ ∃ pos : Nat → Nat, (∀ i j : Nat, i < j → (j : Int) < de → pos i < pos j) ∧ ∀ i : Nat, (i : Int) < de → ((pos i : Nat) : Int) < op ∧ gP (pos i) = gW i
theorem ti_de {fo op de : Int} {gO gP gW : Nat → Int32} (h : TI fo op de gO gP gW) : de ≤ op := by
  obtain ⟨h0, h1, h2, _, pos, h4, h5⟩ := h
  have := pg_hole op.toNat de.toNat pos (fun i hi => by have := (h5 i (by omega)).1; omega) (fun i j hi hj e => by
    by_cases c : i < j
    · have := h4 i j c (by omega); omega
    · by_cases c2 : j < i
      · have := h4 j i c2 (by omega); omega
      · omega)
  omega
theorem ti_lt {fo op de : Int} {gO gP gW : Nat → Int32} (h : TI fo op de gO gP gW) {a : Nat} (ha : a < 5461) (hn : (gO a).toInt = -1) : fo < 5461 := by
  obtain ⟨h0, h1, h2, ⟨ls, h3⟩, _⟩ := h
  have := pg_hole 5461 (fo.toNat + 1) (fun i => if i < fo.toNat then ls i else a) (fun i hi => by
    split
    · exact (h3 i (by omega)).1
    · exact ha) (fun i j hi hj e => by
    split at e <;> split at e
    · have e1 := (h3 i (by omega)).2
      have e2 := (h3 j (by omega)).2
      rw [e] at e1
      omega
    · have e1 := (h3 i (by omega)).2
      rw [e] at e1
      omega
    · have e1 := (h3 j (by omega)).2
      rw [← e] at e1
      omega
    · omega)
  omega
theorem ti_enter {fo op de : Int} {gO gP gW : Nat → Int32} (h : TI fo op de gO gP gW) {a : Int} (ha : 0 ≤ a ∧ a ≤ 5460) (hn : (gO a.toNat).toInt = -1) : TI (fo + 1) (op + 1) (de + 1) (upd gO a.toNat (Int32.ofInt fo)) (upd gP op.toNat (Int32.ofInt a)) (upd gW de.toNat (Int32.ofInt a)) := by
  have hl := ti_lt h (a := a.toNat) (by omega) hn
  obtain ⟨h0, h1, h2, ⟨ls, h3⟩, pos, h4, h5⟩ := h
  refine ⟨by omega, by omega, by omega, ⟨fun i => if i < fo.toNat then ls i else a.toNat, fun i hi => ?_⟩, fun i => if i < de.toNat then pos i else op.toNat, fun i j hij hj => ?_, fun i hi => ?_⟩
  · dsimp only
    by_cases c : i < fo.toNat
    · rw [if_pos c]
      obtain ⟨b1, b2⟩ := h3 i (by omega)
      refine ⟨b1, ?_⟩
      rw [pk_un (fun e => by rw [e] at b2; omega)]
      exact b2
    · rw [if_neg c]
      refine ⟨by omega, ?_⟩
      rw [pk_us, zti (by omega) (by omega)]
      omega
  · dsimp only
    by_cases c : j < de.toNat
    · rw [if_pos (by omega), if_pos c]
      exact h4 i j hij (by omega)
    · rw [if_pos (by omega), if_neg c]
      have := (h5 i (by omega)).1
      omega
  · dsimp only
    by_cases c : i < de.toNat
    · rw [if_pos c]
      obtain ⟨b1, b2⟩ := h5 i (by omega)
      refine ⟨by omega, ?_⟩
      rw [pk_un (by omega), pk_un (by omega)]
      exact b2
    · rw [if_neg c]
      have e : i = de.toNat := by omega
      subst e
      refine ⟨by omega, ?_⟩
      rw [pk_us, pk_us]
/-- the way's last TEXT is left; what lies above its place is closed -/
theorem ti_leave {fo op de bo : Int} {gO gP gW : Nat → Int32} (h : TI fo op de gO gP gW) (hd : 1 ≤ de) (hb : 0 ≤ bo ∧ bo ≤ op) (hq : ∀ j : Nat, (j : Int) < op → gP j = gW (de - 1).toNat → (j : Int) ≤ bo) : TI fo bo (de - 1) gO gP gW := by
  obtain ⟨h0, h1, h2, h3, pos, h4, h5⟩ := h
  refine ⟨by omega, by omega, by omega, h3, pos, fun i j hij hj => h4 i j hij (by omega), fun i hi => ?_⟩
  obtain ⟨b1, b2⟩ := h5 i (by omega)
  refine ⟨?_, b2⟩
  obtain ⟨c1, c2⟩ := h5 (de - 1).toNat (by omega)
  have := hq _ c1 c2
  have := h4 i (de - 1).toNat (by omega) (by omega)
  omega
theorem ti_up {fo op de : Int} {gO gP gW : Nat → Int32} (h : TI fo op de gO gP gW) (hd : 1 ≤ de) : TI fo op (de - 1) gO gP gW := by
  obtain ⟨h0, h1, h2, h3, pos, h4, h5⟩ := h
  exact ⟨by omega, h1, h2, h3, pos, fun i j hij hj => h4 i j hij (by omega), fun i hi => h5 i (by omega)⟩
noncomputable def rgO (p : Nat) (ci la fo op de : Int) : va_E := .inr (4, [.ref (p + 1), .int (Int32.ofInt ci), .int (Int32.ofInt la), .int (Int32.ofInt fo), .int (Int32.ofInt op), .int (Int32.ofInt de), .ref (p + 2), .ref (p + 3), .ref (p + 4), .ref (p + 5), .ref (p + 6), .ref (p + 7), .ref (p + 8), .ref (p + 9), .ref (p + 10)])
noncomputable def TJ (w : zW) (p : Nat) (fo op de : Int) (gO gP gW : Nat → Int32) : Prop := (∃ ci la : Int, ((-2147483648 ≤ ci ∧ ci ≤ 2147483647) ∧ (-2147483648 ≤ la ∧ la ≤ 2147483647)) ∧ zix w p = some (rgO p ci la fo op de)) ∧ fo ≤ 5461 ∧ zix w (p + 7) = some (.inl (1, 5461, .inl gO)) ∧ zix w (p + 6) = some (.inl (1, 5461, .inl gP)) ∧ zix w (p + 5) = some (.inl (1, 5461, .inl gW)) ∧ TI fo op de gO gP gW
theorem c_enter {ρ : Nat → Nat} {w : zW} (d p : Nat) (a1 : Int) (fo op de : Int) (gO gP gW : Nat → Int32) (hw : CI ρ w) (hρp : ρ p = 80) (hr0 : 0 ≤ a1 ∧ a1 ≤ 5460) (hr1 : TJ w p fo op de gO gP gW) (hr2 : (gO a1.toNat).toInt = -1) (Q : zQ) (h : ∀ (w' : zW), CI ρ w' → wfR [80, 85, 86, 87, 88, 89] ρ w w' → TJ w' p (fo + 1) (op + 1) (de + 1) (upd gO a1.toNat (Int32.ofInt fo)) (upd gP op.toNat (Int32.ofInt a1)) (upd gW de.toNat (Int32.ofInt a1)) → Q none w') : zCl zTab (d + 1) iX5_enter [.ref p, .int (Int32.ofInt a1)] w 0 0 Q := by
  obtain ⟨⟨ci, la, ⟨hci, hla⟩, kO⟩, hfo, kOr, kP, kW, hT⟩ := hr1
  unfold rgO at kO
  have hlt := ti_lt hT (a := a1.toNat) (by omega) hr2
  have hde := ti_de hT
  have hE := ti_enter hT hr0 hr2
  have b0 := hT.1
  have b1 := hT.2.1
  have b2 := hT.2.2.1
  obtain ⟨_, _, _, _, _, _, e81, _, _, _, _, _, e82, e83, e84, e85, e86, e87, e88, e89, e90⟩ := CI_o80 hw hρp
  obtain ⟨g, k, bO⟩ := CI_ar hw (q := p + 7) (by rw [e87]; rfl)
  rw [kOr] at k
  cases k
  obtain ⟨g, k, bP⟩ := CI_ar hw (q := p + 6) (by rw [e86]; rfl)
  rw [kP] at k
  cases k
  obtain ⟨g, k, bW⟩ := CI_ar hw (q := p + 5) (by rw [e85]; rfl)
  rw [kW] at k
  cases k
  refine zCl_i (M := kX5_enter) rfl (Nat.le_of_ble_eq_true rfl) fun R hR => ?_
  refine hR (?_ : R (_, _, _, _, _, _))
  refine hR (c_get kO rfl ?_)
  iterate 2 refine hR (?_ : R (_, _, _, _, _, _))
  refine hR (c_get kO rfl ?_)
  refine hR (c_astE hw kOr bO (by rw [e87]; rfl) ⟨by rw [e87]; decide, by rw [e87]; decide⟩ (by omega) (by omega) (by omega) (by omega) (by omega) fun w1 hw1 f1 k1 _ => ?_)
  have o1 := (f1.2 p (by omega)).trans kO
  refine hR (?_ : R (_, _, _, _, _, _))
  refine hR (c_get o1 rfl ?_)
  iterate 2 refine hR (?_ : R (_, _, _, _, _, _))
  refine hR (c_get o1 rfl ?_)
  refine hR (c_astx hw1 (by rw [e88]; rfl) ⟨by rw [e88]; decide, by rw [e88]; decide⟩ (by omega) (by omega) (by omega) fun w2 hw2 f2 => ?_)
  have o2 := (f2.2 p (by omega)).trans o1
  refine hR (?_ : R (_, _, _, _, _, _))
  refine hR (c_get o2 rfl ?_)
  iterate 2 refine hR (?_ : R (_, _, _, _, _, _))
  refine hR (c_ast hw2 (by rw [e89]; rfl) ⟨by rw [e89]; decide, by rw [e89]; decide⟩ (by omega) (by omega) (by omega) (by omega) (by omega) (by omega) (by omega) fun w3 hw3 f3 => ?_)
  have o3 := (f3.2 p (by omega)).trans o2
  iterate 2 refine hR (?_ : R (_, _, _, _, _, _))
  refine hR (c_get o3 rfl ?_)
  refine hR (?_ : R (_, _, _, _, _, _))
  refine hR (t_add ?_)
  refine hR (c_put o3 rfl rfl fun w4 f4 o4 => ?_)
  have hw4 := CI_w80 hw3 hρp f4 o4 ⟨e81, ⟨by omega, by omega⟩, ⟨by omega, by omega⟩, ⟨by omega, by omega⟩, ⟨by omega, by omega⟩, ⟨by omega, by omega⟩, e82, e83, e84, e85, e86, e87, e88, e89, e90⟩
  have kP4 := (f4.2 (p + 6) (by omega)).trans ((f3.2 (p + 6) (by omega)).trans ((f2.2 (p + 6) (by omega)).trans ((f1.2 (p + 6) (by omega)).trans kP)))
  refine hR (?_ : R (_, _, _, _, _, _))
  refine hR (c_get o4 rfl ?_)
  refine hR (?_ : R (_, _, _, _, _, _))
  refine hR (c_get o4 rfl ?_)
  refine hR (?_ : R (_, _, _, _, _, _))
  refine hR (c_astE hw4 kP4 bP (by rw [e86]; rfl) ⟨by rw [e86]; decide, by rw [e86]; decide⟩ (by omega) (by omega) (by omega) (by omega) (by omega) fun w5 hw5 f5 k5 _ => ?_)
  have o5 := (f5.2 p (by omega)).trans o4
  iterate 2 refine hR (?_ : R (_, _, _, _, _, _))
  refine hR (c_get o5 rfl ?_)
  refine hR (?_ : R (_, _, _, _, _, _))
  refine hR (t_add ?_)
  refine hR (c_put o5 rfl rfl fun w6 f6 o6 => ?_)
  have hw6 := CI_w80 hw5 hρp f6 o6 ⟨e81, ⟨by omega, by omega⟩, ⟨by omega, by omega⟩, ⟨by omega, by omega⟩, ⟨by omega, by omega⟩, ⟨by omega, by omega⟩, e82, e83, e84, e85, e86, e87, e88, e89, e90⟩
  have kW6 := (f6.2 (p + 5) (by omega)).trans ((f5.2 (p + 5) (by omega)).trans ((f4.2 (p + 5) (by omega)).trans ((f3.2 (p + 5) (by omega)).trans ((f2.2 (p + 5) (by omega)).trans ((f1.2 (p + 5) (by omega)).trans kW)))))
  refine hR (?_ : R (_, _, _, _, _, _))
  refine hR (c_get o6 rfl ?_)
  refine hR (?_ : R (_, _, _, _, _, _))
  refine hR (c_get o6 rfl ?_)
  refine hR (?_ : R (_, _, _, _, _, _))
  refine hR (c_astE hw6 kW6 bW (by rw [e85]; rfl) ⟨by rw [e85]; decide, by rw [e85]; decide⟩ (by omega) (by omega) (by omega) (by omega) (by omega) fun w7 hw7 f7 k7 _ => ?_)
  have o7 := (f7.2 p (by omega)).trans o6
  iterate 2 refine hR (?_ : R (_, _, _, _, _, _))
  refine hR (c_get o7 rfl ?_)
  refine hR (?_ : R (_, _, _, _, _, _))
  refine hR (t_add ?_)
  refine hR (c_put o7 rfl rfl fun w8 f8 o8 => ?_)
  have hw8 := CI_w80 hw7 hρp f8 o8 ⟨e81, ⟨by omega, by omega⟩, ⟨by omega, by omega⟩, ⟨by omega, by omega⟩, ⟨by omega, by omega⟩, ⟨by omega, by omega⟩, e82, e83, e84, e85, e86, e87, e88, e89, e90⟩
  have fr := wfR_st (wfR_st (wfR_st (wfR_st (wfR_st (wfR_st (wfR_st (wfR_st (wfR_rf [80, 85, 86, 87, 88, 89] ρ w) f1 (by rw [e87]; decide)) f2 (by rw [e88]; decide)) f3 (by rw [e89]; decide)) f4 (by rw [hρp]; decide)) f5 (by rw [e86]; decide)) f6 (by rw [hρp]; decide)) f7 (by rw [e85]; decide)) f8 (by rw [hρp]; decide)
  refine hR (zret_i rfl (Nat.le_refl _) rfl (h w8 hw8 fr ⟨⟨ci, la, ⟨hci, hla⟩, o8⟩, by omega, ?_, ?_, ?_, hE⟩))
  · exact (f8.2 (p + 7) (by omega)).trans ((f7.2 (p + 7) (by omega)).trans ((f6.2 (p + 7) (by omega)).trans ((f5.2 (p + 7) (by omega)).trans ((f4.2 (p + 7) (by omega)).trans ((f3.2 (p + 7) (by omega)).trans ((f2.2 (p + 7) (by omega)).trans k1))))))
  · exact (f8.2 (p + 6) (by omega)).trans ((f7.2 (p + 6) (by omega)).trans ((f6.2 (p + 6) (by omega)).trans k5))
  · exact (f8.2 (p + 5) (by omega)).trans k7
theorem c_closeCircle {ρ : Nat → Nat} {w : zW} (d p : Nat) (a1 : Int) (ci la fo op de : Int) (gP : Nat → Int32) (hw : CI ρ w) (hρp : ρ p = 80) (hr0 : 0 ≤ a1 ∧ a1 ≤ 5460) (hr1 : zix w p = some (rgO p ci la fo op de)) (hr2 : zix w (p + 6) = some (.inl (1, 5461, .inl gP))) (hr3 : 1 ≤ op ∧ op ≤ 5461) (hr4 : (-2147483648 ≤ ci ∧ ci ≤ 2147483647) ∧ (-2147483648 ≤ la ∧ la ≤ 2147483647)) (hr5 : (-2147483648 ≤ fo ∧ fo ≤ 2147483647) ∧ (-2147483648 ≤ de ∧ de ≤ 2147483647)) (Q : zQ) (h : ∀ (w' : zW) (bo ci' la' : Int), CI ρ w' → wfR [80, 90] ρ w w' → (0 ≤ bo ∧ bo ≤ op) → (∀ j : Nat, (j : Int) < op → gP j = Int32.ofInt a1 → (j : Int) ≤ bo) → ((-2147483648 ≤ ci' ∧ ci' ≤ 2147483647) ∧ (-2147483648 ≤ la' ∧ la' ≤ 2147483647)) → zix w' p = some (rgO p ci' la' fo bo de) → Q none w') : zCl zTab (d + 2) iX5_closeCircle [.ref p, .int (Int32.ofInt a1)] w 0 0 Q := by
  unfold rgO at hr1
  obtain ⟨_, _, _, _, _, _, e81, _, _, _, _, _, e82, e83, e84, e85, e86, e87, e88, e89, e90⟩ := CI_o80 hw hρp
  obtain ⟨g, k, bP⟩ := CI_ar hw (q := p + 6) (by rw [e86]; rfl)
  rw [hr2] at k
  cases k
  refine zCl_i (M := kX5_closeCircle) rfl (Nat.le_of_ble_eq_true rfl) fun R hR => ?_
  have up : ∀ bo : Int, (0 ≤ bo ∧ bo < op) → (∀ j : Nat, (j : Int) < op → gP j = Int32.ofInt a1 → (j : Int) ≤ bo) → R (27, [some (.ref p), some (.int (Int32.ofInt a1)), some (.int (Int32.ofInt bo)), none, none], [], w, 0, 0) := by
    intro bo hb hj
    have lp : ∀ (N : Nat) (i : Int) (w1 : zW), (bo ≤ i ∧ i ≤ op) → CI ρ w1 → wfR [80, 90] ρ w w1 → zix w1 p = some (.inr (4, [.ref (p + 1), .int (Int32.ofInt ci), .int (Int32.ofInt la), .int (Int32.ofInt fo), .int (Int32.ofInt op), .int (Int32.ofInt de), .ref (p + 2), .ref (p + 3), .ref (p + 4), .ref (p + 5), .ref (p + 6), .ref (p + 7), .ref (p + 8), .ref (p + 9), .ref (p + 10)])) → op - i < N → R (37, [some (.ref p), some (.int (Int32.ofInt a1)), some (.int (Int32.ofInt bo)), some (.int (Int32.ofInt (op - bo))), some (.int (Int32.ofInt i))], [], w1, 0, 0) := by
      intro N
      induction N with
      | zero => intros; omega
      | succ N ih =>
        intro i w1 hi hw1 f1 o1 hN
        iterate 2 refine hR (?_ : R (_, _, _, _, _, _))
        refine hR (c_get o1 rfl ?_)
        refine hR (j_ge (by omega) (by omega) (fun hc => ?_) (fun hc => ?_))
        · iterate 2 refine hR (?_ : R (_, _, _, _, _, _))
          refine hR (c_put o1 rfl rfl fun w2 f2 o2 => ?_)
          have hw2 := CI_w80 hw1 hρp f2 o2 ⟨e81, ⟨by omega, by omega⟩, ⟨by omega, by omega⟩, ⟨by omega, by omega⟩, ⟨by omega, by omega⟩, ⟨by omega, by omega⟩, e82, e83, e84, e85, e86, e87, e88, e89, e90⟩
          iterate 2 refine hR (?_ : R (_, _, _, _, _, _))
          refine hR (c_get o2 rfl ?_)
          refine hR (?_ : R (_, _, _, _, _, _))
          refine hR (t_o fun v1 r1 => ?_)
          refine hR (c_put o2 rfl rfl fun w3 f3 o3 => ?_)
          have hw3 := CI_w80 hw2 hρp f3 o3 ⟨e81, ⟨by omega, by omega⟩, ⟨by omega, by omega⟩, ⟨by omega, by omega⟩, ⟨by omega, by omega⟩, ⟨by omega, by omega⟩, e82, e83, e84, e85, e86, e87, e88, e89, e90⟩
          iterate 2 refine hR (?_ : R (_, _, _, _, _, _))
          refine hR (c_get o3 rfl ?_)
          refine hR (?_ : R (_, _, _, _, _, _))
          refine hR (t_o fun v2 r2 => ?_)
          refine hR (c_put o3 rfl rfl fun w4 f4 o4 => ?_)
          have hw4 := CI_w80 hw3 hρp f4 o4 ⟨e81, ⟨by omega, by omega⟩, ⟨by omega, by omega⟩, ⟨by omega, by omega⟩, ⟨by omega, by omega⟩, ⟨by omega, by omega⟩, e82, e83, e84, e85, e86, e87, e88, e89, e90⟩
          exact hR (zret_i rfl (Nat.le_refl _) rfl (h w4 bo v1 v2 hw4 (wfR_st (wfR_st (wfR_st f1 f2 (by rw [hρp]; decide)) f3 (by rw [hρp]; decide)) f4 (by rw [hρp]; decide)) (by omega) hj ⟨r1, r2⟩ o4))
        · refine hR (?_ : R (_, _, _, _, _, _))
          refine hR (c_get o1 rfl ?_)
          refine hR (?_ : R (_, _, _, _, _, _))
          refine hR (c_get o1 rfl ?_)
          refine hR (?_ : R (_, _, _, _, _, _))
          refine hR (c_ald hw1 (by rw [e86]; rfl) (by omega) (by omega) (by omega) fun v l u => ?_)
          refine hR (?_ : R (_, _, _, _, _, _))
          refine hR (c_astx hw1 (by rw [e90]; rfl) ⟨by rw [e90]; decide, by rw [e90]; decide⟩ (by omega) (by omega) (by omega) fun w2 hw2 f2 => ?_)
          refine hR (t_inc ?_)
          refine hR (?_ : R (_, _, _, _, _, _))
          exact ih (i + 1) w2 (by omega) hw2 (wfR_st f1 f2 (by rw [e90]; decide)) ((f2.2 p (by omega)).trans o1) (by omega)
    refine hR (?_ : R (_, _, _, _, _, _))
    refine hR (c_get hr1 rfl ?_)
    refine hR (?_ : R (_, _, _, _, _, _))
    refine hR (t_sub ?_)
    iterate 3 refine hR (?_ : R (_, _, _, _, _, _))
    exact lp 10000 bo w (by omega) hw (wfR_rf _ _ _) hr1 (by omega)
  have down : ∀ (N : Nat) (bo : Int), (0 ≤ bo ∧ bo < op) → (∀ j : Nat, (j : Int) < op → gP j = Int32.ofInt a1 → (j : Int) ≤ bo) → bo < N → R (7, [some (.ref p), some (.int (Int32.ofInt a1)), some (.int (Int32.ofInt bo)), none, none], [], w, 0, 0) := by
    intro N
    induction N with
    | zero => intros; omega
    | succ N ih =>
      intro bo hb hj hN
      refine hR (?_ : R (_, _, _, _, _, _))
      refine hR (k_le (by omega) (fun _ => up bo hb hj) (fun hc => ?_))
      refine hR (?_ : R (_, _, _, _, _, _))
      refine hR (c_get hr1 rfl ?_)
      refine hR (?_ : R (_, _, _, _, _, _))
      refine hR (c_aldE hr2 (by omega) (by omega) (by omega) fun v e hv => ?_)
      refine hR (?_ : R (_, _, _, _, _, _))
      refine hR (j_eq (by omega) (by omega) (fun _ => up bo hb hj) (fun hn => ?_))
      refine hR (t_inc ?_)
      refine hR (?_ : R (_, _, _, _, _, _))
      refine ih (bo + -1) (by omega) (fun j j1 j2 => ?_) (by omega)
      have j3 := hj j j1 j2
      by_cases c : j = bo.toNat
      · subst c
        rw [j2, zti (by omega) (by omega)] at e
        exact absurd e hn
      · omega
  refine hR (?_ : R (_, _, _, _, _, _))
  refine hR (c_get hr1 rfl ?_)
  refine hR (?_ : R (_, _, _, _, _, _))
  refine hR (t_sub ?_)
  refine hR (?_ : R (_, _, _, _, _, _))
  exact down 10000 (op - 1) (by omega) (fun j j1 _ => by omega) (by omega)
noncomputable def TK (w : zW) (p : Nat) : Prop := ∃ (fo op de : Int) (gO gP gW : Nat → Int32), TJ w p fo op de gO gP gW
theorem c_leave {ρ : Nat → Nat} {w : zW} (d p : Nat) (a1 : Int) (fo op de : Int) (gO gP gW : Nat → Int32) (hw : CI ρ w) (hρp : ρ p = 80) (hr0 : 0 ≤ a1 ∧ a1 ≤ 5460) (hr1 : TJ w p fo op de gO gP gW) (hr2 : 1 ≤ de) (hr3 : gW (de - 1).toNat = Int32.ofInt a1) (Q : zQ) (h : ∀ (w' : zW), CI ρ w' → wfR [80, 88, 90] ρ w w' → TK w' p → Q none w') : zCl zTab (d + 3) iX5_leave [.ref p, .int (Int32.ofInt a1)] w 0 0 Q := by
  obtain ⟨⟨ci, la, ⟨hci, hla⟩, kO⟩, hfo, kOr, kP, kW, hT⟩ := hr1
  unfold rgO at kO
  have hde := ti_de hT
  have b0 := hT.1
  have b1 := hT.2.1
  have b2 := hT.2.2.1
  obtain ⟨_, _, _, _, _, _, e81, _, _, _, _, _, e82, e83, e84, e85, e86, e87, e88, e89, e90⟩ := CI_o80 hw hρp
  refine zCl_i (M := kX5_leave) rfl (Nat.le_of_ble_eq_true rfl) fun R hR => ?_
  iterate 2 refine hR (?_ : R (_, _, _, _, _, _))
  refine hR (c_get kO rfl ?_)
  refine hR (?_ : R (_, _, _, _, _, _))
  refine hR (t_sub ?_)
  refine hR (c_put kO rfl rfl fun w1 f1 o1 => ?_)
  have hw1 := CI_w80 hw hρp f1 o1 ⟨e81, ⟨by omega, by omega⟩, ⟨by omega, by omega⟩, ⟨by omega, by omega⟩, ⟨by omega, by omega⟩, ⟨by omega, by omega⟩, e82, e83, e84, e85, e86, e87, e88, e89, e90⟩
  have fr1 := wfR_st (wfR_rf [80, 88, 90] ρ w) f1 (by rw [hρp]; decide)
  have tail : ∀ (o : Option Value) (w2 : zW), CI ρ w2 → wfR [80, 88, 90] ρ w w2 → zix w2 p = some (.inr (4, [.ref (p + 1), .int (Int32.ofInt ci), .int (Int32.ofInt la), .int (Int32.ofInt fo), .int (Int32.ofInt op), .int (Int32.ofInt (de - 1)), .ref (p + 2), .ref (p + 3), .ref (p + 4), .ref (p + 5), .ref (p + 6), .ref (p + 7), .ref (p + 8), .ref (p + 9), .ref (p + 10)])) → R (50, [some (.ref p), some (.int (Int32.ofInt a1)), o], [], w2, 0, 0) := by
    intro o w2 hw2 fr2 o2
    have c7 := (fr2.2 (p + 7) (by rw [e87]; decide)).trans kOr
    have c6 := (fr2.2 (p + 6) (by rw [e86]; decide)).trans kP
    have c5 := (fr2.2 (p + 5) (by rw [e85]; decide)).trans kW
    refine hR (?_ : R (_, _, _, _, _, _))
    refine hR (c_get o2 rfl ?_)
    refine hR (?_ : R (_, _, _, _, _, _))
    refine hR (c_ald hw2 (by rw [e88]; rfl) (by omega) (by omega) (by omega) fun v l u => ?_)
    refine hR (?_ : R (_, _, _, _, _, _))
    refine hR (c_get o2 rfl ?_)
    refine hR (?_ : R (_, _, _, _, _, _))
    refine hR (c_ald hw2 (by rw [e87]; rfl) (by omega) (by omega) (by omega) fun v2 l2 u2 => ?_)
    refine hR (j_any ?_ ?_)
    · exact hR (zret_i rfl (Nat.le_refl _) rfl (h w2 hw2 fr2 ⟨fo, op, de - 1, gO, gP, gW, ⟨ci, la, ⟨hci, hla⟩, o2⟩, hfo, c7, c6, c5, ti_up hT hr2⟩))
    · iterate 2 refine hR (?_ : R (_, _, _, _, _, _))
      refine hR (c_obj o2 (zcall_i 0 0 (Nat.le_of_ble_eq_true rfl) (Nat.le_of_ble_eq_true rfl) (c_closeCircle _ p a1 ci la fo op (de - 1) gP hw2 hρp hr0 o2 c6 (by omega) ⟨hci, hla⟩ ⟨by omega, by omega⟩ _ fun w3 bo ci' la' hw3 g3 hb hj hr o3 => ?_)))
      have c7' := (g3.2 (p + 7) (by rw [e87]; decide)).trans c7
      have c6' := (g3.2 (p + 6) (by rw [e86]; decide)).trans c6
      have c5' := (g3.2 (p + 5) (by rw [e85]; decide)).trans c5
      exact hR (zret_i rfl (Nat.le_refl _) rfl (h w3 hw3 (wfR_tr fr2 g3 (by decide)) ⟨fo, bo, de - 1, gO, gP, gW, ⟨ci', la', hr, o3⟩, hfo, c7', c6', c5', ti_leave hT hr2 hb (fun j j1 j2 => hj j j1 (j2.trans hr3))⟩))
  refine hR (?_ : R (_, _, _, _, _, _))
  refine hR (c_get o1 rfl ?_)
  refine hR (k_le (by omega) (fun _ => tail _ w1 hw1 fr1 o1) (fun hc => ?_))
  refine hR (?_ : R (_, _, _, _, _, _))
  refine hR (c_get o1 rfl ?_)
  refine hR (?_ : R (_, _, _, _, _, _))
  refine hR (c_get o1 rfl ?_)
  refine hR (?_ : R (_, _, _, _, _, _))
  refine hR (t_sub ?_)
  refine hR (c_ald hw1 (by rw [e85]; rfl) (by omega) (by omega) (by omega) fun v l u => ?_)
  iterate 2 refine hR (?_ : R (_, _, _, _, _, _))
  refine hR (c_get o1 rfl ?_)
  iterate 2 refine hR (?_ : R (_, _, _, _, _, _))
  refine hR (c_get o1 rfl ?_)
  refine hR (?_ : R (_, _, _, _, _, _))
  refine hR (c_ald hw1 (by rw [e88]; rfl) (by omega) (by omega) (by omega) fun v2 l2 u2 => ?_)
  refine hR (?_ : R (_, _, _, _, _, _))
  refine hR (c_get o1 rfl ?_)
  refine hR (?_ : R (_, _, _, _, _, _))
  refine hR (c_ald hw1 (by rw [e88]; rfl) (by omega) (by omega) (by omega) fun v3 l3 u3 => ?_)
  refine hR (t_o fun v4 r4 => ?_)
  refine hR (c_astx hw1 (by rw [e88]; rfl) ⟨by rw [e88]; decide, by rw [e88]; decide⟩ (by omega) (by omega) (by omega) fun w2 hw2 f2 => ?_)
  exact tail _ w2 hw2 (wfR_st fr1 f2 (by rw [e88]; decide)) ((f2.2 p (by omega)).trans o1)
theorem TJ_eq {w w1 : zW} {p : Nat} {fo op de : Int} {gO gP gW : Nat → Int32} (e0 : zix w1 p = zix w p) (e5 : zix w1 (p + 5) = zix w (p + 5)) (e6 : zix w1 (p + 6) = zix w (p + 6)) (e7 : zix w1 (p + 7) = zix w (p + 7)) (h : TJ w p fo op de gO gP gW) : TJ w1 p fo op de gO gP gW := by
  obtain ⟨⟨ci, la, a, b⟩, c, d, e, f, g⟩ := h
  exact ⟨⟨ci, la, a, e0.trans b⟩, c, e7.trans d, e6.trans e, e5.trans f, g⟩
theorem c_tryNext {ρ : Nat → Nat} {w : zW} (d p rd : Nat) (a1 : Int) (fo op de : Int) (gO gP gW gT : Nat → Int32) (hw : CI ρ w) (hρp : ρ p = 80) (hρrd : ρ rd = 50) (hr0 : 0 ≤ a1 ∧ a1 ≤ 5460) (hr1 : TJ w p fo op de gO gP gW) (hr2 : zix w (p + 9) = some (.inl (1, 5461, .inl gT))) (hr3 : (gT a1.toNat).toInt ≤ 4) (Q : zQ) (h : ∀ (w' : zW), CI ρ w' → wfR [51, 80, 85, 86, 87, 88, 89, 90] ρ w w' → TK w' p → Q none w') : zCl zTab (d + 5) iX5_tryNext [.ref p, .ref rd, .int (Int32.ofInt a1)] w 0 0 Q := by
  obtain ⟨_, _, _, _, _, kO, e81, _, _, _, _, _, e82, e83, e84, e85, e86, e87, e88, e89, e90⟩ := CI_o80 hw hρp
  obtain ⟨rb, z2, z3, kR, _⟩ := CI_o50 hw hρrd
  obtain ⟨g, k, bT⟩ := CI_ar hw (q := p + 9) (by rw [e89]; rfl)
  rw [hr2] at k
  cases k
  have hb := bT a1.toNat
  refine zCl_i (M := kX5_tryNext) rfl (Nat.le_of_ble_eq_true rfl) fun R hR => ?_
  iterate 2 refine hR (?_ : R (_, _, _, _, _, _))
  refine hR (c_get kO rfl ?_)
  refine hR (?_ : R (_, _, _, _, _, _))
  refine hR (c_aldE hr2 (by omega) (by omega) (by omega) fun v ev hv => ?_)
  refine hR (?_ : R (_, _, _, _, _, _))
  refine hR (c_obj kR (zcall_i 0 0 (Nat.le_of_ble_eq_true rfl) (Nat.le_of_ble_eq_true rfl) (c_after _ rd v a1 hw hρrd (by omega) hr0 _ fun m w1 hw1 g1 hm => ?_)))
  refine (?_ : R (_, _, .int (Int32.ofInt m) :: [], w1, 0, 0))
  have fr1 := wfR_tr (wfR_rf [51, 80, 85, 86, 87, 88, 89, 90] ρ w) g1 (by decide)
  have o1 := (g1.2 p (by rw [hρp]; decide)).trans kO
  have t1 := (g1.2 (p + 9) (by rw [e89]; decide)).trans hr2
  have J1 := TJ_eq (g1.2 p (by rw [hρp]; decide)) (g1.2 (p + 5) (by rw [e85]; decide)) (g1.2 (p + 6) (by rw [e86]; decide)) (g1.2 (p + 7) (by rw [e87]; decide)) hr1
  iterate 2 refine hR (?_ : R (_, _, _, _, _, _))
  refine hR (c_get o1 rfl ?_)
  iterate 2 refine hR (?_ : R (_, _, _, _, _, _))
  refine hR (c_aldE t1 (by omega) (by omega) (by omega) fun v2 ev2 hv2 => ?_)
  refine hR (?_ : R (_, _, _, _, _, _))
  refine hR (t_add ?_)
  refine hR (c_ast hw1 (by rw [e89]; rfl) ⟨by rw [e89]; decide, by rw [e89]; decide⟩ (by omega) (by omega) (by omega) (by omega) (by omega) (by omega) (by omega) fun w2 hw2 f2 => ?_)
  have fr2 := wfR_st fr1 f2 (by rw [e89]; decide)
  have o2 := (f2.2 p (by omega)).trans o1
  have J2 := TJ_eq (f2.2 p (by omega)) (f2.2 (p + 5) (by omega)) (f2.2 (p + 6) (by omega)) (f2.2 (p + 7) (by omega)) J1
  have kOr := J2.2.2.1
  refine hR (?_ : R (_, _, _, _, _, _))
  refine hR (c_get o2 rfl ?_)
  refine hR (?_ : R (_, _, _, _, _, _))
  refine hR (c_aldE kOr (by omega) (by omega) (by omega) fun v3 ev3 hv3 => ?_)
  refine hR (?_ : R (_, _, _, _, _, _))
  have out : ∀ w3, CI ρ w3 → wfR [51, 80, 85, 86, 87, 88, 89, 90] ρ w w3 → TK w3 p → R (70, [some (.ref p), some (.ref rd), some (.int (Int32.ofInt a1)), some (.int (Int32.ofInt m))], [], w3, 0, 0) := fun w3 x1 x2 x3 => hR (zret_i rfl (Nat.le_refl _) rfl (h w3 x1 x2 x3))
  refine hR (j_ne (by omega) (by omega) (fun hc => ?_) (fun hc => ?_))
  · refine hR (?_ : R (_, _, _, _, _, _))
    refine hR (c_get o2 rfl ?_)
    refine hR (?_ : R (_, _, _, _, _, _))
    refine hR (c_ald hw2 (by rw [e90]; rfl) (by omega) (by omega) (by omega) fun v4 l4 u4 => ?_)
    refine hR (j_any (out w2 hw2 fr2 ⟨_, _, _, _, _, _, J2⟩) ?_)
    refine hR (?_ : R (_, _, _, _, _, _))
    refine hR (c_get o2 rfl ?_)
    iterate 2 refine hR (?_ : R (_, _, _, _, _, _))
    refine hR (c_get o2 rfl ?_)
    refine hR (?_ : R (_, _, _, _, _, _))
    refine hR (c_ald hw2 (by rw [e88]; rfl) (by omega) (by omega) (by omega) fun v5 l5 u5 => ?_)
    refine hR (?_ : R (_, _, _, _, _, _))
    refine hR (c_get o2 rfl ?_)
    refine hR (?_ : R (_, _, _, _, _, _))
    refine hR (c_ald hw2 (by rw [e87]; rfl) (by omega) (by omega) (by omega) fun v6 l6 u6 => ?_)
    refine hR (t_o fun v7 r7 => ?_)
    refine hR (c_astx hw2 (by rw [e88]; rfl) ⟨by rw [e88]; decide, by rw [e88]; decide⟩ (by omega) (by omega) (by omega) fun w3 hw3 f3 => ?_)
    exact out w3 hw3 (wfR_st fr2 f3 (by rw [e88]; decide)) ⟨_, _, _, _, _, _, TJ_eq (f3.2 p (by omega)) (f3.2 (p + 5) (by omega)) (f3.2 (p + 6) (by omega)) (f3.2 (p + 7) (by omega)) J2⟩
  · iterate 2 refine hR (?_ : R (_, _, _, _, _, _))
    refine hR (c_obj o2 (zcall_i 0 0 (Nat.le_of_ble_eq_true rfl) (Nat.le_of_ble_eq_true rfl) (c_enter _ p m fo op de gO gP gW hw2 hρp hm J2 (by omega) _ fun w3 hw3 g3 J3 => ?_)))
    refine hR (?_ : R (_, _, _, _, _, _))
    exact out w3 hw3 (wfR_tr fr2 g3 (by decide)) ⟨_, _, _, _, _, _, J3⟩
theorem ti_0 {fo op de : Int} {gO gP gW : Nat → Int32} (h : TI fo op de gO gP gW) : TI fo op 0 gO gP gW := by
  obtain ⟨h0, h1, h2, h3, pos, h4, h5⟩ := h
  exact ⟨by omega, h1, h2, h3, pos, fun i j _ hj => by omega, fun i hi => by omega⟩
noncomputable def TJ0 (w : zW) (p : Nat) (fo op : Int) (gO gP gW : Nat → Int32) : Prop := (∃ ci la de : Int, ((-2147483648 ≤ ci ∧ ci ≤ 2147483647) ∧ (-2147483648 ≤ la ∧ la ≤ 2147483647)) ∧ zix w p = some (rgO p ci la fo op de)) ∧ fo ≤ 5461 ∧ zix w (p + 7) = some (.inl (1, 5461, .inl gO)) ∧ zix w (p + 6) = some (.inl (1, 5461, .inl gP)) ∧ zix w (p + 5) = some (.inl (1, 5461, .inl gW)) ∧ TI fo op 0 gO gP gW
theorem TJ0_of {w : zW} {p : Nat} {fo op de : Int} {gO gP gW : Nat → Int32} (h : TJ w p fo op de gO gP gW) : TJ0 w p fo op gO gP gW := by
  obtain ⟨⟨ci, la, a, b⟩, c, d, e, f, g⟩ := h
  exact ⟨⟨ci, la, de, a, b⟩, c, d, e, f, ti_0 g⟩
theorem c_findFrom {ρ : Nat → Nat} {w : zW} (d p rd : Nat) (a1 : Int) (fo op : Int) (gO gP gW : Nat → Int32) (hw : CI ρ w) (hρp : ρ p = 80) (hρrd : ρ rd = 50) (hr0 : 0 ≤ a1 ∧ a1 ≤ 5460) (hr1 : TJ0 w p fo op gO gP gW) (hr2 : (gO a1.toNat).toInt = -1) (Q : zQ) (h : ∀ (w' : zW), CI ρ w' → wfR [51, 80, 85, 86, 87, 88, 89, 90] ρ w w' → TK w' p → Q none w') : zCl zTab (d + 6) iX5_findFrom [.ref p, .ref rd, .int (Int32.ofInt a1)] w 0 0 Q := by
  obtain ⟨_, _, _, _, _, _, e81, _, _, _, _, _, e82, e83, e84, e85, e86, e87, e88, e89, e90⟩ := CI_o80 hw hρp
  obtain ⟨rb, z2, z3, kR, eb, _⟩ := CI_o50 hw hρrd
  obtain ⟨x0, x1, x2, kB, _, hx1, _⟩ := CI_o20 hw eb
  refine zCl_i (M := kX5_findFrom) rfl (Nat.le_of_ble_eq_true rfl) fun R hR => ?_
  have loop : ∀ (N : Nat) (i : Int) (o : Option Value) (w1 : zW), zc2 o = false → (0 ≤ i ∧ i ≤ 38227) → CI ρ w1 → wfR [51, 80, 85, 86, 87, 88, 89, 90] ρ w w1 → TK w1 p → 38227 - i < N → R (12, [some (.ref p), some (.ref rd), some (.int (Int32.ofInt a1)), some (.int (Int32.ofInt i)), o], [], w1, 0, 0) := by
    intro N
    induction N with
    | zero => intros; omega
    | succ N ih =>
      intro i o w1 ho hi hw1 f1 hK hN
      have hK2 := hK
      obtain ⟨fo, op, de, gO, gP, gW, hJ⟩ := hK
      have hJ2 := hJ
      obtain ⟨⟨ci, la, ⟨hci, hla⟩, kO⟩, hfo, kOr, kP, kW, hT⟩ := hJ
      unfold rgO at kO
      have hde := ti_de hT
      have b0 := hT.1
      have b1 := hT.2.1
      have b2 := hT.2.2.1
      obtain ⟨gW', kW', bW⟩ := CI_ar hw1 (q := p + 5) (by rw [e85]; rfl)
      rw [kW] at kW'
      cases kW'
      obtain ⟨gT, kT, bT⟩ := CI_ar hw1 (q := p + 9) (by rw [e89]; rfl)
      have kR1 := (f1.2 rd (by rw [hρrd]; decide)).trans kR
      have kB1 := (f1.2 rb (by rw [eb]; decide)).trans kB
      refine hR (?_ : R (_, _, _, _, _, _))
      refine hR (t_c 38227 (by decide) ?_)
      refine hR (j_ge (by omega) (by omega) (fun _ => ?_) (fun hc => ?_))
      · exact hR (zret_i rfl (Nat.le_refl _) rfl (h w1 hw1 f1 hK2))
      refine hR (?_ : R (_, _, _, _, _, _))
      refine hR (c_get kO rfl ?_)
      refine hR (k_le (by omega) (fun _ => ?_) (fun hd => ?_))
      · exact hR (zret_i rfl (Nat.le_refl _) rfl (h w1 hw1 f1 hK2))
      refine hR (?_ : R (_, _, _, _, _, _))
      refine hR (c_get kO rfl ?_)
      refine hR (?_ : R (_, _, _, _, _, _))
      refine hR (c_get kO rfl ?_)
      refine hR (?_ : R (_, _, _, _, _, _))
      refine hR (t_sub ?_)
      refine hR (c_aldE kW (by omega) (by omega) (by omega) fun t et ht => ?_)
      have hbt := bW (de - 1).toNat
      have hbT := bT t.toNat
      iterate 2 refine hR (?_ : R (_, _, _, _, _, _))
      refine hR (c_get kO rfl ?_)
      refine hR (?_ : R (_, _, _, _, _, _))
      refine hR (c_aldE kT (by omega) (by omega) (by omega) fun v ev hv => ?_)
      refine hR (?_ : R (_, _, _, _, _, _))
      refine hR (c_get kR1 rfl ?_)
      refine hR (c_get kB1 rfl ?_)
      have again : ∀ w2, CI ρ w2 → wfR [51, 80, 85, 86, 87, 88, 89, 90] ρ w w2 → TK w2 p → R (71, [some (.ref p), some (.ref rd), some (.int (Int32.ofInt a1)), some (.int (Int32.ofInt i)), some (.int (Int32.ofInt t))], [], w2, 0, 0) := by
        intro w2 hw2 f2 k2
        refine hR (t_inc ?_)
        refine hR (?_ : R (_, _, _, _, _, _))
        exact ih (i + 1) _ w2 rfl (by omega) hw2 f2 k2 (by omega)
      refine hR (j_ge (by omega) (by omega) (fun hc2 => ?_) (fun hc2 => ?_))
      · iterate 2 refine hR (?_ : R (_, _, _, _, _, _))
        refine hR (c_obj kO (zcall_i 0 0 (Nat.le_of_ble_eq_true rfl) (Nat.le_of_ble_eq_true rfl) (c_leave _ p t fo op de gO gP gW hw1 hρp (by omega) hJ2 (by omega) (by rw [et, zoi]) _ fun w2 hw2 g2 k2 => ?_)))
        exact again w2 hw2 (wfR_tr f1 g2 (by decide)) k2
      · iterate 3 refine hR (?_ : R (_, _, _, _, _, _))
        refine hR (c_obj kO (zcall_i 0 0 (Nat.le_of_ble_eq_true rfl) (Nat.le_of_ble_eq_true rfl) (c_tryNext _ p rd t fo op de gO gP gW gT hw1 hρp hρrd (by omega) hJ2 kT (by omega) _ fun w2 hw2 g2 k2 => ?_)))
        refine (?_ : R (_, _, [], w2, 0, 0))
        refine hR (?_ : R (_, _, _, _, _, _))
        exact again w2 hw2 (wfR_tr f1 g2 (by decide)) k2
  obtain ⟨⟨ci, la, de, ⟨hci, hla⟩, kO⟩, hfo, kOr, kP, kW, hT⟩ := hr1
  unfold rgO at kO
  have hlt := ti_lt hT (a := a1.toNat) (by omega) hr2
  have b0 := hT.1
  have b1 := hT.2.1
  have b2 := hT.2.2.1
  iterate 2 refine hR (?_ : R (_, _, _, _, _, _))
  refine hR (c_put kO rfl rfl fun w1 f1 o1 => ?_)
  have hw1 := CI_w80 hw hρp f1 o1 ⟨e81, ⟨by omega, by omega⟩, ⟨by omega, by omega⟩, ⟨by omega, by omega⟩, ⟨by omega, by omega⟩, ⟨by omega, by omega⟩, e82, e83, e84, e85, e86, e87, e88, e89, e90⟩
  have J1 : TJ w1 p fo op 0 gO gP gW := ⟨⟨ci, la, ⟨hci, hla⟩, o1⟩, hfo, (f1.2 (p + 7) (by omega)).trans kOr, (f1.2 (p + 6) (by omega)).trans kP, (f1.2 (p + 5) (by omega)).trans kW, hT⟩
  iterate 2 refine hR (?_ : R (_, _, _, _, _, _))
  refine hR (c_obj o1 (zcall_i 0 0 (Nat.le_of_ble_eq_true rfl) (Nat.le_of_ble_eq_true rfl) (c_enter _ p a1 fo op 0 gO gP gW hw1 hρp hr0 J1 hr2 _ fun w2 hw2 g2 J2 => ?_)))
  refine (?_ : R (_, _, [], w2, 0, 0))
  iterate 2 refine hR (?_ : R (_, _, _, _, _, _))
  exact loop 50000 0 none w2 rfl (by omega) hw2 (wfR_tr (wfR_st (wfR_rf _ ρ w) f1 (by rw [hρp]; decide)) g2 (by decide)) ⟨_, _, _, _, _, _, J2⟩ (by omega)
theorem c_findCircles {ρ : Nat → Nat} {w : zW} (d p rd : Nat) (hw : CI ρ w) (hρp : ρ p = 80) (hρrd : ρ rd = 50) (Q : zQ) (h : ∀ (w' : zW), CI ρ w' → wfR [51, 80, 85, 86, 87, 88, 89, 90] ρ w w' → Q none w') : zCl zTab (d + 7) iX5_findCircles [.ref p, .ref rd] w 0 0 Q := by
  obtain ⟨x1, x2, x3, x4, x5, kO, e81, r1, r2, r3, r4, r5, e82, e83, e84, e85, e86, e87, e88, e89, e90⟩ := CI_o80 hw hρp
  refine zCl_i (M := kX5_findCircles) rfl (Nat.le_of_ble_eq_true rfl) fun R hR => ?_
  have loop : ∀ (N : Nat) (t : Int) (w1 : zW), (0 ≤ t ∧ t ≤ 5461) → CI ρ w1 → wfR [51, 80, 85, 86, 87, 88, 89, 90] ρ w w1 → (∃ fo op gO gP gW, TJ0 w1 p fo op gO gP gW) → 5461 - t < N → R (38, [some (.ref p), some (.ref rd), some (.int (Int32.ofInt t))], [], w1, 0, 0) := by
    intro N
    induction N with
    | zero => intros; omega
    | succ N ih =>
      intro t w1 ht hw1 f1 hK hN
      have hK2 := hK
      obtain ⟨fo, op, gO, gP, gW, hJ⟩ := hK
      have hJ2 := hJ
      obtain ⟨⟨ci, la, de, _, o1⟩, _, kOr, _, _, _⟩ := hJ
      unfold rgO at o1
      refine hR (?_ : R (_, _, _, _, _, _))
      refine hR (t_c 5461 (by decide) ?_)
      refine hR (j_ge (by omega) (by omega) (fun _ => ?_) (fun hc => ?_))
      · exact hR (zret_i rfl (Nat.le_refl _) rfl (h w1 hw1 f1))
      refine hR (?_ : R (_, _, _, _, _, _))
      refine hR (c_get o1 rfl ?_)
      refine hR (?_ : R (_, _, _, _, _, _))
      refine hR (c_aldE kOr (by omega) (by omega) (by omega) fun v ev hv => ?_)
      refine hR (?_ : R (_, _, _, _, _, _))
      have again : ∀ w2, CI ρ w2 → wfR [51, 80, 85, 86, 87, 88, 89, 90] ρ w w2 → (∃ fo op gO gP gW, TJ0 w2 p fo op gO gP gW) → R (61, [some (.ref p), some (.ref rd), some (.int (Int32.ofInt t))], [], w2, 0, 0) := by
        intro w2 hw2 f2 k2
        refine hR (t_inc ?_)
        refine hR (?_ : R (_, _, _, _, _, _))
        exact ih (t + 1) w2 (by omega) hw2 f2 k2 (by omega)
      refine hR (j_ne (by omega) (by omega) (fun _ => again w1 hw1 f1 hK2) (fun hn => ?_))
      iterate 3 refine hR (?_ : R (_, _, _, _, _, _))
      refine hR (c_obj o1 (zcall_i 0 0 (Nat.le_of_ble_eq_true rfl) (Nat.le_of_ble_eq_true rfl) (c_findFrom _ p rd t fo op gO gP gW hw1 hρp hρrd (by omega) hJ2 (by omega) _ fun w2 hw2 g2 k2 => ?_)))
      refine again w2 hw2 (wfR_tr f1 g2 (by decide)) ?_
      obtain ⟨fo, op, de, gO, gP, gW, k3⟩ := k2
      exact ⟨_, _, _, _, _, TJ0_of k3⟩
  iterate 2 refine hR (?_ : R (_, _, _, _, _, _))
  refine hR (c_put kO rfl rfl fun w1 f1 o1 => ?_)
  have hw1 := CI_w80 hw hρp f1 o1 ⟨e81, ⟨by omega, by omega⟩, r2, r3, r4, r5, e82, e83, e84, e85, e86, e87, e88, e89, e90⟩
  iterate 2 refine hR (?_ : R (_, _, _, _, _, _))
  refine hR (c_put o1 rfl rfl fun w2 f2 o2 => ?_)
  have hw2 := CI_w80 hw1 hρp f2 o2 ⟨e81, ⟨by omega, by omega⟩, ⟨by omega, by omega⟩, r3, r4, r5, e82, e83, e84, e85, e86, e87, e88, e89, e90⟩
  iterate 2 refine hR (?_ : R (_, _, _, _, _, _))
  refine hR (c_put o2 rfl rfl fun w3 f3 o3 => ?_)
  have hw3 := CI_w80 hw2 hρp f3 o3 ⟨e81, ⟨by omega, by omega⟩, ⟨by omega, by omega⟩, ⟨by omega, by omega⟩, r4, r5, e82, e83, e84, e85, e86, e87, e88, e89, e90⟩
  iterate 2 refine hR (?_ : R (_, _, _, _, _, _))
  refine hR (c_put o3 rfl rfl fun w4 f4 o4 => ?_)
  have hw4 := CI_w80 hw3 hρp f4 o4 ⟨e81, ⟨by omega, by omega⟩, ⟨by omega, by omega⟩, ⟨by omega, by omega⟩, ⟨by omega, by omega⟩, r5, e82, e83, e84, e85, e86, e87, e88, e89, e90⟩
  refine hR (?_ : R (_, _, _, _, _, _))
  refine hR (c_get o4 rfl ?_)
  refine hR (?_ : R (_, _, _, _, _, _))
  refine hR (zcall_i 0 0 (Nat.le_of_ble_eq_true rfl) (Nat.le_of_ble_eq_true rfl) (c_fill _ (p + 7) 5461 (-1) (-2147483648) 2147483647 hw4 (by rw [e87]; rfl) ⟨by rw [e87]; decide, by rw [e87]; decide⟩ (by omega) (by omega) (by omega) _ fun w5 hw5 f5 hg5 => ?_))
  refine (?_ : R (_, _, [], w5, 0, 0))
  have o5 := (f5.2 p (by omega)).trans o4
  refine hR (?_ : R (_, _, _, _, _, _))
  refine hR (c_get o5 rfl ?_)
  refine hR (?_ : R (_, _, _, _, _, _))
  refine hR (zcall_i 0 0 (Nat.le_of_ble_eq_true rfl) (Nat.le_of_ble_eq_true rfl) (c_fill _ (p + 10) 5461 0 (-2147483648) 2147483647 hw5 (by rw [e90]; rfl) ⟨by rw [e90]; decide, by rw [e90]; decide⟩ (by omega) (by omega) (by omega) _ fun w6 hw6 f6 hg6 => ?_))
  refine (?_ : R (_, _, [], w6, 0, 0))
  have o6 := (f6.2 p (by omega)).trans o5
  have fr := wfR_st (wfR_st (wfR_st (wfR_st (wfR_st (wfR_st (wfR_rf [51, 80, 85, 86, 87, 88, 89, 90] ρ w) f1 (by rw [hρp]; decide)) f2 (by rw [hρp]; decide)) f3 (by rw [hρp]; decide)) f4 (by rw [hρp]; decide)) f5 (by rw [e87]; decide)) f6 (by rw [e90]; decide)
  obtain ⟨gO, kO6, _⟩ := CI_ar hw6 (q := p + 7) (by rw [e87]; rfl)
  obtain ⟨gP, kP6, _⟩ := CI_ar hw6 (q := p + 6) (by rw [e86]; rfl)
  obtain ⟨gW, kW6, _⟩ := CI_ar hw6 (q := p + 5) (by rw [e85]; rfl)
  iterate 2 refine hR (?_ : R (_, _, _, _, _, _))
  exact loop 10000 0 w6 (by omega) hw6 fr ⟨0, 0, gO, gP, gW, ⟨0, 0, x5, ⟨by omega, by omega⟩, o6⟩, by omega, kO6, kP6, kW6, by omega, by omega, by omega, ⟨fun _ => 0, fun i hi => by omega⟩, fun _ => 0, fun i j _ hj => by omega, fun i hi => by omega⟩ (by omega)
/-! STRINGS: length and charAt of the constants. -/
noncomputable def slen (j : Nat) : Int := ((zslens.getD (j - 1) 0 : Nat) : Int)
noncomputable def chv (q : Nat) (i : Int) : Int32 := (((zsbyts.getD (q - 101) []).getD i.toNat 0 &&& 255).toUInt32 % 65536).toInt32
theorem zor_f {b : Bool} {A B : Prop} (hb : b = false) (h : B) : zor b A B := by subst hb; exact h
theorem nar_c (y : Int32) : narrow .char (.int (y.toUInt32 % 65536).toInt32) = .int (y.toUInt32 % 65536).toInt32 := by
  show Value.int (vp_nar .char _) = _
  rw [pk_vc]
theorem slen_ok : ∀ j, zstr j = true → (3 ≤ slen j ∧ slen j ≤ 7) ∧ Int32.ofNat (zslens.getD (j + 100 - 101) 0) >>> (Int32.ofInt 0 &&& 31) = Int32.ofInt (slen j) ∧ zsby (j + 100) = true ∧ Nat.beq (j + 100) 0 = false
  | 0 => by decide
  | 1 => by decide
  | 2 => by decide
  | 3 => by decide
  | 4 => by decide
  | 5 => by decide
  | 6 => by decide
  | 7 => by decide
  | 8 => by decide
  | 9 => by decide
  | 10 => by decide
  | 11 => by decide
  | 12 => by decide
  | 13 => by decide
  | 14 => by decide
  | 15 => by decide
  | n + 16 => fun h => by
    exfalso
    unfold zstr at h
    simp at h
theorem c_coder (w : zW) (d j : Nat) (hj : zstr j = true) (Q : zQ) (h : Q (some (.int (Int32.ofInt 0))) w) : zCl zTab (d + 1) iJ0_coder_7d493 [.retAddr j] w 0 0 Q := by
  refine zCl_i (M := kJ0_coder_7d493) rfl (Nat.le_of_ble_eq_true rfl) fun R hR => ?_
  refine hR (?_ : R (_, _, _, _, _, _))
  refine hR ⟨fun h0 => absurd h0 (by decide), fun _ => ?_⟩
  refine hR (?_ : R (_, _, _, _, _, _))
  refine hR (zif_i (by rw [hj]; rfl) (?_ : R (_, _, _, _, _, _)))
  refine hR (?_ : R (_, _, _, _, _, _))
  exact hR (zret_i rfl (Nat.le_refl _) rfl h)
theorem c_latin (w : zW) (d j : Nat) (hj : zstr j = true) (Q : zQ) (h : Q (some (.int (Int32.ofInt 1))) w) : zCl zTab (d + 1) iJ0_isLatin1_aae02 [.retAddr j] w 0 0 Q := by
  refine zCl_i (M := kJ0_isLatin1_aae02) rfl (Nat.le_of_ble_eq_true rfl) fun R hR => ?_
  refine hR (?_ : R (_, _, _, _, _, _))
  refine hR ⟨fun h0 => absurd h0 (by decide), fun _ => ?_⟩
  refine hR (?_ : R (_, _, _, _, _, _))
  refine hR (zif_i (by rw [hj]; rfl) (?_ : R (_, _, _, _, _, _)))
  refine hR ⟨fun h0 => absurd rfl h0, fun _ => ?_⟩
  iterate 2 refine hR (?_ : R (_, _, _, _, _, _))
  exact hR (zret_i rfl (Nat.le_refl _) (Or.inr rfl) h)
theorem c_slen (w : zW) (d : Nat) (j : Nat) (hr0 : zstr j = true) (Q : zQ) (h : ∀ (v : Int), (v = slen j) → (3 ≤ v ∧ v ≤ 7) → Q (some (.int (Int32.ofInt v))) w) : zCl zTab (d + 2) iJ0_length_8abf5 [.retAddr j] w 0 0 Q := by
  obtain ⟨h1, h2, h3, h4⟩ := slen_ok j hr0
  refine zCl_i (M := kJ0_length_8abf5) rfl (Nat.le_of_ble_eq_true rfl) fun R hR => ?_
  refine hR (?_ : R (_, _, _, _, _, _))
  refine hR (zif_i (by rw [hr0]; rfl) (?_ : R (_, _, _, _, _, _)))
  refine hR (zif_i h3 (?_ : R (_, _, _, _, _, _)))
  refine hR (?_ : R (_, _, _, _, _, _))
  refine hR (zif_i (by rw [hr0]; rfl) (zcall_i 0 0 (Nat.le_of_ble_eq_true rfl) (Nat.le_of_ble_eq_true rfl) (c_coder _ _ j hr0 _ ?_)))
  refine (?_ : R (_, _, .int (Int32.ofInt 0) :: .int (Int32.ofNat (zslens.getD (j + 100 - 101) 0)) :: [], w, 0, 0))
  refine hR (t_c (slen j) h2 ?_)
  exact hR (zret_i rfl (Nat.le_refl _) trivial (h _ rfl h1))
theorem c_chk3 (w : zW) (d : Nat) (i n : Int) (h0 : 0 ≤ i) (h1 : i < n) (hn : n ≤ 600) (Q : zQ) (h : Q (some (.int (Int32.ofInt i))) w) : zCl zTab (d + 1) iJ3_checkIndex_8e157 [.int (Int32.ofInt i), .int (Int32.ofInt n), .retAddr 99] w 0 0 Q := by
  refine zCl_i (M := kJ3_checkIndex_8e157) rfl (Nat.le_of_ble_eq_true rfl) fun R hR => ?_
  refine hR (?_ : R (_, _, _, _, _, _))
  refine hR (k_lt (by omega) (fun hc => by omega) (fun _ => ?_))
  iterate 2 refine hR (?_ : R (_, _, _, _, _, _))
  refine hR (j_lt (by omega) (by omega) (fun _ => ?_) (fun hc => by omega))
  refine hR (?_ : R (_, _, _, _, _, _))
  exact hR (zret_i rfl (Nat.le_refl _) trivial h)
theorem c_chk (w : zW) (d : Nat) (i n : Int) (h0 : 0 ≤ i) (h1 : i < n) (hn : n ≤ 600) (Q : zQ) (h : Q none w) : zCl zTab (d + 2) iJ0_checkIndex_df160 [.int (Int32.ofInt i), .int (Int32.ofInt n)] w 0 0 Q := by
  refine zCl_i (M := kJ0_checkIndex_df160) rfl (Nat.le_of_ble_eq_true rfl) fun R hR => ?_
  iterate 3 refine hR (?_ : R (_, _, _, _, _, _))
  refine hR (zcall_i 0 0 (Nat.le_of_ble_eq_true rfl) (Nat.le_of_ble_eq_true rfl) (c_chk3 _ _ i n h0 h1 hn _ ?_))
  refine (?_ : R (_, _, .int (Int32.ofInt i) :: [], w, 0, 0))
  refine hR (?_ : R (_, _, _, _, _, _))
  exact hR (zret_i rfl (Nat.le_refl _) rfl h)
theorem c_l1 (w : zW) (d q : Nat) (i : Int) (hq : zsby q = true) (hq0 : Nat.beq q 0 = false) (h0 : 0 ≤ i) (h1 : i < ((zslens.getD (q - 101) 0 : Nat) : Int)) (hl : zslens.getD (q - 101) 0 ≤ 7) (Q : zQ) (h : ∀ v : Int, v = (chv q i).toInt → (-2147483648 ≤ v ∧ v ≤ 2147483647) → narrow .char (.int (Int32.ofInt v)) = .int (Int32.ofInt v) → Q (some (.int (Int32.ofInt v))) w) : zCl zTab (d + 3) iJ1_charAt_3b067 [.retAddr q, .int (Int32.ofInt i)] w 0 0 Q := by
  refine zCl_i (M := kJ1_charAt_3b067) rfl (Nat.le_of_ble_eq_true rfl) fun R hR => ?_
  iterate 2 refine hR (?_ : R (_, _, _, _, _, _))
  refine hR (zor_f hq0 (zif_i hq (?_ : R (_, _, _, _, _, _))))
  refine hR (zcall_i 0 0 (Nat.le_of_ble_eq_true rfl) (Nat.le_of_ble_eq_true rfl) (c_chk _ _ i _ h0 h1 (by omega) _ ?_))
  refine (?_ : R (_, _, [], w, 0, 0))
  iterate 2 refine hR (?_ : R (_, _, _, _, _, _))
  refine hR (zif_i hq ⟨zvin h0 h1 (by omega), (?_ : R (_, _, _, _, _, _))⟩)
  iterate 3 refine hR (?_ : R (_, _, _, _, _, _))
  have hx : ∀ x : Int32, x = chv q i → R (14, [some (.retAddr q), some (.int (Int32.ofInt i))], [.int x], w, 0, 0) := by
    intro x hx
    have hn : narrow .char (.int x) = .int x := by rw [hx]; exact nar_c _
    have he : Int32.ofInt x.toInt = x := Int32.ofInt_toInt x
    refine hR (zret_i rfl (Nat.le_refl _) hn ?_)
    rw [← he]
    exact h _ (by rw [hx]) (zrg _) (by rw [he]; exact hn)
  refine hx _ ?_
  unfold chv
  rw [show (Int32.ofInt i).toNatClampNeg = i.toNat from zcl h0 (by omega)]
  rfl
theorem c_charAt (w : zW) (d : Nat) (j : Nat) (a1 : Int) (hr0 : zstr j = true) (hr1 : 0 ≤ a1 ∧ a1 < slen j) (Q : zQ) (h : ∀ (v : Int), (v = (chv (j + 100) a1).toInt) → (-2147483648 ≤ v ∧ v ≤ 2147483647) → Q (some (.int (Int32.ofInt v))) w) : zCl zTab (d + 4) iJ0_charAt_5068e [.retAddr j, .int (Int32.ofInt a1)] w 0 0 Q := by
  obtain ⟨h1, h2, h3, h4⟩ := slen_ok j hr0
  unfold slen at h1 hr1
  have e : j + 100 - 101 = j - 1 := by omega
  refine zCl_i (M := kJ0_charAt_5068e) rfl (Nat.le_of_ble_eq_true rfl) fun R hR => ?_
  refine hR (?_ : R (_, _, _, _, _, _))
  refine hR (zif_i (by rw [hr0]; rfl) (zcall_i 0 0 (Nat.le_of_ble_eq_true rfl) (Nat.le_of_ble_eq_true rfl) (c_latin _ _ j hr0 _ ?_)))
  refine (?_ : R (_, _, .int (Int32.ofInt 1) :: [], w, 0, 0))
  refine hR ⟨fun h0 => absurd h0 (by decide), fun _ => ?_⟩
  refine hR (?_ : R (_, _, _, _, _, _))
  refine hR (zif_i (by rw [hr0]; rfl) (?_ : R (_, _, _, _, _, _)))
  refine hR (?_ : R (_, _, _, _, _, _))
  refine hR (zcall_i 0 0 (Nat.le_of_ble_eq_true rfl) (Nat.le_of_ble_eq_true rfl) (c_l1 _ _ (j + 100) a1 h3 h4 hr1.1 (by rw [e]; exact hr1.2) (by rw [e]; omega) _ fun v e1 e2 e3 => ?_))
  refine (?_ : R (_, _, .int (Int32.ofInt v) :: [], w, 0, 0))
  exact hR (zret_i rfl (Nat.le_refl _) e3 (h v e1 e2))
/-- the teller at work: its fields, and what is known of length, at, start, value, fault -/
noncomputable def TE (ρ : Nat → Nat) (w : zW) (p : Nat) (P : Int → Int → Int → Int → Int → Prop) : Prop := ∃ (t : Nat) (l a k s v f c : Int), zix w p = some (.inr (6, [.ref t, .int (Int32.ofInt l), .int (Int32.ofInt a), .int (Int32.ofInt k), .int (Int32.ofInt s), .int (Int32.ofInt v), .int (Int32.ofInt f), .int (Int32.ofInt c)])) ∧ ρ t = 3 ∧ ((-2147483648 ≤ l ∧ l ≤ 2147483647) ∧ (-2147483648 ≤ a ∧ a ≤ 2147483647) ∧ (-2147483648 ≤ k ∧ k ≤ 2147483647) ∧ (-2147483648 ≤ s ∧ s ≤ 2147483647) ∧ (-2147483648 ≤ v ∧ v ≤ 2147483647) ∧ (-2147483648 ≤ f ∧ f ≤ 2147483647) ∧ (-2147483648 ≤ c ∧ c ≤ 2147483647)) ∧ P l a s v f
theorem te_of {ρ : Nat → Nat} {w : zW} {p t : Nat} {l a k s v f c : Int} {P : Int → Int → Int → Int → Int → Prop} (h : zix w p = some (.inr (6, [.ref t, .int (Int32.ofInt l), .int (Int32.ofInt a), .int (Int32.ofInt k), .int (Int32.ofInt s), .int (Int32.ofInt v), .int (Int32.ofInt f), .int (Int32.ofInt c)]))) (ht : ρ t = 3) (hr : (-2147483648 ≤ l ∧ l ≤ 2147483647) ∧ (-2147483648 ≤ a ∧ a ≤ 2147483647) ∧ (-2147483648 ≤ k ∧ k ≤ 2147483647) ∧ (-2147483648 ≤ s ∧ s ≤ 2147483647) ∧ (-2147483648 ≤ v ∧ v ≤ 2147483647) ∧ (-2147483648 ≤ f ∧ f ≤ 2147483647) ∧ (-2147483648 ≤ c ∧ c ≤ 2147483647)) (hP : P l a s v f) : TE ρ w p P := ⟨t, l, a, k, s, v, f, c, h, ht, hr, hP⟩
theorem c_vt0 {w : zW} {q a : Nat} {fs : List Value} {f : Nat → Nat → Prop} (h : zix w q = some (.inr (0, fs))) (hk : f 0 (a % 1000)) : zvt w q a f := by unfold zvt; rw [h]; exact hk
theorem c_vt9 {w : zW} {q a : Nat} {fs : List Value} {f : Nat → Nat → Prop} (h : zix w q = some (.inr (9, fs))) (hk : f 9 (a / 1000 % 1000)) : zvt w q a f := by unfold zvt; rw [h]; exact hk
theorem c_vt5 {w : zW} {q a : Nat} {fs : List Value} {f : Nat → Nat → Prop} (h : zix w q = some (.inr (5, fs))) (hk : f 5 (a / 1000000)) : zvt w q a f := by unfold zvt; rw [h]; exact hk
theorem c_isLetter {ρ : Nat → Nat} {w : zW} (d : Nat) (p : Nat) (a1 : Int) (hw : CI ρ w) (hρp : ρ p = 9) (hr0 : TE ρ w p (fun l a s v f => True)) (hr1 : 0 ≤ a1 ∧ a1 ≤ 599) (Q : zQ) (h : ∀ (v : Int), (v = 0 ∨ v = 1) → Q (some (.int (Int32.ofInt v))) w) : zCl zTab (d + 1) iX7_isLetter [.ref p, .int (Int32.ofInt a1)] w 0 0 Q := by
  refine zCl_i (M := kX7_isLetter) rfl (Nat.le_of_ble_eq_true rfl) fun R hR => ?_
  have fr0 := wfR_rf [] ρ w
  obtain ⟨t_1, l_1, a_1, k_1, s_1, v_1, f_1, c_1, hT1, ht1, hTr1, hTp1⟩ := hr0
  (try dsimp only at hTp1)
  refine hR (?_ : R (_, _, _, _, _, _))
  refine hR (c_get hT1 rfl ?_)
  refine hR (?_ : R (_, _, _, _, _, _))
  refine hR (c_bld hw (by rw [ht1]; rfl) (by omega) (by omega) (Nat.le_of_ble_eq_true rfl) fun v2 rv2 => ?_)
  refine hR (t_c 97 (by decide) ?_)
  refine hR (j_any ?_ ?_)
  · skip
    refine hR (?_ : R (_, _, _, _, _, _))
    exact hR (zret_i rfl (Nat.le_refl _) (zbo (by omega)) (h _ (by omega)))
  refine hR (?_ : R (_, _, _, _, _, _))
  refine hR (c_get hT1 rfl ?_)
  refine hR (?_ : R (_, _, _, _, _, _))
  refine hR (c_bld hw (by rw [ht1]; rfl) (by omega) (by omega) (Nat.le_of_ble_eq_true rfl) fun v3 rv3 => ?_)
  refine hR (t_c 122 (by decide) ?_)
  refine hR (j_any ?_ ?_)
  · skip
    refine hR (?_ : R (_, _, _, _, _, _))
    exact hR (zret_i rfl (Nat.le_refl _) (zbo (by omega)) (h _ (by omega)))
  iterate 2 refine hR (?_ : R (_, _, _, _, _, _))
  exact hR (zret_i rfl (Nat.le_refl _) (zbo (by omega)) (h _ (by omega)))
theorem c_isDigit {ρ : Nat → Nat} {w : zW} (d : Nat) (p : Nat) (a1 : Int) (hw : CI ρ w) (hρp : ρ p = 9) (hr0 : TE ρ w p (fun l a s v f => True)) (hr1 : 0 ≤ a1 ∧ a1 ≤ 599) (Q : zQ) (h : ∀ (v : Int), (v = 0 ∨ v = 1) → Q (some (.int (Int32.ofInt v))) w) : zCl zTab (d + 1) iX7_isDigit [.ref p, .int (Int32.ofInt a1)] w 0 0 Q := by
  refine zCl_i (M := kX7_isDigit) rfl (Nat.le_of_ble_eq_true rfl) fun R hR => ?_
  have fr0 := wfR_rf [] ρ w
  obtain ⟨t_1, l_1, a_1, k_1, s_1, v_1, f_1, c_1, hT1, ht1, hTr1, hTp1⟩ := hr0
  (try dsimp only at hTp1)
  refine hR (?_ : R (_, _, _, _, _, _))
  refine hR (c_get hT1 rfl ?_)
  refine hR (?_ : R (_, _, _, _, _, _))
  refine hR (c_bld hw (by rw [ht1]; rfl) (by omega) (by omega) (Nat.le_of_ble_eq_true rfl) fun v2 rv2 => ?_)
  refine hR (t_c 48 (by decide) ?_)
  refine hR (j_any ?_ ?_)
  · skip
    refine hR (?_ : R (_, _, _, _, _, _))
    exact hR (zret_i rfl (Nat.le_refl _) (zbo (by omega)) (h _ (by omega)))
  refine hR (?_ : R (_, _, _, _, _, _))
  refine hR (c_get hT1 rfl ?_)
  refine hR (?_ : R (_, _, _, _, _, _))
  refine hR (c_bld hw (by rw [ht1]; rfl) (by omega) (by omega) (Nat.le_of_ble_eq_true rfl) fun v3 rv3 => ?_)
  refine hR (t_c 57 (by decide) ?_)
  refine hR (j_any ?_ ?_)
  · skip
    refine hR (?_ : R (_, _, _, _, _, _))
    exact hR (zret_i rfl (Nat.le_refl _) (zbo (by omega)) (h _ (by omega)))
  iterate 2 refine hR (?_ : R (_, _, _, _, _, _))
  exact hR (zret_i rfl (Nat.le_refl _) (zbo (by omega)) (h _ (by omega)))
theorem c_advanceDigits {ρ : Nat → Nat} {w : zW} (d : Nat) (p : Nat) (f0 : Int) (hw : CI ρ w) (hρp : ρ p = 9) (hr0 : TE ρ w p (fun l a s v f => 0 ≤ s ∧ s ≤ a ∧ a ≤ l ∧ l ≤ 600 ∧ f = f0)) (Q : zQ) (h : ∀ (w' : zW), CI ρ w' → wfR [9] ρ w w' → (TE ρ w' p (fun l a s v f => 0 ≤ s ∧ s ≤ a ∧ a ≤ l ∧ l ≤ 600 ∧ f = f0)) → Q (none) w') : zCl zTab (d + 2) iX7_advanceDigits [.ref p] w 0 0 Q := by
  refine zCl_i (M := kX7_advanceDigits) rfl (Nat.le_of_ble_eq_true rfl) fun R hR => ?_
  have fr0 := wfR_rf [9] ρ w
  obtain ⟨t_1, l_1, a_1, k_1, s_1, v_1, f_1, c_1, hT1, ht1, hTr1, hTp1⟩ := hr0
  (try dsimp only at hTp1)
  iterate 2 refine hR (?_ : R (_, _, _, _, _, _))
  refine hR (c_put hT1 rfl rfl fun w2 f2 hO2 => ?_)
  have hw2 := CI_w9 hw hρp f2 (y0 := some t_1) hO2 ⟨(fun z h => by cases h; exact ht1), ⟨by omega, by omega⟩, ⟨by omega, by omega⟩, ⟨by omega, by omega⟩, ⟨by omega, by omega⟩, ⟨by omega, by omega⟩, ⟨by omega, by omega⟩, ⟨by omega, by omega⟩⟩
  have fr3 := wfR_st fr0 f2 (by rw [hρp]; decide)
  have lp5 : ∀ (N : Nat) (w_5 : zW) (at3 : Int) (vd : Int), (CI ρ w_5) → (wfR [9] ρ w w_5) → (zix w_5 p = some (.inr (6, [.ref t_1, .int (Int32.ofInt l_1), .int (Int32.ofInt at3), .int (Int32.ofInt k_1), .int (Int32.ofInt s_1), .int (Int32.ofInt vd), .int (Int32.ofInt f_1), .int (Int32.ofInt c_1)]))) → (0 ≤ at3 ∧ at3 ≤ 600) → (-2147483648 ≤ vd ∧ vd ≤ 2147483647) → (s_1 ≤ at3 ∧ at3 ≤ l_1) → (601 - at3 < N) → R (5, [some (.ref p)], [], w_5, 0, 0) := by
    intro N
    induction N with
    | zero => intros; omega
    | succ N ih5 =>
      intro w_5 at3 vd hw_5 fr_5 hOp_5 hf0_5 hf1_5 hp0_5 hN5
      refine hR (?_ : R (_, _, _, _, _, _))
      refine hR (c_get hOp_5 rfl ?_)
      refine hR (?_ : R (_, _, _, _, _, _))
      refine hR (c_get hOp_5 rfl ?_)
      refine hR (j_ge (by omega) (by omega) (fun hc4 => ?_) (fun hc4 => ?_))
      · skip
        iterate 2 refine hR (?_ : R (_, _, _, _, _, _))
        refine hR (c_get hOp_5 rfl ?_)
        refine hR (?_ : R (_, _, _, _, _, _))
        refine hR (c_get hOp_5 rfl ?_)
        refine hR (t_sub ?_)
        refine hR (?_ : R (_, _, _, _, _, _))
        refine hR (j_gt (by omega) (by omega) (fun hc5 => ?_) (fun hc5 => ?_))
        · skip
          refine hR (?_ : R (_, _, _, _, _, _))
          refine hR (c_put hOp_5 rfl rfl fun w6 f6 hO6 => ?_)
          have hw6 := CI_w9 hw_5 hρp f6 (y0 := some t_1) hO6 ⟨(fun z h => by cases h; exact ht1), ⟨by omega, by omega⟩, ⟨by omega, by omega⟩, ⟨by omega, by omega⟩, ⟨by omega, by omega⟩, ⟨by omega, by omega⟩, ⟨by omega, by omega⟩, ⟨by omega, by omega⟩⟩
          have fr7 := wfR_st fr_5 f6 (by rw [hρp]; decide)
          exact hR (zret_i rfl (Nat.le_refl _) rfl (h _ hw6 fr7 (te_of hO6 ht1 (by omega) (by (try dsimp only); omega))))
        iterate 2 refine hR (?_ : R (_, _, _, _, _, _))
        refine hR (c_put hOp_5 rfl rfl fun w8 f8 hO8 => ?_)
        have hw8 := CI_w9 hw_5 hρp f8 (y0 := some t_1) hO8 ⟨(fun z h => by cases h; exact ht1), ⟨by omega, by omega⟩, ⟨by omega, by omega⟩, ⟨by omega, by omega⟩, ⟨by omega, by omega⟩, ⟨by omega, by omega⟩, ⟨by omega, by omega⟩, ⟨by omega, by omega⟩⟩
        have fr9 := wfR_st fr_5 f8 (by rw [hρp]; decide)
        exact hR (zret_i rfl (Nat.le_refl _) rfl (h _ hw8 fr9 (te_of hO8 ht1 (by omega) (by (try dsimp only); omega))))
      iterate 2 refine hR (?_ : R (_, _, _, _, _, _))
      refine hR (c_get hOp_5 rfl ?_)
      refine hR (c_obj hOp_5 (zcall_i 0 0 (Nat.le_of_ble_eq_true rfl) (Nat.le_of_ble_eq_true rfl) (c_isDigit _ p at3 hw_5 hρp (te_of hOp_5 ht1 (by omega) trivial) (by omega) _ fun v10 hp12 => ?_)))
      refine (?_ : R (_, _, (.int (Int32.ofInt v10)) :: [], w_5, 0, 0))
      refine hR (k_eq (by omega) (fun hc13 => ?_) (fun hc13 => ?_))
      · skip
        iterate 2 refine hR (?_ : R (_, _, _, _, _, _))
        refine hR (c_get hOp_5 rfl ?_)
        refine hR (?_ : R (_, _, _, _, _, _))
        refine hR (c_get hOp_5 rfl ?_)
        refine hR (t_sub ?_)
        refine hR (?_ : R (_, _, _, _, _, _))
        refine hR (j_gt (by omega) (by omega) (fun hc14 => ?_) (fun hc14 => ?_))
        · skip
          refine hR (?_ : R (_, _, _, _, _, _))
          refine hR (c_put hOp_5 rfl rfl fun w15 f15 hO15 => ?_)
          have hw15 := CI_w9 hw_5 hρp f15 (y0 := some t_1) hO15 ⟨(fun z h => by cases h; exact ht1), ⟨by omega, by omega⟩, ⟨by omega, by omega⟩, ⟨by omega, by omega⟩, ⟨by omega, by omega⟩, ⟨by omega, by omega⟩, ⟨by omega, by omega⟩, ⟨by omega, by omega⟩⟩
          have fr16 := wfR_st fr_5 f15 (by rw [hρp]; decide)
          exact hR (zret_i rfl (Nat.le_refl _) rfl (h _ hw15 fr16 (te_of hO15 ht1 (by omega) (by (try dsimp only); omega))))
        iterate 2 refine hR (?_ : R (_, _, _, _, _, _))
        refine hR (c_put hOp_5 rfl rfl fun w17 f17 hO17 => ?_)
        have hw17 := CI_w9 hw_5 hρp f17 (y0 := some t_1) hO17 ⟨(fun z h => by cases h; exact ht1), ⟨by omega, by omega⟩, ⟨by omega, by omega⟩, ⟨by omega, by omega⟩, ⟨by omega, by omega⟩, ⟨by omega, by omega⟩, ⟨by omega, by omega⟩, ⟨by omega, by omega⟩⟩
        have fr18 := wfR_st fr_5 f17 (by rw [hρp]; decide)
        exact hR (zret_i rfl (Nat.le_refl _) rfl (h _ hw17 fr18 (te_of hO17 ht1 (by omega) (by (try dsimp only); omega))))
      refine hR (?_ : R (_, _, _, _, _, _))
      refine hR (c_get hOp_5 rfl ?_)
      refine hR (?_ : R (_, _, _, _, _, _))
      refine hR (c_get hOp_5 rfl ?_)
      refine hR (t_sub ?_)
      refine hR (?_ : R (_, _, _, _, _, _))
      refine hR (j_ge (by omega) (by omega) (fun hc19 => ?_) (fun hc19 => ?_))
      · skip
        iterate 2 refine hR (?_ : R (_, _, _, _, _, _))
        refine hR (c_get hOp_5 rfl ?_)
        refine hR (?_ : R (_, _, _, _, _, _))
        refine hR (t_add ?_)
        refine hR (c_put hOp_5 rfl rfl fun w20 f20 hO20 => ?_)
        have hw20 := CI_w9 hw_5 hρp f20 (y0 := some t_1) hO20 ⟨(fun z h => by cases h; exact ht1), ⟨by omega, by omega⟩, ⟨by omega, by omega⟩, ⟨by omega, by omega⟩, ⟨by omega, by omega⟩, ⟨by omega, by omega⟩, ⟨by omega, by omega⟩, ⟨by omega, by omega⟩⟩
        have fr21 := wfR_st fr_5 f20 (by rw [hρp]; decide)
        refine hR (?_ : R (_, _, _, _, _, _))
        exact ih5 _ _ _ hw20 fr21 hO20 (by omega) (by omega) (by omega) (by omega)
      iterate 2 refine hR (?_ : R (_, _, _, _, _, _))
      refine hR (c_get hOp_5 rfl ?_)
      refine hR (t_c 10 (by decide) ?_)
      refine hR (t_o fun v22 rv22 => ?_)
      refine hR (?_ : R (_, _, _, _, _, _))
      refine hR (c_get hOp_5 rfl ?_)
      refine hR (?_ : R (_, _, _, _, _, _))
      refine hR (c_get hOp_5 rfl ?_)
      refine hR (c_bld hw_5 (by rw [ht1]; rfl) (by omega) (by omega) (Nat.le_of_ble_eq_true rfl) fun v23 rv23 => ?_)
      refine hR (t_c 48 (by decide) ?_)
      refine hR (t_o fun v24 rv24 => ?_)
      refine hR (t_o fun v25 rv25 => ?_)
      refine hR (c_put hOp_5 rfl rfl fun w26 f26 hO26 => ?_)
      have hw26 := CI_w9 hw_5 hρp f26 (y0 := some t_1) hO26 ⟨(fun z h => by cases h; exact ht1), ⟨by omega, by omega⟩, ⟨by omega, by omega⟩, ⟨by omega, by omega⟩, ⟨by omega, by omega⟩, ⟨by omega, by omega⟩, ⟨by omega, by omega⟩, ⟨by omega, by omega⟩⟩
      have fr27 := wfR_st fr_5 f26 (by rw [hρp]; decide)
      iterate 2 refine hR (?_ : R (_, _, _, _, _, _))
      refine hR (c_get hO26 rfl ?_)
      refine hR (?_ : R (_, _, _, _, _, _))
      refine hR (t_add ?_)
      refine hR (c_put hO26 rfl rfl fun w28 f28 hO28 => ?_)
      have hw28 := CI_w9 hw26 hρp f28 (y0 := some t_1) hO28 ⟨(fun z h => by cases h; exact ht1), ⟨by omega, by omega⟩, ⟨by omega, by omega⟩, ⟨by omega, by omega⟩, ⟨by omega, by omega⟩, ⟨by omega, by omega⟩, ⟨by omega, by omega⟩, ⟨by omega, by omega⟩⟩
      have fr29 := wfR_st fr27 f28 (by rw [hρp]; decide)
      refine hR (?_ : R (_, _, _, _, _, _))
      exact ih5 _ _ _ hw28 fr29 hO28 (by omega) (by omega) (by omega) (by omega)
  exact lp5 400000000 _ _ _ hw2 fr3 hO2 (by omega) (by omega) (by omega) (by omega)
theorem c_advance {ρ : Nat → Nat} {w : zW} (d : Nat) (p : Nat) (f0 : Int) (hw : CI ρ w) (hρp : ρ p = 9) (hr0 : TE ρ w p (fun l a s v f => 0 ≤ a ∧ a ≤ l ∧ l ≤ 600 ∧ f = f0)) (Q : zQ) (h : ∀ (w' : zW), CI ρ w' → wfR [9] ρ w w' → (TE ρ w' p (fun l a s v f => 0 ≤ s ∧ s ≤ a ∧ a ≤ l ∧ l ≤ 600 ∧ f = f0)) → Q (none) w') : zCl zTab (d + 3) iX7_advance [.ref p] w 0 0 Q := by
  refine zCl_i (M := kX7_advance) rfl (Nat.le_of_ble_eq_true rfl) fun R hR => ?_
  have fr0 := wfR_rf [9] ρ w
  obtain ⟨t_1, l_1, a_1, k_1, s_1, v_1, f_1, c_1, hT1, ht1, hTr1, hTp1⟩ := hr0
  (try dsimp only at hTp1)
  have lp0 : ∀ (N : Nat) (w_0 : zW) (at1 : Int), (CI ρ w_0) → (wfR [9] ρ w w_0) → (zix w_0 p = some (.inr (6, [.ref t_1, .int (Int32.ofInt l_1), .int (Int32.ofInt at1), .int (Int32.ofInt k_1), .int (Int32.ofInt s_1), .int (Int32.ofInt v_1), .int (Int32.ofInt f_1), .int (Int32.ofInt c_1)]))) → (0 ≤ at1 ∧ at1 ≤ 600) → (at1 ≤ l_1) → (601 - at1 < N) → R (0, [some (.ref p)], [], w_0, 0, 0) := by
    intro N
    induction N with
    | zero => intros; omega
    | succ N ih0 =>
      intro w_0 at1 hw_0 fr_0 hOp_0 hf0_0 hp0_0 hN0
      refine hR (?_ : R (_, _, _, _, _, _))
      refine hR (c_get hOp_0 rfl ?_)
      refine hR (?_ : R (_, _, _, _, _, _))
      refine hR (c_get hOp_0 rfl ?_)
      refine hR (j_ge (by omega) (by omega) (fun hc2 => ?_) (fun hc2 => ?_))
      · skip
        iterate 2 refine hR (?_ : R (_, _, _, _, _, _))
        refine hR (c_get hOp_0 rfl ?_)
        refine hR (c_put hOp_0 rfl rfl fun w3 f3 hO3 => ?_)
        have hw3 := CI_w9 hw_0 hρp f3 (y0 := some t_1) hO3 ⟨(fun z h => by cases h; exact ht1), ⟨by omega, by omega⟩, ⟨by omega, by omega⟩, ⟨by omega, by omega⟩, ⟨by omega, by omega⟩, ⟨by omega, by omega⟩, ⟨by omega, by omega⟩, ⟨by omega, by omega⟩⟩
        have fr4 := wfR_st fr_0 f3 (by rw [hρp]; decide)
        refine hR (?_ : R (_, _, _, _, _, _))
        refine hR (c_get hO3 rfl ?_)
        refine hR (?_ : R (_, _, _, _, _, _))
        refine hR (c_get hO3 rfl ?_)
        refine hR (j_lt (by omega) (by omega) (fun hc => by omega) (fun _ => ?_))
        iterate 2 refine hR (?_ : R (_, _, _, _, _, _))
        refine hR (c_put hO3 rfl rfl fun w5 f5 hO5 => ?_)
        have hw5 := CI_w9 hw3 hρp f5 (y0 := some t_1) hO5 ⟨(fun z h => by cases h; exact ht1), ⟨by omega, by omega⟩, ⟨by omega, by omega⟩, ⟨by omega, by omega⟩, ⟨by omega, by omega⟩, ⟨by omega, by omega⟩, ⟨by omega, by omega⟩, ⟨by omega, by omega⟩⟩
        have fr6 := wfR_st fr4 f5 (by rw [hρp]; decide)
        refine hR (?_ : R (_, _, _, _, _, _))
        exact hR (zret_i rfl (Nat.le_refl _) rfl (h _ hw5 fr6 (te_of hO5 ht1 (by omega) (by (try dsimp only); omega))))
      refine hR (?_ : R (_, _, _, _, _, _))
      refine hR (c_get hOp_0 rfl ?_)
      refine hR (?_ : R (_, _, _, _, _, _))
      refine hR (c_get hOp_0 rfl ?_)
      refine hR (c_bld hw_0 (by rw [ht1]; rfl) (by omega) (by omega) (Nat.le_of_ble_eq_true rfl) fun v7 rv7 => ?_)
      refine hR (t_c 10 (by decide) ?_)
      refine hR (j_any ?_ ?_)
      · skip
        iterate 2 refine hR (?_ : R (_, _, _, _, _, _))
        refine hR (c_get hOp_0 rfl ?_)
        refine hR (?_ : R (_, _, _, _, _, _))
        refine hR (t_add ?_)
        refine hR (c_put hOp_0 rfl rfl fun w8 f8 hO8 => ?_)
        have hw8 := CI_w9 hw_0 hρp f8 (y0 := some t_1) hO8 ⟨(fun z h => by cases h; exact ht1), ⟨by omega, by omega⟩, ⟨by omega, by omega⟩, ⟨by omega, by omega⟩, ⟨by omega, by omega⟩, ⟨by omega, by omega⟩, ⟨by omega, by omega⟩, ⟨by omega, by omega⟩⟩
        have fr9 := wfR_st fr_0 f8 (by rw [hρp]; decide)
        refine hR (?_ : R (_, _, _, _, _, _))
        exact ih0 _ _ hw8 fr9 hO8 (by omega) (by omega) (by omega)
      refine hR (?_ : R (_, _, _, _, _, _))
      refine hR (c_get hOp_0 rfl ?_)
      refine hR (?_ : R (_, _, _, _, _, _))
      refine hR (c_get hOp_0 rfl ?_)
      refine hR (c_bld hw_0 (by rw [ht1]; rfl) (by omega) (by omega) (Nat.le_of_ble_eq_true rfl) fun v10 rv10 => ?_)
      refine hR (t_c 32 (by decide) ?_)
      refine hR (j_any ?_ ?_)
      rotate_left
      · skip
        iterate 2 refine hR (?_ : R (_, _, _, _, _, _))
        refine hR (c_get hOp_0 rfl ?_)
        refine hR (?_ : R (_, _, _, _, _, _))
        refine hR (t_add ?_)
        refine hR (c_put hOp_0 rfl rfl fun w43 f43 hO43 => ?_)
        have hw43 := CI_w9 hw_0 hρp f43 (y0 := some t_1) hO43 ⟨(fun z h => by cases h; exact ht1), ⟨by omega, by omega⟩, ⟨by omega, by omega⟩, ⟨by omega, by omega⟩, ⟨by omega, by omega⟩, ⟨by omega, by omega⟩, ⟨by omega, by omega⟩, ⟨by omega, by omega⟩⟩
        have fr44 := wfR_st fr_0 f43 (by rw [hρp]; decide)
        refine hR (?_ : R (_, _, _, _, _, _))
        exact ih0 _ _ hw43 fr44 hO43 (by omega) (by omega) (by omega)
      iterate 2 refine hR (?_ : R (_, _, _, _, _, _))
      refine hR (c_get hOp_0 rfl ?_)
      refine hR (c_put hOp_0 rfl rfl fun w11 f11 hO11 => ?_)
      have hw11 := CI_w9 hw_0 hρp f11 (y0 := some t_1) hO11 ⟨(fun z h => by cases h; exact ht1), ⟨by omega, by omega⟩, ⟨by omega, by omega⟩, ⟨by omega, by omega⟩, ⟨by omega, by omega⟩, ⟨by omega, by omega⟩, ⟨by omega, by omega⟩, ⟨by omega, by omega⟩⟩
      have fr12 := wfR_st fr_0 f11 (by rw [hρp]; decide)
      refine hR (?_ : R (_, _, _, _, _, _))
      refine hR (c_get hO11 rfl ?_)
      refine hR (?_ : R (_, _, _, _, _, _))
      refine hR (c_get hO11 rfl ?_)
      refine hR (j_lt (by omega) (by omega) (fun _ => ?_) (fun hc => by omega))
      iterate 2 refine hR (?_ : R (_, _, _, _, _, _))
      refine hR (c_get hO11 rfl ?_)
      refine hR (c_obj hO11 (zcall_i 0 0 (Nat.le_of_ble_eq_true rfl) (Nat.le_of_ble_eq_true rfl) (c_isLetter _ p at1 hw11 hρp (te_of hO11 ht1 (by omega) trivial) (by omega) _ fun v13 hp15 => ?_)))
      refine (?_ : R (_, _, (.int (Int32.ofInt v13)) :: [], w11, 0, 0))
      refine hR (k_eq (by omega) (fun hc16 => ?_) (fun hc16 => ?_))
      rotate_left
      · skip
        iterate 2 refine hR (?_ : R (_, _, _, _, _, _))
        refine hR (c_put hO11 rfl rfl fun w34 f34 hO34 => ?_)
        have hw34 := CI_w9 hw11 hρp f34 (y0 := some t_1) hO34 ⟨(fun z h => by cases h; exact ht1), ⟨by omega, by omega⟩, ⟨by omega, by omega⟩, ⟨by omega, by omega⟩, ⟨by omega, by omega⟩, ⟨by omega, by omega⟩, ⟨by omega, by omega⟩, ⟨by omega, by omega⟩⟩
        have fr35 := wfR_st fr12 f34 (by rw [hρp]; decide)
        have lp95 : ∀ (N : Nat) (w_95 : zW) (at2 : Int), (CI ρ w_95) → (wfR [9] ρ w w_95) → (zix w_95 p = some (.inr (6, [.ref t_1, .int (Int32.ofInt l_1), .int (Int32.ofInt at2), .int (Int32.ofInt 1), .int (Int32.ofInt at1), .int (Int32.ofInt v_1), .int (Int32.ofInt f_1), .int (Int32.ofInt c_1)]))) → (0 ≤ at2 ∧ at2 ≤ 600) → (at1 ≤ at2 ∧ at2 ≤ l_1) → (601 - at2 < N) → R (95, [some (.ref p)], [], w_95, 0, 0) := by
          intro N
          induction N with
          | zero => intros; omega
          | succ N ih95 =>
            intro w_95 at2 hw_95 fr_95 hOp_95 hf0_95 hp0_95 hN95
            refine hR (?_ : R (_, _, _, _, _, _))
            refine hR (c_get hOp_95 rfl ?_)
            refine hR (?_ : R (_, _, _, _, _, _))
            refine hR (c_get hOp_95 rfl ?_)
            refine hR (j_ge (by omega) (by omega) (fun hc36 => ?_) (fun hc36 => ?_))
            · skip
              exact hR (zret_i rfl (Nat.le_refl _) rfl (h _ hw_95 fr_95 (te_of hOp_95 ht1 (by omega) (by (try dsimp only); omega))))
            iterate 2 refine hR (?_ : R (_, _, _, _, _, _))
            refine hR (c_get hOp_95 rfl ?_)
            refine hR (c_obj hOp_95 (zcall_i 0 0 (Nat.le_of_ble_eq_true rfl) (Nat.le_of_ble_eq_true rfl) (c_isLetter _ p at2 hw_95 hρp (te_of hOp_95 ht1 (by omega) trivial) (by omega) _ fun v37 hp39 => ?_)))
            refine (?_ : R (_, _, (.int (Int32.ofInt v37)) :: [], w_95, 0, 0))
            refine hR (k_eq (by omega) (fun hc40 => ?_) (fun hc40 => ?_))
            · skip
              exact hR (zret_i rfl (Nat.le_refl _) rfl (h _ hw_95 fr_95 (te_of hOp_95 ht1 (by omega) (by (try dsimp only); omega))))
            iterate 2 refine hR (?_ : R (_, _, _, _, _, _))
            refine hR (c_get hOp_95 rfl ?_)
            refine hR (?_ : R (_, _, _, _, _, _))
            refine hR (t_add ?_)
            refine hR (c_put hOp_95 rfl rfl fun w41 f41 hO41 => ?_)
            have hw41 := CI_w9 hw_95 hρp f41 (y0 := some t_1) hO41 ⟨(fun z h => by cases h; exact ht1), ⟨by omega, by omega⟩, ⟨by omega, by omega⟩, ⟨by omega, by omega⟩, ⟨by omega, by omega⟩, ⟨by omega, by omega⟩, ⟨by omega, by omega⟩, ⟨by omega, by omega⟩⟩
            have fr42 := wfR_st fr_95 f41 (by rw [hρp]; decide)
            refine hR (?_ : R (_, _, _, _, _, _))
            exact ih95 _ _ hw41 fr42 hO41 (by omega) (by omega) (by omega)
        exact lp95 400000000 _ _ hw34 fr35 hO34 (by omega) (by omega) (by omega)
      iterate 2 refine hR (?_ : R (_, _, _, _, _, _))
      refine hR (c_get hO11 rfl ?_)
      refine hR (c_obj hO11 (zcall_i 0 0 (Nat.le_of_ble_eq_true rfl) (Nat.le_of_ble_eq_true rfl) (c_isDigit _ p at1 hw11 hρp (te_of hO11 ht1 (by omega) trivial) (by omega) _ fun v17 hp19 => ?_)))
      refine (?_ : R (_, _, (.int (Int32.ofInt v17)) :: [], w11, 0, 0))
      refine hR (k_eq (by omega) (fun hc20 => ?_) (fun hc20 => ?_))
      rotate_left
      · skip
        refine hR (?_ : R (_, _, _, _, _, _))
        refine hR (c_obj hO11 (zcall_i 0 0 (Nat.le_of_ble_eq_true rfl) (Nat.le_of_ble_eq_true rfl) (c_advanceDigits _ p f0 hw11 hρp (te_of hO11 ht1 (by omega) (by (try dsimp only); omega)) _ fun w30 hw30 g30 hp31 => ?_)))
        have fr32 := wfR_tr fr12 g30 (by decide)
        refine (?_ : R (_, _, [], w30, 0, 0))
        obtain ⟨t_33, l_33, a_33, k_33, s_33, v_33, f_33, c_33, hT33, ht33, hTr33, hTp33⟩ := hp31
        (try dsimp only at hTp33)
        refine hR (?_ : R (_, _, _, _, _, _))
        exact hR (zret_i rfl (Nat.le_refl _) rfl (h _ hw30 fr32 (te_of hT33 ht33 (by omega) (by (try dsimp only); omega))))
      iterate 2 refine hR (?_ : R (_, _, _, _, _, _))
      refine hR (c_get hO11 rfl ?_)
      refine hR (?_ : R (_, _, _, _, _, _))
      refine hR (c_get hO11 rfl ?_)
      refine hR (c_bld hw11 (by rw [ht1]; rfl) (by omega) (by omega) (Nat.le_of_ble_eq_true rfl) fun v21 rv21 => ?_)
      refine hR (t_c 59 (by decide) ?_)
      refine hR (j_any ?_ ?_)
      · skip
        refine hR (?_ : R (_, _, _, _, _, _))
        refine hR (c_put hO11 rfl rfl fun w22 f22 hO22 => ?_)
        have hw22 := CI_w9 hw11 hρp f22 (y0 := some t_1) hO22 ⟨(fun z h => by cases h; exact ht1), ⟨by omega, by omega⟩, ⟨by omega, by omega⟩, ⟨by omega, by omega⟩, ⟨by omega, by omega⟩, ⟨by omega, by omega⟩, ⟨by omega, by omega⟩, ⟨by omega, by omega⟩⟩
        have fr23 := wfR_st fr12 f22 (by rw [hρp]; decide)
        iterate 2 refine hR (?_ : R (_, _, _, _, _, _))
        refine hR (c_get hO22 rfl ?_)
        refine hR (?_ : R (_, _, _, _, _, _))
        refine hR (t_add ?_)
        refine hR (c_put hO22 rfl rfl fun w24 f24 hO24 => ?_)
        have hw24 := CI_w9 hw22 hρp f24 (y0 := some t_1) hO24 ⟨(fun z h => by cases h; exact ht1), ⟨by omega, by omega⟩, ⟨by omega, by omega⟩, ⟨by omega, by omega⟩, ⟨by omega, by omega⟩, ⟨by omega, by omega⟩, ⟨by omega, by omega⟩, ⟨by omega, by omega⟩⟩
        have fr25 := wfR_st fr23 f24 (by rw [hρp]; decide)
        exact hR (zret_i rfl (Nat.le_refl _) rfl (h _ hw24 fr25 (te_of hO24 ht1 (by omega) (by (try dsimp only); omega))))
      iterate 2 refine hR (?_ : R (_, _, _, _, _, _))
      refine hR (c_put hO11 rfl rfl fun w26 f26 hO26 => ?_)
      have hw26 := CI_w9 hw11 hρp f26 (y0 := some t_1) hO26 ⟨(fun z h => by cases h; exact ht1), ⟨by omega, by omega⟩, ⟨by omega, by omega⟩, ⟨by omega, by omega⟩, ⟨by omega, by omega⟩, ⟨by omega, by omega⟩, ⟨by omega, by omega⟩, ⟨by omega, by omega⟩⟩
      have fr27 := wfR_st fr12 f26 (by rw [hρp]; decide)
      iterate 2 refine hR (?_ : R (_, _, _, _, _, _))
      refine hR (c_get hO26 rfl ?_)
      refine hR (?_ : R (_, _, _, _, _, _))
      refine hR (t_add ?_)
      refine hR (c_put hO26 rfl rfl fun w28 f28 hO28 => ?_)
      have hw28 := CI_w9 hw26 hρp f28 (y0 := some t_1) hO28 ⟨(fun z h => by cases h; exact ht1), ⟨by omega, by omega⟩, ⟨by omega, by omega⟩, ⟨by omega, by omega⟩, ⟨by omega, by omega⟩, ⟨by omega, by omega⟩, ⟨by omega, by omega⟩, ⟨by omega, by omega⟩⟩
      have fr29 := wfR_st fr27 f28 (by rw [hρp]; decide)
      exact hR (zret_i rfl (Nat.le_refl _) rfl (h _ hw28 fr29 (te_of hO28 ht1 (by omega) (by (try dsimp only); omega))))
  exact lp0 400000000 _ _ hw fr0 hT1 (by omega) (by omega) (by omega)
theorem c_isAtHand {ρ : Nat → Nat} {w : zW} (d : Nat) (p j : Nat) (hw : CI ρ w) (hρp : ρ p = 9) (hr0 : TE ρ w p (fun l a s v f => 0 ≤ s ∧ s ≤ a ∧ a ≤ l ∧ l ≤ 600)) (hr1 : zstr j = true) (Q : zQ) (h : ∀ (v : Int), (v = 0 ∨ v = 1) → Q (some (.int (Int32.ofInt v))) w) : zCl zTab (d + 5) iX7_isAtHand [.ref p, .retAddr j] w 0 0 Q := by
  refine zCl_i (M := kX7_isAtHand) rfl (Nat.le_of_ble_eq_true rfl) fun R hR => ?_
  have fr0 := wfR_rf [] ρ w
  obtain ⟨t_1, l_1, a_1, k_1, s_1, v_1, f_1, c_1, hT1, ht1, hTr1, hTp1⟩ := hr0
  (try dsimp only at hTp1)
  refine hR (?_ : R (_, _, _, _, _, _))
  refine hR (c_get hT1 rfl ?_)
  refine hR (?_ : R (_, _, _, _, _, _))
  refine hR (c_get hT1 rfl ?_)
  refine hR (t_sub ?_)
  refine hR (?_ : R (_, _, _, _, _, _))
  refine hR (zif_i (by rw [hr1]; rfl) (zcall_i 0 0 (Nat.le_of_ble_eq_true rfl) (Nat.le_of_ble_eq_true rfl) (c_slen _ _ j hr1 _ fun v2 hp4 hp5 => ?_)))
  refine (?_ : R (_, _, (.int (Int32.ofInt v2)) :: (.int (Int32.ofInt (a_1 - s_1))) :: [], w, 0, 0))
  refine hR (j_eq (by omega) (by omega) (fun hc6 => ?_) (fun hc6 => ?_))
  rotate_left
  · skip
    refine hR (?_ : R (_, _, _, _, _, _))
    exact hR (zret_i rfl (Nat.le_refl _) (zbo (by omega)) (h _ (by omega)))
  iterate 2 refine hR (?_ : R (_, _, _, _, _, _))
  have lp20 : ∀ (N : Nat) (i : Int), (0 ≤ i ∧ i ≤ 7) → (8 - i < N) → R (20, [some (.ref p), some (.retAddr j), some (.int (Int32.ofInt i))], [], w, 0, 0) := by
    intro N
    induction N with
    | zero => intros; omega
    | succ N ih20 =>
      intro i hf0_20 hN20
      iterate 2 refine hR (?_ : R (_, _, _, _, _, _))
      refine hR (zif_i (by rw [hr1]; rfl) (zcall_i 0 0 (Nat.le_of_ble_eq_true rfl) (Nat.le_of_ble_eq_true rfl) (c_slen _ _ j hr1 _ fun v7 hp9 hp10 => ?_)))
      refine (?_ : R (_, _, (.int (Int32.ofInt v7)) :: (.int (Int32.ofInt i)) :: [], w, 0, 0))
      refine hR (j_ge (by omega) (by omega) (fun hc11 => ?_) (fun hc11 => ?_))
      · skip
        refine hR (?_ : R (_, _, _, _, _, _))
        exact hR (zret_i rfl (Nat.le_refl _) (zbo (by omega)) (h _ (by omega)))
      refine hR (?_ : R (_, _, _, _, _, _))
      refine hR (c_get hT1 rfl ?_)
      refine hR (?_ : R (_, _, _, _, _, _))
      refine hR (c_get hT1 rfl ?_)
      refine hR (?_ : R (_, _, _, _, _, _))
      refine hR (t_add ?_)
      refine hR (c_bld hw (by rw [ht1]; rfl) (by omega) (by omega) (Nat.le_of_ble_eq_true rfl) fun v12 rv12 => ?_)
      iterate 2 refine hR (?_ : R (_, _, _, _, _, _))
      refine hR (zif_i (by rw [hr1]; rfl) (zcall_i 0 0 (Nat.le_of_ble_eq_true rfl) (Nat.le_of_ble_eq_true rfl) (c_charAt _ _ j i hr1 (by omega) _ fun v13 hp15 hp16 => ?_)))
      refine (?_ : R (_, _, (.int (Int32.ofInt v13)) :: (.int (Int32.ofInt v12)) :: [], w, 0, 0))
      refine hR (j_any ?_ ?_)
      rotate_left
      · skip
        refine hR (?_ : R (_, _, _, _, _, _))
        exact hR (zret_i rfl (Nat.le_refl _) (zbo (by omega)) (h _ (by omega)))
      refine hR (t_inc ?_)
      refine hR (?_ : R (_, _, _, _, _, _))
      exact ih20 _ (by omega) (by omega)
  exact lp20 400000000 _ (by omega) (by omega)
theorem c_faultHere {ρ : Nat → Nat} {w : zW} (d : Nat) (p : Nat) (a1 : Int) (v0 : Int) (hw : CI ρ w) (hρp : ρ p = 9) (hr0 : TE ρ w p (fun l a s v f => 0 ≤ s ∧ s ≤ a ∧ a ≤ l ∧ l ≤ 600 ∧ v = v0)) (hr1 : 1 ≤ a1 ∧ a1 ≤ 4) (Q : zQ) (h : ∀ (w' : zW), CI ρ w' → wfR [9] ρ w w' → (TE ρ w' p (fun l a s v f => (0 ≤ s ∧ s ≤ a ∧ a ≤ l ∧ l ≤ 600) ∧ v = v0 ∧ f ≠ 0)) → Q (none) w') : zCl zTab (d + 1) iX7_faultHere [.ref p, .int (Int32.ofInt a1)] w 0 0 Q := by
  refine zCl_i (M := kX7_faultHere) rfl (Nat.le_of_ble_eq_true rfl) fun R hR => ?_
  have fr0 := wfR_rf [9] ρ w
  obtain ⟨t_1, l_1, a_1, k_1, s_1, v_1, f_1, c_1, hT1, ht1, hTr1, hTp1⟩ := hr0
  (try dsimp only at hTp1)
  refine hR (?_ : R (_, _, _, _, _, _))
  refine hR (c_get hT1 rfl ?_)
  refine hR (k_eq (by omega) (fun hc2 => ?_) (fun hc2 => ?_))
  · skip
    iterate 2 refine hR (?_ : R (_, _, _, _, _, _))
    refine hR (c_put hT1 rfl rfl fun w3 f3 hO3 => ?_)
    have hw3 := CI_w9 hw hρp f3 (y0 := some t_1) hO3 ⟨(fun z h => by cases h; exact ht1), ⟨by omega, by omega⟩, ⟨by omega, by omega⟩, ⟨by omega, by omega⟩, ⟨by omega, by omega⟩, ⟨by omega, by omega⟩, ⟨by omega, by omega⟩, ⟨by omega, by omega⟩⟩
    have fr4 := wfR_st fr0 f3 (by rw [hρp]; decide)
    iterate 2 refine hR (?_ : R (_, _, _, _, _, _))
    refine hR (c_get hO3 rfl ?_)
    refine hR (c_put hO3 rfl rfl fun w5 f5 hO5 => ?_)
    have hw5 := CI_w9 hw3 hρp f5 (y0 := some t_1) hO5 ⟨(fun z h => by cases h; exact ht1), ⟨by omega, by omega⟩, ⟨by omega, by omega⟩, ⟨by omega, by omega⟩, ⟨by omega, by omega⟩, ⟨by omega, by omega⟩, ⟨by omega, by omega⟩, ⟨by omega, by omega⟩⟩
    have fr6 := wfR_st fr4 f5 (by rw [hρp]; decide)
    exact hR (zret_i rfl (Nat.le_refl _) rfl (h _ hw5 fr6 (te_of hO5 ht1 (by omega) (by (try dsimp only); omega))))
  refine hR (?_ : R (_, _, _, _, _, _))
  refine hR (c_get hT1 rfl ?_)
  refine hR (?_ : R (_, _, _, _, _, _))
  refine hR (c_get hT1 rfl ?_)
  refine hR (j_lt (by omega) (by omega) (fun hc7 => ?_) (fun hc7 => ?_))
  · skip
    iterate 2 refine hR (?_ : R (_, _, _, _, _, _))
    refine hR (c_put hT1 rfl rfl fun w8 f8 hO8 => ?_)
    have hw8 := CI_w9 hw hρp f8 (y0 := some t_1) hO8 ⟨(fun z h => by cases h; exact ht1), ⟨by omega, by omega⟩, ⟨by omega, by omega⟩, ⟨by omega, by omega⟩, ⟨by omega, by omega⟩, ⟨by omega, by omega⟩, ⟨by omega, by omega⟩, ⟨by omega, by omega⟩⟩
    have fr9 := wfR_st fr0 f8 (by rw [hρp]; decide)
    iterate 2 refine hR (?_ : R (_, _, _, _, _, _))
    refine hR (c_get hO8 rfl ?_)
    refine hR (c_put hO8 rfl rfl fun w10 f10 hO10 => ?_)
    have hw10 := CI_w9 hw8 hρp f10 (y0 := some t_1) hO10 ⟨(fun z h => by cases h; exact ht1), ⟨by omega, by omega⟩, ⟨by omega, by omega⟩, ⟨by omega, by omega⟩, ⟨by omega, by omega⟩, ⟨by omega, by omega⟩, ⟨by omega, by omega⟩, ⟨by omega, by omega⟩⟩
    have fr11 := wfR_st fr9 f10 (by rw [hρp]; decide)
    exact hR (zret_i rfl (Nat.le_refl _) rfl (h _ hw10 fr11 (te_of hO10 ht1 (by omega) (by (try dsimp only); omega))))
  refine hR (?_ : R (_, _, _, _, _, _))
  refine hR (c_get hT1 rfl ?_)
  refine hR (?_ : R (_, _, _, _, _, _))
  refine hR (c_get hT1 rfl ?_)
  refine hR (j_ne (by omega) (by omega) (fun hc12 => ?_) (fun hc12 => ?_))
  · skip
    exact hR (zret_i rfl (Nat.le_refl _) rfl (h _ hw fr0 (te_of hT1 ht1 (by omega) (by (try dsimp only); omega))))
  iterate 2 refine hR (?_ : R (_, _, _, _, _, _))
  refine hR (c_get hT1 rfl ?_)
  refine hR (j_ge (by omega) (by omega) (fun hc13 => ?_) (fun hc13 => ?_))
  · skip
    exact hR (zret_i rfl (Nat.le_refl _) rfl (h _ hw fr0 (te_of hT1 ht1 (by omega) (by (try dsimp only); omega))))
  iterate 2 refine hR (?_ : R (_, _, _, _, _, _))
  refine hR (c_put hT1 rfl rfl fun w14 f14 hO14 => ?_)
  have hw14 := CI_w9 hw hρp f14 (y0 := some t_1) hO14 ⟨(fun z h => by cases h; exact ht1), ⟨by omega, by omega⟩, ⟨by omega, by omega⟩, ⟨by omega, by omega⟩, ⟨by omega, by omega⟩, ⟨by omega, by omega⟩, ⟨by omega, by omega⟩, ⟨by omega, by omega⟩⟩
  have fr15 := wfR_st fr0 f14 (by rw [hρp]; decide)
  iterate 2 refine hR (?_ : R (_, _, _, _, _, _))
  refine hR (c_get hO14 rfl ?_)
  refine hR (c_put hO14 rfl rfl fun w16 f16 hO16 => ?_)
  have hw16 := CI_w9 hw14 hρp f16 (y0 := some t_1) hO16 ⟨(fun z h => by cases h; exact ht1), ⟨by omega, by omega⟩, ⟨by omega, by omega⟩, ⟨by omega, by omega⟩, ⟨by omega, by omega⟩, ⟨by omega, by omega⟩, ⟨by omega, by omega⟩, ⟨by omega, by omega⟩⟩
  have fr17 := wfR_st fr15 f16 (by rw [hρp]; decide)
  exact hR (zret_i rfl (Nat.le_refl _) rfl (h _ hw16 fr17 (te_of hO16 ht1 (by omega) (by (try dsimp only); omega))))
theorem c_isWithin {ρ : Nat → Nat} {w : zW} (d : Nat) (p : Nat) (a1 a2 : Int) (v0 f0 : Int) (hw : CI ρ w) (hρp : ρ p = 9) (hr0 : TE ρ w p (fun l a s v f => 0 ≤ s ∧ s ≤ a ∧ a ≤ l ∧ l ≤ 600 ∧ v = v0 ∧ f = f0)) (hr1 : 0 ≤ a1 ∧ a1 ≤ 9 ∧ 0 ≤ a2 ∧ a2 ≤ 9) (Q : zQ) (h : ∀ (v : Int) (w' : zW), CI ρ w' → wfR [9] ρ w w' → (v = 0 ∨ v = 1) → (v = 0 ∨ (a1 ≤ v0 ∧ v0 ≤ a2)) → (TE ρ w' p (fun l a s x f => (0 ≤ s ∧ s ≤ a ∧ a ≤ l ∧ l ≤ 600) ∧ x = v0 ∧ ((v = 1 ∧ f = f0) ∨ f ≠ 0))) → Q (some (.int (Int32.ofInt v))) w') : zCl zTab (d + 2) iX7_isWithin [.ref p, .int (Int32.ofInt a1), .int (Int32.ofInt a2)] w 0 0 Q := by
  refine zCl_i (M := kX7_isWithin) rfl (Nat.le_of_ble_eq_true rfl) fun R hR => ?_
  have fr0 := wfR_rf [9] ρ w
  obtain ⟨t_1, l_1, a_1, k_1, s_1, v_1, f_1, c_1, hT1, ht1, hTr1, hTp1⟩ := hr0
  (try dsimp only at hTp1)
  refine hR (?_ : R (_, _, _, _, _, _))
  refine hR (c_get hT1 rfl ?_)
  refine hR (?_ : R (_, _, _, _, _, _))
  refine hR (j_lt (by omega) (by omega) (fun hc2 => ?_) (fun hc2 => ?_))
  · skip
    iterate 2 refine hR (?_ : R (_, _, _, _, _, _))
    refine hR (c_obj hT1 (zcall_i 0 0 (Nat.le_of_ble_eq_true rfl) (Nat.le_of_ble_eq_true rfl) (c_faultHere _ p 2 v0 hw hρp (te_of hT1 ht1 (by omega) (by (try dsimp only); omega)) (by omega) _ fun w3 hw3 g3 hp4 => ?_)))
    have fr5 := wfR_tr fr0 g3 (by decide)
    refine (?_ : R (_, _, [], w3, 0, 0))
    obtain ⟨t_6, l_6, a_6, k_6, s_6, v_6, f_6, c_6, hT6, ht6, hTr6, hTp6⟩ := hp4
    (try dsimp only at hTp6)
    refine hR (?_ : R (_, _, _, _, _, _))
    exact hR (zret_i rfl (Nat.le_refl _) (zbo (by omega)) (h _ _ hw3 fr5 (by omega) (by omega) (te_of hT6 ht6 (by omega) (by (try dsimp only); omega))))
  refine hR (?_ : R (_, _, _, _, _, _))
  refine hR (c_get hT1 rfl ?_)
  refine hR (?_ : R (_, _, _, _, _, _))
  refine hR (j_le (by omega) (by omega) (fun hc7 => ?_) (fun hc7 => ?_))
  · skip
    refine hR (?_ : R (_, _, _, _, _, _))
    exact hR (zret_i rfl (Nat.le_refl _) (zbo (by omega)) (h _ _ hw fr0 (by omega) (by omega) (te_of hT1 ht1 (by omega) (by (try dsimp only); omega))))
  iterate 2 refine hR (?_ : R (_, _, _, _, _, _))
  refine hR (c_obj hT1 (zcall_i 0 0 (Nat.le_of_ble_eq_true rfl) (Nat.le_of_ble_eq_true rfl) (c_faultHere _ p 2 v0 hw hρp (te_of hT1 ht1 (by omega) (by (try dsimp only); omega)) (by omega) _ fun w8 hw8 g8 hp9 => ?_)))
  have fr10 := wfR_tr fr0 g8 (by decide)
  refine (?_ : R (_, _, [], w8, 0, 0))
  obtain ⟨t_11, l_11, a_11, k_11, s_11, v_11, f_11, c_11, hT11, ht11, hTr11, hTp11⟩ := hp9
  (try dsimp only at hTp11)
  refine hR (?_ : R (_, _, _, _, _, _))
  exact hR (zret_i rfl (Nat.le_refl _) (zbo (by omega)) (h _ _ hw8 fr10 (by omega) (by omega) (te_of hT11 ht11 (by omega) (by (try dsimp only); omega))))
/-! A BOOK THAT IS BEING TOLD. -/
noncomputable def rel (gk gn : Nat → Int32) (j : Nat) : Prop := ((gk j).toInt = 0 → (gn j).toInt ≤ 3) ∧ (1 ≤ (gk j).toInt → (gk j).toInt ≤ 3 → 1 ≤ (gn j).toInt)
noncomputable def REL (w : zW) (p : Nat) : Prop := ∃ gk gn, zix w p = some (.inl (1, 20, .inl gk)) ∧ zix w (p + 1) = some (.inl (1, 20, .inl gn)) ∧ ∀ j, j < 20 → rel gk gn j
theorem REL_fr {w w' : zW} {p : Nat} (h1 : zix w' p = zix w p) (h2 : zix w' (p + 1) = zix w (p + 1)) (h : REL w p) : REL w' p := by
  obtain ⟨gk, gn, a, b, c⟩ := h
  exact ⟨gk, gn, h1.trans a, h2.trans b, c⟩
noncomputable def BSx (w : zW) (p : Nat) (line : Int) : Prop := ∃ (x : Value) (nr : Int) (fs : List Value) (gs gk gn : Nat → Int32), zix w p = some (.inr (0, x :: .int (Int32.ofInt nr) :: fs)) ∧ zix w (p + 2) = some (.inl (1, 5, .inl gs)) ∧ zix w (p + 3) = some (.inl (1, 20, .inl gk)) ∧ zix w (p + 4) = some (.inl (1, 20, .inl gn)) ∧ (1 ≤ nr ∧ nr ≤ 5) ∧ (1 ≤ (gs (nr - 1).toNat).toInt ∧ (gs (nr - 1).toNat).toInt ≤ 4) ∧ (gk ((nr - 1) * 4 + (gs (nr - 1).toNat).toInt - 1).toNat).toInt = line ∧ ∀ j, j < 20 → j ≠ ((nr - 1) * 4 + (gs (nr - 1).toNat).toInt - 1).toNat → rel gk gn j
theorem BSx_fr {w w' : zW} {p : Nat} {line : Int} (h0 : zix w' p = zix w p) (h2 : zix w' (p + 2) = zix w (p + 2)) (h3 : zix w' (p + 3) = zix w (p + 3)) (h4 : zix w' (p + 4) = zix w (p + 4)) (h : BSx w p line) : BSx w' p line := by
  obtain ⟨x, nr, fs, gs, gk, gn, a, b, c, d, e⟩ := h
  exact ⟨x, nr, fs, gs, gk, gn, h0.trans a, h2.trans b, h3.trans c, h4.trans d, e⟩
theorem gEq {t n t' n' : Nat} {g g' : Nat → Int32} (h : (some (.inl (t, n, .inl g)) : Option va_E) = some (.inl (t', n', .inl g'))) : g = g' :=
  congrArg (fun o : Option va_E => match o with
    | some (.inl (_, _, .inl g)) => g
    | _ => fun _ => 0) h
theorem f1Eq {c c' : Nat} {x y : Value} {a b : Int} {fs fs' : List Value} (ha : -2147483648 ≤ a ∧ a ≤ 2147483647) (hb : -2147483648 ≤ b ∧ b ≤ 2147483647) (h : (some (.inr (c, x :: .int (Int32.ofInt a) :: fs)) : Option va_E) = some (.inr (c', y :: .int (Int32.ofInt b) :: fs'))) : a = b := by
  have e : (Int32.ofInt a).toInt = (Int32.ofInt b).toInt := congrArg (fun o : Option va_E => match o with
    | some (.inr (_, _ :: .int z :: _)) => z.toInt
    | _ => 0) h
  rw [zti ha.1 ha.2, zti hb.1 hb.2] at e
  exact e
theorem f0Eq {c c' : Nat} {a b : Int} {fs fs' : List Value} (ha : -2147483648 ≤ a ∧ a ≤ 2147483647) (hb : -2147483648 ≤ b ∧ b ≤ 2147483647) (h : (some (.inr (c, .int (Int32.ofInt a) :: fs)) : Option va_E) = some (.inr (c', .int (Int32.ofInt b) :: fs'))) : a = b := by
  have e : (Int32.ofInt a).toInt = (Int32.ofInt b).toInt := congrArg (fun o : Option va_E => match o with
    | some (.inr (_, .int z :: _)) => z.toInt
    | _ => 0) h
  rw [zti ha.1 ha.2, zti hb.1 hb.2] at e
  exact e
theorem bsx_at {w : zW} {p : Nat} {line n : Int} {y : Value} {fs : List Value} {gs : Nat → Int32} (h : BSx w p line) (hO : zix w p = some (.inr (0, y :: .int (Int32.ofInt n) :: fs))) (hn : 0 ≤ n ∧ n ≤ 5) (hs : zix w (p + 2) = some (.inl (1, 5, .inl gs))) : 1 ≤ n ∧ 1 ≤ (gs (n - 1).toNat).toInt ∧ (gs (n - 1).toNat).toInt ≤ 4 ∧ ∃ gk gn, zix w (p + 3) = some (.inl (1, 20, .inl gk)) ∧ zix w (p + 4) = some (.inl (1, 20, .inl gn)) ∧ (gk ((n - 1) * 4 + (gs (n - 1).toNat).toInt - 1).toNat).toInt = line ∧ ∀ j, j < 20 → j ≠ ((n - 1) * 4 + (gs (n - 1).toNat).toInt - 1).toNat → rel gk gn j := by
  obtain ⟨x, nr, fs', gs', gk, gn, a, b, c, d, e1, e2, e3, e4⟩ := h
  obtain rfl : nr = n := f1Eq (by omega) (by omega) (a.symm.trans hO)
  obtain rfl : gs' = gs := gEq (b.symm.trans hs)
  exact ⟨e1.1, e2.1, e2.2, gk, gn, c, d, e3, e4⟩
noncomputable def BST (w : zW) (p : Nat) (line : Int) : Prop := (line ≤ 3 → BSx w p line) ∧ (line = 4 → REL w (p + 3))
theorem bst_of {w w1 w2 : zW} {p : Nat} {x : Value} {fs : List Value} {nr s line : Int} {gs gk : Nat → Int32} (hO : zix w2 p = some (.inr (0, x :: .int (Int32.ofInt nr) :: fs))) (hnr : 1 ≤ nr ∧ nr ≤ 5) (hs4 : 0 ≤ s ∧ s ≤ 3) (hl : 0 ≤ line ∧ line ≤ 4) (hR : REL w (p + 3)) (hk : zix w (p + 3) = some (.inl (1, 20, .inl gk))) (f1 : wfr (p + 3) w w1) (k1 : zix w1 (p + 3) = some (.inl (1, 20, .inl (upd gk ((nr - 1) * 4 + s).toNat (Int32.ofInt line))))) (f2 : wfr (p + 2) w1 w2) (k2 : zix w2 (p + 2) = some (.inl (1, 5, .inl (upd gs (nr - 1).toNat (Int32.ofInt (s + 1)))))) : BST w2 p line := by
  obtain ⟨gk', gn, a, b, c⟩ := hR
  obtain rfl : gk' = gk := gEq (a.symm.trans hk)
  have k3 : zix w2 (p + 3) = some (.inl (1, 20, .inl (upd gk' ((nr - 1) * 4 + s).toNat (Int32.ofInt line)))) := (f2.2 (p + 3) (by omega)).trans k1
  have k4 : zix w2 (p + 4) = some (.inl (1, 20, .inl gn)) := (f2.2 (p + 4) (by omega)).trans ((f1.2 (p + 4) (by omega)).trans b)
  have es : ((upd gs (nr - 1).toNat (Int32.ofInt (s + 1))) (nr - 1).toNat).toInt = s + 1 := by rw [pk_us, zti (by omega) (by omega)]
  have ei : ((nr - 1) * 4 + (s + 1) - 1).toNat = ((nr - 1) * 4 + s).toNat := by congr 1; omega
  refine ⟨fun h3 => ⟨x, nr, fs, _, _, gn, hO, k2, k3, k4, hnr, by rw [es]; omega, ?_, fun j hj hne => ?_⟩, fun h4 => ⟨_, gn, k3, k4, fun j hj => ?_⟩⟩
  · rw [es, ei, pk_us, zti (by omega) (by omega)]
  · rw [es, ei] at hne
    unfold rel
    rw [pk_un hne]
    exact c j hj
  · by_cases e : j = ((nr - 1) * 4 + s).toNat
    · subst e
      unfold rel
      rw [pk_us, zti (by omega) (by omega)]
      exact ⟨fun h => by omega, fun _ h => by omega⟩
    · unfold rel
      rw [pk_un e]
      exact c j hj
noncomputable def nb (k : Int) : Int := if k ≤ 0 then 0 else if k = 1 then 4 else if k = 2 then 20 else if k = 3 then 84 else if k = 4 then 340 else if k = 5 then 1364 else 5460
theorem nb_up {k : Int} (h : 0 ≤ k) (h5 : k ≤ 5) : 4 * nb k + 4 ≤ nb (k + 1) := by
  have : k = 0 ∨ k = 1 ∨ k = 2 ∨ k = 3 ∨ k = 4 ∨ k = 5 := by omega
  rcases this with rfl | rfl | rfl | rfl | rfl | rfl <;> decide
theorem nb_big {k : Int} (h : 6 ≤ k) : nb k = 5460 := by
  unfold nb
  rw [if_neg (by omega), if_neg (by omega), if_neg (by omega), if_neg (by omega), if_neg (by omega), if_neg (by omega)]
theorem nb_small {k : Int} (h : k ≤ 0) : nb k = 0 := by
  unfold nb
  rw [if_pos h]
theorem nb_cs (k : Int) : k ≤ 0 ∨ k = 1 ∨ k = 2 ∨ k = 3 ∨ k = 4 ∨ k = 5 ∨ 6 ≤ k := by omega
theorem nb_le (k : Int) : nb k ≤ 5460 := by
  rcases nb_cs k with h | rfl | rfl | rfl | rfl | rfl | h
  · rw [nb_small h]; decide
  iterate 5 decide
  · rw [nb_big h]; decide
theorem nb_0 (k : Int) : 0 ≤ nb k := by
  rcases nb_cs k with h | rfl | rfl | rfl | rfl | rfl | h
  · rw [nb_small h]; decide
  iterate 5 decide
  · rw [nb_big h]; decide
theorem nb_mo (k : Int) : nb k ≤ nb (k + 1) := by
  rcases nb_cs k with h | rfl | rfl | rfl | rfl | rfl | h
  · rw [nb_small h]; exact nb_0 _
  iterate 5 decide
  · rw [nb_big h, nb_big (by omega)]; decide
noncomputable def bnum (w : zW) (p : Nat) (b : Int) : Prop := ∃ (n : Int) (fs : List Value), zix w p = some (.inr (0, .int (Int32.ofInt n) :: fs)) ∧ 0 ≤ n ∧ n ≤ b
theorem bnum_le {w : zW} {p : Nat} {b x : Int} {fs : List Value} (h : bnum w p b) (hb : b ≤ 5460) (hO : zix w p = some (.inr (0, .int (Int32.ofInt x) :: fs))) (hx : 0 ≤ x ∧ x ≤ 5460) : x ≤ b := by
  obtain ⟨n, fs', a, b1, b2⟩ := h
  obtain rfl : n = x := f0Eq (by omega) (by omega) (a.symm.trans hO)
  exact b2
noncomputable def LN (w : zW) (p : Nat) (line k f : Int) : Prop := (f ≠ 0 ∨ ((line ≤ 3 ∧ k = 0 → BSx w p line) ∧ (¬ (line ≤ 3 ∧ k = 0) → REL w (p + 3)))) ∧ (line = 5 → bnum w p (nb k))
theorem LN_fr {w w' : zW} {p : Nat} {line k f : Int} (h0 : zix w' p = zix w p) (h2 : zix w' (p + 2) = zix w (p + 2)) (h3 : zix w' (p + 3) = zix w (p + 3)) (h4 : zix w' (p + 4) = zix w (p + 4)) (h : LN w p line k f) : LN w' p line k f := by
  refine ⟨h.1.elim Or.inl fun a => Or.inr ⟨fun e => BSx_fr h0 h2 h3 h4 (a.1 e), fun e => REL_fr h3 h4 (a.2 e)⟩, fun e => ?_⟩
  obtain ⟨n, fs, a, b⟩ := h.2 e
  exact ⟨n, fs, h0.trans a, b⟩
theorem bnum_mo {w : zW} {p : Nat} {b b' : Int} (h : bnum w p b) (hb : b ≤ b') : bnum w p b' := by
  obtain ⟨n, fs, a, b1, b2⟩ := h
  exact ⟨n, fs, a, b1, by omega⟩
theorem ln_f {w : zW} {p : Nat} {line k f f' : Int} (h : LN w p line k f) (hf : f' ≠ 0) : LN w p line (k + 1) f' :=
  ⟨Or.inl hf, fun e => bnum_mo (h.2 e) (nb_mo k)⟩
theorem ln_ff {w : zW} {p : Nat} {line k f f' : Int} (h : LN w p line k f) (hf : f' = f ∨ f' ≠ 0) : LN w p line k f' := by
  rcases hf with rfl | hf
  · exact h
  · exact ⟨Or.inl hf, h.2⟩
theorem ln_up {w : zW} {p : Nat} {line k f : Int} (h : LN w p line k f) (h4 : 4 ≤ line) (h5 : line ≠ 5) : LN w p line (k + 1) f :=
  ⟨h.1.elim Or.inl fun a => Or.inr ⟨fun e => by omega, fun _ => a.2 (by omega)⟩, fun e => absurd e h5⟩
/-- a line but a step's: the steps stay -/
theorem ln_w {w w' : zW} {p : Nat} {line k f : Int} (h : LN w p line k f) (h4 : 4 ≤ line) (h3 : zix w' (p + 3) = zix w (p + 3)) (h4' : zix w' (p + 4) = zix w (p + 4)) (hb : line = 5 → bnum w' p (nb (k + 1))) : LN w' p line (k + 1) f :=
  ⟨h.1.elim Or.inl fun a => Or.inr ⟨fun e => by omega, fun _ => REL_fr h3 h4' (a.2 (by omega))⟩, hb⟩
theorem ln_b {w : zW} {p : Nat} {line n f k : Int} {y : Value} {fs : List Value} (hk0 : k = 0) (h : LN w p line k f) (hl : line ≤ 3) (hO : zix w p = some (.inr (0, y :: .int (Int32.ofInt n) :: fs))) (hn : 0 ≤ n ∧ n ≤ 5) (hx : ∀ gs, zix w (p + 2) = some (.inl (1, 5, .inl gs)) → 1 ≤ n → 1 ≤ (gs (n - 1).toNat).toInt → False) : LN w p line (k + 1) f := by
  subst hk0
  refine ⟨h.1.elim Or.inl fun a => ?_, fun e => by omega⟩
  have hb := a.1 ⟨hl, rfl⟩
  obtain ⟨x, nr, fs', gs', gk, gn, a1, b, c⟩ := hb
  obtain ⟨e1, e2, _⟩ := bsx_at (a.1 ⟨hl, rfl⟩) hO hn b
  exact (hx _ b e1 e2).elim
theorem ln_s {w w1 : zW} {p : Nat} {line n f val s k : Int} {y : Value} {fs : List Value} {gs gn : Nat → Int32} (hk0 : k = 0) (h : LN w p line k f) (hl : 0 ≤ line ∧ line ≤ 3) (hO : zix w p = some (.inr (0, y :: .int (Int32.ofInt n) :: fs))) (hn : 0 ≤ n ∧ n ≤ 5) (hs : zix w (p + 2) = some (.inl (1, 5, .inl gs))) (es : s = (gs (n - 1).toNat).toInt) (hg : zix w (p + 4) = some (.inl (1, 20, .inl gn))) (f1 : wfr (p + 4) w w1) (k1 : zix w1 (p + 4) = some (.inl (1, 20, .inl (upd gn ((n - 1) * 4 + s - 1).toNat (Int32.ofInt val))))) (hv : (line = 0 ∧ 0 ≤ val ∧ val ≤ 3) ∨ (1 ≤ line ∧ 1 ≤ val ∧ val ≤ 6)) : LN w1 p line (k + 1) f := by
  subst hk0
  refine ⟨h.1.elim Or.inl fun a => Or.inr ⟨fun e => by omega, fun _ => ?_⟩, fun e => by omega⟩
  obtain ⟨e1, e2, e2', gk, gn', c, d, e3, e4⟩ := bsx_at (a.1 ⟨hl.2, rfl⟩) hO hn hs
  obtain rfl : gn' = gn := gEq (d.symm.trans hg)
  rw [← es] at e3 e4
  refine ⟨gk, _, (f1.2 (p + 3) (by omega)).trans c, k1, fun j hj => ?_⟩
  by_cases e : j = ((n - 1) * 4 + s - 1).toNat
  · subst e
    unfold rel
    rw [pk_us, zti (by omega) (by omega), e3]
    exact ⟨fun h => by omega, fun h _ => by omega⟩
  · unfold rel
    rw [pk_un e]
    exact e4 j hj e
theorem ln_0 {w : zW} {p : Nat} {line f : Int} (h : f ≠ 0 ∨ REL w (p + 3)) (h4 : 4 ≤ line) (hb : line = 5 → bnum w p 0) : LN w p line 0 f :=
  ⟨h.elim Or.inl fun a => Or.inr ⟨fun e => by omega, fun _ => a⟩, hb⟩
theorem ln_bst {w : zW} {p : Nat} {line f : Int} (h : f ≠ 0 ∨ BST w p line) (h4 : line ≤ 4) : LN w p line 0 f :=
  ⟨h.elim Or.inl fun a => Or.inr ⟨fun e => a.1 e.1, fun e => a.2 (by omega)⟩, fun e => by omega⟩
theorem ln_end {w : zW} {p : Nat} {line k f : Int} (h : LN w p line k f) (hk : ¬ (line ≤ 3 ∧ k = 0)) : f ≠ 0 ∨ REL w (p + 3) := h.1.elim Or.inl fun a => Or.inr (a.2 hk)
theorem rel_fr {w w' : zW} {p : Nat} {f : Int} (h1 : zix w' (p + 3) = zix w (p + 3)) (h2 : zix w' (p + 4) = zix w (p + 4)) (h : f ≠ 0 ∨ REL w (p + 3)) : f ≠ 0 ∨ REL w' (p + 3) := h.elim Or.inl fun a => Or.inr (REL_fr h1 h2 a)
