theorem c_wantNothing {ρ : Nat → Nat} {w : zW} (d : Nat) (p : Nat) (hw : CI ρ w) (hρp : ρ p = 70) (Q : zQ) (h : ∀ (w' : zW), CI ρ w' → wfR [72] ρ w w' → Q (none) w') : zCl zTab (d + 2) iX2_wantNothing [.ref p] w 0 0 Q := by
  refine zCl_i (M := kX2_wantNothing) rfl (Nat.le_of_ble_eq_true rfl) fun R hR => ?_
  have fr0 := wfR_rf [72] ρ w
  refine hR (?_ : R (_, _, _, _, _, _))
  obtain ⟨y0_1, x1_1, x2_1, x3_1, hO1, hk1_0, hk1_1, hk1_2, hk1_3, hk1_4, hk1_5, hk1_6, hk1_7, hk1_8, hk1_9⟩ := CI_o70 hw hρp
  refine hR (c_get hO1 rfl ?_)
  refine hR (?_ : R (_, _, _, _, _, _))
  refine hR (zcall_i 0 0 (Nat.le_of_ble_eq_true rfl) (Nat.le_of_ble_eq_true rfl) (c_fill _ (p + 2) 10 ((-1)) (-2147483648) 2147483647 hw (by rw [hk1_5]; rfl) ⟨by rw [hk1_5]; decide, by rw [hk1_5]; decide⟩ (by omega) (by omega) (by omega) _ fun w2 hw2 f2 hg2 => ?_))
  refine (?_ : R (_, _, [], w2, 0, 0))
  have fr3 := wfR_st fr0 f2 (by rw [hk1_5]; decide)
  have hO4 := (f2.2 p (rne hρp hk1_5 (by decide))).trans hO1
  exact hR (zret_i rfl (Nat.le_refl _) rfl (h _ hw2 fr3))
theorem c_want {ρ : Nat → Nat} {w : zW} (d : Nat) (p s : Nat) (hw : CI ρ w) (hρp : ρ p = 70) (hρs : ρ s = 40) (Q : zQ) (h : ∀ (w' : zW), CI ρ w' → wfR [72] ρ w w' → Q (none) w') : zCl zTab (d + 3) iX2_want [.ref p, .ref s] w 0 0 Q := by
  refine zCl_i (M := kX2_want) rfl (Nat.le_of_ble_eq_true rfl) fun R hR => ?_
  have fr0 := wfR_rf [72] ρ w
  refine hR (?_ : R (_, _, _, _, _, _))
  obtain ⟨y0_2, x1_2, x2_2, x3_2, hO2, hk2_0, hk2_1, hk2_2, hk2_3, hk2_4, hk2_5, hk2_6, hk2_7, hk2_8, hk2_9⟩ := CI_o70 hw hρp
  refine hR (c_obj hO2 (zcall_i 0 0 (Nat.le_of_ble_eq_true rfl) (Nat.le_of_ble_eq_true rfl) (c_wantNothing _ p hw hρp _ fun w1 hw1 g1 => ?_)))
  have fr3 := wfR_tr fr0 g1 (by decide)
  have hO4 := (g1.2 p (by rw [hρp]; decide)).trans hO2
  refine (?_ : R (_, _, [], w1, 0, 0))
  iterate 2 refine hR (?_ : R (_, _, _, _, _, _))
  have lp6 : ∀ (N : Nat) (k : Int) (o3_6 : Option Value) (w_6 : zW), (zc2 o3_6 = false) → (CI ρ w_6) → (wfR [72] ρ w w_6) → (zix w_6 p = some (.inr (2, [va_rf y0_2, .int (Int32.ofInt x1_2), .int (Int32.ofInt x2_2), .int (Int32.ofInt x3_2), .ref (p + 1), .ref (p + 2), .ref (p + 3), .ref (p + 4), .ref (p + 5), .ref (p + 6)]))) → (0 ≤ k ∧ k ≤ 6) → (7 - k < N) → R (6, [some (.ref p), some (.ref s), some (.int (Int32.ofInt k)), o3_6], [], w_6, 0, 0) := by
    intro N
    induction N with
    | zero => intros; omega
    | succ N ih6 =>
      intro k o3_6 w_6 hzo3_6 hw_6 fr_6 hOp_6 hf0_6 hN6
      iterate 2 refine hR (?_ : R (_, _, _, _, _, _))
      obtain ⟨x0_5, hO5, hk5_0, hk5_1, hk5_2⟩ := CI_o40 hw_6 hρs
      refine hR (c_get hO5 rfl ?_)
      refine hR (j_ge (by omega) (by omega) (fun hc6 => ?_) (fun hc6 => ?_))
      · skip
        exact hR (zret_i rfl (Nat.le_refl _) rfl (h _ hw_6 fr_6))
      refine hR (?_ : R (_, _, _, _, _, _))
      refine hR (c_get hO5 rfl ?_)
      refine hR (?_ : R (_, _, _, _, _, _))
      refine hR (c_ald hw_6 (by rw [hk5_1]; rfl) (by omega) (by omega) (Nat.le_of_ble_eq_true rfl) fun v7 lv7 uv7 => ?_)
      iterate 2 refine hR (?_ : R (_, _, _, _, _, _))
      refine hR (c_get hOp_6 rfl ?_)
      refine hR (?_ : R (_, _, _, _, _, _))
      refine hR (c_ald hw_6 (by rw [hk2_5]; rfl) (by omega) (by omega) (Nat.le_of_ble_eq_true rfl) fun v8 lv8 uv8 => ?_)
      refine hR (?_ : R (_, _, _, _, _, _))
      refine hR (j_any ?_ ?_)
      · skip
        refine hR (?_ : R (_, _, _, _, _, _))
        refine hR (c_get hOp_6 rfl ?_)
        iterate 2 refine hR (?_ : R (_, _, _, _, _, _))
        refine hR (c_get hO5 rfl ?_)
        refine hR (?_ : R (_, _, _, _, _, _))
        refine hR (c_ald hw_6 (by rw [hk5_2]; rfl) (by omega) (by omega) (Nat.le_of_ble_eq_true rfl) fun v9 lv9 uv9 => ?_)
        refine hR (c_astx hw_6 (by rw [hk2_5]; rfl) ⟨by rw [hk2_5]; decide, by rw [hk2_5]; decide⟩ (by omega) (by omega) (Nat.le_of_ble_eq_true rfl) fun w10 hw10 f10 => ?_)
        have fr11 := wfR_st fr_6 f10 (by rw [hk2_5]; decide)
        have hO12 := (f10.2 p (rne hρp hk2_5 (by decide))).trans hOp_6
        have hO13 := (f10.2 s (rne hρs hk2_5 (by decide))).trans hO5
        refine hR (?_ : R (_, _, _, _, _, _))
        refine hR (t_inc ?_)
        refine hR (?_ : R (_, _, _, _, _, _))
        exact ih6 _ _ _ (by rfl) hw10 fr11 hO12 (by omega) (by omega)
      refine hR (?_ : R (_, _, _, _, _, _))
      refine hR (c_get hOp_6 rfl ?_)
      refine hR (?_ : R (_, _, _, _, _, _))
      refine hR (c_ald hw_6 (by rw [hk2_5]; rfl) (by omega) (by omega) (Nat.le_of_ble_eq_true rfl) fun v14 lv14 uv14 => ?_)
      refine hR (?_ : R (_, _, _, _, _, _))
      refine hR (c_get hO5 rfl ?_)
      refine hR (?_ : R (_, _, _, _, _, _))
      refine hR (c_ald hw_6 (by rw [hk5_2]; rfl) (by omega) (by omega) (Nat.le_of_ble_eq_true rfl) fun v15 lv15 uv15 => ?_)
      refine hR (j_any ?_ ?_)
      · skip
        refine hR (?_ : R (_, _, _, _, _, _))
        refine hR (c_get hOp_6 rfl ?_)
        refine hR (?_ : R (_, _, _, _, _, _))
        refine hR (t_c (-2) (by decide) ?_)
        refine hR (c_astx hw_6 (by rw [hk2_5]; rfl) ⟨by rw [hk2_5]; decide, by rw [hk2_5]; decide⟩ (by omega) (by omega) (Nat.le_of_ble_eq_true rfl) fun w16 hw16 f16 => ?_)
        have fr17 := wfR_st fr_6 f16 (by rw [hk2_5]; decide)
        have hO18 := (f16.2 p (rne hρp hk2_5 (by decide))).trans hOp_6
        have hO19 := (f16.2 s (rne hρs hk2_5 (by decide))).trans hO5
        refine hR (t_inc ?_)
        refine hR (?_ : R (_, _, _, _, _, _))
        exact ih6 _ _ _ (by rfl) hw16 fr17 hO18 (by omega) (by omega)
      refine hR (?_ : R (_, _, _, _, _, _))
      refine hR (c_get hOp_6 rfl ?_)
      iterate 2 refine hR (?_ : R (_, _, _, _, _, _))
      refine hR (c_get hO5 rfl ?_)
      refine hR (?_ : R (_, _, _, _, _, _))
      refine hR (c_ald hw_6 (by rw [hk5_2]; rfl) (by omega) (by omega) (Nat.le_of_ble_eq_true rfl) fun v20 lv20 uv20 => ?_)
      refine hR (c_astx hw_6 (by rw [hk2_5]; rfl) ⟨by rw [hk2_5]; decide, by rw [hk2_5]; decide⟩ (by omega) (by omega) (Nat.le_of_ble_eq_true rfl) fun w21 hw21 f21 => ?_)
      have fr22 := wfR_st fr_6 f21 (by rw [hk2_5]; decide)
      have hO23 := (f21.2 p (rne hρp hk2_5 (by decide))).trans hOp_6
      have hO24 := (f21.2 s (rne hρs hk2_5 (by decide))).trans hO5
      refine hR (?_ : R (_, _, _, _, _, _))
      refine hR (t_inc ?_)
      refine hR (?_ : R (_, _, _, _, _, _))
      exact ih6 _ _ _ (by rfl) hw21 fr22 hO23 (by omega) (by omega)
  exact lp6 400000000 _ _ _ (by rfl) hw1 fr3 hO4 (by omega) (by omega)
theorem c_isWanted {ρ : Nat → Nat} {w : zW} (d : Nat) (p : Nat) (a1 a2 : Int) (hw : CI ρ w) (hρp : ρ p = 70) (hr0 : 0 ≤ a1 ∧ a1 ≤ 9) (hr1 : -2147483648 ≤ a2 ∧ a2 ≤ 2147483647) (Q : zQ) (h : ∀ (v : Int), (v = 0 ∨ v = 1) → Q (some (.int (Int32.ofInt v))) w) : zCl zTab (d + 1) iX2_isWanted [.ref p, .int (Int32.ofInt a1), .int (Int32.ofInt a2)] w 0 0 Q := by
  refine zCl_i (M := kX2_isWanted) rfl (Nat.le_of_ble_eq_true rfl) fun R hR => ?_
  have fr0 := wfR_rf [] ρ w
  refine hR (?_ : R (_, _, _, _, _, _))
  obtain ⟨y0_1, x1_1, x2_1, x3_1, hO1, hk1_0, hk1_1, hk1_2, hk1_3, hk1_4, hk1_5, hk1_6, hk1_7, hk1_8, hk1_9⟩ := CI_o70 hw hρp
  refine hR (c_get hO1 rfl ?_)
  refine hR (?_ : R (_, _, _, _, _, _))
  refine hR (c_ald hw (by rw [hk1_5]; rfl) (by omega) (by omega) (Nat.le_of_ble_eq_true rfl) fun v2 lv2 uv2 => ?_)
  refine hR (?_ : R (_, _, _, _, _, _))
  refine hR (j_any ?_ ?_)
  · skip
    iterate 2 refine hR (?_ : R (_, _, _, _, _, _))
    exact hR (zret_i rfl (Nat.le_refl _) (zbo (by omega)) (h _ (by omega)))
  refine hR (?_ : R (_, _, _, _, _, _))
  refine hR (c_get hO1 rfl ?_)
  refine hR (?_ : R (_, _, _, _, _, _))
  refine hR (c_ald hw (by rw [hk1_5]; rfl) (by omega) (by omega) (Nat.le_of_ble_eq_true rfl) fun v3 lv3 uv3 => ?_)
  refine hR (?_ : R (_, _, _, _, _, _))
  refine hR (j_any ?_ ?_)
  · skip
    refine hR (?_ : R (_, _, _, _, _, _))
    exact hR (zret_i rfl (Nat.le_refl _) (zbo (by omega)) (h _ (by omega)))
  iterate 2 refine hR (?_ : R (_, _, _, _, _, _))
  exact hR (zret_i rfl (Nat.le_refl _) (zbo (by omega)) (h _ (by omega)))
theorem c_onesAt {ρ : Nat → Nat} {w : zW} (d : Nat) (p : Nat) (a1 : Int) (hw : CI ρ w) (hρp : ρ p = 70) (hr0 : 0 ≤ a1 ∧ a1 ≤ 9) (Q : zQ) (h : ∀ (v : Int), (-2147483648 ≤ v ∧ v ≤ 2147483647) → Q (some (.int (Int32.ofInt v))) w) : zCl zTab (d + 1) iX2_onesAt [.ref p, .int (Int32.ofInt a1)] w 0 0 Q := by
  refine zCl_i (M := kX2_onesAt) rfl (Nat.le_of_ble_eq_true rfl) fun R hR => ?_
  have fr0 := wfR_rf [] ρ w
  iterate 2 refine hR (?_ : R (_, _, _, _, _, _))
  refine hR (t_rem (by omega) (by omega) (by omega) (by omega) ?_)
  refine hR (k_ne (by omega) (fun hc1 => ?_) (fun hc1 => ?_))
  · skip
    refine hR (?_ : R (_, _, _, _, _, _))
    obtain ⟨y0_2, x1_2, x2_2, x3_2, hO2, hk2_0, hk2_1, hk2_2, hk2_3, hk2_4, hk2_5, hk2_6, hk2_7, hk2_8, hk2_9⟩ := CI_o70 hw hρp
    refine hR (c_get hO2 rfl ?_)
    exact hR (zret_i rfl (Nat.le_refl _) trivial (h _ (by omega)))
  refine hR (?_ : R (_, _, _, _, _, _))
  obtain ⟨y0_3, x1_3, x2_3, x3_3, hO3, hk3_0, hk3_1, hk3_2, hk3_3, hk3_4, hk3_5, hk3_6, hk3_7, hk3_8, hk3_9⟩ := CI_o70 hw hρp
  refine hR (c_get hO3 rfl ?_)
  refine hR (?_ : R (_, _, _, _, _, _))
  exact hR (zret_i rfl (Nat.le_refl _) trivial (h _ (by omega)))
theorem c_recall {ρ : Nat → Nat} {w : zW} (d : Nat) (p : Nat) (a1 : Int) (hw : CI ρ w) (hρp : ρ p = 70) (hr0 : 0 ≤ a1 ∧ a1 ≤ 9) (Q : zQ) (h : ∀ (w' : zW), CI ρ w' → wfR [76] ρ w w' → Q (none) w') : zCl zTab (d + 1) iX2_recall [.ref p, .int (Int32.ofInt a1)] w 0 0 Q := by
  refine zCl_i (M := kX2_recall) rfl (Nat.le_of_ble_eq_true rfl) fun R hR => ?_
  have fr0 := wfR_rf [76] ρ w
  refine hR (?_ : R (_, _, _, _, _, _))
  obtain ⟨y0_1, x1_1, x2_1, x3_1, hO1, hk1_0, hk1_1, hk1_2, hk1_3, hk1_4, hk1_5, hk1_6, hk1_7, hk1_8, hk1_9⟩ := CI_o70 hw hρp
  refine hR (c_get hO1 rfl ?_)
  refine hR (?_ : R (_, _, _, _, _, _))
  refine hR (c_ald hw (by rw [hk1_4]; rfl) (by omega) (by omega) (Nat.le_of_ble_eq_true rfl) fun v2 lv2 uv2 => ?_)
  refine hR (?_ : R (_, _, _, _, _, _))
  have lp7 : ∀ (N : Nat) (x : Int) (w_7 : zW), (CI ρ w_7) → (wfR [76] ρ w w_7) → (zix w_7 p = some (.inr (2, [va_rf y0_1, .int (Int32.ofInt x1_1), .int (Int32.ofInt x2_1), .int (Int32.ofInt x3_1), .ref (p + 1), .ref (p + 2), .ref (p + 3), .ref (p + 4), .ref (p + 5), .ref (p + 6)]))) → (0 ≤ x ∧ x ≤ 25750) → (25751 - x < N) → R (7, [some (.ref p), some (.int (Int32.ofInt a1)), some (.int (Int32.ofInt x))], [], w_7, 0, 0) := by
    intro N
    induction N with
    | zero => intros; omega
    | succ N ih7 =>
      intro x w_7 hw_7 fr_7 hOp_7 hf0_7 hN7
      iterate 2 refine hR (?_ : R (_, _, _, _, _, _))
      refine hR (c_get hOp_7 rfl ?_)
      iterate 2 refine hR (?_ : R (_, _, _, _, _, _))
      refine hR (t_add ?_)
      refine hR (c_ald hw_7 (by rw [hk1_4]; rfl) (by omega) (by omega) (Nat.le_of_ble_eq_true rfl) fun v3 lv3 uv3 => ?_)
      refine hR (j_ge (by omega) (by omega) (fun hc4 => ?_) (fun hc4 => ?_))
      · skip
        exact hR (zret_i rfl (Nat.le_refl _) rfl (h _ hw_7 fr_7))
      refine hR (?_ : R (_, _, _, _, _, _))
      refine hR (c_get hOp_7 rfl ?_)
      refine hR (?_ : R (_, _, _, _, _, _))
      refine hR (c_get hOp_7 rfl ?_)
      refine hR (?_ : R (_, _, _, _, _, _))
      refine hR (c_ald hw_7 (by rw [hk1_6]; rfl) (by omega) (by omega) (Nat.le_of_ble_eq_true rfl) fun v5 lv5 uv5 => ?_)
      refine hR (?_ : R (_, _, _, _, _, _))
      refine hR (c_ast hw_7 (by rw [hk1_9]; rfl) ⟨by rw [hk1_9]; decide, by rw [hk1_9]; decide⟩ (by omega) (by omega) (by omega) (by omega) (by omega) (by omega) (Nat.le_of_ble_eq_true rfl) fun w6 hw6 f6 => ?_)
      have fr7 := wfR_st fr_7 f6 (by rw [hk1_9]; decide)
      have hO8 := (f6.2 p (rne hρp hk1_9 (by decide))).trans hOp_7
      refine hR (t_inc ?_)
      refine hR (?_ : R (_, _, _, _, _, _))
      exact ih7 _ _ hw6 fr7 hO8 (by omega) (by omega)
  exact lp7 400000000 _ _ hw fr0 hO1 (by omega) (by omega)
theorem c_forget {ρ : Nat → Nat} {w : zW} (d : Nat) (p : Nat) (a1 : Int) (hw : CI ρ w) (hρp : ρ p = 70) (hr0 : 0 ≤ a1 ∧ a1 ≤ 9) (Q : zQ) (h : ∀ (w' : zW), CI ρ w' → wfR [76] ρ w w' → Q (none) w') : zCl zTab (d + 1) iX2_forget [.ref p, .int (Int32.ofInt a1)] w 0 0 Q := by
  refine zCl_i (M := kX2_forget) rfl (Nat.le_of_ble_eq_true rfl) fun R hR => ?_
  have fr0 := wfR_rf [76] ρ w
  refine hR (?_ : R (_, _, _, _, _, _))
  obtain ⟨y0_1, x1_1, x2_1, x3_1, hO1, hk1_0, hk1_1, hk1_2, hk1_3, hk1_4, hk1_5, hk1_6, hk1_7, hk1_8, hk1_9⟩ := CI_o70 hw hρp
  refine hR (c_get hO1 rfl ?_)
  refine hR (?_ : R (_, _, _, _, _, _))
  refine hR (c_ald hw (by rw [hk1_4]; rfl) (by omega) (by omega) (Nat.le_of_ble_eq_true rfl) fun v2 lv2 uv2 => ?_)
  refine hR (?_ : R (_, _, _, _, _, _))
  have lp7 : ∀ (N : Nat) (x : Int) (w_7 : zW), (CI ρ w_7) → (wfR [76] ρ w w_7) → (zix w_7 p = some (.inr (2, [va_rf y0_1, .int (Int32.ofInt x1_1), .int (Int32.ofInt x2_1), .int (Int32.ofInt x3_1), .ref (p + 1), .ref (p + 2), .ref (p + 3), .ref (p + 4), .ref (p + 5), .ref (p + 6)]))) → (0 ≤ x ∧ x ≤ 25750) → (25751 - x < N) → R (7, [some (.ref p), some (.int (Int32.ofInt a1)), some (.int (Int32.ofInt x))], [], w_7, 0, 0) := by
    intro N
    induction N with
    | zero => intros; omega
    | succ N ih7 =>
      intro x w_7 hw_7 fr_7 hOp_7 hf0_7 hN7
      iterate 2 refine hR (?_ : R (_, _, _, _, _, _))
      refine hR (c_get hOp_7 rfl ?_)
      iterate 2 refine hR (?_ : R (_, _, _, _, _, _))
      refine hR (t_add ?_)
      refine hR (c_ald hw_7 (by rw [hk1_4]; rfl) (by omega) (by omega) (Nat.le_of_ble_eq_true rfl) fun v3 lv3 uv3 => ?_)
      refine hR (j_ge (by omega) (by omega) (fun hc4 => ?_) (fun hc4 => ?_))
      · skip
        exact hR (zret_i rfl (Nat.le_refl _) rfl (h _ hw_7 fr_7))
      refine hR (?_ : R (_, _, _, _, _, _))
      refine hR (c_get hOp_7 rfl ?_)
      refine hR (?_ : R (_, _, _, _, _, _))
      refine hR (c_get hOp_7 rfl ?_)
      refine hR (?_ : R (_, _, _, _, _, _))
      refine hR (c_ald hw_7 (by rw [hk1_6]; rfl) (by omega) (by omega) (Nat.le_of_ble_eq_true rfl) fun v5 lv5 uv5 => ?_)
      refine hR (?_ : R (_, _, _, _, _, _))
      refine hR (c_ast hw_7 (by rw [hk1_9]; rfl) ⟨by rw [hk1_9]; decide, by rw [hk1_9]; decide⟩ (by omega) (by omega) (by omega) (by omega) (by omega) (by omega) (Nat.le_of_ble_eq_true rfl) fun w6 hw6 f6 => ?_)
      have fr7 := wfR_st fr_7 f6 (by rw [hk1_9]; decide)
      have hO8 := (f6.2 p (rne hρp hk1_9 (by decide))).trans hOp_7
      refine hR (t_inc ?_)
      refine hR (?_ : R (_, _, _, _, _, _))
      exact ih7 _ _ hw6 fr7 hO8 (by omega) (by omega)
  exact lp7 400000000 _ _ hw fr0 hO1 (by omega) (by omega)
theorem c_endByDrift {ρ : Nat → Nat} {w : zW} (d : Nat) (p : Nat) (hw : CI ρ w) (hρp : ρ p = 70) (hnp : nn w p) (Q : zQ) (h : ∀ (w' : zW), CI ρ w' → wfR [75] ρ w w' → Q (none) w') : zCl zTab (d + 4) iX2_endByDrift [.ref p] w 0 0 Q := by
  refine zCl_i (M := kX2_endByDrift) rfl (Nat.le_of_ble_eq_true rfl) fun R hR => ?_
  have fr0 := wfR_rf [75] ρ w
  refine hR (?_ : R (_, _, _, _, _, _))
  obtain ⟨y0_1, x1_1, x2_1, x3_1, hO1, hk1_0, hk1_1, hk1_2, hk1_3, hk1_4, hk1_5, hk1_6, hk1_7, hk1_8, hk1_9⟩ := CI_o70 hw hρp
  refine hR (c_get hO1 rfl ?_)
  refine hR (?_ : R (_, _, _, _, _, _))
  refine hR (c_get hO1 rfl ?_)
  refine hR (c_ald hw (by rw [hk1_4]; rfl) (by omega) (by omega) (Nat.le_of_ble_eq_true rfl) fun v2 lv2 uv2 => ?_)
  refine hR (?_ : R (_, _, _, _, _, _))
  have lp10 : ∀ (N : Nat) (x : Int) (w_10 : zW), (CI ρ w_10) → (wfR [75] ρ w w_10) → (zix w_10 p = some (.inr (2, [va_rf y0_1, .int (Int32.ofInt x1_1), .int (Int32.ofInt x2_1), .int (Int32.ofInt x3_1), .ref (p + 1), .ref (p + 2), .ref (p + 3), .ref (p + 4), .ref (p + 5), .ref (p + 6)]))) → (nn w_10 p) → (0 ≤ x ∧ x ≤ 25750) → (25751 - x < N) → R (10, [some (.ref p), some (.int (Int32.ofInt x))], [], w_10, 0, 0) := by
    intro N
    induction N with
    | zero => intros; omega
    | succ N ih10 =>
      intro x w_10 hw_10 fr_10 hOp_10 hnp_10 hf0_10 hN10
      iterate 2 refine hR (?_ : R (_, _, _, _, _, _))
      refine hR (c_get hOp_10 rfl ?_)
      refine hR (?_ : R (_, _, _, _, _, _))
      refine hR (c_get hOp_10 rfl ?_)
      refine hR (?_ : R (_, _, _, _, _, _))
      refine hR (t_add ?_)
      refine hR (c_ald hw_10 (by rw [hk1_4]; rfl) (by omega) (by omega) (Nat.le_of_ble_eq_true rfl) fun v3 lv3 uv3 => ?_)
      refine hR (j_ge (by omega) (by omega) (fun hc4 => ?_) (fun hc4 => ?_))
      · skip
        exact hR (zret_i rfl (Nat.le_refl _) rfl (h _ hw_10 fr_10))
      refine hR (?_ : R (_, _, _, _, _, _))
      refine hR (c_get hOp_10 rfl ?_)
      iterate 2 refine hR (?_ : R (_, _, _, _, _, _))
      refine hR (c_get hOp_10 rfl ?_)
      refine hR (?_ : R (_, _, _, _, _, _))
      refine hR (c_ald hw_10 (by rw [hk1_6]; rfl) (by omega) (by omega) (Nat.le_of_ble_eq_true rfl) fun v5 lv5 uv5 => ?_)
      refine hR (?_ : R (_, _, _, _, _, _))
      refine hR (c_get hOp_10 rfl ?_)
      obtain ⟨z6, rfl⟩ := nn_some hnp_10 hOp_10
      have hz6 : ρ z6 = 50 := hk1_0 z6 rfl
      obtain ⟨z0_7, z2_7, z3_7, hO7, hk7_0, hk7_1, hk7_2, hk7_3, hk7_4⟩ := CI_o50 hw_10 hz6
      refine hR (c_get hO7 rfl ?_)
      obtain ⟨x0_8, x1_8, x2_8, hO8, hk8_0, hk8_1, hk8_2, hk8_3, hk8_4, hk8_5, hk8_6⟩ := CI_o20 hw_10 hk7_0
      refine hR (c_get hO8 rfl ?_)
      refine hR (zcall_i 0 0 (Nat.le_of_ble_eq_true rfl) (Nat.le_of_ble_eq_true rfl) (c_driftOf _ _ v5 x0_8 (by omega) (by omega) _ fun v9 hp11 => ?_))
      refine (?_ : R (_, _, (.int (Int32.ofInt v9)) :: (.int (Int32.ofInt x)) :: (.ref (p + 5)) :: [], w_10, 0, 0))
      refine hR (c_astx hw_10 (by rw [hk1_8]; rfl) ⟨by rw [hk1_8]; decide, by rw [hk1_8]; decide⟩ (by omega) (by omega) (Nat.le_of_ble_eq_true rfl) fun w12 hw12 f12 => ?_)
      have fr13 := wfR_st fr_10 f12 (by rw [hk1_8]; decide)
      have hn14 := nn_eq (f12.2 p (rne hρp hk1_8 (by decide))) hnp_10
      have hO15 := (f12.2 p (rne hρp hk1_8 (by decide))).trans hOp_10
      have hO16 := (f12.2 z6 (rne hz6 hk1_8 (by decide))).trans hO7
      have hO17 := (f12.2 z0_7 (rne hk7_0 hk1_8 (by decide))).trans hO8
      refine hR (t_inc ?_)
      refine hR (?_ : R (_, _, _, _, _, _))
      exact ih10 _ _ hw12 fr13 hO15 hn14 (by omega) (by omega)
  exact lp10 400000000 _ _ hw fr0 hO1 hnp (by omega) (by omega)
theorem c_endByOne {ρ : Nat → Nat} {w : zW} (d : Nat) (p : Nat) (hw : CI ρ w) (hρp : ρ p = 70) (hnp : nn w p) (Q : zQ) (h : ∀ (w' : zW), CI ρ w' → wfR [75] ρ w w' → Q (none) w') : zCl zTab (d + 1) iX2_endByOne [.ref p] w 0 0 Q := by
  refine zCl_i (M := kX2_endByOne) rfl (Nat.le_of_ble_eq_true rfl) fun R hR => ?_
  have fr0 := wfR_rf [75] ρ w
  refine hR (?_ : R (_, _, _, _, _, _))
  obtain ⟨y0_1, x1_1, x2_1, x3_1, hO1, hk1_0, hk1_1, hk1_2, hk1_3, hk1_4, hk1_5, hk1_6, hk1_7, hk1_8, hk1_9⟩ := CI_o70 hw hρp
  refine hR (c_get hO1 rfl ?_)
  refine hR (?_ : R (_, _, _, _, _, _))
  refine hR (c_get hO1 rfl ?_)
  refine hR (c_ald hw (by rw [hk1_4]; rfl) (by omega) (by omega) (Nat.le_of_ble_eq_true rfl) fun v2 lv2 uv2 => ?_)
  refine hR (?_ : R (_, _, _, _, _, _))
  have lp10 : ∀ (N : Nat) (x : Int) (w_10 : zW), (CI ρ w_10) → (wfR [75] ρ w w_10) → (zix w_10 p = some (.inr (2, [va_rf y0_1, .int (Int32.ofInt x1_1), .int (Int32.ofInt x2_1), .int (Int32.ofInt x3_1), .ref (p + 1), .ref (p + 2), .ref (p + 3), .ref (p + 4), .ref (p + 5), .ref (p + 6)]))) → (nn w_10 p) → (0 ≤ x ∧ x ≤ 25750) → (25751 - x < N) → R (10, [some (.ref p), some (.int (Int32.ofInt x))], [], w_10, 0, 0) := by
    intro N
    induction N with
    | zero => intros; omega
    | succ N ih10 =>
      intro x w_10 hw_10 fr_10 hOp_10 hnp_10 hf0_10 hN10
      iterate 2 refine hR (?_ : R (_, _, _, _, _, _))
      refine hR (c_get hOp_10 rfl ?_)
      refine hR (?_ : R (_, _, _, _, _, _))
      refine hR (c_get hOp_10 rfl ?_)
      refine hR (?_ : R (_, _, _, _, _, _))
      refine hR (t_add ?_)
      refine hR (c_ald hw_10 (by rw [hk1_4]; rfl) (by omega) (by omega) (Nat.le_of_ble_eq_true rfl) fun v3 lv3 uv3 => ?_)
      refine hR (j_ge (by omega) (by omega) (fun hc4 => ?_) (fun hc4 => ?_))
      · skip
        exact hR (zret_i rfl (Nat.le_refl _) rfl (h _ hw_10 fr_10))
      refine hR (?_ : R (_, _, _, _, _, _))
      refine hR (c_get hOp_10 rfl ?_)
      iterate 2 refine hR (?_ : R (_, _, _, _, _, _))
      refine hR (c_astx hw_10 (by rw [hk1_8]; rfl) ⟨by rw [hk1_8]; decide, by rw [hk1_8]; decide⟩ (by omega) (by omega) (Nat.le_of_ble_eq_true rfl) fun w5 hw5 f5 => ?_)
      have fr6 := wfR_st fr_10 f5 (by rw [hk1_8]; decide)
      have hn7 := nn_eq (f5.2 p (rne hρp hk1_8 (by decide))) hnp_10
      have hO8 := (f5.2 p (rne hρp hk1_8 (by decide))).trans hOp_10
      refine hR (t_inc ?_)
      refine hR (?_ : R (_, _, _, _, _, _))
      exact ih10 _ _ hw5 fr6 hO8 hn7 (by omega) (by omega)
  exact lp10 400000000 _ _ hw fr0 hO1 hnp (by omega) (by omega)
theorem c_endByWord {ρ : Nat → Nat} {w : zW} (d : Nat) (p : Nat) (a1 : Int) (hw : CI ρ w) (hρp : ρ p = 70) (hnp : nn w p) (hr0 : -2147483648 ≤ a1 ∧ a1 ≤ 2147483647) (Q : zQ) (h : ∀ (w' : zW), CI ρ w' → wfR [75] ρ w w' → Q (none) w') : zCl zTab (d + 4) iX2_endByWord [.ref p, .int (Int32.ofInt a1)] w 0 0 Q := by
  refine zCl_i (M := kX2_endByWord) rfl (Nat.le_of_ble_eq_true rfl) fun R hR => ?_
  have fr0 := wfR_rf [75] ρ w
  refine hR (?_ : R (_, _, _, _, _, _))
  obtain ⟨y0_1, x1_1, x2_1, x3_1, hO1, hk1_0, hk1_1, hk1_2, hk1_3, hk1_4, hk1_5, hk1_6, hk1_7, hk1_8, hk1_9⟩ := CI_o70 hw hρp
  refine hR (c_get hO1 rfl ?_)
  refine hR (?_ : R (_, _, _, _, _, _))
  refine hR (c_get hO1 rfl ?_)
  refine hR (c_ald hw (by rw [hk1_4]; rfl) (by omega) (by omega) (Nat.le_of_ble_eq_true rfl) fun v2 lv2 uv2 => ?_)
  refine hR (?_ : R (_, _, _, _, _, _))
  have lp10 : ∀ (N : Nat) (x : Int) (w_10 : zW), (CI ρ w_10) → (wfR [75] ρ w w_10) → (zix w_10 p = some (.inr (2, [va_rf y0_1, .int (Int32.ofInt x1_1), .int (Int32.ofInt x2_1), .int (Int32.ofInt x3_1), .ref (p + 1), .ref (p + 2), .ref (p + 3), .ref (p + 4), .ref (p + 5), .ref (p + 6)]))) → (nn w_10 p) → (0 ≤ x ∧ x ≤ 25750) → (25751 - x < N) → R (10, [some (.ref p), some (.int (Int32.ofInt a1)), some (.int (Int32.ofInt x))], [], w_10, 0, 0) := by
    intro N
    induction N with
    | zero => intros; omega
    | succ N ih10 =>
      intro x w_10 hw_10 fr_10 hOp_10 hnp_10 hf0_10 hN10
      iterate 2 refine hR (?_ : R (_, _, _, _, _, _))
      refine hR (c_get hOp_10 rfl ?_)
      refine hR (?_ : R (_, _, _, _, _, _))
      refine hR (c_get hOp_10 rfl ?_)
      refine hR (?_ : R (_, _, _, _, _, _))
      refine hR (t_add ?_)
      refine hR (c_ald hw_10 (by rw [hk1_4]; rfl) (by omega) (by omega) (Nat.le_of_ble_eq_true rfl) fun v3 lv3 uv3 => ?_)
      refine hR (j_ge (by omega) (by omega) (fun hc4 => ?_) (fun hc4 => ?_))
      · skip
        exact hR (zret_i rfl (Nat.le_refl _) rfl (h _ hw_10 fr_10))
      refine hR (?_ : R (_, _, _, _, _, _))
      refine hR (c_get hOp_10 rfl ?_)
      iterate 3 refine hR (?_ : R (_, _, _, _, _, _))
      refine hR (c_get hOp_10 rfl ?_)
      refine hR (?_ : R (_, _, _, _, _, _))
      refine hR (c_ald hw_10 (by rw [hk1_6]; rfl) (by omega) (by omega) (Nat.le_of_ble_eq_true rfl) fun v5 lv5 uv5 => ?_)
      refine hR (zcall_i 0 0 (Nat.le_of_ble_eq_true rfl) (Nat.le_of_ble_eq_true rfl) (c_timesOf _ _ a1 v5 (by omega) (by omega) _ fun v6 hp8 => ?_))
      refine (?_ : R (_, _, (.int (Int32.ofInt v6)) :: (.int (Int32.ofInt x)) :: (.ref (p + 5)) :: [], w_10, 0, 0))
      refine hR (c_astx hw_10 (by rw [hk1_8]; rfl) ⟨by rw [hk1_8]; decide, by rw [hk1_8]; decide⟩ (by omega) (by omega) (Nat.le_of_ble_eq_true rfl) fun w9 hw9 f9 => ?_)
      have fr10 := wfR_st fr_10 f9 (by rw [hk1_8]; decide)
      have hn11 := nn_eq (f9.2 p (rne hρp hk1_8 (by decide))) hnp_10
      have hO12 := (f9.2 p (rne hρp hk1_8 (by decide))).trans hOp_10
      refine hR (t_inc ?_)
      refine hR (?_ : R (_, _, _, _, _, _))
      exact ih10 _ _ hw9 fr10 hO12 hn11 (by omega) (by omega)
  exact lp10 400000000 _ _ hw fr0 hO1 hnp (by omega) (by omega)
theorem c_folded {ρ : Nat → Nat} {w : zW} (d : Nat) (p : Nat) (a1 a2 a3 : Int) (hw : CI ρ w) (hρp : ρ p = 70) (hnp : nn w p) (hr0 : 0 ≤ a1 ∧ a1 ≤ 9) (hr1 : 0 ≤ a2 ∧ a2 ≤ 25749) (hr2 : -2147483648 ≤ a3 ∧ a3 ≤ 2147483647) (Q : zQ) (h : ∀ (v : Int) (w' : zW), CI ρ w' → wfR [51] ρ w w' → (-2147483648 ≤ v ∧ v ≤ 2147483647) → Q (some (.int (Int32.ofInt v))) w') : zCl zTab (d + 5) iX2_folded [.ref p, .int (Int32.ofInt a1), .int (Int32.ofInt a2), .int (Int32.ofInt a3)] w 0 0 Q := by
  refine zCl_i (M := kX2_folded) rfl (Nat.le_of_ble_eq_true rfl) fun R hR => ?_
  have fr0 := wfR_rf [51] ρ w
  iterate 4 refine hR (?_ : R (_, _, _, _, _, _))
  have lp6 : ∀ (N : Nat) (fo : Int) (r : Int) (o6_6 : Option Value) (w_6 : zW), (zc2 o6_6 = false) → (CI ρ w_6) → (wfR [51] ρ w w_6) → (nn w_6 p) → (-2147483648 ≤ fo ∧ fo ≤ 2147483647) → (0 ≤ r ∧ r ≤ 5) → (6 - r < N) → R (6, [some (.ref p), some (.int (Int32.ofInt a1)), some (.int (Int32.ofInt a2)), some (.int (Int32.ofInt a3)), some (.int (Int32.ofInt fo)), some (.int (Int32.ofInt r)), o6_6], [], w_6, 0, 0) := by
    intro N
    induction N with
    | zero => intros; omega
    | succ N ih6 =>
      intro fo r o6_6 w_6 hzo6_6 hw_6 fr_6 hnp_6 hf0_6 hf1_6 hN6
      iterate 2 refine hR (?_ : R (_, _, _, _, _, _))
      obtain ⟨y0_1, x1_1, x2_1, x3_1, hO1, hk1_0, hk1_1, hk1_2, hk1_3, hk1_4, hk1_5, hk1_6, hk1_7, hk1_8, hk1_9⟩ := CI_o70 hw_6 hρp
      refine hR (c_get hO1 rfl ?_)
      obtain ⟨z2, rfl⟩ := nn_some hnp_6 hO1
      have hz2 : ρ z2 = 50 := hk1_0 z2 rfl
      obtain ⟨z0_3, z2_3, z3_3, hO3, hk3_0, hk3_1, hk3_2, hk3_3, hk3_4⟩ := CI_o50 hw_6 hz2
      refine hR (c_get hO3 rfl ?_)
      obtain ⟨x0_4, x1_4, x2_4, hO4, hk4_0, hk4_1, hk4_2, hk4_3, hk4_4, hk4_5, hk4_6⟩ := CI_o20 hw_6 hk3_0
      refine hR (c_get hO4 rfl ?_)
      refine hR (j_ge (by omega) (by omega) (fun hc5 => ?_) (fun hc5 => ?_))
      · skip
        iterate 2 refine hR (?_ : R (_, _, _, _, _, _))
        refine hR (j_ne (by omega) (by omega) (fun hc6 => ?_) (fun hc6 => ?_))
        · skip
          refine hR (?_ : R (_, _, _, _, _, _))
          exact hR (zret_i rfl (Nat.le_refl _) trivial (h _ _ hw_6 fr_6 (by omega)))
        iterate 2 refine hR (?_ : R (_, _, _, _, _, _))
        exact hR (zret_i rfl (Nat.le_refl _) trivial (h _ _ hw_6 fr_6 (by omega)))
      iterate 2 refine hR (?_ : R (_, _, _, _, _, _))
      refine hR (c_obj hO1 (zcall_i 0 0 (Nat.le_of_ble_eq_true rfl) (Nat.le_of_ble_eq_true rfl) (c_onesAt _ p a1 hw_6 hρp (by omega) _ fun v7 hp9 => ?_)))
      refine (?_ : R (_, _, (.int (Int32.ofInt v7)) :: [], w_6, 0, 0))
      refine hR (?_ : R (_, _, _, _, _, _))
      refine hR (zcall_i 0 0 (Nat.le_of_ble_eq_true rfl) (Nat.le_of_ble_eq_true rfl) (c_isIn _ _ v7 r _ fun v10 hp12 => ?_))
      refine (?_ : R (_, _, (.int (Int32.ofInt v10)) :: [], w_6, 0, 0))
      refine hR (k_eq (by omega) (fun hc13 => ?_) (fun hc13 => ?_))
      · skip
        iterate 4 refine hR (?_ : R (_, _, _, _, _, _))
        refine hR (j_ne (by omega) (by omega) (fun hc => by omega) (fun _ => ?_))
        refine hR (?_ : R (_, _, _, _, _, _))
        refine hR (t_inc ?_)
        refine hR (?_ : R (_, _, _, _, _, _))
        exact ih6 _ _ _ _ (by rfl) hw_6 fr_6 hnp_6 (by omega) (by omega) (by omega)
      refine hR (?_ : R (_, _, _, _, _, _))
      refine hR (c_get hO1 rfl ?_)
      refine hR (?_ : R (_, _, _, _, _, _))
      refine hR (c_get hO1 rfl ?_)
      iterate 2 refine hR (?_ : R (_, _, _, _, _, _))
      refine hR (c_get hO1 rfl ?_)
      refine hR (?_ : R (_, _, _, _, _, _))
      refine hR (c_ald hw_6 (by rw [hk1_6]; rfl) (by omega) (by omega) (Nat.le_of_ble_eq_true rfl) fun v14 lv14 uv14 => ?_)
      refine hR (c_obj hO3 (zcall_i 0 0 (Nat.le_of_ble_eq_true rfl) (Nat.le_of_ble_eq_true rfl) (c_after _ z2 r v14 hw_6 hz2 (by omega) (by omega) _ fun v15 w16 hw16 g16 hp17 => ?_)))
      have fr18 := wfR_tr fr_6 g16 (by decide)
      have hn19 := nn_eq (g16.2 p (by rw [hρp]; decide)) hnp_6
      have hO20 := (g16.2 p (by rw [hρp]; decide)).trans hO1
      have hO21 := (g16.2 z2 (by rw [hz2]; decide)).trans hO3
      have hO22 := (g16.2 z0_3 (by rw [hk3_0]; decide)).trans hO4
      refine (?_ : R (_, _, (.int (Int32.ofInt v15)) :: (.ref (p + 6)) :: [], w16, 0, 0))
      refine hR (c_ald hw16 (by rw [hk1_9]; rfl) (by omega) (by omega) (Nat.le_of_ble_eq_true rfl) fun v23 lv23 uv23 => ?_)
      iterate 4 refine hR (?_ : R (_, _, _, _, _, _))
      refine hR (j_ne (by omega) (by omega) (fun hc24 => ?_) (fun hc24 => ?_))
      rotate_left
      · skip
        refine hR (?_ : R (_, _, _, _, _, _))
        refine hR (t_inc ?_)
        refine hR (?_ : R (_, _, _, _, _, _))
        exact ih6 _ _ _ _ (by rfl) hw16 fr18 hn19 (by omega) (by omega) (by omega)
      iterate 2 refine hR (?_ : R (_, _, _, _, _, _))
      refine hR (j_ne (by omega) (by omega) (fun hc25 => ?_) (fun hc25 => ?_))
      rotate_left
      · skip
        refine hR (?_ : R (_, _, _, _, _, _))
        refine hR (c_get hO20 rfl ?_)
        refine hR (?_ : R (_, _, _, _, _, _))
        refine hR (c_ald hw16 (by rw [hk1_8]; rfl) (by omega) (by omega) (Nat.le_of_ble_eq_true rfl) fun v34 lv34 uv34 => ?_)
        iterate 2 refine hR (?_ : R (_, _, _, _, _, _))
        refine hR (t_inc ?_)
        refine hR (?_ : R (_, _, _, _, _, _))
        exact ih6 _ _ _ _ (by rfl) hw16 fr18 hn19 (by omega) (by omega) (by omega)
      iterate 2 refine hR (?_ : R (_, _, _, _, _, _))
      refine hR (j_ne (by omega) (by omega) (fun hc26 => ?_) (fun hc26 => ?_))
      rotate_left
      · skip
        iterate 2 refine hR (?_ : R (_, _, _, _, _, _))
        refine hR (c_get hO20 rfl ?_)
        refine hR (?_ : R (_, _, _, _, _, _))
        refine hR (c_ald hw16 (by rw [hk1_8]; rfl) (by omega) (by omega) (Nat.le_of_ble_eq_true rfl) fun v32 lv32 uv32 => ?_)
        refine hR (t_o fun v33 rv33 => ?_)
        iterate 2 refine hR (?_ : R (_, _, _, _, _, _))
        refine hR (t_inc ?_)
        refine hR (?_ : R (_, _, _, _, _, _))
        exact ih6 _ _ _ _ (by rfl) hw16 fr18 hn19 (by omega) (by omega) (by omega)
      refine hR (?_ : R (_, _, _, _, _, _))
      refine hR (k_ne (by omega) (fun hc27 => ?_) (fun hc27 => ?_))
      · skip
        iterate 2 refine hR (?_ : R (_, _, _, _, _, _))
        refine hR (c_get hO20 rfl ?_)
        refine hR (?_ : R (_, _, _, _, _, _))
        refine hR (c_ald hw16 (by rw [hk1_8]; rfl) (by omega) (by omega) (Nat.le_of_ble_eq_true rfl) fun v28 lv28 uv28 => ?_)
        refine hR (t_o fun v29 rv29 => ?_)
        refine hR (?_ : R (_, _, _, _, _, _))
        refine hR (t_inc ?_)
        refine hR (?_ : R (_, _, _, _, _, _))
        exact ih6 _ _ _ _ (by rfl) hw16 fr18 hn19 (by omega) (by omega) (by omega)
      iterate 2 refine hR (?_ : R (_, _, _, _, _, _))
      refine hR (c_get hO20 rfl ?_)
      refine hR (?_ : R (_, _, _, _, _, _))
      refine hR (c_ald hw16 (by rw [hk1_8]; rfl) (by omega) (by omega) (Nat.le_of_ble_eq_true rfl) fun v30 lv30 uv30 => ?_)
      refine hR (t_o fun v31 rv31 => ?_)
      iterate 2 refine hR (?_ : R (_, _, _, _, _, _))
      refine hR (t_inc ?_)
      refine hR (?_ : R (_, _, _, _, _, _))
      exact ih6 _ _ _ _ (by rfl) hw16 fr18 hn19 (by omega) (by omega) (by omega)
  exact lp6 400000000 _ _ _ _ (by rfl) hw fr0 hnp (by omega) (by omega) (by omega)
theorem c_foldBack {ρ : Nat → Nat} {w : zW} (d : Nat) (p : Nat) (a1 a2 : Int) (hw : CI ρ w) (hρp : ρ p = 70) (hnp : nn w p) (hr0 : -2147483648 ≤ a1 ∧ a1 ≤ 2147483647) (hr1 : -2147483648 ≤ a2 ∧ a2 ≤ 2147483647) (Q : zQ) (h : ∀ (w' : zW), CI ρ w' → wfR [51, 75, 76] ρ w w' → Q (none) w') : zCl zTab (d + 6) iX2_foldBack [.ref p, .int (Int32.ofInt a1), .int (Int32.ofInt a2)] w 0 0 Q := by
  refine zCl_i (M := kX2_foldBack) rfl (Nat.le_of_ble_eq_true rfl) fun R hR => ?_
  have fr0 := wfR_rf [51, 75, 76] ρ w
  refine hR (?_ : R (_, _, _, _, _, _))
  obtain ⟨y0_1, x1_1, x2_1, x3_1, hO1, hk1_0, hk1_1, hk1_2, hk1_3, hk1_4, hk1_5, hk1_6, hk1_7, hk1_8, hk1_9⟩ := CI_o70 hw hρp
  refine hR (c_get hO1 rfl ?_)
  refine hR (?_ : R (_, _, _, _, _, _))
  refine hR (t_sub ?_)
  refine hR (?_ : R (_, _, _, _, _, _))
  have lp7 : ∀ (N : Nat) (l : Int) (o4_7 : Option Value) (o5_7 : Option Value) (w_7 : zW), (zc2 o4_7 = false) → (zc2 o5_7 = false) → (CI ρ w_7) → (wfR [51, 75, 76] ρ w w_7) → (zix w_7 p = some (.inr (2, [va_rf y0_1, .int (Int32.ofInt x1_1), .int (Int32.ofInt x2_1), .int (Int32.ofInt x3_1), .ref (p + 1), .ref (p + 2), .ref (p + 3), .ref (p + 4), .ref (p + 5), .ref (p + 6)]))) → (nn w_7 p) → (-1 ≤ l ∧ l ≤ 8) → (l + 1 < N) → R (7, [some (.ref p), some (.int (Int32.ofInt a1)), some (.int (Int32.ofInt a2)), some (.int (Int32.ofInt l)), o4_7, o5_7], [], w_7, 0, 0) := by
    intro N
    induction N with
    | zero => intros; omega
    | succ N ih7 =>
      intro l o4_7 o5_7 w_7 hzo4_7 hzo5_7 hw_7 fr_7 hOp_7 hnp_7 hf0_7 hN7
      refine hR (?_ : R (_, _, _, _, _, _))
      refine hR (k_lt (by omega) (fun hc2 => ?_) (fun hc2 => ?_))
      · skip
        exact hR (zret_i rfl (Nat.le_refl _) rfl (h _ hw_7 fr_7))
      iterate 2 refine hR (?_ : R (_, _, _, _, _, _))
      refine hR (t_rem (by omega) (by omega) (by omega) (by omega) ?_)
      refine hR (k_ne (by omega) (fun hc3 => ?_) (fun hc3 => ?_))
      · skip
        iterate 5 refine hR (?_ : R (_, _, _, _, _, _))
        refine hR (t_add ?_)
        refine hR (c_obj hOp_7 (zcall_i 0 0 (Nat.le_of_ble_eq_true rfl) (Nat.le_of_ble_eq_true rfl) (c_recall _ p (l + 1) hw_7 hρp (by omega) _ fun w4 hw4 g4 => ?_)))
        have fr5 := wfR_tr fr_7 g4 (by decide)
        have hn6 := nn_eq (g4.2 p (by rw [hρp]; decide)) hnp_7
        have hO7 := (g4.2 p (by rw [hρp]; decide)).trans hOp_7
        refine (?_ : R (_, _, [], w4, 0, 0))
        refine hR (?_ : R (_, _, _, _, _, _))
        refine hR (c_get hO7 rfl ?_)
        refine hR (?_ : R (_, _, _, _, _, _))
        refine hR (c_ald hw4 (by rw [hk1_4]; rfl) (by omega) (by omega) (Nat.le_of_ble_eq_true rfl) fun v8 lv8 uv8 => ?_)
        refine hR (?_ : R (_, _, _, _, _, _))
        have lp39 : ∀ (N : Nat) (x : Int) (w_39 : zW), (CI ρ w_39) → (wfR [51, 75, 76] ρ w w_39) → (zix w_39 p = some (.inr (2, [va_rf y0_1, .int (Int32.ofInt x1_1), .int (Int32.ofInt x2_1), .int (Int32.ofInt x3_1), .ref (p + 1), .ref (p + 2), .ref (p + 3), .ref (p + 4), .ref (p + 5), .ref (p + 6)]))) → (nn w_39 p) → (0 ≤ x ∧ x ≤ 25750) → (25751 - x < N) → R (39, [some (.ref p), some (.int (Int32.ofInt a1)), some (.int (Int32.ofInt a2)), some (.int (Int32.ofInt l)), some (.int (Int32.ofInt a2)), some (.int (Int32.ofInt x))], [], w_39, 0, 0) := by
          intro N
          induction N with
          | zero => intros; omega
          | succ N ih39 =>
            intro x w_39 hw_39 fr_39 hOp_39 hnp_39 hf0_39 hN39
            iterate 2 refine hR (?_ : R (_, _, _, _, _, _))
            refine hR (c_get hOp_39 rfl ?_)
            iterate 2 refine hR (?_ : R (_, _, _, _, _, _))
            refine hR (t_add ?_)
            refine hR (c_ald hw_39 (by rw [hk1_4]; rfl) (by omega) (by omega) (Nat.le_of_ble_eq_true rfl) fun v9 lv9 uv9 => ?_)
            refine hR (j_ge (by omega) (by omega) (fun hc10 => ?_) (fun hc10 => ?_))
            · skip
              iterate 3 refine hR (?_ : R (_, _, _, _, _, _))
              refine hR (t_add ?_)
              refine hR (c_obj hOp_39 (zcall_i 0 0 (Nat.le_of_ble_eq_true rfl) (Nat.le_of_ble_eq_true rfl) (c_forget _ p (l + 1) hw_39 hρp (by omega) _ fun w11 hw11 g11 => ?_)))
              have fr12 := wfR_tr fr_39 g11 (by decide)
              have hn13 := nn_eq (g11.2 p (by rw [hρp]; decide)) hnp_39
              have hO14 := (g11.2 p (by rw [hρp]; decide)).trans hOp_39
              refine (?_ : R (_, _, [], w11, 0, 0))
              refine hR (t_inc ?_)
              refine hR (?_ : R (_, _, _, _, _, _))
              exact ih7 _ _ _ _ (by rfl) (by rfl) hw11 fr12 hO14 hn13 (by omega) (by omega)
            refine hR (?_ : R (_, _, _, _, _, _))
            refine hR (c_get hOp_39 rfl ?_)
            iterate 5 refine hR (?_ : R (_, _, _, _, _, _))
            refine hR (c_obj hOp_39 (zcall_i 0 0 (Nat.le_of_ble_eq_true rfl) (Nat.le_of_ble_eq_true rfl) (c_folded _ p l x a2 hw_39 hρp hnp_39 (by omega) (by omega) (by omega) _ fun v15 w16 hw16 g16 hp17 => ?_)))
            have fr18 := wfR_tr fr_39 g16 (by decide)
            have hn19 := nn_eq (g16.2 p (by rw [hρp]; decide)) hnp_39
            have hO20 := (g16.2 p (by rw [hρp]; decide)).trans hOp_39
            refine (?_ : R (_, _, (.int (Int32.ofInt v15)) :: (.int (Int32.ofInt x)) :: (.ref (p + 5)) :: [], w16, 0, 0))
            refine hR (c_astx hw16 (by rw [hk1_8]; rfl) ⟨by rw [hk1_8]; decide, by rw [hk1_8]; decide⟩ (by omega) (by omega) (Nat.le_of_ble_eq_true rfl) fun w21 hw21 f21 => ?_)
            have fr22 := wfR_st fr18 f21 (by rw [hk1_8]; decide)
            have hn23 := nn_eq (f21.2 p (rne hρp hk1_8 (by decide))) hn19
            have hO24 := (f21.2 p (rne hρp hk1_8 (by decide))).trans hO20
            refine hR (t_inc ?_)
            refine hR (?_ : R (_, _, _, _, _, _))
            exact ih39 _ _ hw21 fr22 hO24 hn23 (by omega) (by omega)
        exact lp39 400000000 _ _ hw4 fr5 hO7 hn6 (by omega) (by omega)
      iterate 6 refine hR (?_ : R (_, _, _, _, _, _))
      refine hR (t_add ?_)
      refine hR (c_obj hOp_7 (zcall_i 0 0 (Nat.le_of_ble_eq_true rfl) (Nat.le_of_ble_eq_true rfl) (c_recall _ p (l + 1) hw_7 hρp (by omega) _ fun w25 hw25 g25 => ?_)))
      have fr26 := wfR_tr fr_7 g25 (by decide)
      have hn27 := nn_eq (g25.2 p (by rw [hρp]; decide)) hnp_7
      have hO28 := (g25.2 p (by rw [hρp]; decide)).trans hOp_7
      refine (?_ : R (_, _, [], w25, 0, 0))
      refine hR (?_ : R (_, _, _, _, _, _))
      refine hR (c_get hO28 rfl ?_)
      refine hR (?_ : R (_, _, _, _, _, _))
      refine hR (c_ald hw25 (by rw [hk1_4]; rfl) (by omega) (by omega) (Nat.le_of_ble_eq_true rfl) fun v29 lv29 uv29 => ?_)
      refine hR (?_ : R (_, _, _, _, _, _))
      have lp39 : ∀ (N : Nat) (x : Int) (w_39 : zW), (CI ρ w_39) → (wfR [51, 75, 76] ρ w w_39) → (zix w_39 p = some (.inr (2, [va_rf y0_1, .int (Int32.ofInt x1_1), .int (Int32.ofInt x2_1), .int (Int32.ofInt x3_1), .ref (p + 1), .ref (p + 2), .ref (p + 3), .ref (p + 4), .ref (p + 5), .ref (p + 6)]))) → (nn w_39 p) → (0 ≤ x ∧ x ≤ 25750) → (25751 - x < N) → R (39, [some (.ref p), some (.int (Int32.ofInt a1)), some (.int (Int32.ofInt a2)), some (.int (Int32.ofInt l)), some (.int (Int32.ofInt a1)), some (.int (Int32.ofInt x))], [], w_39, 0, 0) := by
        intro N
        induction N with
        | zero => intros; omega
        | succ N ih39 =>
          intro x w_39 hw_39 fr_39 hOp_39 hnp_39 hf0_39 hN39
          iterate 2 refine hR (?_ : R (_, _, _, _, _, _))
          refine hR (c_get hOp_39 rfl ?_)
          iterate 2 refine hR (?_ : R (_, _, _, _, _, _))
          refine hR (t_add ?_)
          refine hR (c_ald hw_39 (by rw [hk1_4]; rfl) (by omega) (by omega) (Nat.le_of_ble_eq_true rfl) fun v30 lv30 uv30 => ?_)
          refine hR (j_ge (by omega) (by omega) (fun hc31 => ?_) (fun hc31 => ?_))
          · skip
            iterate 3 refine hR (?_ : R (_, _, _, _, _, _))
            refine hR (t_add ?_)
            refine hR (c_obj hOp_39 (zcall_i 0 0 (Nat.le_of_ble_eq_true rfl) (Nat.le_of_ble_eq_true rfl) (c_forget _ p (l + 1) hw_39 hρp (by omega) _ fun w32 hw32 g32 => ?_)))
            have fr33 := wfR_tr fr_39 g32 (by decide)
            have hn34 := nn_eq (g32.2 p (by rw [hρp]; decide)) hnp_39
            have hO35 := (g32.2 p (by rw [hρp]; decide)).trans hOp_39
            refine (?_ : R (_, _, [], w32, 0, 0))
            refine hR (t_inc ?_)
            refine hR (?_ : R (_, _, _, _, _, _))
            exact ih7 _ _ _ _ (by rfl) (by rfl) hw32 fr33 hO35 hn34 (by omega) (by omega)
          refine hR (?_ : R (_, _, _, _, _, _))
          refine hR (c_get hOp_39 rfl ?_)
          iterate 5 refine hR (?_ : R (_, _, _, _, _, _))
          refine hR (c_obj hOp_39 (zcall_i 0 0 (Nat.le_of_ble_eq_true rfl) (Nat.le_of_ble_eq_true rfl) (c_folded _ p l x a1 hw_39 hρp hnp_39 (by omega) (by omega) (by omega) _ fun v36 w37 hw37 g37 hp38 => ?_)))
          have fr39 := wfR_tr fr_39 g37 (by decide)
          have hn40 := nn_eq (g37.2 p (by rw [hρp]; decide)) hnp_39
          have hO41 := (g37.2 p (by rw [hρp]; decide)).trans hOp_39
          refine (?_ : R (_, _, (.int (Int32.ofInt v36)) :: (.int (Int32.ofInt x)) :: (.ref (p + 5)) :: [], w37, 0, 0))
          refine hR (c_astx hw37 (by rw [hk1_8]; rfl) ⟨by rw [hk1_8]; decide, by rw [hk1_8]; decide⟩ (by omega) (by omega) (Nat.le_of_ble_eq_true rfl) fun w42 hw42 f42 => ?_)
          have fr43 := wfR_st fr39 f42 (by rw [hk1_8]; decide)
          have hn44 := nn_eq (f42.2 p (rne hρp hk1_8 (by decide))) hn40
          have hO45 := (f42.2 p (rne hρp hk1_8 (by decide))).trans hO41
          refine hR (t_inc ?_)
          refine hR (?_ : R (_, _, _, _, _, _))
          exact ih39 _ _ hw42 fr43 hO45 hn44 (by omega) (by omega)
      exact lp39 400000000 _ _ hw25 fr26 hO28 hn27 (by omega) (by omega)
  exact lp7 400000000 _ _ _ _ (by rfl) (by rfl) hw fr0 hO1 hnp (by omega) (by omega)
theorem c_bestStart {ρ : Nat → Nat} {w : zW} (d : Nat) (p : Nat) (hw : CI ρ w) (hρp : ρ p = 70) (Q : zQ) (h : ∀ (v : Int), (-2147483648 ≤ v ∧ v ≤ 2147483647) → Q (some (.int (Int32.ofInt v))) w) : zCl zTab (d + 1) iX2_bestStart [.ref p] w 0 0 Q := by
  refine zCl_i (M := kX2_bestStart) rfl (Nat.le_of_ble_eq_true rfl) fun R hR => ?_
  have fr0 := wfR_rf [] ρ w
  refine hR (?_ : R (_, _, _, _, _, _))
  obtain ⟨y0_1, x1_1, x2_1, x3_1, hO1, hk1_0, hk1_1, hk1_2, hk1_3, hk1_4, hk1_5, hk1_6, hk1_7, hk1_8, hk1_9⟩ := CI_o70 hw hρp
  refine hR (c_get hO1 rfl ?_)
  refine hR (?_ : R (_, _, _, _, _, _))
  refine hR (c_ald hw (by rw [hk1_8]; rfl) (by omega) (by omega) (Nat.le_of_ble_eq_true rfl) fun v2 lv2 uv2 => ?_)
  exact hR (zret_i rfl (Nat.le_refl _) trivial (h _ (by omega)))
theorem c_sumOfEnds {ρ : Nat → Nat} {w : zW} (d : Nat) (p : Nat) (hw : CI ρ w) (hρp : ρ p = 70) (Q : zQ) (h : ∀ (v : Int64), Q (some (.long v)) w) : zCl zTab (d + 1) iX2_sumOfEnds [.ref p] w 0 0 Q := by
  refine zCl_i (M := kX2_sumOfEnds) rfl (Nat.le_of_ble_eq_true rfl) fun R hR => ?_
  have fr0 := wfR_rf [] ρ w
  iterate 3 refine hR (?_ : R (_, _, _, _, _, _))
  obtain ⟨y0_1, x1_1, x2_1, x3_1, hO1, hk1_0, hk1_1, hk1_2, hk1_3, hk1_4, hk1_5, hk1_6, hk1_7, hk1_8, hk1_9⟩ := CI_o70 hw hρp
  refine hR (c_get hO1 rfl ?_)
  refine hR (?_ : R (_, _, _, _, _, _))
  refine hR (c_get hO1 rfl ?_)
  refine hR (c_ald hw (by rw [hk1_4]; rfl) (by omega) (by omega) (Nat.le_of_ble_eq_true rfl) fun v2 lv2 uv2 => ?_)
  refine hR (?_ : R (_, _, _, _, _, _))
  have lp12 : ∀ (N : Nat) (sm : Int64) (x : Int), (0 ≤ x ∧ x ≤ 25750) → (25751 - x < N) → R (12, [some (.ref p), some (.long sm), none, some (.int (Int32.ofInt x))], [], w, 0, 0) := by
    intro N
    induction N with
    | zero => intros; omega
    | succ N ih12 =>
      intro sm x hf0_12 hN12
      iterate 2 refine hR (?_ : R (_, _, _, _, _, _))
      refine hR (c_get hO1 rfl ?_)
      refine hR (?_ : R (_, _, _, _, _, _))
      refine hR (c_get hO1 rfl ?_)
      refine hR (?_ : R (_, _, _, _, _, _))
      refine hR (t_add ?_)
      refine hR (c_ald hw (by rw [hk1_4]; rfl) (by omega) (by omega) (Nat.le_of_ble_eq_true rfl) fun v3 lv3 uv3 => ?_)
      refine hR (j_ge (by omega) (by omega) (fun hc4 => ?_) (fun hc4 => ?_))
      · skip
        refine hR (?_ : R (_, _, _, _, _, _))
        exact hR (zret_i rfl (Nat.le_refl _) trivial (h _))
      iterate 2 refine hR (?_ : R (_, _, _, _, _, _))
      refine hR (c_get hO1 rfl ?_)
      refine hR (?_ : R (_, _, _, _, _, _))
      refine hR (c_ald hw (by rw [hk1_7]; rfl) (by omega) (by omega) (Nat.le_of_ble_eq_true rfl) fun v5 lv5 uv5 => ?_)
      refine hR (t_xl fun w_6 => ?_)
      refine hR (?_ : R (_, _, _, _, _, _))
      refine hR (c_get hO1 rfl ?_)
      refine hR (?_ : R (_, _, _, _, _, _))
      refine hR (c_ald hw (by rw [hk1_8]; rfl) (by omega) (by omega) (Nat.le_of_ble_eq_true rfl) fun v7 lv7 uv7 => ?_)
      refine hR (t_xl fun w_8 => ?_)
      refine hR (t_xl fun w_9 => ?_)
      refine hR (t_xl fun w_10 => ?_)
      refine hR (?_ : R (_, _, _, _, _, _))
      refine hR (t_inc ?_)
      refine hR (?_ : R (_, _, _, _, _, _))
      exact ih12 _ _ (by omega) (by omega)
  exact lp12 400000000 _ _ (by omega) (by omega)
theorem c_rows {ρ : Nat → Nat} {w : zW} (d : Nat) (p : Nat) (hw : CI ρ w) (hρp : ρ p = 70) (Q : zQ) (h : ∀ (v : Int), (-2147483648 ≤ v ∧ v ≤ 2147483647) → Q (some (.int (Int32.ofInt v))) w) : zCl zTab (d + 1) iX2_rows [.ref p] w 0 0 Q := by
  refine zCl_i (M := kX2_rows) rfl (Nat.le_of_ble_eq_true rfl) fun R hR => ?_
  have fr0 := wfR_rf [] ρ w
  iterate 3 refine hR (?_ : R (_, _, _, _, _, _))
  obtain ⟨y0_1, x1_1, x2_1, x3_1, hO1, hk1_0, hk1_1, hk1_2, hk1_3, hk1_4, hk1_5, hk1_6, hk1_7, hk1_8, hk1_9⟩ := CI_o70 hw hρp
  refine hR (c_get hO1 rfl ?_)
  refine hR (?_ : R (_, _, _, _, _, _))
  refine hR (c_get hO1 rfl ?_)
  refine hR (c_ald hw (by rw [hk1_4]; rfl) (by omega) (by omega) (Nat.le_of_ble_eq_true rfl) fun v2 lv2 uv2 => ?_)
  refine hR (?_ : R (_, _, _, _, _, _))
  have lp12 : ∀ (N : Nat) (sm : Int) (x : Int), (-2147483648 ≤ sm ∧ sm ≤ 2147483647) → (0 ≤ x ∧ x ≤ 25750) → (25751 - x < N) → R (12, [some (.ref p), some (.int (Int32.ofInt sm)), some (.int (Int32.ofInt x))], [], w, 0, 0) := by
    intro N
    induction N with
    | zero => intros; omega
    | succ N ih12 =>
      intro sm x hf0_12 hf1_12 hN12
      iterate 2 refine hR (?_ : R (_, _, _, _, _, _))
      refine hR (c_get hO1 rfl ?_)
      refine hR (?_ : R (_, _, _, _, _, _))
      refine hR (c_get hO1 rfl ?_)
      refine hR (?_ : R (_, _, _, _, _, _))
      refine hR (t_add ?_)
      refine hR (c_ald hw (by rw [hk1_4]; rfl) (by omega) (by omega) (Nat.le_of_ble_eq_true rfl) fun v3 lv3 uv3 => ?_)
      refine hR (j_ge (by omega) (by omega) (fun hc4 => ?_) (fun hc4 => ?_))
      · skip
        refine hR (?_ : R (_, _, _, _, _, _))
        exact hR (zret_i rfl (Nat.le_refl _) trivial (h _ (by omega)))
      iterate 2 refine hR (?_ : R (_, _, _, _, _, _))
      refine hR (c_get hO1 rfl ?_)
      refine hR (?_ : R (_, _, _, _, _, _))
      refine hR (c_ald hw (by rw [hk1_7]; rfl) (by omega) (by omega) (Nat.le_of_ble_eq_true rfl) fun v5 lv5 uv5 => ?_)
      refine hR (t_o fun v6 rv6 => ?_)
      refine hR (?_ : R (_, _, _, _, _, _))
      refine hR (t_inc ?_)
      refine hR (?_ : R (_, _, _, _, _, _))
      exact ih12 _ _ (by omega) (by omega) (by omega)
  exact lp12 400000000 _ _ (by omega) (by omega) (by omega)
theorem c_rowsTo {ρ : Nat → Nat} {w : zW} (d : Nat) (p : Nat) (a1 : Int) (hw : CI ρ w) (hρp : ρ p = 70) (hr0 : -2147483648 ≤ a1 ∧ a1 ≤ 2147483647) (Q : zQ) (h : ∀ (v : Int), (-2147483648 ≤ v ∧ v ≤ 2147483647) → Q (some (.int (Int32.ofInt v))) w) : zCl zTab (d + 1) iX2_rowsTo [.ref p, .int (Int32.ofInt a1)] w 0 0 Q := by
  refine zCl_i (M := kX2_rowsTo) rfl (Nat.le_of_ble_eq_true rfl) fun R hR => ?_
  have fr0 := wfR_rf [] ρ w
  refine hR (?_ : R (_, _, _, _, _, _))
  obtain ⟨y0_1, x1_1, x2_1, x3_1, hO1, hk1_0, hk1_1, hk1_2, hk1_3, hk1_4, hk1_5, hk1_6, hk1_7, hk1_8, hk1_9⟩ := CI_o70 hw hρp
  refine hR (c_get hO1 rfl ?_)
  refine hR (?_ : R (_, _, _, _, _, _))
  refine hR (c_get hO1 rfl ?_)
  refine hR (c_ald hw (by rw [hk1_4]; rfl) (by omega) (by omega) (Nat.le_of_ble_eq_true rfl) fun v2 lv2 uv2 => ?_)
  refine hR (?_ : R (_, _, _, _, _, _))
  have lp10 : ∀ (N : Nat) (x : Int), (0 ≤ x ∧ x ≤ 25750) → (25751 - x < N) → R (10, [some (.ref p), some (.int (Int32.ofInt a1)), some (.int (Int32.ofInt x))], [], w, 0, 0) := by
    intro N
    induction N with
    | zero => intros; omega
    | succ N ih10 =>
      intro x hf0_10 hN10
      iterate 2 refine hR (?_ : R (_, _, _, _, _, _))
      refine hR (c_get hO1 rfl ?_)
      refine hR (?_ : R (_, _, _, _, _, _))
      refine hR (c_get hO1 rfl ?_)
      refine hR (?_ : R (_, _, _, _, _, _))
      refine hR (t_add ?_)
      refine hR (c_ald hw (by rw [hk1_4]; rfl) (by omega) (by omega) (Nat.le_of_ble_eq_true rfl) fun v3 lv3 uv3 => ?_)
      refine hR (j_ge (by omega) (by omega) (fun hc4 => ?_) (fun hc4 => ?_))
      · skip
        refine hR (?_ : R (_, _, _, _, _, _))
        exact hR (zret_i rfl (Nat.le_refl _) trivial (h _ (by omega)))
      refine hR (?_ : R (_, _, _, _, _, _))
      refine hR (c_get hO1 rfl ?_)
      refine hR (?_ : R (_, _, _, _, _, _))
      refine hR (c_ald hw (by rw [hk1_6]; rfl) (by omega) (by omega) (Nat.le_of_ble_eq_true rfl) fun v5 lv5 uv5 => ?_)
      refine hR (?_ : R (_, _, _, _, _, _))
      refine hR (j_ne (by omega) (by omega) (fun hc6 => ?_) (fun hc6 => ?_))
      · skip
        refine hR (t_inc ?_)
        refine hR (?_ : R (_, _, _, _, _, _))
        exact ih10 _ (by omega) (by omega)
      refine hR (?_ : R (_, _, _, _, _, _))
      refine hR (c_get hO1 rfl ?_)
      refine hR (?_ : R (_, _, _, _, _, _))
      refine hR (c_ald hw (by rw [hk1_7]; rfl) (by omega) (by omega) (Nat.le_of_ble_eq_true rfl) fun v7 lv7 uv7 => ?_)
      exact hR (zret_i rfl (Nat.le_refl _) trivial (h _ (by omega)))
  exact lp10 400000000 _ (by omega) (by omega)
theorem c_look {ρ : Nat → Nat} {w : zW} (d : Nat) (p : Nat) (hw : CI ρ w) (hρp : ρ p = 70) (Q : zQ) (h : ∀ (v : Int), (-2147483648 ≤ v ∧ v ≤ 2147483647) → Q (some (.int (Int32.ofInt v))) w) : zCl zTab (d + 2) iX2_look [.ref p] w 0 0 Q := by
  refine zCl_i (M := kX2_look) rfl (Nat.le_of_ble_eq_true rfl) fun R hR => ?_
  have fr0 := wfR_rf [] ρ w
  iterate 6 refine hR (?_ : R (_, _, _, _, _, _))
  have lp6 : ∀ (N : Nat) (be : Int) (le : Int) (l : Int) (o4_6 : Option Value) (o5_6 : Option Value), (zc2 o4_6 = false) → (zc2 o5_6 = false) → (-1 ≤ be ∧ be ≤ 9) → (-2147483648 ≤ le ∧ le ≤ 2147483647) → (0 ≤ l ∧ l ≤ 10) → (11 - l < N) → R (6, [some (.ref p), some (.int (Int32.ofInt be)), some (.int (Int32.ofInt le)), some (.int (Int32.ofInt l)), o4_6, o5_6], [], w, 0, 0) := by
    intro N
    induction N with
    | zero => intros; omega
    | succ N ih6 =>
      intro be le l o4_6 o5_6 hzo4_6 hzo5_6 hf0_6 hf1_6 hf2_6 hN6
      iterate 2 refine hR (?_ : R (_, _, _, _, _, _))
      obtain ⟨y0_1, x1_1, x2_1, x3_1, hO1, hk1_0, hk1_1, hk1_2, hk1_3, hk1_4, hk1_5, hk1_6, hk1_7, hk1_8, hk1_9⟩ := CI_o70 hw hρp
      refine hR (c_get hO1 rfl ?_)
      refine hR (j_gt (by omega) (by omega) (fun hc2 => ?_) (fun hc2 => ?_))
      · skip
        refine hR (?_ : R (_, _, _, _, _, _))
        exact hR (zret_i rfl (Nat.le_refl _) trivial (h _ (by omega)))
      iterate 3 refine hR (?_ : R (_, _, _, _, _, _))
      refine hR (c_get hO1 rfl ?_)
      refine hR (?_ : R (_, _, _, _, _, _))
      refine hR (c_ald hw (by rw [hk1_4]; rfl) (by omega) (by omega) (Nat.le_of_ble_eq_true rfl) fun v3 lv3 uv3 => ?_)
      refine hR (?_ : R (_, _, _, _, _, _))
      have lp25 : ∀ (N : Nat) (mo : Int) (x : Int), (-2147483648 ≤ mo ∧ mo ≤ 2147483647) → (0 ≤ x ∧ x ≤ 25750) → (25751 - x < N) → R (25, [some (.ref p), some (.int (Int32.ofInt be)), some (.int (Int32.ofInt le)), some (.int (Int32.ofInt l)), some (.int (Int32.ofInt mo)), some (.int (Int32.ofInt x))], [], w, 0, 0) := by
        intro N
        induction N with
        | zero => intros; omega
        | succ N ih25 =>
          intro mo x hf0_25 hf1_25 hN25
          iterate 2 refine hR (?_ : R (_, _, _, _, _, _))
          refine hR (c_get hO1 rfl ?_)
          iterate 2 refine hR (?_ : R (_, _, _, _, _, _))
          refine hR (t_add ?_)
          refine hR (c_ald hw (by rw [hk1_4]; rfl) (by omega) (by omega) (Nat.le_of_ble_eq_true rfl) fun v4 lv4 uv4 => ?_)
          refine hR (j_ge (by omega) (by omega) (fun hc5 => ?_) (fun hc5 => ?_))
          rotate_left
          · skip
            iterate 2 refine hR (?_ : R (_, _, _, _, _, _))
            refine hR (c_get hO1 rfl ?_)
            refine hR (?_ : R (_, _, _, _, _, _))
            refine hR (c_ald hw (by rw [hk1_7]; rfl) (by omega) (by omega) (Nat.le_of_ble_eq_true rfl) fun v8 lv8 uv8 => ?_)
            refine hR (?_ : R (_, _, _, _, _, _))
            refine hR (c_get hO1 rfl ?_)
            refine hR (?_ : R (_, _, _, _, _, _))
            refine hR (c_ald hw (by rw [hk1_8]; rfl) (by omega) (by omega) (Nat.le_of_ble_eq_true rfl) fun v9 lv9 uv9 => ?_)
            refine hR (t_o fun v10 rv10 => ?_)
            refine hR (t_o fun v11 rv11 => ?_)
            refine hR (?_ : R (_, _, _, _, _, _))
            refine hR (t_inc ?_)
            refine hR (?_ : R (_, _, _, _, _, _))
            exact ih25 _ _ (by omega) (by omega) (by omega)
          iterate 2 refine hR (?_ : R (_, _, _, _, _, _))
          refine hR (j_eq (by omega) (by omega) (fun hc6 => ?_) (fun hc6 => ?_))
          · skip
            iterate 4 refine hR (?_ : R (_, _, _, _, _, _))
            refine hR (t_inc ?_)
            refine hR (?_ : R (_, _, _, _, _, _))
            exact ih6 _ _ _ _ _ (by rfl) (by rfl) (by omega) (by omega) (by omega) (by omega)
          iterate 2 refine hR (?_ : R (_, _, _, _, _, _))
          refine hR (j_ge (by omega) (by omega) (fun hc7 => ?_) (fun hc7 => ?_))
          · skip
            refine hR (t_inc ?_)
            refine hR (?_ : R (_, _, _, _, _, _))
            exact ih6 _ _ _ _ _ (by rfl) (by rfl) (by omega) (by omega) (by omega) (by omega)
          iterate 4 refine hR (?_ : R (_, _, _, _, _, _))
          refine hR (t_inc ?_)
          refine hR (?_ : R (_, _, _, _, _, _))
          exact ih6 _ _ _ _ _ (by rfl) (by rfl) (by omega) (by omega) (by omega) (by omega)
      exact lp25 400000000 _ _ (by omega) (by omega) (by omega)
  exact lp6 400000000 _ _ _ _ _ (by rfl) (by rfl) (by omega) (by omega) (by omega) (by omega)
theorem c_isReaderAt {ρ : Nat → Nat} {w : zW} (d : Nat) (p : Nat) (a1 a2 : Int) (hw : CI ρ w) (hρp : ρ p = 70) (hnp : nn w p) (hr0 : 0 ≤ a1 ∧ a1 ≤ 9) (hr1 : 0 ≤ a2 ∧ a2 ≤ 4) (Q : zQ) (h : ∀ (v : Int) (w' : zW), CI ρ w' → wfR [51] ρ w w' → (v = 0 ∨ v = 1) → Q (some (.int (Int32.ofInt v))) w') : zCl zTab (d + 5) iX2_isReaderAt [.ref p, .int (Int32.ofInt a1), .int (Int32.ofInt a2)] w 0 0 Q := by
  refine zCl_i (M := kX2_isReaderAt) rfl (Nat.le_of_ble_eq_true rfl) fun R hR => ?_
  have fr0 := wfR_rf [51] ρ w
  refine hR (?_ : R (_, _, _, _, _, _))
  obtain ⟨y0_1, x1_1, x2_1, x3_1, hO1, hk1_0, hk1_1, hk1_2, hk1_3, hk1_4, hk1_5, hk1_6, hk1_7, hk1_8, hk1_9⟩ := CI_o70 hw hρp
  refine hR (c_get hO1 rfl ?_)
  refine hR (?_ : R (_, _, _, _, _, _))
  refine hR (c_ald hw (by rw [hk1_4]; rfl) (by omega) (by omega) (Nat.le_of_ble_eq_true rfl) fun v2 lv2 uv2 => ?_)
  refine hR (?_ : R (_, _, _, _, _, _))
  have lp7 : ∀ (N : Nat) (x : Int) (o4_7 : Option Value) (w_7 : zW), (zc2 o4_7 = false) → (CI ρ w_7) → (wfR [51] ρ w w_7) → (zix w_7 p = some (.inr (2, [va_rf y0_1, .int (Int32.ofInt x1_1), .int (Int32.ofInt x2_1), .int (Int32.ofInt x3_1), .ref (p + 1), .ref (p + 2), .ref (p + 3), .ref (p + 4), .ref (p + 5), .ref (p + 6)]))) → (nn w_7 p) → (0 ≤ x ∧ x ≤ 25750) → (25751 - x < N) → R (7, [some (.ref p), some (.int (Int32.ofInt a1)), some (.int (Int32.ofInt a2)), some (.int (Int32.ofInt x)), o4_7], [], w_7, 0, 0) := by
    intro N
    induction N with
    | zero => intros; omega
    | succ N ih7 =>
      intro x o4_7 w_7 hzo4_7 hw_7 fr_7 hOp_7 hnp_7 hf0_7 hN7
      iterate 2 refine hR (?_ : R (_, _, _, _, _, _))
      refine hR (c_get hOp_7 rfl ?_)
      iterate 2 refine hR (?_ : R (_, _, _, _, _, _))
      refine hR (t_add ?_)
      refine hR (c_ald hw_7 (by rw [hk1_4]; rfl) (by omega) (by omega) (Nat.le_of_ble_eq_true rfl) fun v3 lv3 uv3 => ?_)
      refine hR (j_ge (by omega) (by omega) (fun hc4 => ?_) (fun hc4 => ?_))
      · skip
        refine hR (?_ : R (_, _, _, _, _, _))
        exact hR (zret_i rfl (Nat.le_refl _) (zbo (by omega)) (h _ _ hw_7 fr_7 (by omega)))
      refine hR (?_ : R (_, _, _, _, _, _))
      refine hR (c_get hOp_7 rfl ?_)
      refine hR (?_ : R (_, _, _, _, _, _))
      refine hR (c_get hOp_7 rfl ?_)
      obtain ⟨z5, rfl⟩ := nn_some hnp_7 hOp_7
      have hz5 : ρ z5 = 50 := hk1_0 z5 rfl
      iterate 2 refine hR (?_ : R (_, _, _, _, _, _))
      refine hR (c_get hOp_7 rfl ?_)
      refine hR (?_ : R (_, _, _, _, _, _))
      refine hR (c_ald hw_7 (by rw [hk1_6]; rfl) (by omega) (by omega) (Nat.le_of_ble_eq_true rfl) fun v6 lv6 uv6 => ?_)
      obtain ⟨z0_10, z2_10, z3_10, hO10, hk10_0, hk10_1, hk10_2, hk10_3, hk10_4⟩ := CI_o50 hw_7 hz5
      refine hR (c_obj hO10 (zcall_i 0 0 (Nat.le_of_ble_eq_true rfl) (Nat.le_of_ble_eq_true rfl) (c_after _ z5 a2 v6 hw_7 hz5 (by omega) (by omega) _ fun v7 w8 hw8 g8 hp9 => ?_)))
      have fr11 := wfR_tr fr_7 g8 (by decide)
      have hn12 := nn_eq (g8.2 p (by rw [hρp]; decide)) hnp_7
      have hO13 := (g8.2 p (by rw [hρp]; decide)).trans hOp_7
      have hO14 := (g8.2 z5 (by rw [hz5]; decide)).trans hO10
      refine (?_ : R (_, _, (.int (Int32.ofInt v7)) :: (.ref (p + 6)) :: [], w8, 0, 0))
      refine hR (c_ald hw8 (by rw [hk1_9]; rfl) (by omega) (by omega) (Nat.le_of_ble_eq_true rfl) fun v15 lv15 uv15 => ?_)
      iterate 3 refine hR (?_ : R (_, _, _, _, _, _))
      refine hR (j_eq (by omega) (by omega) (fun hc16 => ?_) (fun hc16 => ?_))
      · skip
        refine hR (t_inc ?_)
        refine hR (?_ : R (_, _, _, _, _, _))
        exact ih7 _ _ _ (by rfl) hw8 fr11 hO13 hn12 (by omega) (by omega)
      refine hR (?_ : R (_, _, _, _, _, _))
      refine hR (c_get hO13 rfl ?_)
      refine hR (?_ : R (_, _, _, _, _, _))
      refine hR (c_ald hw8 (by rw [hk1_8]; rfl) (by omega) (by omega) (Nat.le_of_ble_eq_true rfl) fun v17 lv17 uv17 => ?_)
      refine hR (j_any ?_ ?_)
      rotate_left
      · skip
        refine hR (?_ : R (_, _, _, _, _, _))
        exact hR (zret_i rfl (Nat.le_refl _) (zbo (by omega)) (h _ _ hw8 fr11 (by omega)))
      refine hR (t_inc ?_)
      refine hR (?_ : R (_, _, _, _, _, _))
      exact ih7 _ _ _ (by rfl) hw8 fr11 hO13 hn12 (by omega) (by omega)
  exact lp7 400000000 _ _ _ (by rfl) hw fr0 hO1 hnp (by omega) (by omega)
theorem c_onlyReaderAt {ρ : Nat → Nat} {w : zW} (d : Nat) (p : Nat) (a1 : Int) (hw : CI ρ w) (hρp : ρ p = 70) (hnp : nn w p) (hr0 : 0 ≤ a1 ∧ a1 ≤ 8) (Q : zQ) (h : ∀ (v : Int) (w' : zW), CI ρ w' → wfR [51, 76] ρ w w' → (-2147483648 ≤ v ∧ v ≤ 2147483647) → Q (some (.int (Int32.ofInt v))) w') : zCl zTab (d + 6) iX2_onlyReaderAt [.ref p, .int (Int32.ofInt a1)] w 0 0 Q := by
  refine zCl_i (M := kX2_onlyReaderAt) rfl (Nat.le_of_ble_eq_true rfl) fun R hR => ?_
  have fr0 := wfR_rf [51, 76] ρ w
  iterate 5 refine hR (?_ : R (_, _, _, _, _, _))
  refine hR (t_add ?_)
  obtain ⟨y0_2, x1_2, x2_2, x3_2, hO2, hk2_0, hk2_1, hk2_2, hk2_3, hk2_4, hk2_5, hk2_6, hk2_7, hk2_8, hk2_9⟩ := CI_o70 hw hρp
  refine hR (c_obj hO2 (zcall_i 0 0 (Nat.le_of_ble_eq_true rfl) (Nat.le_of_ble_eq_true rfl) (c_recall _ p (a1 + 1) hw hρp (by omega) _ fun w1 hw1 g1 => ?_)))
  have fr3 := wfR_tr fr0 g1 (by decide)
  have hn4 := nn_eq (g1.2 p (by rw [hρp]; decide)) hnp
  have hO5 := (g1.2 p (by rw [hρp]; decide)).trans hO2
  refine (?_ : R (_, _, [], w1, 0, 0))
  iterate 2 refine hR (?_ : R (_, _, _, _, _, _))
  have lp11 : ∀ (N : Nat) (on : Int) (r : Int) (w_11 : zW), (CI ρ w_11) → (wfR [51, 76] ρ w w_11) → (zix w_11 p = some (.inr (2, [va_rf y0_2, .int (Int32.ofInt x1_2), .int (Int32.ofInt x2_2), .int (Int32.ofInt x3_2), .ref (p + 1), .ref (p + 2), .ref (p + 3), .ref (p + 4), .ref (p + 5), .ref (p + 6)]))) → (nn w_11 p) → (-1 ≤ on ∧ on ≤ 4) → (0 ≤ r ∧ r ≤ 5) → (6 - r < N) → R (11, [some (.ref p), some (.int (Int32.ofInt a1)), some (.int (Int32.ofInt on)), some (.int (Int32.ofInt r))], [], w_11, 0, 0) := by
    intro N
    induction N with
    | zero => intros; omega
    | succ N ih11 =>
      intro on r w_11 hw_11 fr_11 hOp_11 hnp_11 hf0_11 hf1_11 hN11
      iterate 2 refine hR (?_ : R (_, _, _, _, _, _))
      refine hR (c_get hOp_11 rfl ?_)
      obtain ⟨z6, rfl⟩ := nn_some hnp_11 hOp_11
      have hz6 : ρ z6 = 50 := hk2_0 z6 rfl
      obtain ⟨z0_7, z2_7, z3_7, hO7, hk7_0, hk7_1, hk7_2, hk7_3, hk7_4⟩ := CI_o50 hw_11 hz6
      refine hR (c_get hO7 rfl ?_)
      obtain ⟨x0_8, x1_8, x2_8, hO8, hk8_0, hk8_1, hk8_2, hk8_3, hk8_4, hk8_5, hk8_6⟩ := CI_o20 hw_11 hk7_0
      refine hR (c_get hO8 rfl ?_)
      refine hR (j_ge (by omega) (by omega) (fun hc9 => ?_) (fun hc9 => ?_))
      · skip
        iterate 3 refine hR (?_ : R (_, _, _, _, _, _))
        refine hR (t_add ?_)
        refine hR (c_obj hOp_11 (zcall_i 0 0 (Nat.le_of_ble_eq_true rfl) (Nat.le_of_ble_eq_true rfl) (c_forget _ p (a1 + 1) hw_11 hρp (by omega) _ fun w10 hw10 g10 => ?_)))
        have fr11 := wfR_tr fr_11 g10 (by decide)
        have hn12 := nn_eq (g10.2 p (by rw [hρp]; decide)) hnp_11
        have hO13 := (g10.2 p (by rw [hρp]; decide)).trans hOp_11
        have hO14 := (g10.2 z6 (by rw [hz6]; decide)).trans hO7
        have hO15 := (g10.2 z0_7 (by rw [hk7_0]; decide)).trans hO8
        refine (?_ : R (_, _, [], w10, 0, 0))
        refine hR (?_ : R (_, _, _, _, _, _))
        exact hR (zret_i rfl (Nat.le_refl _) trivial (h _ _ hw10 fr11 (by omega)))
      iterate 3 refine hR (?_ : R (_, _, _, _, _, _))
      refine hR (c_obj hOp_11 (zcall_i 0 0 (Nat.le_of_ble_eq_true rfl) (Nat.le_of_ble_eq_true rfl) (c_isReaderAt _ p a1 r hw_11 hρp hnp_11 (by omega) (by omega) _ fun v16 w17 hw17 g17 hp18 => ?_)))
      have fr19 := wfR_tr fr_11 g17 (by decide)
      have hn20 := nn_eq (g17.2 p (by rw [hρp]; decide)) hnp_11
      have hO21 := (g17.2 p (by rw [hρp]; decide)).trans hOp_11
      have hO22 := (g17.2 z6 (by rw [hz6]; decide)).trans hO7
      have hO23 := (g17.2 z0_7 (by rw [hk7_0]; decide)).trans hO8
      refine (?_ : R (_, _, (.int (Int32.ofInt v16)) :: [], w17, 0, 0))
      refine hR (k_eq (by omega) (fun hc24 => ?_) (fun hc24 => ?_))
      · skip
        refine hR (t_inc ?_)
        refine hR (?_ : R (_, _, _, _, _, _))
        exact ih11 _ _ _ hw17 fr19 hO21 hn20 (by omega) (by omega) (by omega)
      iterate 2 refine hR (?_ : R (_, _, _, _, _, _))
      refine hR (j_eq (by omega) (by omega) (fun hc25 => ?_) (fun hc25 => ?_))
      · skip
        iterate 2 refine hR (?_ : R (_, _, _, _, _, _))
        refine hR (t_inc ?_)
        refine hR (?_ : R (_, _, _, _, _, _))
        exact ih11 _ _ _ hw17 fr19 hO21 hn20 (by omega) (by omega) (by omega)
      iterate 3 refine hR (?_ : R (_, _, _, _, _, _))
      refine hR (t_add ?_)
      refine hR (c_obj hO21 (zcall_i 0 0 (Nat.le_of_ble_eq_true rfl) (Nat.le_of_ble_eq_true rfl) (c_forget _ p (a1 + 1) hw17 hρp (by omega) _ fun w26 hw26 g26 => ?_)))
      have fr27 := wfR_tr fr19 g26 (by decide)
      have hn28 := nn_eq (g26.2 p (by rw [hρp]; decide)) hn20
      have hO29 := (g26.2 p (by rw [hρp]; decide)).trans hO21
      have hO30 := (g26.2 z6 (by rw [hz6]; decide)).trans hO22
      have hO31 := (g26.2 z0_7 (by rw [hk7_0]; decide)).trans hO23
      refine (?_ : R (_, _, [], w26, 0, 0))
      refine hR (?_ : R (_, _, _, _, _, _))
      exact hR (zret_i rfl (Nat.le_refl _) trivial (h _ _ hw26 fr27 (by omega)))
  exact lp11 400000000 _ _ _ hw1 fr3 hO5 hn4 (by omega) (by omega) (by omega)
