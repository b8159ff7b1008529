theorem c_farthest {ρ : Nat → Nat} {w : zW} (d : Nat) (p : Nat) (hw : CI ρ w) (hρp : ρ p = 60) (Q : zQ) (h : ∀ (v : Int), Q (some (.int (Int32.ofInt v))) w) : zCl zTab (d + 1) iX9_farthest [.ref p] w 0 0 Q := by
  refine zCl_i (M := kX9_farthest) rfl (Nat.le_of_ble_eq_true rfl) fun R hR => ?_
  have fr0 := wfR_rf [] ρ w
  refine hR (?_ : R (_, _, _, _, _, _))
  obtain ⟨x0_1, hO1, hk1_0, hk1_1, hk1_2, hk1_3, hk1_4⟩ := CI_o60 hw hρp
  refine hR (c_get hO1 rfl ?_)
  refine hR (k_ne (by omega) (fun hc2 => ?_) (fun hc2 => ?_))
  rotate_left
  · skip
    iterate 2 refine hR (?_ : R (_, _, _, _, _, _))
    exact hR (zret_i rfl (Nat.le_refl _) trivial (h _))
  refine hR (?_ : R (_, _, _, _, _, _))
  refine hR (c_get hO1 rfl ?_)
  refine hR (?_ : R (_, _, _, _, _, _))
  refine hR (c_get hO1 rfl ?_)
  refine hR (?_ : R (_, _, _, _, _, _))
  refine hR (c_get hO1 rfl ?_)
  refine hR (?_ : R (_, _, _, _, _, _))
  refine hR (t_sub ?_)
  refine hR (c_ald hw (by rw [hk1_1]; rfl) (by omega) (by omega) (Nat.le_of_ble_eq_true rfl) fun v3 lv3 uv3 => ?_)
  refine hR (c_ald hw (by rw [hk1_2]; rfl) (by omega) (by omega) (Nat.le_of_ble_eq_true rfl) fun v4 lv4 uv4 => ?_)
  exact hR (zret_i rfl (Nat.le_refl _) trivial (h _))
theorem c_meeting {ρ : Nat → Nat} {w : zW} (d : Nat) (p o : Nat) (hw : CI ρ w) (hρp : ρ p = 60) (hρo : ρ o = 60) (Q : zQ) (h : ∀ (v : Int), (-1 ≤ v ∧ v ≤ 5460) → Q (some (.int (Int32.ofInt v))) w) : zCl zTab (d + 1) iX9_meeting [.ref p, .ref o] w 0 0 Q := by
  refine zCl_i (M := kX9_meeting) rfl (Nat.le_of_ble_eq_true rfl) fun R hR => ?_
  have fr0 := wfR_rf [] ρ w
  iterate 6 refine hR (?_ : R (_, _, _, _, _, _))
  have lp7 : ∀ (N : Nat) (be : Int) (fe : Int) (i : Int) (o5_7 : Option Value) (o6_7 : Option Value), (zc2 o5_7 = false) → (zc2 o6_7 = false) → (-1 ≤ be ∧ be ≤ 5460) → (-2147483648 ≤ fe ∧ fe ≤ 2147483647) → (0 ≤ i ∧ i ≤ 5461) → (5462 - i < N) → R (7, [some (.ref p), some (.ref o), some (.int (Int32.ofInt be)), some (.int (Int32.ofInt fe)), some (.int (Int32.ofInt i)), o5_7, o6_7], [], w, 0, 0) := by
    intro N
    induction N with
    | zero => intros; omega
    | succ N ih7 =>
      intro be fe i o5_7 o6_7 hzo5_7 hzo6_7 hf0_7 hf1_7 hf2_7 hN7
      iterate 2 refine hR (?_ : R (_, _, _, _, _, _))
      obtain ⟨x0_1, hO1, hk1_0, hk1_1, hk1_2, hk1_3, hk1_4⟩ := CI_o60 hw hρp
      refine hR (c_get hO1 rfl ?_)
      refine hR (j_ge (by omega) (by omega) (fun hc2 => ?_) (fun hc2 => ?_))
      · skip
        refine hR (?_ : R (_, _, _, _, _, _))
        exact hR (zret_i rfl (Nat.le_refl _) trivial (h _ (by omega)))
      refine hR (?_ : R (_, _, _, _, _, _))
      refine hR (c_get hO1 rfl ?_)
      refine hR (?_ : R (_, _, _, _, _, _))
      refine hR (c_ald hw (by rw [hk1_1]; rfl) (by omega) (by omega) (Nat.le_of_ble_eq_true rfl) fun v3 lv3 uv3 => ?_)
      iterate 2 refine hR (?_ : R (_, _, _, _, _, _))
      obtain ⟨x0_4, hO4, hk4_0, hk4_1, hk4_2, hk4_3, hk4_4⟩ := CI_o60 hw hρo
      refine hR (c_get hO4 rfl ?_)
      refine hR (?_ : R (_, _, _, _, _, _))
      refine hR (c_ald hw (by rw [hk4_2]; rfl) (by omega) (by omega) (Nat.le_of_ble_eq_true rfl) fun v5 lv5 uv5 => ?_)
      refine hR (?_ : R (_, _, _, _, _, _))
      refine hR (j_any ?_ ?_)
      · skip
        refine hR (t_inc ?_)
        refine hR (?_ : R (_, _, _, _, _, _))
        exact ih7 _ _ _ _ _ (by rfl) hzo6_7 (by omega) (by omega) (by omega) (by omega)
      refine hR (?_ : R (_, _, _, _, _, _))
      refine hR (c_get hO1 rfl ?_)
      refine hR (?_ : R (_, _, _, _, _, _))
      refine hR (c_ald hw (by rw [hk1_2]; rfl) (by omega) (by omega) (Nat.le_of_ble_eq_true rfl) fun v6 lv6 uv6 => ?_)
      refine hR (?_ : R (_, _, _, _, _, _))
      refine hR (c_get hO4 rfl ?_)
      refine hR (?_ : R (_, _, _, _, _, _))
      refine hR (c_ald hw (by rw [hk4_2]; rfl) (by omega) (by omega) (Nat.le_of_ble_eq_true rfl) fun v7 lv7 uv7 => ?_)
      refine hR (t_o fun v8 rv8 => ?_)
      iterate 3 refine hR (?_ : R (_, _, _, _, _, _))
      refine hR (j_eq (by omega) (by omega) (fun hc9 => ?_) (fun hc9 => ?_))
      · skip
        iterate 4 refine hR (?_ : R (_, _, _, _, _, _))
        refine hR (t_inc ?_)
        refine hR (?_ : R (_, _, _, _, _, _))
        exact ih7 _ _ _ _ _ (by rfl) (by rfl) (by omega) (by omega) (by omega) (by omega)
      iterate 2 refine hR (?_ : R (_, _, _, _, _, _))
      refine hR (j_any ?_ ?_)
      · skip
        iterate 4 refine hR (?_ : R (_, _, _, _, _, _))
        refine hR (t_inc ?_)
        refine hR (?_ : R (_, _, _, _, _, _))
        exact ih7 _ _ _ _ _ (by rfl) (by rfl) (by omega) (by omega) (by omega) (by omega)
      iterate 2 refine hR (?_ : R (_, _, _, _, _, _))
      refine hR (j_any ?_ ?_)
      · skip
        refine hR (t_inc ?_)
        refine hR (?_ : R (_, _, _, _, _, _))
        exact ih7 _ _ _ _ _ (by rfl) (by rfl) (by omega) (by omega) (by omega) (by omega)
      iterate 2 refine hR (?_ : R (_, _, _, _, _, _))
      refine hR (j_ge (by omega) (by omega) (fun hc10 => ?_) (fun hc10 => ?_))
      · skip
        refine hR (t_inc ?_)
        refine hR (?_ : R (_, _, _, _, _, _))
        exact ih7 _ _ _ _ _ (by rfl) (by rfl) (by omega) (by omega) (by omega) (by omega)
      iterate 4 refine hR (?_ : R (_, _, _, _, _, _))
      refine hR (t_inc ?_)
      refine hR (?_ : R (_, _, _, _, _, _))
      exact ih7 _ _ _ _ _ (by rfl) (by rfl) (by omega) (by omega) (by omega) (by omega)
  exact lp7 400000000 _ _ _ _ _ (by rfl) (by rfl) (by omega) (by omega) (by omega) (by omega)
theorem c_nearestTo {ρ : Nat → Nat} {w : zW} (d : Nat) (p : Nat) (a1 : Int) (hw : CI ρ w) (hρp : ρ p = 60) (hr0 : 0 ≤ a1 ∧ a1 ≤ 5460) (Q : zQ) (h : ∀ (v : Int), (0 ≤ v ∧ v ≤ 5460) → Q (some (.int (Int32.ofInt v))) w) : zCl zTab (d + 4) iX9_nearestTo [.ref p, .int (Int32.ofInt a1)] w 0 0 Q := by
  refine zCl_i (M := kX9_nearestTo) rfl (Nat.le_of_ble_eq_true rfl) fun R hR => ?_
  have fr0 := wfR_rf [] ρ w
  refine hR (?_ : R (_, _, _, _, _, _))
  obtain ⟨x0_1, hO1, hk1_0, hk1_1, hk1_2, hk1_3, hk1_4⟩ := CI_o60 hw hρp
  refine hR (c_get hO1 rfl ?_)
  refine hR (?_ : R (_, _, _, _, _, _))
  refine hR (c_ald hw (by rw [hk1_1]; rfl) (by omega) (by omega) (Nat.le_of_ble_eq_true rfl) fun v2 lv2 uv2 => ?_)
  iterate 3 refine hR (?_ : R (_, _, _, _, _, _))
  refine hR (zcall_i 0 0 (Nat.le_of_ble_eq_true rfl) (Nat.le_of_ble_eq_true rfl) (c_driftOf _ _ v2 a1 (by omega) (by omega) _ fun v3 hp5 => ?_))
  refine (?_ : R (_, _, (.int (Int32.ofInt v3)) :: [], w, 0, 0))
  iterate 3 refine hR (?_ : R (_, _, _, _, _, _))
  have lp16 : ∀ (N : Nat) (be : Int) (le : Int) (i : Int) (o5_16 : Option Value), (zc2 o5_16 = false) → (0 ≤ be ∧ be ≤ 5460) → (-2147483648 ≤ le ∧ le ≤ 2147483647) → (0 ≤ i ∧ i ≤ 5461) → (5462 - i < N) → R (16, [some (.ref p), some (.int (Int32.ofInt a1)), some (.int (Int32.ofInt be)), some (.int (Int32.ofInt le)), some (.int (Int32.ofInt i)), o5_16], [], w, 0, 0) := by
    intro N
    induction N with
    | zero => intros; omega
    | succ N ih16 =>
      intro be le i o5_16 hzo5_16 hf0_16 hf1_16 hf2_16 hN16
      iterate 2 refine hR (?_ : R (_, _, _, _, _, _))
      refine hR (c_get hO1 rfl ?_)
      refine hR (j_ge (by omega) (by omega) (fun hc6 => ?_) (fun hc6 => ?_))
      · skip
        refine hR (?_ : R (_, _, _, _, _, _))
        exact hR (zret_i rfl (Nat.le_refl _) trivial (h _ (by omega)))
      refine hR (?_ : R (_, _, _, _, _, _))
      refine hR (c_get hO1 rfl ?_)
      refine hR (?_ : R (_, _, _, _, _, _))
      refine hR (c_ald hw (by rw [hk1_1]; rfl) (by omega) (by omega) (Nat.le_of_ble_eq_true rfl) fun v7 lv7 uv7 => ?_)
      refine hR (?_ : R (_, _, _, _, _, _))
      refine hR (zcall_i 0 0 (Nat.le_of_ble_eq_true rfl) (Nat.le_of_ble_eq_true rfl) (c_driftOf _ _ v7 a1 (by omega) (by omega) _ fun v8 hp10 => ?_))
      refine (?_ : R (_, _, (.int (Int32.ofInt v8)) :: [], w, 0, 0))
      iterate 3 refine hR (?_ : R (_, _, _, _, _, _))
      refine hR (j_lt (by omega) (by omega) (fun hc11 => ?_) (fun hc11 => ?_))
      · skip
        refine hR (?_ : R (_, _, _, _, _, _))
        refine hR (c_get hO1 rfl ?_)
        refine hR (?_ : R (_, _, _, _, _, _))
        refine hR (c_ald hw (by rw [hk1_1]; rfl) (by omega) (by omega) (Nat.le_of_ble_eq_true rfl) fun v12 lv12 uv12 => ?_)
        iterate 3 refine hR (?_ : R (_, _, _, _, _, _))
        refine hR (t_inc ?_)
        refine hR (?_ : R (_, _, _, _, _, _))
        exact ih16 _ _ _ _ (by rfl) (by omega) (by omega) (by omega) (by omega)
      iterate 2 refine hR (?_ : R (_, _, _, _, _, _))
      refine hR (j_ne (by omega) (by omega) (fun hc13 => ?_) (fun hc13 => ?_))
      · skip
        refine hR (t_inc ?_)
        refine hR (?_ : R (_, _, _, _, _, _))
        exact ih16 _ _ _ _ (by rfl) (by omega) (by omega) (by omega) (by omega)
      refine hR (?_ : R (_, _, _, _, _, _))
      refine hR (c_get hO1 rfl ?_)
      refine hR (?_ : R (_, _, _, _, _, _))
      refine hR (c_ald hw (by rw [hk1_1]; rfl) (by omega) (by omega) (Nat.le_of_ble_eq_true rfl) fun v14 lv14 uv14 => ?_)
      refine hR (?_ : R (_, _, _, _, _, _))
      refine hR (j_ge (by omega) (by omega) (fun hc15 => ?_) (fun hc15 => ?_))
      · skip
        refine hR (t_inc ?_)
        refine hR (?_ : R (_, _, _, _, _, _))
        exact ih16 _ _ _ _ (by rfl) (by omega) (by omega) (by omega) (by omega)
      refine hR (?_ : R (_, _, _, _, _, _))
      refine hR (c_get hO1 rfl ?_)
      refine hR (?_ : R (_, _, _, _, _, _))
      refine hR (c_ald hw (by rw [hk1_1]; rfl) (by omega) (by omega) (Nat.le_of_ble_eq_true rfl) fun v16 lv16 uv16 => ?_)
      iterate 3 refine hR (?_ : R (_, _, _, _, _, _))
      refine hR (t_inc ?_)
      refine hR (?_ : R (_, _, _, _, _, _))
      exact ih16 _ _ _ _ (by rfl) (by omega) (by omega) (by omega) (by omega)
  exact lp16 400000000 _ _ _ _ (by rfl) (by omega) (by omega) (by omega) (by omega)
theorem c_wayBack {ρ : Nat → Nat} {w : zW} (d : Nat) (p rd : Nat) (a1 : Int) (hw : CI ρ w) (hρp : ρ p = 60) (hρrd : ρ rd = 50) (hr0 : 0 ≤ a1 ∧ a1 ≤ 5460) (Q : zQ) (h : ∀ (v : Int) (w' : zW), CI ρ w' → wfR [51] ρ w w' → (-2147483648 ≤ v ∧ v ≤ 2147483647) → Q (some (.int (Int32.ofInt v))) w') : zCl zTab (d + 5) iX9_wayBack [.ref p, .ref rd, .int (Int32.ofInt a1)] w 0 0 Q := by
  refine zCl_i (M := kX9_wayBack) rfl (Nat.le_of_ble_eq_true rfl) fun R hR => ?_
  have fr0 := wfR_rf [51] ρ w
  iterate 2 refine hR (?_ : R (_, _, _, _, _, _))
  have lp2 : ∀ (N : Nat) (i : Int) (o4_2 : Option Value) (w_2 : zW), (zc2 o4_2 = false) → (CI ρ w_2) → (wfR [51] ρ w w_2) → (0 ≤ i ∧ i ≤ 5461) → (5462 - i < N) → R (2, [some (.ref p), some (.ref rd), some (.int (Int32.ofInt a1)), some (.int (Int32.ofInt i)), o4_2], [], w_2, 0, 0) := by
    intro N
    induction N with
    | zero => intros; omega
    | succ N ih2 =>
      intro i o4_2 w_2 hzo4_2 hw_2 fr_2 hf0_2 hN2
      iterate 2 refine hR (?_ : R (_, _, _, _, _, _))
      obtain ⟨x0_1, hO1, hk1_0, hk1_1, hk1_2, hk1_3, hk1_4⟩ := CI_o60 hw_2 hρp
      refine hR (c_get hO1 rfl ?_)
      refine hR (j_ge (by omega) (by omega) (fun hc2 => ?_) (fun hc2 => ?_))
      · skip
        refine hR (?_ : R (_, _, _, _, _, _))
        exact hR (zret_i rfl (Nat.le_refl _) trivial (h _ _ hw_2 fr_2 (by omega)))
      iterate 2 refine hR (?_ : R (_, _, _, _, _, _))
      have lp13 : ∀ (N : Nat) (r : Int) (w_13 : zW), (CI ρ w_13) → (wfR [51] ρ w w_13) → (zix w_13 p = some (.inr (8, [.int (Int32.ofInt x0_1), .ref (p + 1), .ref (p + 2), .ref (p + 3), .ref (p + 4)]))) → (0 ≤ r ∧ r ≤ 5) → (6 - r < N) → R (13, [some (.ref p), some (.ref rd), some (.int (Int32.ofInt a1)), some (.int (Int32.ofInt i)), some (.int (Int32.ofInt r))], [], w_13, 0, 0) := by
        intro N
        induction N with
        | zero => intros; omega
        | succ N ih13 =>
          intro r w_13 hw_13 fr_13 hOp_13 hf0_13 hN13
          iterate 2 refine hR (?_ : R (_, _, _, _, _, _))
          obtain ⟨z0_3, z2_3, z3_3, hO3, hk3_0, hk3_1, hk3_2, hk3_3, hk3_4⟩ := CI_o50 hw_13 hρrd
          refine hR (c_get hO3 rfl ?_)
          obtain ⟨x0_4, x1_4, x2_4, hO4, hk4_0, hk4_1, hk4_2, hk4_3, hk4_4, hk4_5, hk4_6⟩ := CI_o20 hw_13 hk3_0
          refine hR (c_get hO4 rfl ?_)
          refine hR (j_ge (by omega) (by omega) (fun hc5 => ?_) (fun hc5 => ?_))
          · skip
            refine hR (t_inc ?_)
            refine hR (?_ : R (_, _, _, _, _, _))
            exact ih2 _ _ _ (by rfl) hw_13 fr_13 (by omega) (by omega)
          iterate 3 refine hR (?_ : R (_, _, _, _, _, _))
          refine hR (c_get hOp_13 rfl ?_)
          refine hR (?_ : R (_, _, _, _, _, _))
          refine hR (c_ald hw_13 (by rw [hk1_1]; rfl) (by omega) (by omega) (Nat.le_of_ble_eq_true rfl) fun v6 lv6 uv6 => ?_)
          refine hR (c_obj hO3 (zcall_i 0 0 (Nat.le_of_ble_eq_true rfl) (Nat.le_of_ble_eq_true rfl) (c_after _ rd r v6 hw_13 hρrd (by omega) (by omega) _ fun v7 w8 hw8 g8 hp9 => ?_)))
          have fr10 := wfR_tr fr_13 g8 (by decide)
          have hO11 := (g8.2 p (by rw [hρp]; decide)).trans hOp_13
          have hO12 := (g8.2 rd (by rw [hρrd]; decide)).trans hO3
          have hO13 := (g8.2 z0_3 (by rw [hk3_0]; decide)).trans hO4
          refine (?_ : R (_, _, (.int (Int32.ofInt v7)) :: [], w8, 0, 0))
          refine hR (?_ : R (_, _, _, _, _, _))
          refine hR (j_ne (by omega) (by omega) (fun hc14 => ?_) (fun hc14 => ?_))
          · skip
            refine hR (t_inc ?_)
            refine hR (?_ : R (_, _, _, _, _, _))
            exact ih13 _ _ hw8 fr10 hO11 (by omega) (by omega)
          refine hR (?_ : R (_, _, _, _, _, _))
          refine hR (c_get hO11 rfl ?_)
          refine hR (?_ : R (_, _, _, _, _, _))
          refine hR (c_get hO11 rfl ?_)
          refine hR (?_ : R (_, _, _, _, _, _))
          refine hR (c_ald hw8 (by rw [hk1_1]; rfl) (by omega) (by omega) (Nat.le_of_ble_eq_true rfl) fun v15 lv15 uv15 => ?_)
          refine hR (c_ald hw8 (by rw [hk1_2]; rfl) (by omega) (by omega) (Nat.le_of_ble_eq_true rfl) fun v16 lv16 uv16 => ?_)
          refine hR (?_ : R (_, _, _, _, _, _))
          refine hR (t_o fun v17 rv17 => ?_)
          exact hR (zret_i rfl (Nat.le_refl _) trivial (h _ _ hw8 fr10 (by omega)))
      exact lp13 400000000 _ _ hw_2 fr_2 hO1 (by omega) (by omega)
  exact lp2 400000000 _ _ _ (by rfl) hw fr0 (by omega) (by omega)
theorem c_firstSettled {ρ : Nat → Nat} {w : zW} (d : Nat) (p rd : Nat) (hw : CI ρ w) (hρp : ρ p = 60) (hρrd : ρ rd = 50) (Q : zQ) (h : ∀ (v : Int) (w' : zW), CI ρ w' → wfR [51] ρ w w' → (-1 ≤ v ∧ v ≤ 5460) → Q (some (.int (Int32.ofInt v))) w') : zCl zTab (d + 6) iX9_firstSettled [.ref p, .ref rd] w 0 0 Q := by
  refine zCl_i (M := kX9_firstSettled) rfl (Nat.le_of_ble_eq_true rfl) fun R hR => ?_
  have fr0 := wfR_rf [51] ρ w
  iterate 4 refine hR (?_ : R (_, _, _, _, _, _))
  have lp4 : ∀ (N : Nat) (be : Int) (i : Int) (o4_4 : Option Value) (w_4 : zW), (zc2 o4_4 = false) → (CI ρ w_4) → (wfR [51] ρ w w_4) → (-1 ≤ be ∧ be ≤ 5460) → (0 ≤ i ∧ i ≤ 5461) → (5462 - i < N) → R (4, [some (.ref p), some (.ref rd), some (.int (Int32.ofInt be)), some (.int (Int32.ofInt i)), o4_4], [], w_4, 0, 0) := by
    intro N
    induction N with
    | zero => intros; omega
    | succ N ih4 =>
      intro be i o4_4 w_4 hzo4_4 hw_4 fr_4 hf0_4 hf1_4 hN4
      iterate 2 refine hR (?_ : R (_, _, _, _, _, _))
      obtain ⟨x0_1, hO1, hk1_0, hk1_1, hk1_2, hk1_3, hk1_4⟩ := CI_o60 hw_4 hρp
      refine hR (c_get hO1 rfl ?_)
      refine hR (j_ge (by omega) (by omega) (fun hc2 => ?_) (fun hc2 => ?_))
      · skip
        refine hR (?_ : R (_, _, _, _, _, _))
        exact hR (zret_i rfl (Nat.le_refl _) trivial (h _ _ hw_4 fr_4 (by omega)))
      refine hR (?_ : R (_, _, _, _, _, _))
      refine hR (c_get hO1 rfl ?_)
      refine hR (?_ : R (_, _, _, _, _, _))
      refine hR (c_ald hw_4 (by rw [hk1_1]; rfl) (by omega) (by omega) (Nat.le_of_ble_eq_true rfl) fun v3 lv3 uv3 => ?_)
      iterate 3 refine hR (?_ : R (_, _, _, _, _, _))
      refine hR (j_eq (by omega) (by omega) (fun hc4 => ?_) (fun hc4 => ?_))
      · skip
        iterate 2 refine hR (?_ : R (_, _, _, _, _, _))
        refine hR (j_eq (by omega) (by omega) (fun _ => ?_) (fun hc => by omega))
        iterate 3 refine hR (?_ : R (_, _, _, _, _, _))
        obtain ⟨z0_8, z2_8, z3_8, hO8, hk8_0, hk8_1, hk8_2, hk8_3, hk8_4⟩ := CI_o50 hw_4 hρrd
        refine hR (c_obj hO8 (zcall_i 0 0 (Nat.le_of_ble_eq_true rfl) (Nat.le_of_ble_eq_true rfl) (c_all _ rd hw_4 hρrd _ fun v5 hp7 => ?_)))
        refine (?_ : R (_, _, (.int (Int32.ofInt v5)) :: (.int (Int32.ofInt v3)) :: (.ref rd) :: [], w_4, 0, 0))
        refine hR (c_obj hO8 (zcall_i 0 0 (Nat.le_of_ble_eq_true rfl) (Nat.le_of_ble_eq_true rfl) (c_isChanged _ rd v3 v5 hw_4 hρrd (by omega) (by omega) _ fun v9 w10 hw10 g10 hp11 => ?_)))
        have fr12 := wfR_tr fr_4 g10 (by decide)
        have hO13 := (g10.2 p (by rw [hρp]; decide)).trans hO1
        have hO14 := (g10.2 rd (by rw [hρrd]; decide)).trans hO8
        refine (?_ : R (_, _, (.int (Int32.ofInt v9)) :: [], w10, 0, 0))
        refine hR (k_ne (by omega) (fun hc15 => ?_) (fun hc15 => ?_))
        · skip
          refine hR (t_inc ?_)
          refine hR (?_ : R (_, _, _, _, _, _))
          exact ih4 _ _ _ _ (by rfl) hw10 fr12 (by omega) (by omega) (by omega)
        iterate 2 refine hR (?_ : R (_, _, _, _, _, _))
        refine hR (t_inc ?_)
        refine hR (?_ : R (_, _, _, _, _, _))
        exact ih4 _ _ _ _ (by rfl) hw10 fr12 (by omega) (by omega) (by omega)
      refine hR (?_ : R (_, _, _, _, _, _))
      refine hR (c_get hO1 rfl ?_)
      refine hR (?_ : R (_, _, _, _, _, _))
      refine hR (c_ald hw_4 (by rw [hk1_2]; rfl) (by omega) (by omega) (Nat.le_of_ble_eq_true rfl) fun v16 lv16 uv16 => ?_)
      refine hR (?_ : R (_, _, _, _, _, _))
      refine hR (c_get hO1 rfl ?_)
      refine hR (?_ : R (_, _, _, _, _, _))
      refine hR (c_ald hw_4 (by rw [hk1_2]; rfl) (by omega) (by omega) (Nat.le_of_ble_eq_true rfl) fun v17 lv17 uv17 => ?_)
      refine hR (j_any ?_ ?_)
      rotate_left
      · skip
        refine hR (?_ : R (_, _, _, _, _, _))
        exact hR (zret_i rfl (Nat.le_refl _) trivial (h _ _ hw_4 fr_4 (by omega)))
      iterate 2 refine hR (?_ : R (_, _, _, _, _, _))
      refine hR (j_eq (by omega) (by omega) (fun hc => by omega) (fun _ => ?_))
      iterate 2 refine hR (?_ : R (_, _, _, _, _, _))
      refine hR (j_ge (by omega) (by omega) (fun hc18 => ?_) (fun hc18 => ?_))
      · skip
        refine hR (t_inc ?_)
        refine hR (?_ : R (_, _, _, _, _, _))
        exact ih4 _ _ _ _ (by rfl) hw_4 fr_4 (by omega) (by omega) (by omega)
      iterate 3 refine hR (?_ : R (_, _, _, _, _, _))
      obtain ⟨z0_22, z2_22, z3_22, hO22, hk22_0, hk22_1, hk22_2, hk22_3, hk22_4⟩ := CI_o50 hw_4 hρrd
      refine hR (c_obj hO22 (zcall_i 0 0 (Nat.le_of_ble_eq_true rfl) (Nat.le_of_ble_eq_true rfl) (c_all _ rd hw_4 hρrd _ fun v19 hp21 => ?_)))
      refine (?_ : R (_, _, (.int (Int32.ofInt v19)) :: (.int (Int32.ofInt v3)) :: (.ref rd) :: [], w_4, 0, 0))
      refine hR (c_obj hO22 (zcall_i 0 0 (Nat.le_of_ble_eq_true rfl) (Nat.le_of_ble_eq_true rfl) (c_isChanged _ rd v3 v19 hw_4 hρrd (by omega) (by omega) _ fun v23 w24 hw24 g24 hp25 => ?_)))
      have fr26 := wfR_tr fr_4 g24 (by decide)
      have hO27 := (g24.2 p (by rw [hρp]; decide)).trans hO1
      have hO28 := (g24.2 rd (by rw [hρrd]; decide)).trans hO22
      refine (?_ : R (_, _, (.int (Int32.ofInt v23)) :: [], w24, 0, 0))
      refine hR (k_ne (by omega) (fun hc29 => ?_) (fun hc29 => ?_))
      · skip
        refine hR (t_inc ?_)
        refine hR (?_ : R (_, _, _, _, _, _))
        exact ih4 _ _ _ _ (by rfl) hw24 fr26 (by omega) (by omega) (by omega)
      iterate 2 refine hR (?_ : R (_, _, _, _, _, _))
      refine hR (t_inc ?_)
      refine hR (?_ : R (_, _, _, _, _, _))
      exact ih4 _ _ _ _ (by rfl) hw24 fr26 (by omega) (by omega) (by omega)
  exact lp4 400000000 _ _ _ _ (by rfl) hw fr0 (by omega) (by omega) (by omega)
