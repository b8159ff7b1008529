theorem c_bookAt {ρ : Nat → Nat} {w : zW} (d : Nat) (a1 : Int) (hw : CI ρ w) (hρ0 : ρ 0 = 1) (hr0 : -2147483648 ≤ a1 ∧ a1 ≤ 2147483647) (Q : zQ) (h : ∀ (o : Option Nat), (∀ x, o = some x → ρ x = 20) → (o = none ∨ (0 ≤ a1 ∧ a1 ≤ 1)) → Q (some (va_rf o)) w) : zCl zTab (d + 1) iX11_bookAt [.ref 0, .int (Int32.ofInt a1)] w 0 0 Q := by
  refine zCl_i (M := kX11_bookAt) rfl (Nat.le_of_ble_eq_true rfl) fun R hR => ?_
  have fr0 := wfR_rf [] ρ w
  refine hR (?_ : R (_, _, _, _, _, _))
  refine hR (k_lt (by omega) (fun hc1 => ?_) (fun hc1 => ?_))
  · skip
    iterate 2 refine hR (?_ : R (_, _, _, _, _, _))
    exact hR (zret_i rfl (Nat.le_refl _) trivial (h none (fun z h => by cases h) (Or.inl rfl)))
  iterate 2 refine hR (?_ : R (_, _, _, _, _, _))
  obtain ⟨y6_2, y7_2, hO2, hk2_0, hk2_1, hk2_2, hk2_3, hk2_4, hk2_5, hk2_6, hk2_7⟩ := CI_o1 hw hρ0
  refine hR (c_get hO2 rfl ?_)
  obtain ⟨x1_3, x2_3, x3_3, hO3, hk3_0, hk3_1, hk3_2, hk3_3, hk3_4, hk3_5, hk3_6, hk3_7⟩ := CI_o2 hw hk2_0
  refine hR (c_get hO3 rfl ?_)
  refine hR (?_ : R (_, _, _, _, _, _))
  refine hR (c_ald hw (by rw [hk3_4]; rfl) (by omega) (by omega) (Nat.le_of_ble_eq_true rfl) fun v4 lv4 uv4 => ?_)
  refine hR (j_lt (by omega) (by omega) (fun hc5 => ?_) (fun hc5 => ?_))
  rotate_left
  · skip
    iterate 2 refine hR (?_ : R (_, _, _, _, _, _))
    exact hR (zret_i rfl (Nat.le_refl _) trivial (h none (fun z h => by cases h) (Or.inl rfl)))
  refine hR (?_ : R (_, _, _, _, _, _))
  refine hR (c_get hO2 rfl ?_)
  refine hR (c_get hO3 rfl ?_)
  refine hR (?_ : R (_, _, _, _, _, _))
  refine hR (c_rld hw (by rw [hk3_5]; rfl) (by rw [hk3_5]; rfl) (by decide) (by omega) (by omega) (Nat.le_of_ble_eq_true rfl) fun o_6 ho_6 => ?_)
  cases o_6 with
  | none =>
    exact hR (zret_i rfl (Nat.le_refl _) trivial (h none (fun z h => by cases h) (Or.inl rfl)))
  | some z7 =>
    have hz7 : ρ z7 = 20 := ho_6 z7 rfl
    exact hR (zret_i rfl (Nat.le_refl _) trivial (h (some z7) (fun z h => by cases h; exact hz7) (Or.inr (by omega))))
theorem c_yearAt {ρ : Nat → Nat} {w : zW} (d : Nat) (a1 : Int) (hw : CI ρ w) (hρ0 : ρ 0 = 1) (hr0 : -2147483648 ≤ a1 ∧ a1 ≤ 2147483647) (Q : zQ) (h : ∀ (o : Option Nat), (∀ x, o = some x → ρ x = 30) → (o = none ∨ (0 ≤ a1 ∧ a1 ≤ 1)) → Q (some (va_rf o)) w) : zCl zTab (d + 1) iX11_yearAt [.ref 0, .int (Int32.ofInt a1)] w 0 0 Q := by
  refine zCl_i (M := kX11_yearAt) rfl (Nat.le_of_ble_eq_true rfl) fun R hR => ?_
  have fr0 := wfR_rf [] ρ w
  refine hR (?_ : R (_, _, _, _, _, _))
  refine hR (k_lt (by omega) (fun hc1 => ?_) (fun hc1 => ?_))
  · skip
    iterate 2 refine hR (?_ : R (_, _, _, _, _, _))
    exact hR (zret_i rfl (Nat.le_refl _) trivial (h none (fun z h => by cases h) (Or.inl rfl)))
  iterate 2 refine hR (?_ : R (_, _, _, _, _, _))
  obtain ⟨y6_2, y7_2, hO2, hk2_0, hk2_1, hk2_2, hk2_3, hk2_4, hk2_5, hk2_6, hk2_7⟩ := CI_o1 hw hρ0
  refine hR (c_get hO2 rfl ?_)
  obtain ⟨x1_3, x2_3, x3_3, hO3, hk3_0, hk3_1, hk3_2, hk3_3, hk3_4, hk3_5, hk3_6, hk3_7⟩ := CI_o2 hw hk2_0
  refine hR (c_get hO3 rfl ?_)
  refine hR (?_ : R (_, _, _, _, _, _))
  refine hR (c_ald hw (by rw [hk3_4]; rfl) (by omega) (by omega) (Nat.le_of_ble_eq_true rfl) fun v4 lv4 uv4 => ?_)
  refine hR (j_lt (by omega) (by omega) (fun hc5 => ?_) (fun hc5 => ?_))
  rotate_left
  · skip
    iterate 2 refine hR (?_ : R (_, _, _, _, _, _))
    exact hR (zret_i rfl (Nat.le_refl _) trivial (h none (fun z h => by cases h) (Or.inl rfl)))
  refine hR (?_ : R (_, _, _, _, _, _))
  refine hR (c_get hO2 rfl ?_)
  refine hR (c_get hO3 rfl ?_)
  refine hR (?_ : R (_, _, _, _, _, _))
  refine hR (c_rld hw (by rw [hk3_6]; rfl) (by rw [hk3_6]; rfl) (by decide) (by omega) (by omega) (Nat.le_of_ble_eq_true rfl) fun o_6 ho_6 => ?_)
  cases o_6 with
  | none =>
    exact hR (zret_i rfl (Nat.le_refl _) trivial (h none (fun z h => by cases h) (Or.inl rfl)))
  | some z7 =>
    have hz7 : ρ z7 = 30 := ho_6 z7 rfl
    exact hR (zret_i rfl (Nat.le_refl _) trivial (h (some z7) (fun z h => by cases h; exact hz7) (Or.inr (by omega))))
theorem c_sightAt {ρ : Nat → Nat} {w : zW} (d : Nat) (a1 : Int) (hw : CI ρ w) (hρ0 : ρ 0 = 1) (hr0 : -2147483648 ≤ a1 ∧ a1 ≤ 2147483647) (Q : zQ) (h : ∀ (o : Option Nat), (∀ x, o = some x → ρ x = 40) → (o = none ∨ (0 ≤ a1 ∧ a1 ≤ 1)) → Q (some (va_rf o)) w) : zCl zTab (d + 1) iX11_sightAt [.ref 0, .int (Int32.ofInt a1)] w 0 0 Q := by
  refine zCl_i (M := kX11_sightAt) rfl (Nat.le_of_ble_eq_true rfl) fun R hR => ?_
  have fr0 := wfR_rf [] ρ w
  refine hR (?_ : R (_, _, _, _, _, _))
  refine hR (k_lt (by omega) (fun hc1 => ?_) (fun hc1 => ?_))
  · skip
    iterate 2 refine hR (?_ : R (_, _, _, _, _, _))
    exact hR (zret_i rfl (Nat.le_refl _) trivial (h none (fun z h => by cases h) (Or.inl rfl)))
  iterate 2 refine hR (?_ : R (_, _, _, _, _, _))
  obtain ⟨y6_2, y7_2, hO2, hk2_0, hk2_1, hk2_2, hk2_3, hk2_4, hk2_5, hk2_6, hk2_7⟩ := CI_o1 hw hρ0
  refine hR (c_get hO2 rfl ?_)
  obtain ⟨x1_3, x2_3, x3_3, hO3, hk3_0, hk3_1, hk3_2, hk3_3, hk3_4, hk3_5, hk3_6, hk3_7⟩ := CI_o2 hw hk2_0
  refine hR (c_get hO3 rfl ?_)
  refine hR (?_ : R (_, _, _, _, _, _))
  refine hR (c_ald hw (by rw [hk3_4]; rfl) (by omega) (by omega) (Nat.le_of_ble_eq_true rfl) fun v4 lv4 uv4 => ?_)
  refine hR (j_lt (by omega) (by omega) (fun hc5 => ?_) (fun hc5 => ?_))
  rotate_left
  · skip
    iterate 2 refine hR (?_ : R (_, _, _, _, _, _))
    exact hR (zret_i rfl (Nat.le_refl _) trivial (h none (fun z h => by cases h) (Or.inl rfl)))
  refine hR (?_ : R (_, _, _, _, _, _))
  refine hR (c_get hO2 rfl ?_)
  refine hR (c_get hO3 rfl ?_)
  refine hR (?_ : R (_, _, _, _, _, _))
  refine hR (c_rld hw (by rw [hk3_7]; rfl) (by rw [hk3_7]; rfl) (by decide) (by omega) (by omega) (Nat.le_of_ble_eq_true rfl) fun o_6 ho_6 => ?_)
  cases o_6 with
  | none =>
    exact hR (zret_i rfl (Nat.le_refl _) trivial (h none (fun z h => by cases h) (Or.inl rfl)))
  | some z7 =>
    have hz7 : ρ z7 = 40 := ho_6 z7 rfl
    exact hR (zret_i rfl (Nat.le_refl _) trivial (h (some z7) (fun z h => by cases h; exact hz7) (Or.inr (by omega))))
theorem c_takeUp0 {ρ : Nat → Nat} {w : zW} (d : Nat) (p b : Nat) (hw : CI ρ w) (hρp : ρ p = 49) (hρb : ρ b = 20) (Q : zQ) (h : ∀ (w' : zW), CI ρ w' → wfR [49, 51] ρ w w' → nn w' p → Q (none) w') : zCl zTab (d + 2) iX4_takeUp [.ref p, .ref b] w 0 0 Q := by
  refine zCl_i (M := kX4_takeUp) rfl (Nat.le_of_ble_eq_true rfl) fun R hR => ?_
  have fr0 := wfR_rf [49, 51] ρ w
  refine hR (?_ : R (_, _, _, _, _, _))
  obtain ⟨y0_1, z2_1, z3_1, hO1, hk1_0, hk1_1, hk1_2, hk1_3, hk1_4⟩ := CI_o49 hw hρp
  refine hR (c_get hO1 rfl ?_)
  cases y0_1 with
  | none =>
    refine hR (?_ : R (_, _, _, _, _, _))
    refine hR (And.intro (fun hc => by exact nomatch hc) (fun _ => ?_))
    iterate 2 refine hR (?_ : R (_, _, _, _, _, _))
    refine hR (c_put hO1 rfl rfl fun w3 f3 hO3 => ?_)
    have hw3 := CI_w49 hw hρp f3 (y0 := some b) hO3 ⟨(fun z h => by cases h; exact hρb), hk1_1, hk1_2, hk1_3, (by first | assumption | exact Ne.symm (by assumption))⟩
    have fr4 := wfR_st fr0 f3 (by rw [hρp]; decide)
    have hn5 := nn_of hO3
    refine hR (?_ : R (_, _, _, _, _, _))
    refine hR (c_get hO3 rfl ?_)
    refine hR (?_ : R (_, _, _, _, _, _))
    refine hR (zcall_i 0 0 (Nat.le_of_ble_eq_true rfl) (Nat.le_of_ble_eq_true rfl) (c_fill _ (p + 1) 27305 ((-1)) (-1) 5460 hw3 (by rw [hk1_1]; rfl) ⟨by rw [hk1_1]; decide, by rw [hk1_1]; decide⟩ (by omega) (by omega) (by omega) _ fun w6 hw6 f6 hg6 => ?_))
    refine (?_ : R (_, _, [], w6, 0, 0))
    have fr7 := wfR_st fr4 f6 (by rw [hk1_1]; decide)
    have hn8 := nn_eq (f6.2 p (rne hρp hk1_1 (by decide))) hn5
    have hO9 := (f6.2 p (rne hρp hk1_1 (by decide))).trans hO3
    exact hR (zret_i rfl (Nat.le_refl _) rfl (h _ hw6 fr7 hn8))
  | some z2 =>
    have hz2 : ρ z2 = 20 := hk1_0 z2 rfl
    refine hR (?_ : R (_, _, _, _, _, _))
    refine hR (j_any ?_ ?_)
    · skip
      exact hR (zret_i rfl (Nat.le_refl _) rfl (h _ hw fr0 (nn_of hO1)))
    iterate 2 refine hR (?_ : R (_, _, _, _, _, _))
    refine hR (c_put hO1 rfl rfl fun w10 f10 hO10 => ?_)
    have hw10 := CI_w49 hw hρp f10 (y0 := some b) hO10 ⟨(fun z h => by cases h; exact hρb), hk1_1, hk1_2, hk1_3, (by first | assumption | exact Ne.symm (by assumption))⟩
    have fr11 := wfR_st fr0 f10 (by rw [hρp]; decide)
    have hn12 := nn_of hO10
    refine hR (?_ : R (_, _, _, _, _, _))
    refine hR (c_get hO10 rfl ?_)
    refine hR (?_ : R (_, _, _, _, _, _))
    refine hR (zcall_i 0 0 (Nat.le_of_ble_eq_true rfl) (Nat.le_of_ble_eq_true rfl) (c_fill _ (p + 1) 27305 ((-1)) (-1) 5460 hw10 (by rw [hk1_1]; rfl) ⟨by rw [hk1_1]; decide, by rw [hk1_1]; decide⟩ (by omega) (by omega) (by omega) _ fun w13 hw13 f13 hg13 => ?_))
    refine (?_ : R (_, _, [], w13, 0, 0))
    have fr14 := wfR_st fr11 f13 (by rw [hk1_1]; decide)
    have hn15 := nn_eq (f13.2 p (rne hρp hk1_1 (by decide))) hn12
    have hO16 := (f13.2 p (rne hρp hk1_1 (by decide))).trans hO10
    exact hR (zret_i rfl (Nat.le_refl _) rfl (h _ hw13 fr14 hn15))
