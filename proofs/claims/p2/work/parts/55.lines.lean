theorem c_lineOf_y {ρ : Nat → Nat} {w : zW} (d : Nat) (p q : Nat) (hw : CI ρ w) (hρp : ρ p = 30) (hρq : ρ q = 9) (hr0 : TE ρ w q (fun l a s v f => 0 ≤ s ∧ s ≤ a ∧ a ≤ l ∧ l ≤ 600)) (Q : zQ) (h : ∀ (v : Int), (-1 ≤ v ∧ v ≤ 5) → Q (some (.int (Int32.ofInt v))) w) : zCl zTab (d + 6) iX10_lineOf [.ref p, .ref q] w 0 0 Q := by
  refine zCl_i (M := kX10_lineOf) rfl (Nat.le_of_ble_eq_true rfl) fun R hR => ?_
  have fr0 := wfR_rf [] ρ w
  obtain ⟨t_1, l_1, a_1, k_1, s_1, v_1, f_1, c_1, hT1, ht1, hTr1, hTp1⟩ := hr0
  (try dsimp only at hTp1)
  iterate 2 refine hR (?_ : R (_, _, _, _, _, _))
  refine hR (c_obj hT1 (zcall_i 0 0 (Nat.le_of_ble_eq_true rfl) (Nat.le_of_ble_eq_true rfl) (c_isAtHand _ q 10 hw hρq (te_of hT1 ht1 (by omega) (by (try dsimp only); omega)) rfl _ fun v2 hp4 => ?_)))
  refine (?_ : R (_, _, (.int (Int32.ofInt v2)) :: [], w, 0, 0))
  refine hR (k_eq (by omega) (fun hc5 => ?_) (fun hc5 => ?_))
  rotate_left
  · skip
    refine hR (?_ : R (_, _, _, _, _, _))
    exact hR (zret_i rfl (Nat.le_refl _) trivial (h _ (by omega)))
  iterate 2 refine hR (?_ : R (_, _, _, _, _, _))
  refine hR (c_obj hT1 (zcall_i 0 0 (Nat.le_of_ble_eq_true rfl) (Nat.le_of_ble_eq_true rfl) (c_isAtHand _ q 11 hw hρq (te_of hT1 ht1 (by omega) (by (try dsimp only); omega)) rfl _ fun v6 hp8 => ?_)))
  refine (?_ : R (_, _, (.int (Int32.ofInt v6)) :: [], w, 0, 0))
  refine hR (k_eq (by omega) (fun hc9 => ?_) (fun hc9 => ?_))
  rotate_left
  · skip
    refine hR (?_ : R (_, _, _, _, _, _))
    exact hR (zret_i rfl (Nat.le_refl _) trivial (h _ (by omega)))
  iterate 2 refine hR (?_ : R (_, _, _, _, _, _))
  refine hR (c_obj hT1 (zcall_i 0 0 (Nat.le_of_ble_eq_true rfl) (Nat.le_of_ble_eq_true rfl) (c_isAtHand _ q 12 hw hρq (te_of hT1 ht1 (by omega) (by (try dsimp only); omega)) rfl _ fun v10 hp12 => ?_)))
  refine (?_ : R (_, _, (.int (Int32.ofInt v10)) :: [], w, 0, 0))
  refine hR (k_eq (by omega) (fun hc13 => ?_) (fun hc13 => ?_))
  rotate_left
  · skip
    refine hR (?_ : R (_, _, _, _, _, _))
    exact hR (zret_i rfl (Nat.le_refl _) trivial (h _ (by omega)))
  iterate 2 refine hR (?_ : R (_, _, _, _, _, _))
  refine hR (c_obj hT1 (zcall_i 0 0 (Nat.le_of_ble_eq_true rfl) (Nat.le_of_ble_eq_true rfl) (c_isAtHand _ q 13 hw hρq (te_of hT1 ht1 (by omega) (by (try dsimp only); omega)) rfl _ fun v14 hp16 => ?_)))
  refine (?_ : R (_, _, (.int (Int32.ofInt v14)) :: [], w, 0, 0))
  refine hR (k_eq (by omega) (fun hc17 => ?_) (fun hc17 => ?_))
  rotate_left
  · skip
    refine hR (?_ : R (_, _, _, _, _, _))
    exact hR (zret_i rfl (Nat.le_refl _) trivial (h _ (by omega)))
  iterate 2 refine hR (?_ : R (_, _, _, _, _, _))
  refine hR (c_obj hT1 (zcall_i 0 0 (Nat.le_of_ble_eq_true rfl) (Nat.le_of_ble_eq_true rfl) (c_isAtHand _ q 14 hw hρq (te_of hT1 ht1 (by omega) (by (try dsimp only); omega)) rfl _ fun v18 hp20 => ?_)))
  refine (?_ : R (_, _, (.int (Int32.ofInt v18)) :: [], w, 0, 0))
  refine hR (k_eq (by omega) (fun hc21 => ?_) (fun hc21 => ?_))
  rotate_left
  · skip
    refine hR (?_ : R (_, _, _, _, _, _))
    exact hR (zret_i rfl (Nat.le_refl _) trivial (h _ (by omega)))
  iterate 2 refine hR (?_ : R (_, _, _, _, _, _))
  refine hR (c_obj hT1 (zcall_i 0 0 (Nat.le_of_ble_eq_true rfl) (Nat.le_of_ble_eq_true rfl) (c_isAtHand _ q 15 hw hρq (te_of hT1 ht1 (by omega) (by (try dsimp only); omega)) rfl _ fun v22 hp24 => ?_)))
  refine (?_ : R (_, _, (.int (Int32.ofInt v22)) :: [], w, 0, 0))
  refine hR (k_eq (by omega) (fun hc25 => ?_) (fun hc25 => ?_))
  · skip
    refine hR (?_ : R (_, _, _, _, _, _))
    exact hR (zret_i rfl (Nat.le_refl _) trivial (h _ (by omega)))
  iterate 2 refine hR (?_ : R (_, _, _, _, _, _))
  exact hR (zret_i rfl (Nat.le_refl _) trivial (h _ (by omega)))
theorem c_mostNumbers_y {ρ : Nat → Nat} {w : zW} (d : Nat) (p : Nat) (a1 : Int) (hw : CI ρ w) (hρp : ρ p = 30) (hr0 : 0 ≤ a1 ∧ a1 ≤ 7) (Q : zQ) (h : ∀ (v : Int), (0 ≤ v ∧ v ≤ 600) → Q (some (.int (Int32.ofInt v))) w) : zCl zTab (d + 1) iX10_mostNumbers [.ref p, .int (Int32.ofInt a1)] w 0 0 Q := by
  refine zCl_i (M := kX10_mostNumbers) rfl (Nat.le_of_ble_eq_true rfl) fun R hR => ?_
  have fr0 := wfR_rf [] ρ w
  refine hR (?_ : R (_, _, _, _, _, _))
  have hl1 : a1 = 0 ∨ a1 = 1 ∨ a1 = 5 ∨ (a1 ≠ 0 ∧ a1 ≠ 1 ∧ a1 ≠ 5) := by omega
  rcases hl1 with hl1 | hl1 | hl1 | hl1
  · refine hR (t_pc (pc2 := 36) (by rw [zti (e := a1) (by omega) (by omega)]; show (((1 : Nat) : Int) + Op.lookupswitch.offset [(0, 35), (1, 37), (5, 39)] 41 a1).toNat = 36; simp only [Op.lookupswitch.offset_cons]; (repeat' split) <;> first | omega | rfl) ?_)
    refine hR (?_ : R (_, _, _, _, _, _))
    exact hR (zret_i rfl (Nat.le_refl _) trivial (h _ (by omega)))
  · refine hR (t_pc (pc2 := 38) (by rw [zti (e := a1) (by omega) (by omega)]; show (((1 : Nat) : Int) + Op.lookupswitch.offset [(0, 35), (1, 37), (5, 39)] 41 a1).toNat = 38; simp only [Op.lookupswitch.offset_cons]; (repeat' split) <;> first | omega | rfl) ?_)
    refine hR (?_ : R (_, _, _, _, _, _))
    exact hR (zret_i rfl (Nat.le_refl _) trivial (h _ (by omega)))
  · refine hR (t_pc (pc2 := 40) (by rw [zti (e := a1) (by omega) (by omega)]; show (((1 : Nat) : Int) + Op.lookupswitch.offset [(0, 35), (1, 37), (5, 39)] 41 a1).toNat = 40; simp only [Op.lookupswitch.offset_cons]; (repeat' split) <;> first | omega | rfl) ?_)
    refine hR (?_ : R (_, _, _, _, _, _))
    exact hR (zret_i rfl (Nat.le_refl _) trivial (h _ (by omega)))
  · refine hR (t_pc (pc2 := 42) (by rw [zti (e := a1) (by omega) (by omega)]; show (((1 : Nat) : Int) + Op.lookupswitch.offset [(0, 35), (1, 37), (5, 39)] 41 a1).toNat = 42; simp only [Op.lookupswitch.offset_cons]; (repeat' split) <;> first | omega | rfl) ?_)
    refine hR (?_ : R (_, _, _, _, _, _))
    exact hR (zret_i rfl (Nat.le_refl _) trivial (h _ (by omega)))
theorem c_fewestNumbers_y {ρ : Nat → Nat} {w : zW} (d : Nat) (p : Nat) (a1 : Int) (hw : CI ρ w) (hρp : ρ p = 30) (hr0 : 0 ≤ a1 ∧ a1 ≤ 7) (Q : zQ) (h : ∀ (v : Int), (0 ≤ v ∧ v ≤ 600) → Q (some (.int (Int32.ofInt v))) w) : zCl zTab (d + 2) iX10_fewestNumbers [.ref p, .int (Int32.ofInt a1)] w 0 0 Q := by
  refine zCl_i (M := kX10_fewestNumbers) rfl (Nat.le_of_ble_eq_true rfl) fun R hR => ?_
  have fr0 := wfR_rf [] ρ w
  iterate 2 refine hR (?_ : R (_, _, _, _, _, _))
  obtain ⟨x0_4, hO4, hk4_0, hk4_1, hk4_2, hk4_3⟩ := CI_o30 hw hρp
  refine hR (c_obj hO4 (zcall_i 0 0 (Nat.le_of_ble_eq_true rfl) (Nat.le_of_ble_eq_true rfl) (c_mostNumbers_y _ p a1 hw hρp (by omega) _ fun v1 hp3 => ?_)))
  refine (?_ : R (_, _, (.int (Int32.ofInt v1)) :: [], w, 0, 0))
  exact hR (zret_i rfl (Nat.le_refl _) trivial (h _ (by omega)))
theorem c_beginLine_y {ρ : Nat → Nat} {w : zW} (d : Nat) (p q : Nat) (a1 : Int) (hw : CI ρ w) (hρp : ρ p = 30) (hρq : ρ q = 9) (hr0 : 0 ≤ a1 ∧ a1 ≤ 7) (hr1 : TE ρ w q (fun l a s v f => 0 ≤ s ∧ s ≤ a ∧ a ≤ l ∧ l ≤ 600)) (Q : zQ) (h : ∀ (w' : zW), CI ρ w' → wfR [9, 30, 31, 32, 33] ρ w w' → (TE ρ w' q (fun l a s v f => 0 ≤ s ∧ s ≤ a ∧ a ≤ l ∧ l ≤ 600)) → Q (none) w') : zCl zTab (d + 2) iX10_beginLine [.ref p, .int (Int32.ofInt a1), .ref q] w 0 0 Q := by
  refine zCl_i (M := kX10_beginLine) rfl (Nat.le_of_ble_eq_true rfl) fun R hR => ?_
  have fr0 := wfR_rf [9, 30, 31, 32, 33] ρ w
  obtain ⟨t_1, l_1, a_1, k_1, s_1, v_1, f_1, c_1, hT1, ht1, hTr1, hTp1⟩ := hr1
  (try dsimp only at hTp1)
  refine hR (?_ : R (_, _, _, _, _, _))
  obtain ⟨x0_2, hO2, hk2_0, hk2_1, hk2_2, hk2_3⟩ := CI_o30 hw hρp
  refine hR (c_get hO2 rfl ?_)
  refine hR (t_c 40 (by decide) ?_)
  refine hR (j_lt (by omega) (by omega) (fun hc3 => ?_) (fun hc3 => ?_))
  rotate_left
  · skip
    iterate 2 refine hR (?_ : R (_, _, _, _, _, _))
    refine hR (c_obj hT1 (zcall_i 0 0 (Nat.le_of_ble_eq_true rfl) (Nat.le_of_ble_eq_true rfl) (c_faultHere _ q 3 v_1 hw hρq (te_of hT1 ht1 (by omega) (by (try dsimp only); omega)) (by omega) _ fun w19 hw19 g19 hp20 => ?_)))
    have fr21 := wfR_tr fr0 g19 (by decide)
    have hO22 := (g19.2 p (by rw [hρp]; decide)).trans hO2
    refine (?_ : R (_, _, [], w19, 0, 0))
    obtain ⟨t_23, l_23, a_23, k_23, s_23, v_23, f_23, c_23, hT23, ht23, hTr23, hTp23⟩ := hp20
    (try dsimp only at hTp23)
    exact hR (zret_i rfl (Nat.le_refl _) rfl (h _ hw19 fr21 (te_of hT23 ht23 (by omega) (by (try dsimp only); omega))))
  refine hR (?_ : R (_, _, _, _, _, _))
  refine hR (c_get hO2 rfl ?_)
  refine hR (?_ : R (_, _, _, _, _, _))
  refine hR (c_get hO2 rfl ?_)
  refine hR (?_ : R (_, _, _, _, _, _))
  refine hR (c_astx hw (by rw [hk2_1]; rfl) ⟨by rw [hk2_1]; decide, by rw [hk2_1]; decide⟩ (by omega) (by omega) (Nat.le_of_ble_eq_true rfl) fun w4 hw4 f4 => ?_)
  have fr5 := wfR_st fr0 f4 (by rw [hk2_1]; decide)
  have hO6 := (f4.2 q (rne hρq hk2_1 (by decide))).trans hT1
  have hO7 := (f4.2 p (rne hρp hk2_1 (by decide))).trans hO2
  refine hR (?_ : R (_, _, _, _, _, _))
  refine hR (c_get hO7 rfl ?_)
  refine hR (?_ : R (_, _, _, _, _, _))
  refine hR (c_get hO7 rfl ?_)
  refine hR (?_ : R (_, _, _, _, _, _))
  refine hR (c_astx hw4 (by rw [hk2_2]; rfl) ⟨by rw [hk2_2]; decide, by rw [hk2_2]; decide⟩ (by omega) (by omega) (Nat.le_of_ble_eq_true rfl) fun w8 hw8 f8 => ?_)
  have fr9 := wfR_st fr5 f8 (by rw [hk2_2]; decide)
  have hO10 := (f8.2 q (rne hρq hk2_2 (by decide))).trans hO6
  have hO11 := (f8.2 p (rne hρp hk2_2 (by decide))).trans hO7
  refine hR (?_ : R (_, _, _, _, _, _))
  refine hR (c_get hO11 rfl ?_)
  refine hR (?_ : R (_, _, _, _, _, _))
  refine hR (c_get hO11 rfl ?_)
  refine hR (?_ : R (_, _, _, _, _, _))
  refine hR (c_astx hw8 (by rw [hk2_3]; rfl) ⟨by rw [hk2_3]; decide, by rw [hk2_3]; decide⟩ (by omega) (by omega) (Nat.le_of_ble_eq_true rfl) fun w12 hw12 f12 => ?_)
  have fr13 := wfR_st fr9 f12 (by rw [hk2_3]; decide)
  have hO14 := (f12.2 q (rne hρq hk2_3 (by decide))).trans hO10
  have hO15 := (f12.2 p (rne hρp hk2_3 (by decide))).trans hO11
  iterate 2 refine hR (?_ : R (_, _, _, _, _, _))
  refine hR (c_get hO15 rfl ?_)
  refine hR (?_ : R (_, _, _, _, _, _))
  refine hR (t_add ?_)
  refine hR (c_put hO15 rfl rfl fun w16 f16 hO16 => ?_)
  have hw16 := CI_w30 hw12 hρp f16 hO16 ⟨⟨by omega, by omega⟩, hk2_1, hk2_2, hk2_3⟩
  have fr17 := wfR_st fr13 f16 (by rw [hρp]; decide)
  have hO18 := (f16.2 q (rne hρq hρp (by decide))).trans hO14
  exact hR (zret_i rfl (Nat.le_refl _) rfl (h _ hw16 fr17 (te_of hO18 ht1 (by omega) (by (try dsimp only); omega))))
theorem c_takeNumber_y {ρ : Nat → Nat} {w : zW} (d : Nat) (p q : Nat) (a1 a2 : Int) (hw : CI ρ w) (hρp : ρ p = 30) (hρq : ρ q = 9) (hr0 : 0 ≤ a2 ∧ a2 ≤ 600) (hr1 : 0 ≤ a1 ∧ a1 ≤ 7) (hr2 : TE ρ w q (fun l a s v f => 0 ≤ s ∧ s ≤ a ∧ a ≤ l ∧ l ≤ 600)) (Q : zQ) (h : ∀ (w' : zW), CI ρ w' → wfR [9, 32, 33] ρ w w' → (TE ρ w' q (fun l a s v f => 0 ≤ s ∧ s ≤ a ∧ a ≤ l ∧ l ≤ 600)) → Q (none) w') : zCl zTab (d + 3) iX10_takeNumber [.ref p, .int (Int32.ofInt a1), .int (Int32.ofInt a2), .ref q] w 0 0 Q := by
  refine zCl_i (M := kX10_takeNumber) rfl (Nat.le_of_ble_eq_true rfl) fun R hR => ?_
  have fr0 := wfR_rf [9, 32, 33] ρ w
  obtain ⟨t_1, l_1, a_1, k_1, s_1, v_1, f_1, c_1, hT1, ht1, hTr1, hTp1⟩ := hr2
  (try dsimp only at hTp1)
  refine hR (?_ : R (_, _, _, _, _, _))
  obtain ⟨x0_2, hO2, hk2_0, hk2_1, hk2_2, hk2_3⟩ := CI_o30 hw hρp
  refine hR (c_get hO2 rfl ?_)
  refine hR (?_ : R (_, _, _, _, _, _))
  refine hR (t_sub ?_)
  iterate 2 refine hR (?_ : R (_, _, _, _, _, _))
  refine hR (k_ne (by omega) (fun hc3 => ?_) (fun hc3 => ?_))
  · skip
    iterate 5 refine hR (?_ : R (_, _, _, _, _, _))
    refine hR (k_eq (by omega) (fun _ => ?_) (fun hc => by omega))
    refine hR (?_ : R (_, _, _, _, _, _))
    refine hR (c_obj hT1 (zcall_i 0 0 (Nat.le_of_ble_eq_true rfl) (Nat.le_of_ble_eq_true rfl) (c_isWithin _ q 0 3 v_1 f_1 hw hρq (te_of hT1 ht1 (by omega) (by (try dsimp only); omega)) (by omega) _ fun v4 w5 hw5 g5 hp6 hp7 hp8 => ?_)))
    have fr9 := wfR_tr fr0 g5 (by decide)
    have hO10 := (g5.2 p (by rw [hρp]; decide)).trans hO2
    refine (?_ : R (_, _, (.int (Int32.ofInt v4)) :: [], w5, 0, 0))
    obtain ⟨t_11, l_11, a_11, k_11, s_11, v_11, f_11, c_11, hT11, ht11, hTr11, hTp11⟩ := hp8
    (try dsimp only at hTp11)
    refine hR (k_eq (by omega) (fun hc12 => ?_) (fun hc12 => ?_))
    · skip
      exact hR (zret_i rfl (Nat.le_refl _) rfl (h _ hw5 fr9 (te_of hT11 ht11 (by omega) (by (try dsimp only); omega))))
    refine hR (?_ : R (_, _, _, _, _, _))
    refine hR (k_ge (by omega) (fun hc13 => ?_) (fun hc13 => ?_))
    rotate_left
    · skip
      exact hR (zret_i rfl (Nat.le_refl _) rfl (h _ hw5 fr9 (te_of hT11 ht11 (by omega) (by (try dsimp only); omega))))
    refine hR (?_ : R (_, _, _, _, _, _))
    refine hR (k_ne (by omega) (fun hc14 => ?_) (fun hc14 => ?_))
    rotate_left
    · skip
      refine hR (?_ : R (_, _, _, _, _, _))
      refine hR (c_get hO10 rfl ?_)
      iterate 2 refine hR (?_ : R (_, _, _, _, _, _))
      refine hR (c_get hT11 rfl ?_)
      refine hR (c_astx hw5 (by rw [hk2_2]; rfl) ⟨by rw [hk2_2]; decide, by rw [hk2_2]; decide⟩ (by omega) (by omega) (Nat.le_of_ble_eq_true rfl) fun w34 hw34 f34 => ?_)
      have fr35 := wfR_st fr9 f34 (by rw [hk2_2]; decide)
      have hO36 := (f34.2 p (rne hρp hk2_2 (by decide))).trans hO10
      have hO37 := (f34.2 q (rne hρq hk2_2 (by decide))).trans hT11
      exact hR (zret_i rfl (Nat.le_refl _) rfl (h _ hw34 fr35 (te_of hO37 ht11 (by omega) (by (try dsimp only); omega))))
    iterate 2 refine hR (?_ : R (_, _, _, _, _, _))
    refine hR (j_ne (by omega) (by omega) (fun hc15 => ?_) (fun hc15 => ?_))
    · skip
      refine hR (?_ : R (_, _, _, _, _, _))
      refine hR (c_get hO10 rfl ?_)
      iterate 2 refine hR (?_ : R (_, _, _, _, _, _))
      refine hR (c_get hT11 rfl ?_)
      refine hR (c_astx hw5 (by rw [hk2_3]; rfl) ⟨by rw [hk2_3]; decide, by rw [hk2_3]; decide⟩ (by omega) (by omega) (Nat.le_of_ble_eq_true rfl) fun w16 hw16 f16 => ?_)
      have fr17 := wfR_st fr9 f16 (by rw [hk2_3]; decide)
      have hO18 := (f16.2 p (rne hρp hk2_3 (by decide))).trans hO10
      have hO19 := (f16.2 q (rne hρq hk2_3 (by decide))).trans hT11
      exact hR (zret_i rfl (Nat.le_refl _) rfl (h _ hw16 fr17 (te_of hO19 ht11 (by omega) (by (try dsimp only); omega))))
    refine hR (?_ : R (_, _, _, _, _, _))
    refine hR (c_get hO10 rfl ?_)
    refine hR (?_ : R (_, _, _, _, _, _))
    refine hR (c_ald hw5 (by rw [hk2_2]; rfl) (by omega) (by omega) (Nat.le_of_ble_eq_true rfl) fun v20 lv20 uv20 => ?_)
    refine hR (?_ : R (_, _, _, _, _, _))
    refine hR (c_get hT11 rfl ?_)
    refine hR (j_any ?_ ?_)
    · skip
      refine hR (?_ : R (_, _, _, _, _, _))
      refine hR (c_get hO10 rfl ?_)
      iterate 2 refine hR (?_ : R (_, _, _, _, _, _))
      refine hR (c_get hT11 rfl ?_)
      refine hR (c_astx hw5 (by rw [hk2_3]; rfl) ⟨by rw [hk2_3]; decide, by rw [hk2_3]; decide⟩ (by omega) (by omega) (Nat.le_of_ble_eq_true rfl) fun w21 hw21 f21 => ?_)
      have fr22 := wfR_st fr9 f21 (by rw [hk2_3]; decide)
      have hO23 := (f21.2 p (rne hρp hk2_3 (by decide))).trans hO10
      have hO24 := (f21.2 q (rne hρq hk2_3 (by decide))).trans hT11
      exact hR (zret_i rfl (Nat.le_refl _) rfl (h _ hw21 fr22 (te_of hO24 ht11 (by omega) (by (try dsimp only); omega))))
    iterate 2 refine hR (?_ : R (_, _, _, _, _, _))
    refine hR (c_obj hT11 (zcall_i 0 0 (Nat.le_of_ble_eq_true rfl) (Nat.le_of_ble_eq_true rfl) (c_faultHere _ q 2 v_11 hw5 hρq (te_of hT11 ht11 (by omega) (by (try dsimp only); omega)) (by omega) _ fun w25 hw25 g25 hp26 => ?_)))
    have fr27 := wfR_tr fr9 g25 (by decide)
    have hO28 := (g25.2 p (by rw [hρp]; decide)).trans hO10
    refine (?_ : R (_, _, [], w25, 0, 0))
    obtain ⟨t_29, l_29, a_29, k_29, s_29, v_29, f_29, c_29, hT29, ht29, hTr29, hTp29⟩ := hp26
    (try dsimp only at hTp29)
    refine hR (?_ : R (_, _, _, _, _, _))
    refine hR (c_get hO28 rfl ?_)
    iterate 2 refine hR (?_ : R (_, _, _, _, _, _))
    refine hR (c_get hT29 rfl ?_)
    refine hR (c_astx hw25 (by rw [hk2_3]; rfl) ⟨by rw [hk2_3]; decide, by rw [hk2_3]; decide⟩ (by omega) (by omega) (Nat.le_of_ble_eq_true rfl) fun w30 hw30 f30 => ?_)
    have fr31 := wfR_st fr27 f30 (by rw [hk2_3]; decide)
    have hO32 := (f30.2 p (rne hρp hk2_3 (by decide))).trans hO28
    have hO33 := (f30.2 q (rne hρq hk2_3 (by decide))).trans hT29
    exact hR (zret_i rfl (Nat.le_refl _) rfl (h _ hw30 fr31 (te_of hO33 ht29 (by omega) (by (try dsimp only); omega))))
  iterate 2 refine hR (?_ : R (_, _, _, _, _, _))
  refine hR (j_ne (by omega) (by omega) (fun hc38 => ?_) (fun hc38 => ?_))
  · skip
    iterate 5 refine hR (?_ : R (_, _, _, _, _, _))
    refine hR (k_eq (by omega) (fun _ => ?_) (fun hc => by omega))
    refine hR (?_ : R (_, _, _, _, _, _))
    refine hR (c_obj hT1 (zcall_i 0 0 (Nat.le_of_ble_eq_true rfl) (Nat.le_of_ble_eq_true rfl) (c_isWithin _ q 0 3 v_1 f_1 hw hρq (te_of hT1 ht1 (by omega) (by (try dsimp only); omega)) (by omega) _ fun v39 w40 hw40 g40 hp41 hp42 hp43 => ?_)))
    have fr44 := wfR_tr fr0 g40 (by decide)
    have hO45 := (g40.2 p (by rw [hρp]; decide)).trans hO2
    refine (?_ : R (_, _, (.int (Int32.ofInt v39)) :: [], w40, 0, 0))
    obtain ⟨t_46, l_46, a_46, k_46, s_46, v_46, f_46, c_46, hT46, ht46, hTr46, hTp46⟩ := hp43
    (try dsimp only at hTp46)
    refine hR (k_eq (by omega) (fun hc47 => ?_) (fun hc47 => ?_))
    · skip
      exact hR (zret_i rfl (Nat.le_refl _) rfl (h _ hw40 fr44 (te_of hT46 ht46 (by omega) (by (try dsimp only); omega))))
    refine hR (?_ : R (_, _, _, _, _, _))
    refine hR (k_ge (by omega) (fun hc48 => ?_) (fun hc48 => ?_))
    rotate_left
    · skip
      exact hR (zret_i rfl (Nat.le_refl _) rfl (h _ hw40 fr44 (te_of hT46 ht46 (by omega) (by (try dsimp only); omega))))
    refine hR (?_ : R (_, _, _, _, _, _))
    refine hR (k_ne (by omega) (fun hc49 => ?_) (fun hc49 => ?_))
    rotate_left
    · skip
      refine hR (?_ : R (_, _, _, _, _, _))
      refine hR (c_get hO45 rfl ?_)
      iterate 2 refine hR (?_ : R (_, _, _, _, _, _))
      refine hR (c_get hT46 rfl ?_)
      refine hR (c_astx hw40 (by rw [hk2_2]; rfl) ⟨by rw [hk2_2]; decide, by rw [hk2_2]; decide⟩ (by omega) (by omega) (Nat.le_of_ble_eq_true rfl) fun w69 hw69 f69 => ?_)
      have fr70 := wfR_st fr44 f69 (by rw [hk2_2]; decide)
      have hO71 := (f69.2 p (rne hρp hk2_2 (by decide))).trans hO45
      have hO72 := (f69.2 q (rne hρq hk2_2 (by decide))).trans hT46
      exact hR (zret_i rfl (Nat.le_refl _) rfl (h _ hw69 fr70 (te_of hO72 ht46 (by omega) (by (try dsimp only); omega))))
    iterate 2 refine hR (?_ : R (_, _, _, _, _, _))
    refine hR (j_ne (by omega) (by omega) (fun hc50 => ?_) (fun hc50 => ?_))
    · skip
      refine hR (?_ : R (_, _, _, _, _, _))
      refine hR (c_get hO45 rfl ?_)
      iterate 2 refine hR (?_ : R (_, _, _, _, _, _))
      refine hR (c_get hT46 rfl ?_)
      refine hR (c_astx hw40 (by rw [hk2_3]; rfl) ⟨by rw [hk2_3]; decide, by rw [hk2_3]; decide⟩ (by omega) (by omega) (Nat.le_of_ble_eq_true rfl) fun w51 hw51 f51 => ?_)
      have fr52 := wfR_st fr44 f51 (by rw [hk2_3]; decide)
      have hO53 := (f51.2 p (rne hρp hk2_3 (by decide))).trans hO45
      have hO54 := (f51.2 q (rne hρq hk2_3 (by decide))).trans hT46
      exact hR (zret_i rfl (Nat.le_refl _) rfl (h _ hw51 fr52 (te_of hO54 ht46 (by omega) (by (try dsimp only); omega))))
    refine hR (?_ : R (_, _, _, _, _, _))
    refine hR (c_get hO45 rfl ?_)
    refine hR (?_ : R (_, _, _, _, _, _))
    refine hR (c_ald hw40 (by rw [hk2_2]; rfl) (by omega) (by omega) (Nat.le_of_ble_eq_true rfl) fun v55 lv55 uv55 => ?_)
    refine hR (?_ : R (_, _, _, _, _, _))
    refine hR (c_get hT46 rfl ?_)
    refine hR (j_any ?_ ?_)
    · skip
      refine hR (?_ : R (_, _, _, _, _, _))
      refine hR (c_get hO45 rfl ?_)
      iterate 2 refine hR (?_ : R (_, _, _, _, _, _))
      refine hR (c_get hT46 rfl ?_)
      refine hR (c_astx hw40 (by rw [hk2_3]; rfl) ⟨by rw [hk2_3]; decide, by rw [hk2_3]; decide⟩ (by omega) (by omega) (Nat.le_of_ble_eq_true rfl) fun w56 hw56 f56 => ?_)
      have fr57 := wfR_st fr44 f56 (by rw [hk2_3]; decide)
      have hO58 := (f56.2 p (rne hρp hk2_3 (by decide))).trans hO45
      have hO59 := (f56.2 q (rne hρq hk2_3 (by decide))).trans hT46
      exact hR (zret_i rfl (Nat.le_refl _) rfl (h _ hw56 fr57 (te_of hO59 ht46 (by omega) (by (try dsimp only); omega))))
    iterate 2 refine hR (?_ : R (_, _, _, _, _, _))
    refine hR (c_obj hT46 (zcall_i 0 0 (Nat.le_of_ble_eq_true rfl) (Nat.le_of_ble_eq_true rfl) (c_faultHere _ q 2 v_46 hw40 hρq (te_of hT46 ht46 (by omega) (by (try dsimp only); omega)) (by omega) _ fun w60 hw60 g60 hp61 => ?_)))
    have fr62 := wfR_tr fr44 g60 (by decide)
    have hO63 := (g60.2 p (by rw [hρp]; decide)).trans hO45
    refine (?_ : R (_, _, [], w60, 0, 0))
    obtain ⟨t_64, l_64, a_64, k_64, s_64, v_64, f_64, c_64, hT64, ht64, hTr64, hTp64⟩ := hp61
    (try dsimp only at hTp64)
    refine hR (?_ : R (_, _, _, _, _, _))
    refine hR (c_get hO63 rfl ?_)
    iterate 2 refine hR (?_ : R (_, _, _, _, _, _))
    refine hR (c_get hT64 rfl ?_)
    refine hR (c_astx hw60 (by rw [hk2_3]; rfl) ⟨by rw [hk2_3]; decide, by rw [hk2_3]; decide⟩ (by omega) (by omega) (Nat.le_of_ble_eq_true rfl) fun w65 hw65 f65 => ?_)
    have fr66 := wfR_st fr62 f65 (by rw [hk2_3]; decide)
    have hO67 := (f65.2 p (rne hρp hk2_3 (by decide))).trans hO63
    have hO68 := (f65.2 q (rne hρq hk2_3 (by decide))).trans hT64
    exact hR (zret_i rfl (Nat.le_refl _) rfl (h _ hw65 fr66 (te_of hO68 ht64 (by omega) (by (try dsimp only); omega))))
  iterate 6 refine hR (?_ : R (_, _, _, _, _, _))
  refine hR (k_eq (by omega) (fun hc => by omega) (fun _ => ?_))
  iterate 2 refine hR (?_ : R (_, _, _, _, _, _))
  refine hR (c_obj hT1 (zcall_i 0 0 (Nat.le_of_ble_eq_true rfl) (Nat.le_of_ble_eq_true rfl) (c_isWithin _ q 0 4 v_1 f_1 hw hρq (te_of hT1 ht1 (by omega) (by (try dsimp only); omega)) (by omega) _ fun v73 w74 hw74 g74 hp75 hp76 hp77 => ?_)))
  have fr78 := wfR_tr fr0 g74 (by decide)
  have hO79 := (g74.2 p (by rw [hρp]; decide)).trans hO2
  refine (?_ : R (_, _, (.int (Int32.ofInt v73)) :: [], w74, 0, 0))
  obtain ⟨t_80, l_80, a_80, k_80, s_80, v_80, f_80, c_80, hT80, ht80, hTr80, hTp80⟩ := hp77
  (try dsimp only at hTp80)
  refine hR (k_eq (by omega) (fun hc81 => ?_) (fun hc81 => ?_))
  · skip
    exact hR (zret_i rfl (Nat.le_refl _) rfl (h _ hw74 fr78 (te_of hT80 ht80 (by omega) (by (try dsimp only); omega))))
  refine hR (?_ : R (_, _, _, _, _, _))
  refine hR (k_ge (by omega) (fun hc82 => ?_) (fun hc82 => ?_))
  rotate_left
  · skip
    exact hR (zret_i rfl (Nat.le_refl _) rfl (h _ hw74 fr78 (te_of hT80 ht80 (by omega) (by (try dsimp only); omega))))
  refine hR (?_ : R (_, _, _, _, _, _))
  refine hR (k_ne (by omega) (fun hc83 => ?_) (fun hc83 => ?_))
  rotate_left
  · skip
    refine hR (?_ : R (_, _, _, _, _, _))
    refine hR (c_get hO79 rfl ?_)
    iterate 2 refine hR (?_ : R (_, _, _, _, _, _))
    refine hR (c_get hT80 rfl ?_)
    refine hR (c_astx hw74 (by rw [hk2_2]; rfl) ⟨by rw [hk2_2]; decide, by rw [hk2_2]; decide⟩ (by omega) (by omega) (Nat.le_of_ble_eq_true rfl) fun w103 hw103 f103 => ?_)
    have fr104 := wfR_st fr78 f103 (by rw [hk2_2]; decide)
    have hO105 := (f103.2 p (rne hρp hk2_2 (by decide))).trans hO79
    have hO106 := (f103.2 q (rne hρq hk2_2 (by decide))).trans hT80
    exact hR (zret_i rfl (Nat.le_refl _) rfl (h _ hw103 fr104 (te_of hO106 ht80 (by omega) (by (try dsimp only); omega))))
  iterate 2 refine hR (?_ : R (_, _, _, _, _, _))
  refine hR (j_ne (by omega) (by omega) (fun hc84 => ?_) (fun hc84 => ?_))
  · skip
    refine hR (?_ : R (_, _, _, _, _, _))
    refine hR (c_get hO79 rfl ?_)
    iterate 2 refine hR (?_ : R (_, _, _, _, _, _))
    refine hR (c_get hT80 rfl ?_)
    refine hR (c_astx hw74 (by rw [hk2_3]; rfl) ⟨by rw [hk2_3]; decide, by rw [hk2_3]; decide⟩ (by omega) (by omega) (Nat.le_of_ble_eq_true rfl) fun w85 hw85 f85 => ?_)
    have fr86 := wfR_st fr78 f85 (by rw [hk2_3]; decide)
    have hO87 := (f85.2 p (rne hρp hk2_3 (by decide))).trans hO79
    have hO88 := (f85.2 q (rne hρq hk2_3 (by decide))).trans hT80
    exact hR (zret_i rfl (Nat.le_refl _) rfl (h _ hw85 fr86 (te_of hO88 ht80 (by omega) (by (try dsimp only); omega))))
  refine hR (?_ : R (_, _, _, _, _, _))
  refine hR (c_get hO79 rfl ?_)
  refine hR (?_ : R (_, _, _, _, _, _))
  refine hR (c_ald hw74 (by rw [hk2_2]; rfl) (by omega) (by omega) (Nat.le_of_ble_eq_true rfl) fun v89 lv89 uv89 => ?_)
  refine hR (?_ : R (_, _, _, _, _, _))
  refine hR (c_get hT80 rfl ?_)
  refine hR (j_any ?_ ?_)
  · skip
    refine hR (?_ : R (_, _, _, _, _, _))
    refine hR (c_get hO79 rfl ?_)
    iterate 2 refine hR (?_ : R (_, _, _, _, _, _))
    refine hR (c_get hT80 rfl ?_)
    refine hR (c_astx hw74 (by rw [hk2_3]; rfl) ⟨by rw [hk2_3]; decide, by rw [hk2_3]; decide⟩ (by omega) (by omega) (Nat.le_of_ble_eq_true rfl) fun w90 hw90 f90 => ?_)
    have fr91 := wfR_st fr78 f90 (by rw [hk2_3]; decide)
    have hO92 := (f90.2 p (rne hρp hk2_3 (by decide))).trans hO79
    have hO93 := (f90.2 q (rne hρq hk2_3 (by decide))).trans hT80
    exact hR (zret_i rfl (Nat.le_refl _) rfl (h _ hw90 fr91 (te_of hO93 ht80 (by omega) (by (try dsimp only); omega))))
  iterate 2 refine hR (?_ : R (_, _, _, _, _, _))
  refine hR (c_obj hT80 (zcall_i 0 0 (Nat.le_of_ble_eq_true rfl) (Nat.le_of_ble_eq_true rfl) (c_faultHere _ q 2 v_80 hw74 hρq (te_of hT80 ht80 (by omega) (by (try dsimp only); omega)) (by omega) _ fun w94 hw94 g94 hp95 => ?_)))
  have fr96 := wfR_tr fr78 g94 (by decide)
  have hO97 := (g94.2 p (by rw [hρp]; decide)).trans hO79
  refine (?_ : R (_, _, [], w94, 0, 0))
  obtain ⟨t_98, l_98, a_98, k_98, s_98, v_98, f_98, c_98, hT98, ht98, hTr98, hTp98⟩ := hp95
  (try dsimp only at hTp98)
  refine hR (?_ : R (_, _, _, _, _, _))
  refine hR (c_get hO97 rfl ?_)
  iterate 2 refine hR (?_ : R (_, _, _, _, _, _))
  refine hR (c_get hT98 rfl ?_)
  refine hR (c_astx hw94 (by rw [hk2_3]; rfl) ⟨by rw [hk2_3]; decide, by rw [hk2_3]; decide⟩ (by omega) (by omega) (Nat.le_of_ble_eq_true rfl) fun w99 hw99 f99 => ?_)
  have fr100 := wfR_st fr96 f99 (by rw [hk2_3]; decide)
  have hO101 := (f99.2 p (rne hρp hk2_3 (by decide))).trans hO97
  have hO102 := (f99.2 q (rne hρq hk2_3 (by decide))).trans hT98
  exact hR (zret_i rfl (Nat.le_refl _) rfl (h _ hw99 fr100 (te_of hO102 ht98 (by omega) (by (try dsimp only); omega))))
theorem c_lineOf_s {ρ : Nat → Nat} {w : zW} (d : Nat) (p q : Nat) (hw : CI ρ w) (hρp : ρ p = 40) (hρq : ρ q = 9) (hr0 : TE ρ w q (fun l a s v f => 0 ≤ s ∧ s ≤ a ∧ a ≤ l ∧ l ≤ 600)) (Q : zQ) (h : ∀ (v : Int), (-1 ≤ v ∧ v ≤ 0) → Q (some (.int (Int32.ofInt v))) w) : zCl zTab (d + 6) iX6_lineOf [.ref p, .ref q] w 0 0 Q := by
  refine zCl_i (M := kX6_lineOf) rfl (Nat.le_of_ble_eq_true rfl) fun R hR => ?_
  have fr0 := wfR_rf [] ρ w
  obtain ⟨t_1, l_1, a_1, k_1, s_1, v_1, f_1, c_1, hT1, ht1, hTr1, hTp1⟩ := hr0
  (try dsimp only at hTp1)
  iterate 2 refine hR (?_ : R (_, _, _, _, _, _))
  refine hR (c_obj hT1 (zcall_i 0 0 (Nat.le_of_ble_eq_true rfl) (Nat.le_of_ble_eq_true rfl) (c_isAtHand _ q 9 hw hρq (te_of hT1 ht1 (by omega) (by (try dsimp only); omega)) rfl _ fun v2 hp4 => ?_)))
  refine (?_ : R (_, _, (.int (Int32.ofInt v2)) :: [], w, 0, 0))
  refine hR (k_eq (by omega) (fun hc5 => ?_) (fun hc5 => ?_))
  · skip
    refine hR (?_ : R (_, _, _, _, _, _))
    exact hR (zret_i rfl (Nat.le_refl _) trivial (h _ (by omega)))
  iterate 2 refine hR (?_ : R (_, _, _, _, _, _))
  exact hR (zret_i rfl (Nat.le_refl _) trivial (h _ (by omega)))
theorem c_mostNumbers_s {ρ : Nat → Nat} {w : zW} (d : Nat) (p : Nat) (a1 : Int) (hw : CI ρ w) (hρp : ρ p = 40) (hr0 : 0 ≤ a1 ∧ a1 ≤ 7) (Q : zQ) (h : ∀ (v : Int), (0 ≤ v ∧ v ≤ 600) → Q (some (.int (Int32.ofInt v))) w) : zCl zTab (d + 1) iX6_mostNumbers [.ref p, .int (Int32.ofInt a1)] w 0 0 Q := by
  refine zCl_i (M := kX6_mostNumbers) rfl (Nat.le_of_ble_eq_true rfl) fun R hR => ?_
  have fr0 := wfR_rf [] ρ w
  refine hR (t_c 600 (by decide) ?_)
  exact hR (zret_i rfl (Nat.le_refl _) trivial (h _ (by omega)))
theorem c_fewestNumbers_s {ρ : Nat → Nat} {w : zW} (d : Nat) (p : Nat) (a1 : Int) (hw : CI ρ w) (hρp : ρ p = 40) (hr0 : 0 ≤ a1 ∧ a1 ≤ 7) (Q : zQ) (h : ∀ (v : Int), (0 ≤ v ∧ v ≤ 600) → Q (some (.int (Int32.ofInt v))) w) : zCl zTab (d + 1) iX6_fewestNumbers [.ref p, .int (Int32.ofInt a1)] w 0 0 Q := by
  refine zCl_i (M := kX6_fewestNumbers) rfl (Nat.le_of_ble_eq_true rfl) fun R hR => ?_
  have fr0 := wfR_rf [] ρ w
  refine hR (?_ : R (_, _, _, _, _, _))
  exact hR (zret_i rfl (Nat.le_refl _) trivial (h _ (by omega)))
theorem c_beginLine_s {ρ : Nat → Nat} {w : zW} (d : Nat) (p q : Nat) (a1 : Int) (hw : CI ρ w) (hρp : ρ p = 40) (hρq : ρ q = 9) (hr0 : 0 ≤ a1 ∧ a1 ≤ 7) (hr1 : TE ρ w q (fun l a s v f => 0 ≤ s ∧ s ≤ a ∧ a ≤ l ∧ l ≤ 600)) (Q : zQ) (h : ∀ (w' : zW), CI ρ w' → wfR [9, 40, 42] ρ w w' → (TE ρ w' q (fun l a s v f => 0 ≤ s ∧ s ≤ a ∧ a ≤ l ∧ l ≤ 600)) → Q (none) w') : zCl zTab (d + 2) iX6_beginLine [.ref p, .int (Int32.ofInt a1), .ref q] w 0 0 Q := by
  refine zCl_i (M := kX6_beginLine) rfl (Nat.le_of_ble_eq_true rfl) fun R hR => ?_
  have fr0 := wfR_rf [9, 40, 42] ρ w
  obtain ⟨t_1, l_1, a_1, k_1, s_1, v_1, f_1, c_1, hT1, ht1, hTr1, hTp1⟩ := hr1
  (try dsimp only at hTp1)
  refine hR (?_ : R (_, _, _, _, _, _))
  obtain ⟨x0_2, hO2, hk2_0, hk2_1, hk2_2⟩ := CI_o40 hw hρp
  refine hR (c_get hO2 rfl ?_)
  refine hR (t_c 6 (by decide) ?_)
  refine hR (j_lt (by omega) (by omega) (fun hc3 => ?_) (fun hc3 => ?_))
  rotate_left
  · skip
    iterate 2 refine hR (?_ : R (_, _, _, _, _, _))
    refine hR (c_obj hT1 (zcall_i 0 0 (Nat.le_of_ble_eq_true rfl) (Nat.le_of_ble_eq_true rfl) (c_faultHere _ q 3 v_1 hw hρq (te_of hT1 ht1 (by omega) (by (try dsimp only); omega)) (by omega) _ fun w11 hw11 g11 hp12 => ?_)))
    have fr13 := wfR_tr fr0 g11 (by decide)
    have hO14 := (g11.2 p (by rw [hρp]; decide)).trans hO2
    refine (?_ : R (_, _, [], w11, 0, 0))
    obtain ⟨t_15, l_15, a_15, k_15, s_15, v_15, f_15, c_15, hT15, ht15, hTr15, hTp15⟩ := hp12
    (try dsimp only at hTp15)
    exact hR (zret_i rfl (Nat.le_refl _) rfl (h _ hw11 fr13 (te_of hT15 ht15 (by omega) (by (try dsimp only); omega))))
  refine hR (?_ : R (_, _, _, _, _, _))
  refine hR (c_get hO2 rfl ?_)
  refine hR (?_ : R (_, _, _, _, _, _))
  refine hR (c_get hO2 rfl ?_)
  refine hR (?_ : R (_, _, _, _, _, _))
  refine hR (c_astx hw (by rw [hk2_2]; rfl) ⟨by rw [hk2_2]; decide, by rw [hk2_2]; decide⟩ (by omega) (by omega) (Nat.le_of_ble_eq_true rfl) fun w4 hw4 f4 => ?_)
  have fr5 := wfR_st fr0 f4 (by rw [hk2_2]; decide)
  have hO6 := (f4.2 q (rne hρq hk2_2 (by decide))).trans hT1
  have hO7 := (f4.2 p (rne hρp hk2_2 (by decide))).trans hO2
  iterate 2 refine hR (?_ : R (_, _, _, _, _, _))
  refine hR (c_get hO7 rfl ?_)
  refine hR (?_ : R (_, _, _, _, _, _))
  refine hR (t_add ?_)
  refine hR (c_put hO7 rfl rfl fun w8 f8 hO8 => ?_)
  have hw8 := CI_w40 hw4 hρp f8 hO8 ⟨⟨by omega, by omega⟩, hk2_1, hk2_2⟩
  have fr9 := wfR_st fr5 f8 (by rw [hρp]; decide)
  have hO10 := (f8.2 q (rne hρq hρp (by decide))).trans hO6
  exact hR (zret_i rfl (Nat.le_refl _) rfl (h _ hw8 fr9 (te_of hO10 ht1 (by omega) (by (try dsimp only); omega))))
theorem c_takeNumber_s {ρ : Nat → Nat} {w : zW} (d : Nat) (p q : Nat) (a1 a2 : Int) (hw : CI ρ w) (hρp : ρ p = 40) (hρq : ρ q = 9) (hr0 : 0 ≤ a2 ∧ a2 ≤ 600) (hr1 : 0 ≤ a1 ∧ a1 ≤ 7) (hr2 : TE ρ w q (fun l a s v f => 0 ≤ s ∧ s ≤ a ∧ a ≤ l ∧ l ≤ 600)) (Q : zQ) (h : ∀ (w' : zW), CI ρ w' → wfR [9, 41, 42] ρ w w' → (TE ρ w' q (fun l a s v f => 0 ≤ s ∧ s ≤ a ∧ a ≤ l ∧ l ≤ 600)) → Q (none) w') : zCl zTab (d + 3) iX6_takeNumber [.ref p, .int (Int32.ofInt a1), .int (Int32.ofInt a2), .ref q] w 0 0 Q := by
  refine zCl_i (M := kX6_takeNumber) rfl (Nat.le_of_ble_eq_true rfl) fun R hR => ?_
  have fr0 := wfR_rf [9, 41, 42] ρ w
  obtain ⟨t_1, l_1, a_1, k_1, s_1, v_1, f_1, c_1, hT1, ht1, hTr1, hTp1⟩ := hr2
  (try dsimp only at hTp1)
  iterate 3 refine hR (?_ : R (_, _, _, _, _, _))
  refine hR (k_ne (by omega) (fun hc2 => ?_) (fun hc2 => ?_))
  rotate_left
  · skip
    refine hR (t_c 9 (by decide) ?_)
    refine hR (?_ : R (_, _, _, _, _, _))
    refine hR (c_obj hT1 (zcall_i 0 0 (Nat.le_of_ble_eq_true rfl) (Nat.le_of_ble_eq_true rfl) (c_isWithin _ q 0 9 v_1 f_1 hw hρq (te_of hT1 ht1 (by omega) (by (try dsimp only); omega)) (by omega) _ fun v27 w28 hw28 g28 hp29 hp30 hp31 => ?_)))
    have fr32 := wfR_tr fr0 g28 (by decide)
    refine (?_ : R (_, _, (.int (Int32.ofInt v27)) :: [], w28, 0, 0))
    obtain ⟨t_33, l_33, a_33, k_33, s_33, v_33, f_33, c_33, hT33, ht33, hTr33, hTp33⟩ := hp31
    (try dsimp only at hTp33)
    iterate 2 refine hR (?_ : R (_, _, _, _, _, _))
    obtain ⟨x0_34, hO34, hk34_0, hk34_1, hk34_2⟩ := CI_o40 hw28 hρp
    refine hR (c_get hO34 rfl ?_)
    refine hR (?_ : R (_, _, _, _, _, _))
    refine hR (t_sub ?_)
    iterate 2 refine hR (?_ : R (_, _, _, _, _, _))
    refine hR (t_c 6 (by decide) ?_)
    refine hR (j_le (by omega) (by omega) (fun hc35 => ?_) (fun hc35 => ?_))
    rotate_left
    · skip
      iterate 2 refine hR (?_ : R (_, _, _, _, _, _))
      refine hR (c_obj hT33 (zcall_i 0 0 (Nat.le_of_ble_eq_true rfl) (Nat.le_of_ble_eq_true rfl) (c_faultHere _ q 3 v_33 hw28 hρq (te_of hT33 ht33 (by omega) (by (try dsimp only); omega)) (by omega) _ fun w42 hw42 g42 hp43 => ?_)))
      have fr44 := wfR_tr fr32 g42 (by decide)
      have hO45 := (g42.2 p (by rw [hρp]; decide)).trans hO34
      refine (?_ : R (_, _, [], w42, 0, 0))
      obtain ⟨t_46, l_46, a_46, k_46, s_46, v_46, f_46, c_46, hT46, ht46, hTr46, hTp46⟩ := hp43
      (try dsimp only at hTp46)
      refine hR (?_ : R (_, _, _, _, _, _))
      exact hR (zret_i rfl (Nat.le_refl _) rfl (h _ hw42 fr44 (te_of hT46 ht46 (by omega) (by (try dsimp only); omega))))
    refine hR (?_ : R (_, _, _, _, _, _))
    refine hR (k_eq (by omega) (fun hc36 => ?_) (fun hc36 => ?_))
    · skip
      exact hR (zret_i rfl (Nat.le_refl _) rfl (h _ hw28 fr32 (te_of hT33 ht33 (by omega) (by (try dsimp only); omega))))
    refine hR (?_ : R (_, _, _, _, _, _))
    refine hR (k_lt (by omega) (fun hc37 => ?_) (fun hc37 => ?_))
    · skip
      exact hR (zret_i rfl (Nat.le_refl _) rfl (h _ hw28 fr32 (te_of hT33 ht33 (by omega) (by (try dsimp only); omega))))
    refine hR (?_ : R (_, _, _, _, _, _))
    refine hR (k_ne (by omega) (fun hc => by omega) (fun _ => ?_))
    refine hR (?_ : R (_, _, _, _, _, _))
    refine hR (c_get hO34 rfl ?_)
    iterate 2 refine hR (?_ : R (_, _, _, _, _, _))
    refine hR (c_get hT33 rfl ?_)
    refine hR (c_ast hw28 (by rw [hk34_1]; rfl) ⟨by rw [hk34_1]; decide, by rw [hk34_1]; decide⟩ (by omega) (by omega) (by omega) (by omega) (by omega) (by omega) (Nat.le_of_ble_eq_true rfl) fun w38 hw38 f38 => ?_)
    have fr39 := wfR_st fr32 f38 (by rw [hk34_1]; decide)
    have hO40 := (f38.2 q (rne hρq hk34_1 (by decide))).trans hT33
    have hO41 := (f38.2 p (rne hρp hk34_1 (by decide))).trans hO34
    refine hR (?_ : R (_, _, _, _, _, _))
    exact hR (zret_i rfl (Nat.le_refl _) rfl (h _ hw38 fr39 (te_of hO40 ht33 (by omega) (by (try dsimp only); omega))))
  refine hR (?_ : R (_, _, _, _, _, _))
  refine hR (c_obj hT1 (zcall_i 0 0 (Nat.le_of_ble_eq_true rfl) (Nat.le_of_ble_eq_true rfl) (c_isWithin _ q 0 3 v_1 f_1 hw hρq (te_of hT1 ht1 (by omega) (by (try dsimp only); omega)) (by omega) _ fun v3 w4 hw4 g4 hp5 hp6 hp7 => ?_)))
  have fr8 := wfR_tr fr0 g4 (by decide)
  refine (?_ : R (_, _, (.int (Int32.ofInt v3)) :: [], w4, 0, 0))
  obtain ⟨t_9, l_9, a_9, k_9, s_9, v_9, f_9, c_9, hT9, ht9, hTr9, hTp9⟩ := hp7
  (try dsimp only at hTp9)
  iterate 2 refine hR (?_ : R (_, _, _, _, _, _))
  obtain ⟨x0_10, hO10, hk10_0, hk10_1, hk10_2⟩ := CI_o40 hw4 hρp
  refine hR (c_get hO10 rfl ?_)
  refine hR (?_ : R (_, _, _, _, _, _))
  refine hR (t_sub ?_)
  iterate 2 refine hR (?_ : R (_, _, _, _, _, _))
  refine hR (t_c 6 (by decide) ?_)
  refine hR (j_le (by omega) (by omega) (fun hc11 => ?_) (fun hc11 => ?_))
  rotate_left
  · skip
    iterate 2 refine hR (?_ : R (_, _, _, _, _, _))
    refine hR (c_obj hT9 (zcall_i 0 0 (Nat.le_of_ble_eq_true rfl) (Nat.le_of_ble_eq_true rfl) (c_faultHere _ q 3 v_9 hw4 hρq (te_of hT9 ht9 (by omega) (by (try dsimp only); omega)) (by omega) _ fun w22 hw22 g22 hp23 => ?_)))
    have fr24 := wfR_tr fr8 g22 (by decide)
    have hO25 := (g22.2 p (by rw [hρp]; decide)).trans hO10
    refine (?_ : R (_, _, [], w22, 0, 0))
    obtain ⟨t_26, l_26, a_26, k_26, s_26, v_26, f_26, c_26, hT26, ht26, hTr26, hTp26⟩ := hp23
    (try dsimp only at hTp26)
    refine hR (?_ : R (_, _, _, _, _, _))
    exact hR (zret_i rfl (Nat.le_refl _) rfl (h _ hw22 fr24 (te_of hT26 ht26 (by omega) (by (try dsimp only); omega))))
  refine hR (?_ : R (_, _, _, _, _, _))
  refine hR (k_eq (by omega) (fun hc12 => ?_) (fun hc12 => ?_))
  · skip
    exact hR (zret_i rfl (Nat.le_refl _) rfl (h _ hw4 fr8 (te_of hT9 ht9 (by omega) (by (try dsimp only); omega))))
  refine hR (?_ : R (_, _, _, _, _, _))
  refine hR (k_lt (by omega) (fun hc13 => ?_) (fun hc13 => ?_))
  · skip
    exact hR (zret_i rfl (Nat.le_refl _) rfl (h _ hw4 fr8 (te_of hT9 ht9 (by omega) (by (try dsimp only); omega))))
  refine hR (?_ : R (_, _, _, _, _, _))
  refine hR (k_ne (by omega) (fun _ => ?_) (fun hc => by omega))
  refine hR (?_ : R (_, _, _, _, _, _))
  refine hR (c_get hO10 rfl ?_)
  iterate 2 refine hR (?_ : R (_, _, _, _, _, _))
  refine hR (c_get hO10 rfl ?_)
  refine hR (?_ : R (_, _, _, _, _, _))
  refine hR (c_ald hw4 (by rw [hk10_2]; rfl) (by omega) (by omega) (Nat.le_of_ble_eq_true rfl) fun v14 lv14 uv14 => ?_)
  refine hR (?_ : R (_, _, _, _, _, _))
  refine hR (c_get hT9 rfl ?_)
  refine hR (zcall_i 0 0 (Nat.le_of_ble_eq_true rfl) (Nat.le_of_ble_eq_true rfl) (c_longer _ _ v14 v_9 _ fun v15 hp17 => ?_))
  refine (?_ : R (_, _, (.int (Int32.ofInt v15)) :: (.int (Int32.ofInt (x0_10 - 1))) :: (.ref (p + 2)) :: [], w4, 0, 0))
  refine hR (c_astx hw4 (by rw [hk10_2]; rfl) ⟨by rw [hk10_2]; decide, by rw [hk10_2]; decide⟩ (by omega) (by omega) (Nat.le_of_ble_eq_true rfl) fun w18 hw18 f18 => ?_)
  have fr19 := wfR_st fr8 f18 (by rw [hk10_2]; decide)
  have hO20 := (f18.2 q (rne hρq hk10_2 (by decide))).trans hT9
  have hO21 := (f18.2 p (rne hρp hk10_2 (by decide))).trans hO10
  exact hR (zret_i rfl (Nat.le_refl _) rfl (h _ hw18 fr19 (te_of hO20 ht9 (by omega) (by (try dsimp only); omega))))
