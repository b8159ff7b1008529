theorem c_beginStep_b {ρ : Nat → Nat} {w : zW} (d : Nat) (p q : Nat) (a1 : Int) (hw : CI ρ w) (hρp : ρ p = 19) (hρq : ρ q = 9) (hr0 : 0 ≤ a1 ∧ a1 ≤ 4) (hr1 : TE ρ w q (fun l a s v f => (0 ≤ s ∧ s ≤ a ∧ a ≤ l ∧ l ≤ 600) ∧ (f ≠ 0 ∨ REL w (p + 3)))) (Q : zQ) (h : ∀ (w' : zW), CI ρ w' → wfR [9, 22, 25] ρ w w' → (TE ρ w' q (fun l a s v f => (0 ≤ s ∧ s ≤ a ∧ a ≤ l ∧ l ≤ 600) ∧ (f ≠ 0 ∨ BST w' p a1))) → Q (none) w') : zCl zTab (d + 2) iX0_beginStep [.ref p, .int (Int32.ofInt a1), .ref q] w 0 0 Q := by
  refine zCl_i (M := kX0_beginStep) rfl (Nat.le_of_ble_eq_true rfl) fun R hR => ?_
  have fr0 := wfR_rf [9, 22, 25] ρ w
  obtain ⟨t_1, l_1, a_1, k_1, s_1, v_1, f_1, c_1, hT1, ht1, hTr1, hTp1⟩ := hr1
  obtain ⟨hTp1, hX1⟩ := hTp1
  (try dsimp only at hTp1)
  refine hR (?_ : R (_, _, _, _, _, _))
  obtain ⟨x0_2, x1_2, x2_2, hO2, hk2_0, hk2_1, hk2_2, hk2_3, hk2_4, hk2_5, hk2_6⟩ := CI_o19 hw hρp
  refine hR (c_get hO2 rfl ?_)
  refine hR (?_ : R (_, _, _, _, _, _))
  refine hR (t_sub ?_)
  iterate 2 refine hR (?_ : R (_, _, _, _, _, _))
  refine hR (k_ge (by omega) (fun hc3 => ?_) (fun hc3 => ?_))
  rotate_left
  · skip
    iterate 2 refine hR (?_ : R (_, _, _, _, _, _))
    refine hR (c_obj hT1 (zcall_i 0 0 (Nat.le_of_ble_eq_true rfl) (Nat.le_of_ble_eq_true rfl) (c_faultHere _ q 4 v_1 hw hρq (te_of hT1 ht1 (by omega) (by (try dsimp only); omega)) (by omega) _ fun w28 hw28 g28 hp29 => ?_)))
    have fr30 := wfR_tr fr0 g28 (by decide)
    have hO31 := (g28.2 p (by rw [hρp]; decide)).trans hO2
    refine (?_ : R (_, _, [], w28, 0, 0))
    obtain ⟨t_32, l_32, a_32, k_32, s_32, v_32, f_32, c_32, hT32, ht32, hTr32, hTp32⟩ := hp29
    (try dsimp only at hTp32)
    refine hR (?_ : R (_, _, _, _, _, _))
    exact hR (zret_i rfl (Nat.le_refl _) rfl (h _ hw28 fr30 (te_of hT32 ht32 (by omega) ⟨by omega, Or.inl (by omega)⟩)))
  refine hR (?_ : R (_, _, _, _, _, _))
  refine hR (c_get hO2 rfl ?_)
  refine hR (?_ : R (_, _, _, _, _, _))
  obtain ⟨ge5, hge5, hBe5⟩ := CI_ar hw (q := p + 2) (by rw [hk2_4]; rfl)
  refine hR (c_aldE hge5 (by omega) (by omega) (Nat.le_of_ble_eq_true rfl) fun v4 e5 rv4 => ?_)
  have bv4 : 0 ≤ v4 ∧ v4 ≤ 4 := by rw [e5]; exact hBe5 _
  refine hR (?_ : R (_, _, _, _, _, _))
  refine hR (j_lt (by omega) (by omega) (fun hc6 => ?_) (fun hc6 => ?_))
  rotate_left
  · skip
    iterate 2 refine hR (?_ : R (_, _, _, _, _, _))
    refine hR (c_obj hT1 (zcall_i 0 0 (Nat.le_of_ble_eq_true rfl) (Nat.le_of_ble_eq_true rfl) (c_faultHere _ q 3 v_1 hw hρq (te_of hT1 ht1 (by omega) (by (try dsimp only); omega)) (by omega) _ fun w23 hw23 g23 hp24 => ?_)))
    have fr25 := wfR_tr fr0 g23 (by decide)
    have hO26 := (g23.2 p (by rw [hρp]; decide)).trans hO2
    refine (?_ : R (_, _, [], w23, 0, 0))
    obtain ⟨t_27, l_27, a_27, k_27, s_27, v_27, f_27, c_27, hT27, ht27, hTr27, hTp27⟩ := hp24
    (try dsimp only at hTp27)
    refine hR (?_ : R (_, _, _, _, _, _))
    exact hR (zret_i rfl (Nat.le_refl _) rfl (h _ hw23 fr25 (te_of hT27 ht27 (by omega) ⟨by omega, Or.inl (by omega)⟩)))
  refine hR (?_ : R (_, _, _, _, _, _))
  refine hR (c_get hO2 rfl ?_)
  iterate 2 refine hR (?_ : R (_, _, _, _, _, _))
  refine hR (t_mul ?_)
  refine hR (?_ : R (_, _, _, _, _, _))
  refine hR (c_get hO2 rfl ?_)
  refine hR (?_ : R (_, _, _, _, _, _))
  refine hR (c_aldE hge5 (by omega) (by omega) (Nat.le_of_ble_eq_true rfl) fun v8 e9 rv8 => ?_)
  obtain rfl : v4 = v8 := e5.trans e9.symm
  refine hR (t_add ?_)
  refine hR (?_ : R (_, _, _, _, _, _))
  obtain ⟨ge11, hge11, hBe11⟩ := CI_ar hw (q := p + 3) (by rw [hk2_5]; rfl)
  refine hR (c_astE hw hge11 hBe11 (by rw [hk2_5]; rfl) ⟨by rw [hk2_5]; decide, by rw [hk2_5]; decide⟩ (by omega) (by omega) (by omega) (by omega) (Nat.le_of_ble_eq_true rfl) fun w10 hw10 f10 hs10 hb10 => ?_)
  have fr12 := wfR_st fr0 f10 (by rw [hk2_5]; decide)
  have hO13 := (f10.2 q (rne hρq hk2_5 (by decide))).trans hT1
  have hO14 := (f10.2 p (rne hρp hk2_5 (by decide))).trans hO2
  refine hR (?_ : R (_, _, _, _, _, _))
  refine hR (c_get hO14 rfl ?_)
  iterate 2 refine hR (?_ : R (_, _, _, _, _, _))
  have hgs2 := (f10.2 (p + 2) (by omega)).trans hge5
  refine hR (c_aldE hgs2 (by omega) (by omega) (Nat.le_of_ble_eq_true rfl) fun v15 e16 rv15 => ?_)
  obtain rfl : v4 = v15 := e5.trans e16.symm
  refine hR (?_ : R (_, _, _, _, _, _))
  refine hR (t_add ?_)
  obtain ⟨ge18, hge18, hBe18⟩ := CI_ar hw10 (q := p + 2) (by rw [hk2_4]; rfl)
  refine hR (c_astE hw10 hge18 hBe18 (by rw [hk2_4]; rfl) ⟨by rw [hk2_4]; decide, by rw [hk2_4]; decide⟩ (by omega) (by omega) (by omega) (by omega) (Nat.le_of_ble_eq_true rfl) fun w17 hw17 f17 hs17 hb17 => ?_)
  have fr19 := wfR_st fr12 f17 (by rw [hk2_4]; decide)
  have hO20 := (f17.2 q (rne hρq hk2_4 (by decide))).trans hO13
  have hO21 := (f17.2 p (rne hρp hk2_4 (by decide))).trans hO14
  have X22 := hX1.elim Or.inl (fun hh => Or.inr (bst_of hO21 (by omega) (by omega) (by omega) hh hge11 f10 hs10 f17 hs17))
  exact hR (zret_i rfl (Nat.le_refl _) rfl (h _ hw17 fr19 (te_of hO20 ht1 (by omega) ⟨by omega, X22⟩)))
theorem c_beginLine_b {ρ : Nat → Nat} {w : zW} (d : Nat) (p q : Nat) (a1 : Int) (hw : CI ρ w) (hρp : ρ p = 19) (hρq : ρ q = 9) (hr0 : 0 ≤ a1 ∧ a1 ≤ 7) (hr1 : TE ρ w q (fun l a s v f => (0 ≤ s ∧ s ≤ a ∧ a ≤ l ∧ l ≤ 600) ∧ (f ≠ 0 ∨ REL w (p + 3)))) (Q : zQ) (h : ∀ (w' : zW), CI ρ w' → wfR [9, 19, 22, 25] ρ w w' → (TE ρ w' q (fun l a s v f => (0 ≤ s ∧ s ≤ a ∧ a ≤ l ∧ l ≤ 600) ∧ LN w' p a1 0 f)) → Q (none) w') : zCl zTab (d + 3) iX0_beginLine [.ref p, .int (Int32.ofInt a1), .ref q] w 0 0 Q := by
  refine zCl_i (M := kX0_beginLine) rfl (Nat.le_of_ble_eq_true rfl) fun R hR => ?_
  have fr0 := wfR_rf [9, 19, 22, 25] ρ w
  obtain ⟨t_1, l_1, a_1, k_1, s_1, v_1, f_1, c_1, hT1, ht1, hTr1, hTp1⟩ := hr1
  obtain ⟨hTp1, hX1⟩ := hTp1
  (try dsimp only at hTp1)
  iterate 2 refine hR (?_ : R (_, _, _, _, _, _))
  refine hR (j_ne (by omega) (by omega) (fun hc2 => ?_) (fun hc2 => ?_))
  rotate_left
  · skip
    iterate 2 refine hR (?_ : R (_, _, _, _, _, _))
    obtain ⟨x0_22, x1_22, x2_22, hO22, hk22_0, hk22_1, hk22_2, hk22_3, hk22_4, hk22_5, hk22_6⟩ := CI_o19 hw hρp
    refine hR (c_put hO22 rfl rfl fun w23 f23 hO23 => ?_)
    have hw23 := CI_w19 hw hρp f23 hO23 ⟨⟨by omega, by omega⟩, ⟨by omega, by omega⟩, ⟨by omega, by omega⟩, hk22_3, hk22_4, hk22_5, hk22_6⟩
    have fr24 := wfR_st fr0 f23 (by rw [hρp]; decide)
    have hO25 := (f23.2 q (rne hρq hρp (by decide))).trans hT1
    have X26 := rel_fr (f23.2 (p + 3) (by omega)) (f23.2 (p + 4) (by omega)) hX1
    refine hR (?_ : R (_, _, _, _, _, _))
    exact hR (zret_i rfl (Nat.le_refl _) rfl (h _ hw23 fr24 (te_of hO25 ht1 (by omega) ⟨by omega, ln_0 X26 (by omega) (fun _ => ⟨_, _, hO23, by omega, by omega⟩)⟩)))
  refine hR (?_ : R (_, _, _, _, _, _))
  refine hR (t_c 7 (by decide) ?_)
  refine hR (j_ne (by omega) (by omega) (fun hc3 => ?_) (fun hc3 => ?_))
  · skip
    iterate 2 refine hR (?_ : R (_, _, _, _, _, _))
    refine hR (j_gt (by omega) (by omega) (fun hc4 => ?_) (fun hc4 => ?_))
    · skip
      exact hR (zret_i rfl (Nat.le_refl _) rfl (h _ hw fr0 (te_of hT1 ht1 (by omega) ⟨by omega, ln_0 hX1 (by omega) (fun e => by omega)⟩)))
    iterate 3 refine hR (?_ : R (_, _, _, _, _, _))
    obtain ⟨x0_7, x1_7, x2_7, hO7, hk7_0, hk7_1, hk7_2, hk7_3, hk7_4, hk7_5, hk7_6⟩ := CI_o19 hw hρp
    refine hR (c_obj hO7 (zcall_i 0 0 (Nat.le_of_ble_eq_true rfl) (Nat.le_of_ble_eq_true rfl) (c_beginStep_b _ p q a1 hw hρp hρq (by omega) (te_of hT1 ht1 (by omega) ⟨by omega, hX1⟩) _ fun w5 hw5 g5 hp6 => ?_)))
    have fr8 := wfR_tr fr0 g5 (by decide)
    have hO9 := (g5.2 p (by rw [hρp]; decide)).trans hO7
    refine (?_ : R (_, _, [], w5, 0, 0))
    obtain ⟨t_10, l_10, a_10, k_10, s_10, v_10, f_10, c_10, hT10, ht10, hTr10, hTp10⟩ := hp6
    obtain ⟨hTp10, hX10⟩ := hTp10
    (try dsimp only at hTp10)
    exact hR (zret_i rfl (Nat.le_refl _) rfl (h _ hw5 fr8 (te_of hT10 ht10 (by omega) ⟨by omega, ln_bst hX10 (by omega)⟩)))
  refine hR (?_ : R (_, _, _, _, _, _))
  obtain ⟨x0_11, x1_11, x2_11, hO11, hk11_0, hk11_1, hk11_2, hk11_3, hk11_4, hk11_5, hk11_6⟩ := CI_o19 hw hρp
  refine hR (c_get hO11 rfl ?_)
  refine hR (?_ : R (_, _, _, _, _, _))
  refine hR (j_ge (by omega) (by omega) (fun hc12 => ?_) (fun hc12 => ?_))
  · skip
    iterate 2 refine hR (?_ : R (_, _, _, _, _, _))
    refine hR (c_obj hT1 (zcall_i 0 0 (Nat.le_of_ble_eq_true rfl) (Nat.le_of_ble_eq_true rfl) (c_faultHere _ q 3 v_1 hw hρq (te_of hT1 ht1 (by omega) (by (try dsimp only); omega)) (by omega) _ fun w13 hw13 g13 hp14 => ?_)))
    have fr15 := wfR_tr fr0 g13 (by decide)
    have hO16 := (g13.2 p (by rw [hρp]; decide)).trans hO11
    refine (?_ : R (_, _, [], w13, 0, 0))
    obtain ⟨t_17, l_17, a_17, k_17, s_17, v_17, f_17, c_17, hT17, ht17, hTr17, hTp17⟩ := hp14
    (try dsimp only at hTp17)
    refine hR (?_ : R (_, _, _, _, _, _))
    exact hR (zret_i rfl (Nat.le_refl _) rfl (h _ hw13 fr15 (te_of hT17 ht17 (by omega) ⟨by omega, ln_0 (Or.inl (by omega)) (by omega) (fun e => by omega)⟩)))
  iterate 2 refine hR (?_ : R (_, _, _, _, _, _))
  refine hR (c_get hO11 rfl ?_)
  refine hR (?_ : R (_, _, _, _, _, _))
  refine hR (t_add ?_)
  refine hR (c_put hO11 rfl rfl fun w18 f18 hO18 => ?_)
  have hw18 := CI_w19 hw hρp f18 hO18 ⟨⟨by omega, by omega⟩, ⟨by omega, by omega⟩, ⟨by omega, by omega⟩, hk11_3, hk11_4, hk11_5, hk11_6⟩
  have fr19 := wfR_st fr0 f18 (by rw [hρp]; decide)
  have hO20 := (f18.2 q (rne hρq hρp (by decide))).trans hT1
  have X21 := rel_fr (f18.2 (p + 3) (by omega)) (f18.2 (p + 4) (by omega)) hX1
  refine hR (?_ : R (_, _, _, _, _, _))
  exact hR (zret_i rfl (Nat.le_refl _) rfl (h _ hw18 fr19 (te_of hO20 ht1 (by omega) ⟨by omega, ln_0 X21 (by omega) (fun e => by omega)⟩)))
theorem c_keepNumber {ρ : Nat → Nat} {w : zW} (d : Nat) (p : Nat) (a1 a2 a3 : Int) (f0 : Int) (hw : CI ρ w) (hρp : ρ p = 19) (hr0 : LN w p a1 a2 f0) (hr1 : 0 ≤ a2 ∧ a2 ≤ 600) (hr2 : ((0 ≤ a1 ∧ a1 ≤ 3) ∧ a2 = 0) ∨ (a1 = 5 ∧ a2 ≤ 5) ∨ a1 = 6) (hr3 : ((a1 = 0 ∨ a1 = 5 ∨ a1 = 6) ∧ 0 ≤ a3 ∧ a3 ≤ 3) ∨ ((1 ≤ a1 ∧ a1 ≤ 3) ∧ 1 ≤ a3 ∧ a3 ≤ 6)) (Q : zQ) (h : ∀ (w' : zW), CI ρ w' → wfR [19, 21, 26] ρ w w' → (LN w' p a1 (a2 + 1) f0) → Q (none) w') : zCl zTab (d + 2) iX0_keepNumber [.ref p, .int (Int32.ofInt a1), .int (Int32.ofInt a2), .int (Int32.ofInt a3)] w 0 0 Q := by
  refine zCl_i (M := kX0_keepNumber) rfl (Nat.le_of_ble_eq_true rfl) fun R hR => ?_
  have fr0 := wfR_rf [19, 21, 26] ρ w
  refine hR (?_ : R (_, _, _, _, _, _))
  obtain ⟨x0_1, x1_1, x2_1, hO1, hk1_0, hk1_1, hk1_2, hk1_3, hk1_4, hk1_5, hk1_6⟩ := CI_o19 hw hρp
  refine hR (c_get hO1 rfl ?_)
  refine hR (?_ : R (_, _, _, _, _, _))
  refine hR (t_sub ?_)
  iterate 3 refine hR (?_ : R (_, _, _, _, _, _))
  refine hR (j_ne (by omega) (by omega) (fun hc2 => ?_) (fun hc2 => ?_))
  rotate_left
  · skip
    have hkb := bnum_le (hr0.2 (by omega)) (nb_le _) hO1 (by omega)
    have hku := nb_up (k := a2) (by omega) (by omega)
    have hkl := nb_le (a2 + 1)
    iterate 2 refine hR (?_ : R (_, _, _, _, _, _))
    refine hR (c_get hO1 rfl ?_)
    refine hR (?_ : R (_, _, _, _, _, _))
    refine hR (zcall_i 0 0 (Nat.le_of_ble_eq_true rfl) (Nat.le_of_ble_eq_true rfl) (c_longer _ _ x0_1 a3 _ fun v25 hp27 => ?_))
    refine (?_ : R (_, _, (.int (Int32.ofInt v25)) :: (.ref p) :: [], w, 0, 0))
    refine hR (c_put hO1 rfl rfl fun w28 f28 hO28 => ?_)
    have hw28 := CI_w19 hw hρp f28 hO28 ⟨⟨by omega, by omega⟩, ⟨by omega, by omega⟩, ⟨by omega, by omega⟩, hk1_3, hk1_4, hk1_5, hk1_6⟩
    have fr29 := wfR_st fr0 f28 (by rw [hρp]; decide)
    refine hR (?_ : R (_, _, _, _, _, _))
    exact hR (zret_i rfl (Nat.le_refl _) rfl (h _ hw28 fr29 (ln_w hr0 (by omega) (f28.2 (p + 3) (by omega)) (f28.2 (p + 4) (by omega)) (fun _ => ⟨_, _, hO28, by omega, by omega⟩))))
  refine hR (?_ : R (_, _, _, _, _, _))
  refine hR (t_c 6 (by decide) ?_)
  refine hR (j_ne (by omega) (by omega) (fun hc3 => ?_) (fun hc3 => ?_))
  rotate_left
  · skip
    refine hR (?_ : R (_, _, _, _, _, _))
    refine hR (k_ne (by omega) (fun hc15 => ?_) (fun hc15 => ?_))
    rotate_left
    · skip
      iterate 2 refine hR (?_ : R (_, _, _, _, _, _))
      refine hR (c_put hO1 rfl rfl fun w23 f23 hO23 => ?_)
      have hw23 := CI_w19 hw hρp f23 hO23 ⟨⟨by omega, by omega⟩, ⟨by omega, by omega⟩, ⟨by omega, by omega⟩, hk1_3, hk1_4, hk1_5, hk1_6⟩
      have fr24 := wfR_st fr0 f23 (by rw [hρp]; decide)
      refine hR (?_ : R (_, _, _, _, _, _))
      exact hR (zret_i rfl (Nat.le_refl _) rfl (h _ hw23 fr24 (ln_w hr0 (by omega) (f23.2 (p + 3) (by omega)) (f23.2 (p + 4) (by omega)) (fun e => by omega))))
    refine hR (?_ : R (_, _, _, _, _, _))
    refine hR (t_c 6 (by decide) ?_)
    refine hR (j_ne (by omega) (by omega) (fun hc => by omega) (fun _ => ?_))
    refine hR (?_ : R (_, _, _, _, _, _))
    refine hR (c_get hO1 rfl ?_)
    refine hR (zcall_i 0 0 (Nat.le_of_ble_eq_true rfl) (Nat.le_of_ble_eq_true rfl) (c_isWord _ _ x2_1 (by omega) _ fun v16 hp18 => ?_))
    refine (?_ : R (_, _, (.int (Int32.ofInt v16)) :: [], w, 0, 0))
    refine hR (k_eq (by omega) (fun hc19 => ?_) (fun hc19 => ?_))
    · skip
      exact hR (zret_i rfl (Nat.le_refl _) rfl (h _ hw fr0 (by first | exact ln_up hr0 (by omega) (by omega) | exact ln_b (by omega) hr0 (by omega) hO1 (by omega) (fun _ _ _ _ => by omega))))
    refine hR (?_ : R (_, _, _, _, _, _))
    refine hR (c_get hO1 rfl ?_)
    refine hR (?_ : R (_, _, _, _, _, _))
    refine hR (c_get hO1 rfl ?_)
    refine hR (?_ : R (_, _, _, _, _, _))
    refine hR (c_ast hw (by rw [hk1_3]; rfl) ⟨by rw [hk1_3]; decide, by rw [hk1_3]; decide⟩ (by omega) (by omega) (by omega) (by omega) (by omega) (by omega) (Nat.le_of_ble_eq_true rfl) fun w20 hw20 f20 => ?_)
    have fr21 := wfR_st fr0 f20 (by rw [hk1_3]; decide)
    have hO22 := (f20.2 p (rne hρp hk1_3 (by decide))).trans hO1
    refine hR (?_ : R (_, _, _, _, _, _))
    exact hR (zret_i rfl (Nat.le_refl _) rfl (h _ hw20 fr21 (ln_w hr0 (by omega) (f20.2 (p + 3) (by omega)) (f20.2 (p + 4) (by omega)) (fun e => by omega))))
  refine hR (?_ : R (_, _, _, _, _, _))
  refine hR (t_c 6 (by decide) ?_)
  refine hR (j_ne (by omega) (by omega) (fun _ => ?_) (fun hc => by omega))
  refine hR (?_ : R (_, _, _, _, _, _))
  refine hR (k_lt (by omega) (fun hc4 => ?_) (fun hc4 => ?_))
  · skip
    exact hR (zret_i rfl (Nat.le_refl _) rfl (h _ hw fr0 (by first | exact ln_up hr0 (by omega) (by omega) | exact ln_b (by omega) hr0 (by omega) hO1 (by omega) (fun _ _ _ _ => by omega))))
  refine hR (?_ : R (_, _, _, _, _, _))
  refine hR (c_get hO1 rfl ?_)
  refine hR (?_ : R (_, _, _, _, _, _))
  obtain ⟨ge6, hge6, hBe6⟩ := CI_ar hw (q := p + 2) (by rw [hk1_4]; rfl)
  refine hR (c_aldE hge6 (by omega) (by omega) (Nat.le_of_ble_eq_true rfl) fun v5 e6 rv5 => ?_)
  have bv5 : 0 ≤ v5 ∧ v5 ≤ 4 := by rw [e6]; exact hBe6 _
  refine hR (k_le (by omega) (fun hc7 => ?_) (fun hc7 => ?_))
  · skip
    exact hR (zret_i rfl (Nat.le_refl _) rfl (h _ hw fr0 (ln_b (by omega) hr0 (by omega) hO1 (by omega) (fun gs' h1 _ h3 => by obtain rfl := gEq (h1.symm.trans hge6); rw [← e6] at h3; omega))))
  refine hR (?_ : R (_, _, _, _, _, _))
  refine hR (c_get hO1 rfl ?_)
  iterate 2 refine hR (?_ : R (_, _, _, _, _, _))
  refine hR (t_mul ?_)
  refine hR (?_ : R (_, _, _, _, _, _))
  refine hR (c_get hO1 rfl ?_)
  refine hR (?_ : R (_, _, _, _, _, _))
  refine hR (c_aldE hge6 (by omega) (by omega) (Nat.le_of_ble_eq_true rfl) fun v9 e10 rv9 => ?_)
  obtain rfl : v5 = v9 := e6.trans e10.symm
  refine hR (t_add ?_)
  refine hR (?_ : R (_, _, _, _, _, _))
  refine hR (t_sub ?_)
  refine hR (?_ : R (_, _, _, _, _, _))
  obtain ⟨ge12, hge12, hBe12⟩ := CI_ar hw (q := p + 4) (by rw [hk1_6]; rfl)
  refine hR (c_astE hw hge12 hBe12 (by rw [hk1_6]; rfl) ⟨by rw [hk1_6]; decide, by rw [hk1_6]; decide⟩ (by omega) (by omega) (by omega) (by omega) (Nat.le_of_ble_eq_true rfl) fun w11 hw11 f11 hs11 hb11 => ?_)
  have fr13 := wfR_st fr0 f11 (by rw [hk1_6]; decide)
  have hO14 := (f11.2 p (rne hρp hk1_6 (by decide))).trans hO1
  exact hR (zret_i rfl (Nat.le_refl _) rfl (h _ hw11 fr13 (ln_s (by omega) hr0 (by omega) hO1 (by omega) hge6 e6 hge12 f11 hs11 (by omega))))
theorem c_takeNumber_b {ρ : Nat → Nat} {w : zW} (d : Nat) (p q : Nat) (a1 a2 : Int) (hw : CI ρ w) (hρp : ρ p = 19) (hρq : ρ q = 9) (hr0 : 0 ≤ a2 ∧ a2 ≤ 600) (hr1 : ((0 ≤ a1 ∧ a1 ≤ 3) ∧ a2 = 0) ∨ a1 = 5 ∨ a1 = 6) (hr2 : TE ρ w q (fun l a s v f => (0 ≤ s ∧ s ≤ a ∧ a ≤ l ∧ l ≤ 600) ∧ LN w p a1 a2 f)) (Q : zQ) (h : ∀ (w' : zW), CI ρ w' → wfR [9, 19, 21, 26] ρ w w' → (TE ρ w' q (fun l a s v f => (0 ≤ s ∧ s ≤ a ∧ a ≤ l ∧ l ≤ 600) ∧ LN w' p a1 (a2 + 1) f)) → Q (none) w') : zCl zTab (d + 3) iX0_takeNumber [.ref p, .int (Int32.ofInt a1), .int (Int32.ofInt a2), .ref q] w 0 0 Q := by
  refine zCl_i (M := kX0_takeNumber) rfl (Nat.le_of_ble_eq_true rfl) fun R hR => ?_
  have fr0 := wfR_rf [9, 19, 21, 26] ρ w
  obtain ⟨t_1, l_1, a_1, k_1, s_1, v_1, f_1, c_1, hT1, ht1, hTr1, hTp1⟩ := hr2
  obtain ⟨hTp1, hX1⟩ := hTp1
  (try dsimp only at hTp1)
  iterate 2 refine hR (?_ : R (_, _, _, _, _, _))
  refine hR (j_eq (by omega) (by omega) (fun hc2 => ?_) (fun hc2 => ?_))
  · skip
    iterate 5 refine hR (?_ : R (_, _, _, _, _, _))
    refine hR (k_eq (by omega) (fun hc => by omega) (fun _ => ?_))
    iterate 3 refine hR (?_ : R (_, _, _, _, _, _))
    refine hR (k_eq (by omega) (fun hc => by omega) (fun _ => ?_))
    refine hR (t_c 6 (by decide) ?_)
    refine hR (?_ : R (_, _, _, _, _, _))
    obtain ⟨x0_3, x1_3, x2_3, hO3, hk3_0, hk3_1, hk3_2, hk3_3, hk3_4, hk3_5, hk3_6⟩ := CI_o19 hw hρp
    refine hR (c_obj hT1 (zcall_i 0 0 (Nat.le_of_ble_eq_true rfl) (Nat.le_of_ble_eq_true rfl) (c_isWithin _ q 1 6 v_1 f_1 hw hρq (te_of hT1 ht1 (by omega) (by (try dsimp only); omega)) (by omega) _ fun v4 w5 hw5 g5 hp6 hp7 hp8 => ?_)))
    have fr9 := wfR_tr fr0 g5 (by decide)
    have hO10 := (g5.2 p (by rw [hρp]; decide)).trans hO3
    refine (?_ : R (_, _, (.int (Int32.ofInt v4)) :: [], w5, 0, 0))
    obtain ⟨t_11, l_11, a_11, k_11, s_11, v_11, f_11, c_11, hT11, ht11, hTr11, hTp11⟩ := hp8
    (try dsimp only at hTp11)
    have X12 := LN_fr (g5.2 p (by rw [hρp]; decide)) (g5.2 (p + 2) (by rw [hk3_4]; decide)) (g5.2 (p + 3) (by rw [hk3_5]; decide)) (g5.2 (p + 4) (by rw [hk3_6]; decide)) hX1
    iterate 3 refine hR (?_ : R (_, _, _, _, _, _))
    refine hR (j_ne (by omega) (by omega) (fun hc13 => ?_) (fun hc13 => ?_))
    · skip
      refine hR (?_ : R (_, _, _, _, _, _))
      refine hR (k_eq (by omega) (fun hc14 => ?_) (fun hc14 => ?_))
      · skip
        exact hR (zret_i rfl (Nat.le_refl _) rfl (h _ hw5 fr9 (te_of hT11 ht11 (by omega) ⟨by omega, ln_f X12 (by omega)⟩)))
      iterate 4 refine hR (?_ : R (_, _, _, _, _, _))
      refine hR (c_get hT11 rfl ?_)
      refine hR (c_obj hO10 (zcall_i 0 0 (Nat.le_of_ble_eq_true rfl) (Nat.le_of_ble_eq_true rfl) (c_keepNumber _ p a1 a2 v_11 f_11 hw5 hρp (ln_ff X12 (by omega)) (by omega) (by omega) (by omega) _ fun w15 hw15 g15 hp16 => ?_)))
      have fr17 := wfR_tr fr9 g15 (by decide)
      have hO18 := (g15.2 q (by rw [hρq]; decide)).trans hT11
      refine (?_ : R (_, _, [], w15, 0, 0))
      exact hR (zret_i rfl (Nat.le_refl _) rfl (h _ hw15 fr17 (te_of hO18 ht11 (by omega) ⟨by omega, hp16⟩)))
    refine hR (?_ : R (_, _, _, _, _, _))
    refine hR (t_c 6 (by decide) ?_)
    refine hR (j_lt (by omega) (by omega) (fun hc19 => ?_) (fun hc19 => ?_))
    rotate_left
    · skip
      iterate 2 refine hR (?_ : R (_, _, _, _, _, _))
      refine hR (c_obj hT11 (zcall_i 0 0 (Nat.le_of_ble_eq_true rfl) (Nat.le_of_ble_eq_true rfl) (c_faultHere _ q 3 v_11 hw5 hρq (te_of hT11 ht11 (by omega) (by (try dsimp only); omega)) (by omega) _ fun w25 hw25 g25 hp26 => ?_)))
      have fr27 := wfR_tr fr9 g25 (by decide)
      have hO28 := (g25.2 p (by rw [hρp]; decide)).trans hO10
      refine (?_ : R (_, _, [], w25, 0, 0))
      obtain ⟨t_29, l_29, a_29, k_29, s_29, v_29, f_29, c_29, hT29, ht29, hTr29, hTp29⟩ := hp26
      (try dsimp only at hTp29)
      have X30 := LN_fr (g25.2 p (by rw [hρp]; decide)) (g25.2 (p + 2) (by rw [hk3_4]; decide)) (g25.2 (p + 3) (by rw [hk3_5]; decide)) (g25.2 (p + 4) (by rw [hk3_6]; decide)) X12
      refine hR (?_ : R (_, _, _, _, _, _))
      exact hR (zret_i rfl (Nat.le_refl _) rfl (h _ hw25 fr27 (te_of hT29 ht29 (by omega) ⟨by omega, ln_f X30 (by omega)⟩)))
    refine hR (?_ : R (_, _, _, _, _, _))
    refine hR (k_eq (by omega) (fun hc20 => ?_) (fun hc20 => ?_))
    · skip
      exact hR (zret_i rfl (Nat.le_refl _) rfl (h _ hw5 fr9 (te_of hT11 ht11 (by omega) ⟨by omega, ln_f X12 (by omega)⟩)))
    iterate 4 refine hR (?_ : R (_, _, _, _, _, _))
    refine hR (c_get hT11 rfl ?_)
    refine hR (c_obj hO10 (zcall_i 0 0 (Nat.le_of_ble_eq_true rfl) (Nat.le_of_ble_eq_true rfl) (c_keepNumber _ p a1 a2 v_11 f_11 hw5 hρp (ln_ff X12 (by omega)) (by omega) (by omega) (by omega) _ fun w21 hw21 g21 hp22 => ?_)))
    have fr23 := wfR_tr fr9 g21 (by decide)
    have hO24 := (g21.2 q (by rw [hρq]; decide)).trans hT11
    refine (?_ : R (_, _, [], w21, 0, 0))
    exact hR (zret_i rfl (Nat.le_refl _) rfl (h _ hw21 fr23 (te_of hO24 ht11 (by omega) ⟨by omega, hp22⟩)))
  iterate 2 refine hR (?_ : R (_, _, _, _, _, _))
  refine hR (j_eq (by omega) (by omega) (fun hc31 => ?_) (fun hc31 => ?_))
  · skip
    iterate 5 refine hR (?_ : R (_, _, _, _, _, _))
    refine hR (k_eq (by omega) (fun hc => by omega) (fun _ => ?_))
    iterate 3 refine hR (?_ : R (_, _, _, _, _, _))
    refine hR (k_eq (by omega) (fun hc => by omega) (fun _ => ?_))
    refine hR (t_c 6 (by decide) ?_)
    refine hR (?_ : R (_, _, _, _, _, _))
    obtain ⟨x0_32, x1_32, x2_32, hO32, hk32_0, hk32_1, hk32_2, hk32_3, hk32_4, hk32_5, hk32_6⟩ := CI_o19 hw hρp
    refine hR (c_obj hT1 (zcall_i 0 0 (Nat.le_of_ble_eq_true rfl) (Nat.le_of_ble_eq_true rfl) (c_isWithin _ q 1 6 v_1 f_1 hw hρq (te_of hT1 ht1 (by omega) (by (try dsimp only); omega)) (by omega) _ fun v33 w34 hw34 g34 hp35 hp36 hp37 => ?_)))
    have fr38 := wfR_tr fr0 g34 (by decide)
    have hO39 := (g34.2 p (by rw [hρp]; decide)).trans hO32
    refine (?_ : R (_, _, (.int (Int32.ofInt v33)) :: [], w34, 0, 0))
    obtain ⟨t_40, l_40, a_40, k_40, s_40, v_40, f_40, c_40, hT40, ht40, hTr40, hTp40⟩ := hp37
    (try dsimp only at hTp40)
    have X41 := LN_fr (g34.2 p (by rw [hρp]; decide)) (g34.2 (p + 2) (by rw [hk32_4]; decide)) (g34.2 (p + 3) (by rw [hk32_5]; decide)) (g34.2 (p + 4) (by rw [hk32_6]; decide)) hX1
    iterate 3 refine hR (?_ : R (_, _, _, _, _, _))
    refine hR (j_ne (by omega) (by omega) (fun hc42 => ?_) (fun hc42 => ?_))
    · skip
      refine hR (?_ : R (_, _, _, _, _, _))
      refine hR (k_eq (by omega) (fun hc43 => ?_) (fun hc43 => ?_))
      · skip
        exact hR (zret_i rfl (Nat.le_refl _) rfl (h _ hw34 fr38 (te_of hT40 ht40 (by omega) ⟨by omega, ln_f X41 (by omega)⟩)))
      iterate 4 refine hR (?_ : R (_, _, _, _, _, _))
      refine hR (c_get hT40 rfl ?_)
      refine hR (c_obj hO39 (zcall_i 0 0 (Nat.le_of_ble_eq_true rfl) (Nat.le_of_ble_eq_true rfl) (c_keepNumber _ p a1 a2 v_40 f_40 hw34 hρp (ln_ff X41 (by omega)) (by omega) (by omega) (by omega) _ fun w44 hw44 g44 hp45 => ?_)))
      have fr46 := wfR_tr fr38 g44 (by decide)
      have hO47 := (g44.2 q (by rw [hρq]; decide)).trans hT40
      refine (?_ : R (_, _, [], w44, 0, 0))
      exact hR (zret_i rfl (Nat.le_refl _) rfl (h _ hw44 fr46 (te_of hO47 ht40 (by omega) ⟨by omega, hp45⟩)))
    refine hR (?_ : R (_, _, _, _, _, _))
    refine hR (t_c 6 (by decide) ?_)
    refine hR (j_lt (by omega) (by omega) (fun hc48 => ?_) (fun hc48 => ?_))
    rotate_left
    · skip
      iterate 2 refine hR (?_ : R (_, _, _, _, _, _))
      refine hR (c_obj hT40 (zcall_i 0 0 (Nat.le_of_ble_eq_true rfl) (Nat.le_of_ble_eq_true rfl) (c_faultHere _ q 3 v_40 hw34 hρq (te_of hT40 ht40 (by omega) (by (try dsimp only); omega)) (by omega) _ fun w54 hw54 g54 hp55 => ?_)))
      have fr56 := wfR_tr fr38 g54 (by decide)
      have hO57 := (g54.2 p (by rw [hρp]; decide)).trans hO39
      refine (?_ : R (_, _, [], w54, 0, 0))
      obtain ⟨t_58, l_58, a_58, k_58, s_58, v_58, f_58, c_58, hT58, ht58, hTr58, hTp58⟩ := hp55
      (try dsimp only at hTp58)
      have X59 := LN_fr (g54.2 p (by rw [hρp]; decide)) (g54.2 (p + 2) (by rw [hk32_4]; decide)) (g54.2 (p + 3) (by rw [hk32_5]; decide)) (g54.2 (p + 4) (by rw [hk32_6]; decide)) X41
      refine hR (?_ : R (_, _, _, _, _, _))
      exact hR (zret_i rfl (Nat.le_refl _) rfl (h _ hw54 fr56 (te_of hT58 ht58 (by omega) ⟨by omega, ln_f X59 (by omega)⟩)))
    refine hR (?_ : R (_, _, _, _, _, _))
    refine hR (k_eq (by omega) (fun hc49 => ?_) (fun hc49 => ?_))
    · skip
      exact hR (zret_i rfl (Nat.le_refl _) rfl (h _ hw34 fr38 (te_of hT40 ht40 (by omega) ⟨by omega, ln_f X41 (by omega)⟩)))
    iterate 4 refine hR (?_ : R (_, _, _, _, _, _))
    refine hR (c_get hT40 rfl ?_)
    refine hR (c_obj hO39 (zcall_i 0 0 (Nat.le_of_ble_eq_true rfl) (Nat.le_of_ble_eq_true rfl) (c_keepNumber _ p a1 a2 v_40 f_40 hw34 hρp (ln_ff X41 (by omega)) (by omega) (by omega) (by omega) _ fun w50 hw50 g50 hp51 => ?_)))
    have fr52 := wfR_tr fr38 g50 (by decide)
    have hO53 := (g50.2 q (by rw [hρq]; decide)).trans hT40
    refine (?_ : R (_, _, [], w50, 0, 0))
    exact hR (zret_i rfl (Nat.le_refl _) rfl (h _ hw50 fr52 (te_of hO53 ht40 (by omega) ⟨by omega, hp51⟩)))
  iterate 2 refine hR (?_ : R (_, _, _, _, _, _))
  refine hR (j_ne (by omega) (by omega) (fun hc60 => ?_) (fun hc60 => ?_))
  · skip
    iterate 4 refine hR (?_ : R (_, _, _, _, _, _))
    refine hR (k_eq (by omega) (fun _ => ?_) (fun hc => by omega))
    iterate 2 refine hR (?_ : R (_, _, _, _, _, _))
    refine hR (k_eq (by omega) (fun _ => ?_) (fun hc => by omega))
    refine hR (?_ : R (_, _, _, _, _, _))
    obtain ⟨x0_61, x1_61, x2_61, hO61, hk61_0, hk61_1, hk61_2, hk61_3, hk61_4, hk61_5, hk61_6⟩ := CI_o19 hw hρp
    refine hR (c_obj hT1 (zcall_i 0 0 (Nat.le_of_ble_eq_true rfl) (Nat.le_of_ble_eq_true rfl) (c_isWithin _ q 0 3 v_1 f_1 hw hρq (te_of hT1 ht1 (by omega) (by (try dsimp only); omega)) (by omega) _ fun v62 w63 hw63 g63 hp64 hp65 hp66 => ?_)))
    have fr67 := wfR_tr fr0 g63 (by decide)
    have hO68 := (g63.2 p (by rw [hρp]; decide)).trans hO61
    refine (?_ : R (_, _, (.int (Int32.ofInt v62)) :: [], w63, 0, 0))
    obtain ⟨t_69, l_69, a_69, k_69, s_69, v_69, f_69, c_69, hT69, ht69, hTr69, hTp69⟩ := hp66
    (try dsimp only at hTp69)
    have X70 := LN_fr (g63.2 p (by rw [hρp]; decide)) (g63.2 (p + 2) (by rw [hk61_4]; decide)) (g63.2 (p + 3) (by rw [hk61_5]; decide)) (g63.2 (p + 4) (by rw [hk61_6]; decide)) hX1
    iterate 3 refine hR (?_ : R (_, _, _, _, _, _))
    refine hR (j_ne (by omega) (by omega) (fun hc71 => ?_) (fun hc71 => ?_))
    · skip
      refine hR (?_ : R (_, _, _, _, _, _))
      refine hR (k_eq (by omega) (fun hc72 => ?_) (fun hc72 => ?_))
      · skip
        exact hR (zret_i rfl (Nat.le_refl _) rfl (h _ hw63 fr67 (te_of hT69 ht69 (by omega) ⟨by omega, ln_f X70 (by omega)⟩)))
      iterate 4 refine hR (?_ : R (_, _, _, _, _, _))
      refine hR (c_get hT69 rfl ?_)
      refine hR (c_obj hO68 (zcall_i 0 0 (Nat.le_of_ble_eq_true rfl) (Nat.le_of_ble_eq_true rfl) (c_keepNumber _ p a1 a2 v_69 f_69 hw63 hρp (ln_ff X70 (by omega)) (by omega) (by omega) (by omega) _ fun w73 hw73 g73 hp74 => ?_)))
      have fr75 := wfR_tr fr67 g73 (by decide)
      have hO76 := (g73.2 q (by rw [hρq]; decide)).trans hT69
      refine (?_ : R (_, _, [], w73, 0, 0))
      exact hR (zret_i rfl (Nat.le_refl _) rfl (h _ hw73 fr75 (te_of hO76 ht69 (by omega) ⟨by omega, hp74⟩)))
    refine hR (?_ : R (_, _, _, _, _, _))
    refine hR (t_c 6 (by decide) ?_)
    refine hR (j_lt (by omega) (by omega) (fun hc77 => ?_) (fun hc77 => ?_))
    rotate_left
    · skip
      iterate 2 refine hR (?_ : R (_, _, _, _, _, _))
      refine hR (c_obj hT69 (zcall_i 0 0 (Nat.le_of_ble_eq_true rfl) (Nat.le_of_ble_eq_true rfl) (c_faultHere _ q 3 v_69 hw63 hρq (te_of hT69 ht69 (by omega) (by (try dsimp only); omega)) (by omega) _ fun w83 hw83 g83 hp84 => ?_)))
      have fr85 := wfR_tr fr67 g83 (by decide)
      have hO86 := (g83.2 p (by rw [hρp]; decide)).trans hO68
      refine (?_ : R (_, _, [], w83, 0, 0))
      obtain ⟨t_87, l_87, a_87, k_87, s_87, v_87, f_87, c_87, hT87, ht87, hTr87, hTp87⟩ := hp84
      (try dsimp only at hTp87)
      have X88 := LN_fr (g83.2 p (by rw [hρp]; decide)) (g83.2 (p + 2) (by rw [hk61_4]; decide)) (g83.2 (p + 3) (by rw [hk61_5]; decide)) (g83.2 (p + 4) (by rw [hk61_6]; decide)) X70
      refine hR (?_ : R (_, _, _, _, _, _))
      exact hR (zret_i rfl (Nat.le_refl _) rfl (h _ hw83 fr85 (te_of hT87 ht87 (by omega) ⟨by omega, ln_f X88 (by omega)⟩)))
    refine hR (?_ : R (_, _, _, _, _, _))
    refine hR (k_eq (by omega) (fun hc78 => ?_) (fun hc78 => ?_))
    · skip
      exact hR (zret_i rfl (Nat.le_refl _) rfl (h _ hw63 fr67 (te_of hT69 ht69 (by omega) ⟨by omega, ln_f X70 (by omega)⟩)))
    iterate 4 refine hR (?_ : R (_, _, _, _, _, _))
    refine hR (c_get hT69 rfl ?_)
    refine hR (c_obj hO68 (zcall_i 0 0 (Nat.le_of_ble_eq_true rfl) (Nat.le_of_ble_eq_true rfl) (c_keepNumber _ p a1 a2 v_69 f_69 hw63 hρp (ln_ff X70 (by omega)) (by omega) (by omega) (by omega) _ fun w79 hw79 g79 hp80 => ?_)))
    have fr81 := wfR_tr fr67 g79 (by decide)
    have hO82 := (g79.2 q (by rw [hρq]; decide)).trans hT69
    refine (?_ : R (_, _, [], w79, 0, 0))
    exact hR (zret_i rfl (Nat.le_refl _) rfl (h _ hw79 fr81 (te_of hO82 ht69 (by omega) ⟨by omega, hp80⟩)))
  iterate 5 refine hR (?_ : R (_, _, _, _, _, _))
  refine hR (k_eq (by omega) (fun hc => by omega) (fun _ => ?_))
  iterate 3 refine hR (?_ : R (_, _, _, _, _, _))
  refine hR (k_eq (by omega) (fun hc => by omega) (fun _ => ?_))
  refine hR (t_c 6 (by decide) ?_)
  refine hR (?_ : R (_, _, _, _, _, _))
  obtain ⟨x0_89, x1_89, x2_89, hO89, hk89_0, hk89_1, hk89_2, hk89_3, hk89_4, hk89_5, hk89_6⟩ := CI_o19 hw hρp
  refine hR (c_obj hT1 (zcall_i 0 0 (Nat.le_of_ble_eq_true rfl) (Nat.le_of_ble_eq_true rfl) (c_isWithin _ q 1 6 v_1 f_1 hw hρq (te_of hT1 ht1 (by omega) (by (try dsimp only); omega)) (by omega) _ fun v90 w91 hw91 g91 hp92 hp93 hp94 => ?_)))
  have fr95 := wfR_tr fr0 g91 (by decide)
  have hO96 := (g91.2 p (by rw [hρp]; decide)).trans hO89
  refine (?_ : R (_, _, (.int (Int32.ofInt v90)) :: [], w91, 0, 0))
  obtain ⟨t_97, l_97, a_97, k_97, s_97, v_97, f_97, c_97, hT97, ht97, hTr97, hTp97⟩ := hp94
  (try dsimp only at hTp97)
  have X98 := LN_fr (g91.2 p (by rw [hρp]; decide)) (g91.2 (p + 2) (by rw [hk89_4]; decide)) (g91.2 (p + 3) (by rw [hk89_5]; decide)) (g91.2 (p + 4) (by rw [hk89_6]; decide)) hX1
  iterate 3 refine hR (?_ : R (_, _, _, _, _, _))
  refine hR (j_ne (by omega) (by omega) (fun hc99 => ?_) (fun hc99 => ?_))
  · skip
    refine hR (?_ : R (_, _, _, _, _, _))
    refine hR (k_eq (by omega) (fun hc100 => ?_) (fun hc100 => ?_))
    · skip
      exact hR (zret_i rfl (Nat.le_refl _) rfl (h _ hw91 fr95 (te_of hT97 ht97 (by omega) ⟨by omega, ln_f X98 (by omega)⟩)))
    iterate 4 refine hR (?_ : R (_, _, _, _, _, _))
    refine hR (c_get hT97 rfl ?_)
    refine hR (c_obj hO96 (zcall_i 0 0 (Nat.le_of_ble_eq_true rfl) (Nat.le_of_ble_eq_true rfl) (c_keepNumber _ p a1 a2 v_97 f_97 hw91 hρp (ln_ff X98 (by omega)) (by omega) (by omega) (by omega) _ fun w101 hw101 g101 hp102 => ?_)))
    have fr103 := wfR_tr fr95 g101 (by decide)
    have hO104 := (g101.2 q (by rw [hρq]; decide)).trans hT97
    refine (?_ : R (_, _, [], w101, 0, 0))
    exact hR (zret_i rfl (Nat.le_refl _) rfl (h _ hw101 fr103 (te_of hO104 ht97 (by omega) ⟨by omega, hp102⟩)))
  refine hR (?_ : R (_, _, _, _, _, _))
  refine hR (t_c 6 (by decide) ?_)
  refine hR (j_lt (by omega) (by omega) (fun hc105 => ?_) (fun hc105 => ?_))
  rotate_left
  · skip
    iterate 2 refine hR (?_ : R (_, _, _, _, _, _))
    refine hR (c_obj hT97 (zcall_i 0 0 (Nat.le_of_ble_eq_true rfl) (Nat.le_of_ble_eq_true rfl) (c_faultHere _ q 3 v_97 hw91 hρq (te_of hT97 ht97 (by omega) (by (try dsimp only); omega)) (by omega) _ fun w111 hw111 g111 hp112 => ?_)))
    have fr113 := wfR_tr fr95 g111 (by decide)
    have hO114 := (g111.2 p (by rw [hρp]; decide)).trans hO96
    refine (?_ : R (_, _, [], w111, 0, 0))
    obtain ⟨t_115, l_115, a_115, k_115, s_115, v_115, f_115, c_115, hT115, ht115, hTr115, hTp115⟩ := hp112
    (try dsimp only at hTp115)
    have X116 := LN_fr (g111.2 p (by rw [hρp]; decide)) (g111.2 (p + 2) (by rw [hk89_4]; decide)) (g111.2 (p + 3) (by rw [hk89_5]; decide)) (g111.2 (p + 4) (by rw [hk89_6]; decide)) X98
    refine hR (?_ : R (_, _, _, _, _, _))
    exact hR (zret_i rfl (Nat.le_refl _) rfl (h _ hw111 fr113 (te_of hT115 ht115 (by omega) ⟨by omega, ln_f X116 (by omega)⟩)))
  refine hR (?_ : R (_, _, _, _, _, _))
  refine hR (k_eq (by omega) (fun hc106 => ?_) (fun hc106 => ?_))
  · skip
    exact hR (zret_i rfl (Nat.le_refl _) rfl (h _ hw91 fr95 (te_of hT97 ht97 (by omega) ⟨by omega, ln_f X98 (by omega)⟩)))
  iterate 4 refine hR (?_ : R (_, _, _, _, _, _))
  refine hR (c_get hT97 rfl ?_)
  refine hR (c_obj hO96 (zcall_i 0 0 (Nat.le_of_ble_eq_true rfl) (Nat.le_of_ble_eq_true rfl) (c_keepNumber _ p a1 a2 v_97 f_97 hw91 hρp (ln_ff X98 (by omega)) (by omega) (by omega) (by omega) _ fun w107 hw107 g107 hp108 => ?_)))
  have fr109 := wfR_tr fr95 g107 (by decide)
  have hO110 := (g107.2 q (by rw [hρq]; decide)).trans hT97
  refine (?_ : R (_, _, [], w107, 0, 0))
  exact hR (zret_i rfl (Nat.le_refl _) rfl (h _ hw107 fr109 (te_of hO110 ht97 (by omega) ⟨by omega, hp108⟩)))
theorem c_lineOf_b {ρ : Nat → Nat} {w : zW} (d : Nat) (p q : Nat) (hw : CI ρ w) (hρp : ρ p = 19) (hρq : ρ q = 9) (hr0 : TE ρ w q (fun l a s v f => 0 ≤ s ∧ s ≤ a ∧ a ≤ l ∧ l ≤ 600)) (Q : zQ) (h : ∀ (v : Int), (-1 ≤ v ∧ v ≤ 7) → Q (some (.int (Int32.ofInt v))) w) : zCl zTab (d + 6) iX0_lineOf [.ref p, .ref q] w 0 0 Q := by
  refine zCl_i (M := kX0_lineOf) rfl (Nat.le_of_ble_eq_true rfl) fun R hR => ?_
  have fr0 := wfR_rf [] ρ w
  obtain ⟨t_1, l_1, a_1, k_1, s_1, v_1, f_1, c_1, hT1, ht1, hTr1, hTp1⟩ := hr0
  (try dsimp only at hTp1)
  iterate 2 refine hR (?_ : R (_, _, _, _, _, _))
  refine hR (c_obj hT1 (zcall_i 0 0 (Nat.le_of_ble_eq_true rfl) (Nat.le_of_ble_eq_true rfl) (c_isAtHand _ q 1 hw hρq (te_of hT1 ht1 (by omega) (by (try dsimp only); omega)) rfl _ fun v2 hp4 => ?_)))
  refine (?_ : R (_, _, (.int (Int32.ofInt v2)) :: [], w, 0, 0))
  refine hR (k_eq (by omega) (fun hc5 => ?_) (fun hc5 => ?_))
  rotate_left
  · skip
    refine hR (?_ : R (_, _, _, _, _, _))
    exact hR (zret_i rfl (Nat.le_refl _) trivial (h _ (by omega)))
  iterate 2 refine hR (?_ : R (_, _, _, _, _, _))
  refine hR (c_obj hT1 (zcall_i 0 0 (Nat.le_of_ble_eq_true rfl) (Nat.le_of_ble_eq_true rfl) (c_isAtHand _ q 2 hw hρq (te_of hT1 ht1 (by omega) (by (try dsimp only); omega)) rfl _ fun v6 hp8 => ?_)))
  refine (?_ : R (_, _, (.int (Int32.ofInt v6)) :: [], w, 0, 0))
  refine hR (k_eq (by omega) (fun hc9 => ?_) (fun hc9 => ?_))
  rotate_left
  · skip
    refine hR (?_ : R (_, _, _, _, _, _))
    exact hR (zret_i rfl (Nat.le_refl _) trivial (h _ (by omega)))
  iterate 2 refine hR (?_ : R (_, _, _, _, _, _))
  refine hR (c_obj hT1 (zcall_i 0 0 (Nat.le_of_ble_eq_true rfl) (Nat.le_of_ble_eq_true rfl) (c_isAtHand _ q 3 hw hρq (te_of hT1 ht1 (by omega) (by (try dsimp only); omega)) rfl _ fun v10 hp12 => ?_)))
  refine (?_ : R (_, _, (.int (Int32.ofInt v10)) :: [], w, 0, 0))
  refine hR (k_eq (by omega) (fun hc13 => ?_) (fun hc13 => ?_))
  rotate_left
  · skip
    refine hR (?_ : R (_, _, _, _, _, _))
    exact hR (zret_i rfl (Nat.le_refl _) trivial (h _ (by omega)))
  iterate 2 refine hR (?_ : R (_, _, _, _, _, _))
  refine hR (c_obj hT1 (zcall_i 0 0 (Nat.le_of_ble_eq_true rfl) (Nat.le_of_ble_eq_true rfl) (c_isAtHand _ q 4 hw hρq (te_of hT1 ht1 (by omega) (by (try dsimp only); omega)) rfl _ fun v14 hp16 => ?_)))
  refine (?_ : R (_, _, (.int (Int32.ofInt v14)) :: [], w, 0, 0))
  refine hR (k_eq (by omega) (fun hc17 => ?_) (fun hc17 => ?_))
  rotate_left
  · skip
    refine hR (?_ : R (_, _, _, _, _, _))
    exact hR (zret_i rfl (Nat.le_refl _) trivial (h _ (by omega)))
  iterate 2 refine hR (?_ : R (_, _, _, _, _, _))
  refine hR (c_obj hT1 (zcall_i 0 0 (Nat.le_of_ble_eq_true rfl) (Nat.le_of_ble_eq_true rfl) (c_isAtHand _ q 5 hw hρq (te_of hT1 ht1 (by omega) (by (try dsimp only); omega)) rfl _ fun v18 hp20 => ?_)))
  refine (?_ : R (_, _, (.int (Int32.ofInt v18)) :: [], w, 0, 0))
  refine hR (k_eq (by omega) (fun hc21 => ?_) (fun hc21 => ?_))
  rotate_left
  · skip
    refine hR (?_ : R (_, _, _, _, _, _))
    exact hR (zret_i rfl (Nat.le_refl _) trivial (h _ (by omega)))
  iterate 2 refine hR (?_ : R (_, _, _, _, _, _))
  refine hR (c_obj hT1 (zcall_i 0 0 (Nat.le_of_ble_eq_true rfl) (Nat.le_of_ble_eq_true rfl) (c_isAtHand _ q 6 hw hρq (te_of hT1 ht1 (by omega) (by (try dsimp only); omega)) rfl _ fun v22 hp24 => ?_)))
  refine (?_ : R (_, _, (.int (Int32.ofInt v22)) :: [], w, 0, 0))
  refine hR (k_eq (by omega) (fun hc25 => ?_) (fun hc25 => ?_))
  rotate_left
  · skip
    refine hR (?_ : R (_, _, _, _, _, _))
    exact hR (zret_i rfl (Nat.le_refl _) trivial (h _ (by omega)))
  iterate 2 refine hR (?_ : R (_, _, _, _, _, _))
  refine hR (c_obj hT1 (zcall_i 0 0 (Nat.le_of_ble_eq_true rfl) (Nat.le_of_ble_eq_true rfl) (c_isAtHand _ q 7 hw hρq (te_of hT1 ht1 (by omega) (by (try dsimp only); omega)) rfl _ fun v26 hp28 => ?_)))
  refine (?_ : R (_, _, (.int (Int32.ofInt v26)) :: [], w, 0, 0))
  refine hR (k_eq (by omega) (fun hc29 => ?_) (fun hc29 => ?_))
  rotate_left
  · skip
    refine hR (t_c 6 (by decide) ?_)
    exact hR (zret_i rfl (Nat.le_refl _) trivial (h _ (by omega)))
  iterate 2 refine hR (?_ : R (_, _, _, _, _, _))
  refine hR (c_obj hT1 (zcall_i 0 0 (Nat.le_of_ble_eq_true rfl) (Nat.le_of_ble_eq_true rfl) (c_isAtHand _ q 8 hw hρq (te_of hT1 ht1 (by omega) (by (try dsimp only); omega)) rfl _ fun v30 hp32 => ?_)))
  refine (?_ : R (_, _, (.int (Int32.ofInt v30)) :: [], w, 0, 0))
  refine hR (k_eq (by omega) (fun hc33 => ?_) (fun hc33 => ?_))
  · skip
    refine hR (?_ : R (_, _, _, _, _, _))
    exact hR (zret_i rfl (Nat.le_refl _) trivial (h _ (by omega)))
  refine hR (t_c 7 (by decide) ?_)
  refine hR (?_ : R (_, _, _, _, _, _))
  exact hR (zret_i rfl (Nat.le_refl _) trivial (h _ (by omega)))
theorem c_mostNumbers_b {ρ : Nat → Nat} {w : zW} (d : Nat) (p : Nat) (a1 : Int) (hw : CI ρ w) (hρp : ρ p = 19) (hr0 : 0 ≤ a1 ∧ a1 ≤ 7) (Q : zQ) (h : ∀ (v : Int), ((a1 = 5 ∧ v = 600) ∨ (a1 = 6 ∧ v = 2) ∨ ((a1 = 7 ∨ a1 = 4) ∧ v = 0) ∨ ((a1 = 0 ∨ a1 = 1 ∨ a1 = 2 ∨ a1 = 3) ∧ v = 1)) → Q (some (.int (Int32.ofInt v))) w) : zCl zTab (d + 1) iX0_mostNumbers [.ref p, .int (Int32.ofInt a1)] w 0 0 Q := by
  refine zCl_i (M := kX0_mostNumbers) rfl (Nat.le_of_ble_eq_true rfl) fun R hR => ?_
  have fr0 := wfR_rf [] ρ w
  refine hR (?_ : R (_, _, _, _, _, _))
  refine hR (?_ : _ ∧ _)
  rw [zti (e := a1) (by omega) (by omega)]
  refine ⟨fun hs1 => ?_, fun hs1 => ?_⟩
  · skip
    refine hR (?_ : R (_, _, _, _, _, _))
    exact hR (zret_i rfl (Nat.le_refl _) trivial (h _ (by omega)))
  · skip
    have hs1d : a1 = 4 ∨ a1 = 5 ∨ a1 = 6 ∨ a1 = 7 := by omega
    rcases hs1d with hs1e | hs1e | hs1e | hs1e
    · refine ⟨39, by rw [hs1e]; rfl, (?_ : R (_, _, _, _, _, _))⟩
      refine hR (?_ : R (_, _, _, _, _, _))
      exact hR (zret_i rfl (Nat.le_refl _) trivial (h _ (by omega)))
    · refine ⟨31, by rw [hs1e]; rfl, (?_ : R (_, _, _, _, _, _))⟩
      refine hR (t_c 600 (by decide) ?_)
      exact hR (zret_i rfl (Nat.le_refl _) trivial (h _ (by omega)))
    · refine ⟨35, by rw [hs1e]; rfl, (?_ : R (_, _, _, _, _, _))⟩
      refine hR (?_ : R (_, _, _, _, _, _))
      exact hR (zret_i rfl (Nat.le_refl _) trivial (h _ (by omega)))
    · refine ⟨37, by rw [hs1e]; rfl, (?_ : R (_, _, _, _, _, _))⟩
      refine hR (?_ : R (_, _, _, _, _, _))
      exact hR (zret_i rfl (Nat.le_refl _) trivial (h _ (by omega)))
theorem c_fewestNumbers_b {ρ : Nat → Nat} {w : zW} (d : Nat) (p : Nat) (a1 : Int) (hw : CI ρ w) (hρp : ρ p = 19) (hr0 : 0 ≤ a1 ∧ a1 ≤ 7) (Q : zQ) (h : ∀ (v : Int), ((a1 = 5 ∧ v = 0) ∨ (a1 = 6 ∧ v = 2) ∨ ((a1 = 7 ∨ a1 = 4) ∧ v = 0) ∨ ((a1 = 0 ∨ a1 = 1 ∨ a1 = 2 ∨ a1 = 3) ∧ v = 1)) → Q (some (.int (Int32.ofInt v))) w) : zCl zTab (d + 2) iX0_fewestNumbers [.ref p, .int (Int32.ofInt a1)] w 0 0 Q := by
  refine zCl_i (M := kX0_fewestNumbers) rfl (Nat.le_of_ble_eq_true rfl) fun R hR => ?_
  have fr0 := wfR_rf [] ρ w
  iterate 2 refine hR (?_ : R (_, _, _, _, _, _))
  refine hR (j_ne (by omega) (by omega) (fun hc1 => ?_) (fun hc1 => ?_))
  rotate_left
  · skip
    iterate 2 refine hR (?_ : R (_, _, _, _, _, _))
    exact hR (zret_i rfl (Nat.le_refl _) trivial (h _ (by omega)))
  iterate 2 refine hR (?_ : R (_, _, _, _, _, _))
  obtain ⟨x0_5, x1_5, x2_5, hO5, hk5_0, hk5_1, hk5_2, hk5_3, hk5_4, hk5_5, hk5_6⟩ := CI_o19 hw hρp
  refine hR (c_obj hO5 (zcall_i 0 0 (Nat.le_of_ble_eq_true rfl) (Nat.le_of_ble_eq_true rfl) (c_mostNumbers_b _ p a1 hw hρp (by omega) _ fun v2 hp4 => ?_)))
  refine (?_ : R (_, _, (.int (Int32.ofInt v2)) :: [], w, 0, 0))
  exact hR (zret_i rfl (Nat.le_refl _) trivial (h _ (by omega)))
