theorem c_beginStep_b {ρ : Nat → Nat} {w : zW} (d : Nat) (p q : Nat) (a1 : Int) (hw : CI ρ w) (hρp : ρ p = 19) (hρq : ρ q = 9) (hr0 : 0 ≤ a1 ∧ a1 ≤ 4) (hr1 : TE ρ w q (fun l a s v f => (0 ≤ s ∧ s ≤ a ∧ a ≤ l ∧ l ≤ 600) ∧ (f ≠ 0 ∨ REL w (p + 3)))) (Q : zQ) (h : ∀ (w' : zW), CI ρ w' → wfR [9, 22, 25] ρ w w' → (TE ρ w' q (fun l a s v f => (0 ≤ s ∧ s ≤ a ∧ a ≤ l ∧ l ≤ 600) ∧ (f ≠ 0 ∨ BST w' p a1))) → Q (none) w') : zCl zTab (d + 2) iX0_beginStep [.ref p, .int (Int32.ofInt a1), .ref q] w 0 0 Q := by
  refine zCl_i (M := kX0_beginStep) rfl (Nat.le_of_ble_eq_true rfl) fun R hR => ?_
  have fr0 := wfR_rf [9, 22, 25] ρ w
  obtain ⟨t_1, l_1, a_1, k_1, s_1, v_1, f_1, c_1, hT1, ht1, hTr1, hTp1⟩ := hr1
  obtain ⟨hTp1, hX1⟩ := hTp1
  (try dsimp only at hTp1)
  refine hR (?_ : R (_, _, _, _, _, _))
  obtain ⟨x0_2, x1_2, x2_2, hO2, hk2_0, hk2_1, hk2_2, hk2_3, hk2_4, hk2_5, hk2_6⟩ := CI_o19 hw hρp
  refine hR (c_get hO2 rfl ?_)
  refine hR (?_ : R (_, _, _, _, _, _))
  refine hR (t_sub ?_)
  iterate 2 refine hR (?_ : R (_, _, _, _, _, _))
  refine hR (k_ge (by omega) (fun hc3 => ?_) (fun hc3 => ?_))
  rotate_left
  · skip
    iterate 2 refine hR (?_ : R (_, _, _, _, _, _))
    refine hR (c_obj hT1 (zcall_i 0 0 (Nat.le_of_ble_eq_true rfl) (Nat.le_of_ble_eq_true rfl) (c_faultHere _ q 4 v_1 hw hρq (te_of hT1 ht1 (by omega) (by (try dsimp only); omega)) (by omega) _ fun w28 hw28 g28 hp29 => ?_)))
    have fr30 := wfR_tr fr0 g28 (by decide)
    have hO31 := (g28.2 p (by rw [hρp]; decide)).trans hO2
    refine (?_ : R (_, _, [], w28, 0, 0))
    obtain ⟨t_32, l_32, a_32, k_32, s_32, v_32, f_32, c_32, hT32, ht32, hTr32, hTp32⟩ := hp29
    (try dsimp only at hTp32)
    refine hR (?_ : R (_, _, _, _, _, _))
    exact hR (zret_i rfl (Nat.le_refl _) rfl (h _ hw28 fr30 (te_of hT32 ht32 (by omega) ⟨by omega, Or.inl (by omega)⟩)))
  refine hR (?_ : R (_, _, _, _, _, _))
  refine hR (c_get hO2 rfl ?_)
  refine hR (?_ : R (_, _, _, _, _, _))
  obtain ⟨ge5, hge5, hBe5⟩ := CI_ar hw (q := p + 2) (by rw [hk2_4]; rfl)
  refine hR (c_aldE hge5 (by omega) (by omega) (Nat.le_of_ble_eq_true rfl) fun v4 e5 rv4 => ?_)
  have bv4 : 0 ≤ v4 ∧ v4 ≤ 4 := by rw [e5]; exact hBe5 _
  refine hR (?_ : R (_, _, _, _, _, _))
  refine hR (j_lt (by omega) (by omega) (fun hc6 => ?_) (fun hc6 => ?_))
  rotate_left
  · skip
    iterate 2 refine hR (?_ : R (_, _, _, _, _, _))
    refine hR (c_obj hT1 (zcall_i 0 0 (Nat.le_of_ble_eq_true rfl) (Nat.le_of_ble_eq_true rfl) (c_faultHere _ q 3 v_1 hw hρq (te_of hT1 ht1 (by omega) (by (try dsimp only); omega)) (by omega) _ fun w23 hw23 g23 hp24 => ?_)))
    have fr25 := wfR_tr fr0 g23 (by decide)
    have hO26 := (g23.2 p (by rw [hρp]; decide)).trans hO2
    refine (?_ : R (_, _, [], w23, 0, 0))
    obtain ⟨t_27, l_27, a_27, k_27, s_27, v_27, f_27, c_27, hT27, ht27, hTr27, hTp27⟩ := hp24
    (try dsimp only at hTp27)
    refine hR (?_ : R (_, _, _, _, _, _))
    exact hR (zret_i rfl (Nat.le_refl _) rfl (h _ hw23 fr25 (te_of hT27 ht27 (by omega) ⟨by omega, Or.inl (by omega)⟩)))
  refine hR (?_ : R (_, _, _, _, _, _))
  refine hR (c_get hO2 rfl ?_)
  iterate 2 refine hR (?_ : R (_, _, _, _, _, _))
  refine hR (t_mul ?_)
  refine hR (?_ : R (_, _, _, _, _, _))
  refine hR (c_get hO2 rfl ?_)
  refine hR (?_ : R (_, _, _, _, _, _))
  refine hR (c_aldE hge5 (by omega) (by omega) (Nat.le_of_ble_eq_true rfl) fun v8 e9 rv8 => ?_)
  obtain rfl : v4 = v8 := e5.trans e9.symm
  refine hR (t_add ?_)
  refine hR (?_ : R (_, _, _, _, _, _))
  obtain ⟨ge11, hge11, hBe11⟩ := CI_ar hw (q := p + 3) (by rw [hk2_5]; rfl)
  refine hR (c_astE hw hge11 hBe11 (by rw [hk2_5]; rfl) ⟨by rw [hk2_5]; decide, by rw [hk2_5]; decide⟩ (by omega) (by omega) (by omega) (by omega) (Nat.le_of_ble_eq_true rfl) fun w10 hw10 f10 hs10 hb10 => ?_)
  have fr12 := wfR_st fr0 f10 (by rw [hk2_5]; decide)
  have hO13 := (f10.2 q (rne hρq hk2_5 (by decide))).trans hT1
  have hO14 := (f10.2 p (rne hρp hk2_5 (by decide))).trans hO2
  refine hR (?_ : R (_, _, _, _, _, _))
  refine hR (c_get hO14 rfl ?_)
  iterate 2 refine hR (?_ : R (_, _, _, _, _, _))
  have hgs2 := (f10.2 (p + 2) (by omega)).trans hge5
  refine hR (c_aldE hgs2 (by omega) (by omega) (Nat.le_of_ble_eq_true rfl) fun v15 e16 rv15 => ?_)
  obtain rfl : v4 = v15 := e5.trans e16.symm
  refine hR (?_ : R (_, _, _, _, _, _))
  refine hR (t_add ?_)
  obtain ⟨ge18, hge18, hBe18⟩ := CI_ar hw10 (q := p + 2) (by rw [hk2_4]; rfl)
  refine hR (c_astE hw10 hge18 hBe18 (by rw [hk2_4]; rfl) ⟨by rw [hk2_4]; decide, by rw [hk2_4]; decide⟩ (by omega) (by omega) (by omega) (by omega) (Nat.le_of_ble_eq_true rfl) fun w17 hw17 f17 hs17 hb17 => ?_)
  have fr19 := wfR_st fr12 f17 (by rw [hk2_4]; decide)
  have hO20 := (f17.2 q (rne hρq hk2_4 (by decide))).trans hO13
  have hO21 := (f17.2 p (rne hρp hk2_4 (by decide))).trans hO14
  have X22 := hX1.elim Or.inl (fun hh => Or.inr (bst_of hO21 (by omega) (by omega) (by omega) hh hge11 f10 hs10 f17 hs17))
  exact hR (zret_i rfl (Nat.le_refl _) rfl (h _ hw17 fr19 (te_of hO20 ht1 (by omega) ⟨by omega, X22⟩)))
theorem c_beginLine_b {ρ : Nat → Nat} {w : zW} (d : Nat) (p q : Nat) (a1 : Int) (hw : CI ρ w) (hρp : ρ p = 19) (hρq : ρ q = 9) (hr0 : 0 ≤ a1 ∧ a1 ≤ 7) (hr1 : TE ρ w q (fun l a s v f => (0 ≤ s ∧ s ≤ a ∧ a ≤ l ∧ l ≤ 600) ∧ (f ≠ 0 ∨ REL w (p + 3)))) (Q : zQ) (h : ∀ (w' : zW), CI ρ w' → wfR [9, 19, 22, 25] ρ w w' → (TE ρ w' q (fun l a s v f => (0 ≤ s ∧ s ≤ a ∧ a ≤ l ∧ l ≤ 600) ∧ LN w' p a1 0 f)) → Q (none) w') : zCl zTab (d + 3) iX0_beginLine [.ref p, .int (Int32.ofInt a1), .ref q] w 0 0 Q := by
  refine zCl_i (M := kX0_beginLine) rfl (Nat.le_of_ble_eq_true rfl) fun R hR => ?_
  have fr0 := wfR_rf [9, 19, 22, 25] ρ w
  obtain ⟨t_1, l_1, a_1, k_1, s_1, v_1, f_1, c_1, hT1, ht1, hTr1, hTp1⟩ := hr1
  obtain ⟨hTp1, hX1⟩ := hTp1
  (try dsimp only at hTp1)
  iterate 2 refine hR (?_ : R (_, _, _, _, _, _))
  refine hR (j_ne (by omega) (by omega) (fun hc2 => ?_) (fun hc2 => ?_))
  rotate_left
  · skip
    iterate 2 refine hR (?_ : R (_, _, _, _, _, _))
    obtain ⟨x0_22, x1_22, x2_22, hO22, hk22_0, hk22_1, hk22_2, hk22_3, hk22_4, hk22_5, hk22_6⟩ := CI_o19 hw hρp
    refine hR (c_put hO22 rfl rfl fun w23 f23 hO23 => ?_)
    have hw23 := CI_w19 hw hρp f23 hO23 ⟨⟨by omega, by omega⟩, ⟨by omega, by omega⟩, ⟨by omega, by omega⟩, hk22_3, hk22_4, hk22_5, hk22_6⟩
    have fr24 := wfR_st fr0 f23 (by rw [hρp]; decide)
    have hO25 := (f23.2 q (rne hρq hρp (by decide))).trans hT1
    have X26 := rel_fr (f23.2 (p + 3) (by omega)) (f23.2 (p + 4) (by omega)) hX1
    refine hR (?_ : R (_, _, _, _, _, _))
    exact hR (zret_i rfl (Nat.le_refl _) rfl (h _ hw23 fr24 (te_of hO25 ht1 (by omega) ⟨by omega, ln_0 X26 (by omega) (fun _ => ⟨_, _, hO23, by omega, by omega⟩)⟩)))
  refine hR (?_ : R (_, _, _, _, _, _))
  refine hR (t_c 7 (by decide) ?_)
  refine hR (j_ne (by omega) (by omega) (fun hc3 => ?_) (fun hc3 => ?_))
  · skip
    iterate 2 refine hR (?_ : R (_, _, _, _, _, _))
    refine hR (j_gt (by omega) (by omega) (fun hc4 => ?_) (fun hc4 => ?_))
    · skip
      exact hR (zret_i rfl (Nat.le_refl _) rfl (h _ hw fr0 (te_of hT1 ht1 (by omega) ⟨by omega, ln_0 hX1 (by omega) (fun e => by omega)⟩)))
    iterate 3 refine hR (?_ : R (_, _, _, _, _, _))
    obtain ⟨x0_7, x1_7, x2_7, hO7, hk7_0, hk7_1, hk7_2, hk7_3, hk7_4, hk7_5, hk7_6⟩ := CI_o19 hw hρp
    refine hR (c_obj hO7 (zcall_i 0 0 (Nat.le_of_ble_eq_true rfl) (Nat.le_of_ble_eq_true rfl) (c_beginStep_b _ p q a1 hw hρp hρq (by omega) (te_of hT1 ht1 (by omega) ⟨by omega, hX1⟩) _ fun w5 hw5 g5 hp6 => ?_)))
    have fr8 := wfR_tr fr0 g5 (by decide)
    have hO9 := (g5.2 p (by rw [hρp]; decide)).trans hO7
    refine (?_ : R (_, _, [], w5, 0, 0))
    obtain ⟨t_10, l_10, a_10, k_10, s_10, v_10, f_10, c_10, hT10, ht10, hTr10, hTp10⟩ := hp6
    obtain ⟨hTp10, hX10⟩ := hTp10
    (try dsimp only at hTp10)
    exact hR (zret_i rfl (Nat.le_refl _) rfl (h _ hw5 fr8 (te_of hT10 ht10 (by omega) ⟨by omega, ln_bst hX10 (by omega)⟩)))
  refine hR (?_ : R (_, _, _, _, _, _))
  obtain ⟨x0_11, x1_11, x2_11, hO11, hk11_0, hk11_1, hk11_2, hk11_3, hk11_4, hk11_5, hk11_6⟩ := CI_o19 hw hρp
  refine hR (c_get hO11 rfl ?_)
  refine hR (?_ : R (_, _, _, _, _, _))
  refine hR (j_ge (by omega) (by omega) (fun hc12 => ?_) (fun hc12 => ?_))
  · skip
    iterate 2 refine hR (?_ : R (_, _, _, _, _, _))
    refine hR (c_obj hT1 (zcall_i 0 0 (Nat.le_of_ble_eq_true rfl) (Nat.le_of_ble_eq_true rfl) (c_faultHere _ q 3 v_1 hw hρq (te_of hT1 ht1 (by omega) (by (try dsimp only); omega)) (by omega) _ fun w13 hw13 g13 hp14 => ?_)))
    have fr15 := wfR_tr fr0 g13 (by decide)
    have hO16 := (g13.2 p (by rw [hρp]; decide)).trans hO11
    refine (?_ : R (_, _, [], w13, 0, 0))
    obtain ⟨t_17, l_17, a_17, k_17, s_17, v_17, f_17, c_17, hT17, ht17, hTr17, hTp17⟩ := hp14
    (try dsimp only at hTp17)
    refine hR (?_ : R (_, _, _, _, _, _))
    exact hR (zret_i rfl (Nat.le_refl _) rfl (h _ hw13 fr15 (te_of hT17 ht17 (by omega) ⟨by omega, ln_0 (Or.inl (by omega)) (by omega) (fun e => by omega)⟩)))
  iterate 2 refine hR (?_ : R (_, _, _, _, _, _))
  refine hR (c_get hO11 rfl ?_)
  refine hR (?_ : R (_, _, _, _, _, _))
  refine hR (t_add ?_)
  refine hR (c_put hO11 rfl rfl fun w18 f18 hO18 => ?_)
  have hw18 := CI_w19 hw hρp f18 hO18 ⟨⟨by omega, by omega⟩, ⟨by omega, by omega⟩, ⟨by omega, by omega⟩, hk11_3, hk11_4, hk11_5, hk11_6⟩
  have fr19 := wfR_st fr0 f18 (by rw [hρp]; decide)
  have hO20 := (f18.2 q (rne hρq hρp (by decide))).trans hT1
  have X21 := rel_fr (f18.2 (p + 3) (by omega)) (f18.2 (p + 4) (by omega)) hX1
  refine hR (?_ : R (_, _, _, _, _, _))
  exact hR (zret_i rfl (Nat.le_refl _) rfl (h _ hw18 fr19 (te_of hO20 ht1 (by omega) ⟨by omega, ln_0 X21 (by omega) (fun e => by omega)⟩)))
theorem c_keepNumber {ρ : Nat → Nat} {w : zW} (d : Nat) (p : Nat) (a1 a2 a3 : Int) (f0 : Int) (hw : CI ρ w) (hρp : ρ p = 19) (hr0 : LN w p a1 a2 f0) (hr1 : 0 ≤ a2 ∧ a2 ≤ 600) (hr2 : ((0 ≤ a1 ∧ a1 ≤ 3) ∧ a2 = 0) ∨ (a1 = 5 ∧ a2 ≤ 5) ∨ a1 = 6) (hr3 : ((a1 = 0 ∨ a1 = 5 ∨ a1 = 6) ∧ 0 ≤ a3 ∧ a3 ≤ 3) ∨ ((1 ≤ a1 ∧ a1 ≤ 3) ∧ 1 ≤ a3 ∧ a3 ≤ 6)) (Q : zQ) (h : ∀ (w' : zW), CI ρ w' → wfR [19, 21, 26] ρ w w' → (LN w' p a1 (a2 + 1) f0) → Q (none) w') : zCl zTab (d + 2) iX0_keepNumber [.ref p, .int (Int32.ofInt a1), .int (Int32.ofInt a2), .int (Int32.ofInt a3)] w 0 0 Q := by
  refine zCl_i (M := kX0_keepNumber) rfl (Nat.le_of_ble_eq_true rfl) fun R hR => ?_
  have fr0 := wfR_rf [19, 21, 26] ρ w
  refine hR (?_ : R (_, _, _, _, _, _))
  obtain ⟨x0_1, x1_1, x2_1, hO1, hk1_0, hk1_1, hk1_2, hk1_3, hk1_4, hk1_5, hk1_6⟩ := CI_o19 hw hρp
  refine hR (c_get hO1 rfl ?_)
  refine hR (?_ : R (_, _, _, _, _, _))
  refine hR (t_sub ?_)
  iterate 3 refine hR (?_ : R (_, _, _, _, _, _))
  refine hR (j_ne (by omega) (by omega) (fun hc2 => ?_) (fun hc2 => ?_))
  rotate_left
  · skip
    have hkb := bnum_le (hr0.2 (by omega)) (nb_le _) hO1 (by omega)
    have hku := nb_up (k := a2) (by omega) (by omega)
    have hkl := nb_le (a2 + 1)
    iterate 2 refine hR (?_ : R (_, _, _, _, _, _))
    refine hR (c_get hO1 rfl ?_)
    refine hR (?_ : R (_, _, _, _, _, _))
    refine hR (zcall_i 0 0 (Nat.le_of_ble_eq_true rfl) (Nat.le_of_ble_eq_true rfl) (c_longer _ _ x0_1 a3 _ fun v25 hp27 => ?_))
    refine (?_ : R (_, _, (.int (Int32.ofInt v25)) :: (.ref p) :: [], w, 0, 0))
    refine hR (c_put hO1 rfl rfl fun w28 f28 hO28 => ?_)
    have hw28 := CI_w19 hw hρp f28 hO28 ⟨⟨by omega, by omega⟩, ⟨by omega, by omega⟩, ⟨by omega, by omega⟩, hk1_3, hk1_4, hk1_5, hk1_6⟩
    have fr29 := wfR_st fr0 f28 (by rw [hρp]; decide)
    refine hR (?_ : R (_, _, _, _, _, _))
    exact hR (zret_i rfl (Nat.le_refl _) rfl (h _ hw28 fr29 (ln_w hr0 (by omega) (f28.2 (p + 3) (by omega)) (f28.2 (p + 4) (by omega)) (fun _ => ⟨_, _, hO28, by omega, by omega⟩))))
  refine hR (?_ : R (_, _, _, _, _, _))
  refine hR (t_c 6 (by decide) ?_)
  refine hR (j_ne (by omega) (by omega) (fun hc3 => ?_) (fun hc3 => ?_))
  rotate_left
  · skip
    refine hR (?_ : R (_, _, _, _, _, _))
    refine hR (k_ne (by omega) (fun hc15 => ?_) (fun hc15 => ?_))
    rotate_left
    · skip
      iterate 2 refine hR (?_ : R (_, _, _, _, _, _))
      refine hR (c_put hO1 rfl rfl fun w23 f23 hO23 => ?_)
      have hw23 := CI_w19 hw hρp f23 hO23 ⟨⟨by omega, by omega⟩, ⟨by omega, by omega⟩, ⟨by omega, by omega⟩, hk1_3, hk1_4, hk1_5, hk1_6⟩
      have fr24 := wfR_st fr0 f23 (by rw [hρp]; decide)
      refine hR (?_ : R (_, _, _, _, _, _))
      exact hR (zret_i rfl (Nat.le_refl _) rfl (h _ hw23 fr24 (ln_w hr0 (by omega) (f23.2 (p + 3) (by omega)) (f23.2 (p + 4) (by omega)) (fun e => by omega))))
    refine hR (?_ : R (_, _, _, _, _, _))
    refine hR (t_c 6 (by decide) ?_)
    refine hR (j_ne (by omega) (by omega) (fun hc => by omega) (fun _ => ?_))
    refine hR (?_ : R (_, _, _, _, _, _))
    refine hR (c_get hO1 rfl ?_)
    refine hR (zcall_i 0 0 (Nat.le_of_ble_eq_true rfl) (Nat.le_of_ble_eq_true rfl) (c_isWord _ _ x2_1 (by omega) _ fun v16 hp18 => ?_))
    refine (?_ : R (_, _, (.int (Int32.ofInt v16)) :: [], w, 0, 0))
    refine hR (k_eq (by omega) (fun hc19 => ?_) (fun hc19 => ?_))
    · skip
      exact hR (zret_i rfl (Nat.le_refl _) rfl (h _ hw fr0 (by first | exact ln_up hr0 (by omega) (by omega) | exact ln_b (by omega) hr0 (by omega) hO1 (by omega) (fun _ _ _ _ => by omega))))
    refine hR (?_ : R (_, _, _, _, _, _))
    refine hR (c_get hO1 rfl ?_)
    refine hR (?_ : R (_, _, _, _, _, _))
    refine hR (c_get hO1 rfl ?_)
    refine hR (?_ : R (_, _, _, _, _, _))
    refine hR (c_ast hw (by rw [hk1_3]; rfl) ⟨by rw [hk1_3]; decide, by rw [hk1_3]; decide⟩ (by omega) (by omega) (by omega) (by omega) (by omega) (by omega) (Nat.le_of_ble_eq_true rfl) fun w20 hw20 f20 => ?_)
    have fr21 := wfR_st fr0 f20 (by rw [hk1_3]; decide)
    have hO22 := (f20.2 p (rne hρp hk1_3 (by decide))).trans hO1
    refine hR (?_ : R (_, _, _, _, _, _))
    exact hR (zret_i rfl (Nat.le_refl _) rfl (h _ hw20 fr21 (ln_w hr0 (by omega) (f20.2 (p + 3) (by omega)) (f20.2 (p + 4) (by omega)) (fun e => by omega))))
  refine hR (?_ : R (_, _, _, _, _, _))
  refine hR (t_c 6 (by decide) ?_)
  refine hR (j_ne (by omega) (by omega) (fun _ => ?_) (fun hc => by omega))
  refine hR (?_ : R (_, _, _, _, _, _))
  refine hR (k_lt (by omega) (fun hc4 => ?_) (fun hc4 => ?_))
  · skip
    exact hR (zret_i rfl (Nat.le_refl _) rfl (h _ hw fr0 (by first | exact ln_up hr0 (by omega) (by omega) | exact ln_b (by omega) hr0 (by omega) hO1 (by omega) (fun _ _ _ _ => by omega))))
  refine hR (?_ : R (_, _, _, _, _, _))
  refine hR (c_get hO1 rfl ?_)
  refine hR (?_ : R (_, _, _, _, _, _))
  obtain ⟨ge6, hge6, hBe6⟩ := CI_ar hw (q := p + 2) (by rw [hk1_4]; rfl)
  refine hR (c_aldE hge6 (by omega) (by omega) (Nat.le_of_ble_eq_true rfl) fun v5 e6 rv5 => ?_)
  have bv5 : 0 ≤ v5 ∧ v5 ≤ 4 := by rw [e6]; exact hBe6 _
  refine hR (k_le (by omega) (fun hc7 => ?_) (fun hc7 => ?_))
  · skip
    exact hR (zret_i rfl (Nat.le_refl _) rfl (h _ hw fr0 (ln_b (by omega) hr0 (by omega) hO1 (by omega) (fun gs' h1 _ h3 => by obtain rfl := gEq (h1.symm.trans hge6); rw [← e6] at h3; omega))))
  refine hR (?_ : R (_, _, _, _, _, _))
  refine hR (c_get hO1 rfl ?_)
  iterate 2 refine hR (?_ : R (_, _, _, _, _, _))
  refine hR (t_mul ?_)
  refine hR (?_ : R (_, _, _, _, _, _))
  refine hR (c_get hO1 rfl ?_)
  refine hR (?_ : R (_, _, _, _, _, _))
  refine hR (c_aldE hge6 (by omega) (by omega) (Nat.le_of_ble_eq_true rfl) fun v9 e10 rv9 => ?_)
  obtain rfl : v5 = v9 := e6.trans e10.symm
  refine hR (t_add ?_)
  refine hR (?_ : R (_, _, _, _, _, _))
  refine hR (t_sub ?_)
  refine hR (?_ : R (_, _, _, _, _, _))
  obtain ⟨ge12, hge12, hBe12⟩ := CI_ar hw (q := p + 4) (by rw [hk1_6]; rfl)
  refine hR (c_astE hw hge12 hBe12 (by rw [hk1_6]; rfl) ⟨by rw [hk1_6]; decide, by rw [hk1_6]; decide⟩ (by omega) (by omega) (by omega) (by omega) (Nat.le_of_ble_eq_true rfl) fun w11 hw11 f11 hs11 hb11 => ?_)
  have fr13 := wfR_st fr0 f11 (by rw [hk1_6]; decide)
  have hO14 := (f11.2 p (rne hρp hk1_6 (by decide))).trans hO1
  exact hR (zret_i rfl (Nat.le_refl _) rfl (h _ hw11 fr13 (ln_s (by omega) hr0 (by omega) hO1 (by omega) hge6 e6 hge12 f11 hs11 (by omega))))
theorem c_takeNumber_b {ρ : Nat → Nat} {w : zW} (d : Nat) (p q : Nat) (a1 a2 : Int) (hw : CI ρ w) (hρp : ρ p = 19) (hρq : ρ q = 9) (hr0 : 0 ≤ a2 ∧ a2 ≤ 600) (hr1 : ((0 ≤ a1 ∧ a1 ≤ 3) ∧ a2 = 0) ∨ a1 = 5 ∨ a1 = 6) (hr2 : TE ρ w q (fun l a s v f => (0 ≤ s ∧ s ≤ a ∧ a ≤ l ∧ l ≤ 600) ∧ LN w p a1 a2 f)) (Q : zQ) (h : ∀ (w' : zW), CI ρ w' → wfR [9, 19, 21, 26] ρ w w' → (TE ρ w' q (fun l a s v f => (0 ≤ s ∧ s ≤ a ∧ a ≤ l ∧ l ≤ 600) ∧ LN w' p a1 (a2 + 1) f)) → Q (none) w') : zCl zTab (d + 3) iX0_takeNumber [.ref p, .int (Int32.ofInt a1), .int (Int32.ofInt a2), .ref q] w 0 0 Q := by
  refine zCl_i (M := kX0_takeNumber) rfl (Nat.le_of_ble_eq_true rfl) fun R hR => ?_
  have fr0 := wfR_rf [9, 19, 21, 26] ρ w
  obtain ⟨t_1, l_1, a_1, k_1, s_1, v_1, f_1, c_1, hT1, ht1, hTr1, hTp1⟩ := hr2
  obtain ⟨hTp1, hX1⟩ := hTp1
  (try dsimp only at hTp1)
  iterate 2 refine hR (?_ : R (_, _, _, _, _, _))
  refine hR (j_eq (by omega) (by omega) (fun hc2 => ?_) (fun hc2 => ?_))
  · skip
    iterate 5 refine hR (?_ : R (_, _, _, _, _, _))
    refine hR (k_eq (by omega) (fun hc => by omega) (fun _ => ?_))
    iterate 3 refine hR (?_ : R (_, _, _, _, _, _))
    refine hR (k_eq (by omega) (fun hc => by omega) (fun _ => ?_))
    refine hR (t_c 6 (by decide) ?_)
    refine hR (?_ : R (_, _, _, _, _, _))
    obtain ⟨x0_3, x1_3, x2_3, hO3, hk3_0, hk3_1, hk3_2, hk3_3, hk3_4, hk3_5, hk3_6⟩ := CI_o19 hw hρp
    refine hR (c_obj hT1 (zcall_i 0 0 (Nat.le_of_ble_eq_true rfl) (Nat.le_of_ble_eq_true rfl) (c_isWithin _ q 1 6 v_1 f_1 hw hρq (te_of hT1 ht1 (by omega) (by (try dsimp only); omega)) (by omega) _ fun v4 w5 hw5 g5 hp6 hp7 hp8 => ?_)))
    have fr9 := wfR_tr fr0 g5 (by decide)
    have hO10 := (g5.2 p (by rw [hρp]; decide)).trans hO3
    refine (?_ : R (_, _, (.int (Int32.ofInt v4)) :: [], w5, 0, 0))
    obtain ⟨t_11, l_11, a_11, k_11, s_11, v_11, f_11, c_11, hT11, ht11, hTr11, hTp11⟩ := hp8
    (try dsimp only at hTp11)
    have X12 := LN_fr (g5.2 p (by rw [hρp]; decide)) (g5.2 (p + 2) (by rw [hk3_4]; decide)) (g5.2 (p + 3) (by rw [hk3_5]; decide)) (g5.2 (p + 4) (by rw [hk3_6]; decide)) hX1
    iterate 3 refine hR (?_ : R (_, _, _, _, _, _))
    refine hR (j_ne (by omega) (by omega) (fun hc13 => ?_) (fun hc13 => ?_))
    · skip
      refine hR (?_ : R (_, _, _, _, _, _))
      refine hR (k_eq (by omega) (fun hc14 => ?_) (fun hc14 => ?_))
      · skip
        exact hR (zret_i rfl (Nat.le_refl _) rfl (h _ hw5 fr9 (te_of hT11 ht11 (by omega) ⟨by omega, ln_f X12 (by omega)⟩)))
      iterate 4 refine hR (?_ : R (_, _, _, _, _, _))
      refine hR (c_get hT11 rfl ?_)
      refine hR (c_obj hO10 (zcall_i 0 0 (Nat.le_of_ble_eq_true rfl) (Nat.le_of_ble_eq_true rfl) (c_keepNumber _ p a1 a2 v_11 f_11 hw5 hρp (ln_ff X12 (by omega)) (by omega) (by omega) (by omega) _ fun w15 hw15 g15 hp16 => ?_)))
      have fr17 := wfR_tr fr9 g15 (by decide)
      have hO18 := (g15.2 q (by rw [hρq]; decide)).trans hT11
      refine (?_ : R (_, _, [], w15, 0, 0))
      exact hR (zret_i rfl (Nat.le_refl _) rfl (h _ hw15 fr17 (te_of hO18 ht11 (by omega) ⟨by omega, hp16⟩)))
    refine hR (?_ : R (_, _, _, _, _, _))
    refine hR (t_c 6 (by decide) ?_)
    refine hR (j_lt (by omega) (by omega) (fun hc19 => ?_) (fun hc19 => ?_))
    rotate_left
    · skip
      iterate 2 refine hR (?_ : R (_, _, _, _, _, _))
      refine hR (c_obj hT11 (zcall_i 0 0 (Nat.le_of_ble_eq_true rfl) (Nat.le_of_ble_eq_true rfl) (c_faultHere _ q 3 v_11 hw5 hρq (te_of hT11 ht11 (by omega) (by (try dsimp only); omega)) (by omega) _ fun w25 hw25 g25 hp26 => ?_)))
      have fr27 := wfR_tr fr9 g25 (by decide)
      have hO28 := (g25.2 p (by rw [hρp]; decide)).trans hO10
      refine (?_ : R (_, _, [], w25, 0, 0))
      obtain ⟨t_29, l_29, a_29, k_29, s_29, v_29, f_29, c_29, hT29, ht29, hTr29, hTp29⟩ := hp26
      (try dsimp only at hTp29)
      have X30 := LN_fr (g25.2 p (by rw [hρp]; decide)) (g25.2 (p + 2) (by rw [hk3_4]; decide)) (g25.2 (p + 3) (by rw [hk3_5]; decide)) (g25.2 (p + 4) (by rw [hk3_6]; decide)) X12
      refine hR (?_ : R (_, _, _, _, _, _))
      exact hR (zret_i rfl (Nat.le_refl _) rfl (h _ hw25 fr27 (te_of hT29 ht29 (by omega) ⟨by omega, ln_f X30 (by omega)⟩)))
    refine hR (?_ : R (_, _, _, _, _, _))
    refine hR (k_eq (by omega) (fun hc20 => ?_) (fun hc20 => ?_))
    · skip
      exact hR (zret_i rfl (Nat.le_refl _) rfl (h _ hw5 fr9 (te_of hT11 ht11 (by omega) ⟨by omega, ln_f X12 (by omega)⟩)))
    iterate 4 refine hR (?_ : R (_, _, _, _, _, _))
    refine hR (c_get hT11 rfl ?_)
    refine hR (c_obj hO10 (zcall_i 0 0 (Nat.le_of_ble_eq_true rfl) (Nat.le_of_ble_eq_true rfl) (c_keepNumber _ p a1 a2 v_11 f_11 hw5 hρp (ln_ff X12 (by omega)) (by omega) (by omega) (by omega) _ fun w21 hw21 g21 hp22 => ?_)))
    have fr23 := wfR_tr fr9 g21 (by decide)
    have hO24 := (g21.2 q (by rw [hρq]; decide)).trans hT11
    refine (?_ : R (_, _, [], w21, 0, 0))
    exact hR (zret_i rfl (Nat.le_refl _) rfl (h _ hw21 fr23 (te_of hO24 ht11 (by omega) ⟨by omega, hp22⟩)))
  iterate 2 refine hR (?_ : R (_, _, _, _, _, _))
  refine hR (j_eq (by omega) (by omega) (fun hc31 => ?_) (fun hc31 => ?_))
  · skip
    iterate 5 refine hR (?_ : R (_, _, _, _, _, _))
    refine hR (k_eq (by omega) (fun hc => by omega) (fun _ => ?_))
    iterate 3 refine hR (?_ : R (_, _, _, _, _, _))
    refine hR (k_eq (by omega) (fun hc => by omega) (fun _ => ?_))
    refine hR (t_c 6 (by decide) ?_)
    refine hR (?_ : R (_, _, _, _, _, _))
    obtain ⟨x0_32, x1_32, x2_32, hO32, hk32_0, hk32_1, hk32_2, hk32_3, hk32_4, hk32_5, hk32_6⟩ := CI_o19 hw hρp
    refine hR (c_obj hT1 (zcall_i 0 0 (Nat.le_of_ble_eq_true rfl) (Nat.le_of_ble_eq_true rfl) (c_isWithin _ q 1 6 v_1 f_1 hw hρq (te_of hT1 ht1 (by omega) (by (try dsimp only); omega)) (by omega) _ fun v33 w34 hw34 g34 hp35 hp36 hp37 => ?_)))
    have fr38 := wfR_tr fr0 g34 (by decide)
    have hO39 := (g34.2 p (by rw [hρp]; decide)).trans hO32
    refine (?_ : R (_, _, (.int (Int32.ofInt v33)) :: [], w34, 0, 0))
    obtain ⟨t_40, l_40, a_40, k_40, s_40, v_40, f_40, c_40, hT40, ht40, hTr40, hTp40⟩ := hp37
    (try dsimp only at hTp40)
    have X41 := LN_fr (g34.2 p (by rw [hρp]; decide)) (g34.2 (p + 2) (by rw [hk32_4]; decide)) (g34.2 (p + 3) (by rw [hk32_5]; decide)) (g34.2 (p + 4) (by rw [hk32_6]; decide)) hX1
    iterate 3 refine hR (?_ : R (_, _, _, _, _, _))
    refine hR (j_ne (by omega) (by omega) (fun hc42 => ?_) (fun hc42 => ?_))
    · skip
      refine hR (?_ : R (_, _, _, _, _, _))
      refine hR (k_eq (by omega) (fun hc43 => ?_) (fun hc43 => ?_))
      · skip
        exact hR (zret_i rfl (Nat.le_refl _) rfl (h _ hw34 fr38 (te_of hT40 ht40 (by omega) ⟨by omega, ln_f X41 (by omega)⟩)))
      iterate 4 refine hR (?_ : R (_, _, _, _, _, _))
      refine hR (c_get hT40 rfl ?_)
      refine hR (c_obj hO39 (zcall_i 0 0 (Nat.le_of_ble_eq_true rfl) (Nat.le_of_ble_eq_true rfl) (c_keepNumber _ p a1 a2 v_40 f_40 hw34 hρp (ln_ff X41 (by omega)) (by omega) (by omega) (by omega) _ fun w44 hw44 g44 hp45 => ?_)))
      have fr46 := wfR_tr fr38 g44 (by decide)
      have hO47 := (g44.2 q (by rw [hρq]; decide)).trans hT40
      refine (?_ : R (_, _, [], w44, 0, 0))
      exact hR (zret_i rfl (Nat.le_refl _) rfl (h _ hw44 fr46 (te_of hO47 ht40 (by omega) ⟨by omega, hp45⟩)))
    refine hR (?_ : R (_, _, _, _, _, _))
    refine hR (t_c 6 (by decide) ?_)
    refine hR (j_lt (by omega) (by omega) (fun hc48 => ?_) (fun hc48 => ?_))
    rotate_left
    · skip
      iterate 2 refine hR (?_ : R (_, _, _, _, _, _))
      refine hR (c_obj hT40 (zcall_i 0 0 (Nat.le_of_ble_eq_true rfl) (Nat.le_of_ble_eq_true rfl) (c_faultHere _ q 3 v_40 hw34 hρq (te_of hT40 ht40 (by omega) (by (try dsimp only); omega)) (by omega) _ fun w54 hw54 g54 hp55 => ?_)))
      have fr56 := wfR_tr fr38 g54 (by decide)
      have hO57 := (g54.2 p (by rw [hρp]; decide)).trans hO39
      refine (?_ : R (_, _, [], w54, 0, 0))
      obtain ⟨t_58, l_58, a_58, k_58, s_58, v_58, f_58, c_58, hT58, ht58, hTr58, hTp58⟩ := hp55
      (try dsimp only at hTp58)
      have X59 := LN_fr (g54.2 p (by rw [hρp]; decide)) (g54.2 (p + 2) (by rw [hk32_4]; decide)) (g54.2 (p + 3) (by rw [hk32_5]; decide)) (g54.2 (p + 4) (by rw [hk32_6]; decide)) X41
      refine hR (?_ : R (_, _, _, _, _, _))
      exact hR (zret_i rfl (Nat.le_refl _) rfl (h _ hw54 fr56 (te_of hT58 ht58 (by omega) ⟨by omega, ln_f X59 (by omega)⟩)))
    refine hR (?_ : R (_, _, _, _, _, _))
    refine hR (k_eq (by omega) (fun hc49 => ?_) (fun hc49 => ?_))
    · skip
      exact hR (zret_i rfl (Nat.le_refl _) rfl (h _ hw34 fr38 (te_of hT40 ht40 (by omega) ⟨by omega, ln_f X41 (by omega)⟩)))
    iterate 4 refine hR (?_ : R (_, _, _, _, _, _))
    refine hR (c_get hT40 rfl ?_)
    refine hR (c_obj hO39 (zcall_i 0 0 (Nat.le_of_ble_eq_true rfl) (Nat.le_of_ble_eq_true rfl) (c_keepNumber _ p a1 a2 v_40 f_40 hw34 hρp (ln_ff X41 (by omega)) (by omega) (by omega) (by omega) _ fun w50 hw50 g50 hp51 => ?_)))
    have fr52 := wfR_tr fr38 g50 (by decide)
    have hO53 := (g50.2 q (by rw [hρq]; decide)).trans hT40
    refine (?_ : R (_, _, [], w50, 0, 0))
    exact hR (zret_i rfl (Nat.le_refl _) rfl (h _ hw50 fr52 (te_of hO53 ht40 (by omega) ⟨by omega, hp51⟩)))
  iterate 2 refine hR (?_ : R (_, _, _, _, _, _))
  refine hR (j_ne (by omega) (by omega) (fun hc60 => ?_) (fun hc60 => ?_))
  · skip
    iterate 4 refine hR (?_ : R (_, _, _, _, _, _))
    refine hR (k_eq (by omega) (fun _ => ?_) (fun hc => by omega))
    iterate 2 refine hR (?_ : R (_, _, _, _, _, _))
    refine hR (k_eq (by omega) (fun _ => ?_) (fun hc => by omega))
    refine hR (?_ : R (_, _, _, _, _, _))
    obtain ⟨x0_61, x1_61, x2_61, hO61, hk61_0, hk61_1, hk61_2, hk61_3, hk61_4, hk61_5, hk61_6⟩ := CI_o19 hw hρp
    refine hR (c_obj hT1 (zcall_i 0 0 (Nat.le_of_ble_eq_true rfl) (Nat.le_of_ble_eq_true rfl) (c_isWithin _ q 0 3 v_1 f_1 hw hρq (te_of hT1 ht1 (by omega) (by (try dsimp only); omega)) (by omega) _ fun v62 w63 hw63 g63 hp64 hp65 hp66 => ?_)))
    have fr67 := wfR_tr fr0 g63 (by decide)
    have hO68 := (g63.2 p (by rw [hρp]; decide)).trans hO61
    refine (?_ : R (_, _, (.int (Int32.ofInt v62)) :: [], w63, 0, 0))
    obtain ⟨t_69, l_69, a_69, k_69, s_69, v_69, f_69, c_69, hT69, ht69, hTr69, hTp69⟩ := hp66
    (try dsimp only at hTp69)
    have X70 := LN_fr (g63.2 p (by rw [hρp]; decide)) (g63.2 (p + 2) (by rw [hk61_4]; decide)) (g63.2 (p + 3) (by rw [hk61_5]; decide)) (g63.2 (p + 4) (by rw [hk61_6]; decide)) hX1
    iterate 3 refine hR (?_ : R (_, _, _, _, _, _))
    refine hR (j_ne (by omega) (by omega) (fun hc71 => ?_) (fun hc71 => ?_))
    · skip
      refine hR (?_ : R (_, _, _, _, _, _))
      refine hR (k_eq (by omega) (fun hc72 => ?_) (fun hc72 => ?_))
      · skip
        exact hR (zret_i rfl (Nat.le_refl _) rfl (h _ hw63 fr67 (te_of hT69 ht69 (by omega) ⟨by omega, ln_f X70 (by omega)⟩)))
      iterate 4 refine hR (?_ : R (_, _, _, _, _, _))
      refine hR (c_get hT69 rfl ?_)
      refine hR (c_obj hO68 (zcall_i 0 0 (Nat.le_of_ble_eq_true rfl) (Nat.le_of_ble_eq_true rfl) (c_keepNumber _ p a1 a2 v_69 f_69 hw63 hρp (ln_ff X70 (by omega)) (by omega) (by omega) (by omega) _ fun w73 hw73 g73 hp74 => ?_)))
      have fr75 := wfR_tr fr67 g73 (by decide)
      have hO76 := (g73.2 q (by rw [hρq]; decide)).trans hT69
      refine (?_ : R (_, _, [], w73, 0, 0))
      exact hR (zret_i rfl (Nat.le_refl _) rfl (h _ hw73 fr75 (te_of hO76 ht69 (by omega) ⟨by omega, hp74⟩)))
    refine hR (?_ : R (_, _, _, _, _, _))
    refine hR (t_c 6 (by decide) ?_)
    refine hR (j_lt (by omega) (by omega) (fun hc77 => ?_) (fun hc77 => ?_))
    rotate_left
    · skip
      iterate 2 refine hR (?_ : R (_, _, _, _, _, _))
      refine hR (c_obj hT69 (zcall_i 0 0 (Nat.le_of_ble_eq_true rfl) (Nat.le_of_ble_eq_true rfl) (c_faultHere _ q 3 v_69 hw63 hρq (te_of hT69 ht69 (by omega) (by (try dsimp only); omega)) (by omega) _ fun w83 hw83 g83 hp84 => ?_)))
      have fr85 := wfR_tr fr67 g83 (by decide)
      have hO86 := (g83.2 p (by rw [hρp]; decide)).trans hO68
      refine (?_ : R (_, _, [], w83, 0, 0))
      obtain ⟨t_87, l_87, a_87, k_87, s_87, v_87, f_87, c_87, hT87, ht87, hTr87, hTp87⟩ := hp84
      (try dsimp only at hTp87)
      have X88 := LN_fr (g83.2 p (by rw [hρp]; decide)) (g83.2 (p + 2) (by rw [hk61_4]; decide)) (g83.2 (p + 3) (by rw [hk61_5]; decide)) (g83.2 (p + 4) (by rw [hk61_6]; decide)) X70
      refine hR (?_ : R (_, _, _, _, _, _))
      exact hR (zret_i rfl (Nat.le_refl _) rfl (h _ hw83 fr85 (te_of hT87 ht87 (by omega) ⟨by omega, ln_f X88 (by omega)⟩)))
    refine hR (?_ : R (_, _, _, _, _, _))
    refine hR (k_eq (by omega) (fun hc78 => ?_) (fun hc78 => ?_))
    · skip
      exact hR (zret_i rfl (Nat.le_refl _) rfl (h _ hw63 fr67 (te_of hT69 ht69 (by omega) ⟨by omega, ln_f X70 (by omega)⟩)))
    iterate 4 refine hR (?_ : R (_, _, _, _, _, _))
    refine hR (c_get hT69 rfl ?_)
    refine hR (c_obj hO68 (zcall_i 0 0 (Nat.le_of_ble_eq_true rfl) (Nat.le_of_ble_eq_true rfl) (c_keepNumber _ p a1 a2 v_69 f_69 hw63 hρp (ln_ff X70 (by omega)) (by omega) (by omega) (by omega) _ fun w79 hw79 g79 hp80 => ?_)))
    have fr81 := wfR_tr fr67 g79 (by decide)
    have hO82 := (g79.2 q (by rw [hρq]; decide)).trans hT69
    refine (?_ : R (_, _, [], w79, 0, 0))
    exact hR (zret_i rfl (Nat.le_refl _) rfl (h _ hw79 fr81 (te_of hO82 ht69 (by omega) ⟨by omega, hp80⟩)))
  iterate 5 refine hR (?_ : R (_, _, _, _, _, _))
  refine hR (k_eq (by omega) (fun hc => by omega) (fun _ => ?_))
  iterate 3 refine hR (?_ : R (_, _, _, _, _, _))
  refine hR (k_eq (by omega) (fun hc => by omega) (fun _ => ?_))
  refine hR (t_c 6 (by decide) ?_)
  refine hR (?_ : R (_, _, _, _, _, _))
  obtain ⟨x0_89, x1_89, x2_89, hO89, hk89_0, hk89_1, hk89_2, hk89_3, hk89_4, hk89_5, hk89_6⟩ := CI_o19 hw hρp
  refine hR (c_obj hT1 (zcall_i 0 0 (Nat.le_of_ble_eq_true rfl) (Nat.le_of_ble_eq_true rfl) (c_isWithin _ q 1 6 v_1 f_1 hw hρq (te_of hT1 ht1 (by omega) (by (try dsimp only); omega)) (by omega) _ fun v90 w91 hw91 g91 hp92 hp93 hp94 => ?_)))
  have fr95 := wfR_tr fr0 g91 (by decide)
  have hO96 := (g91.2 p (by rw [hρp]; decide)).trans hO89
  refine (?_ : R (_, _, (.int (Int32.ofInt v90)) :: [], w91, 0, 0))
  obtain ⟨t_97, l_97, a_97, k_97, s_97, v_97, f_97, c_97, hT97, ht97, hTr97, hTp97⟩ := hp94
  (try dsimp only at hTp97)
  have X98 := LN_fr (g91.2 p (by rw [hρp]; decide)) (g91.2 (p + 2) (by rw [hk89_4]; decide)) (g91.2 (p + 3) (by rw [hk89_5]; decide)) (g91.2 (p + 4) (by rw [hk89_6]; decide)) hX1
  iterate 3 refine hR (?_ : R (_, _, _, _, _, _))
  refine hR (j_ne (by omega) (by omega) (fun hc99 => ?_) (fun hc99 => ?_))
  · skip
    refine hR (?_ : R (_, _, _, _, _, _))
    refine hR (k_eq (by omega) (fun hc100 => ?_) (fun hc100 => ?_))
    · skip
      exact hR (zret_i rfl (Nat.le_refl _) rfl (h _ hw91 fr95 (te_of hT97 ht97 (by omega) ⟨by omega, ln_f X98 (by omega)⟩)))
    iterate 4 refine hR (?_ : R (_, _, _, _, _, _))
    refine hR (c_get hT97 rfl ?_)
    refine hR (c_obj hO96 (zcall_i 0 0 (Nat.le_of_ble_eq_true rfl) (Nat.le_of_ble_eq_true rfl) (c_keepNumber _ p a1 a2 v_97 f_97 hw91 hρp (ln_ff X98 (by omega)) (by omega) (by omega) (by omega) _ fun w101 hw101 g101 hp102 => ?_)))
    have fr103 := wfR_tr fr95 g101 (by decide)
    have hO104 := (g101.2 q (by rw [hρq]; decide)).trans hT97
    refine (?_ : R (_, _, [], w101, 0, 0))
    exact hR (zret_i rfl (Nat.le_refl _) rfl (h _ hw101 fr103 (te_of hO104 ht97 (by omega) ⟨by omega, hp102⟩)))
  refine hR (?_ : R (_, _, _, _, _, _))
  refine hR (t_c 6 (by decide) ?_)
  refine hR (j_lt (by omega) (by omega) (fun hc105 => ?_) (fun hc105 => ?_))
  rotate_left
  · skip
    iterate 2 refine hR (?_ : R (_, _, _, _, _, _))
    refine hR (c_obj hT97 (zcall_i 0 0 (Nat.le_of_ble_eq_true rfl) (Nat.le_of_ble_eq_true rfl) (c_faultHere _ q 3 v_97 hw91 hρq (te_of hT97 ht97 (by omega) (by (try dsimp only); omega)) (by omega) _ fun w111 hw111 g111 hp112 => ?_)))
    have fr113 := wfR_tr fr95 g111 (by decide)
    have hO114 := (g111.2 p (by rw [hρp]; decide)).trans hO96
    refine (?_ : R (_, _, [], w111, 0, 0))
    obtain ⟨t_115, l_115, a_115, k_115, s_115, v_115, f_115, c_115, hT115, ht115, hTr115, hTp115⟩ := hp112
    (try dsimp only at hTp115)
    have X116 := LN_fr (g111.2 p (by rw [hρp]; decide)) (g111.2 (p + 2) (by rw [hk89_4]; decide)) (g111.2 (p + 3) (by rw [hk89_5]; decide)) (g111.2 (p + 4) (by rw [hk89_6]; decide)) X98
    refine hR (?_ : R (_, _, _, _, _, _))
    exact hR (zret_i rfl (Nat.le_refl _) rfl (h _ hw111 fr113 (te_of hT115 ht115 (by omega) ⟨by omega, ln_f X116 (by omega)⟩)))
  refine hR (?_ : R (_, _, _, _, _, _))
  refine hR (k_eq (by omega) (fun hc106 => ?_) (fun hc106 => ?_))
  · skip
    exact hR (zret_i rfl (Nat.le_refl _) rfl (h _ hw91 fr95 (te_of hT97 ht97 (by omega) ⟨by omega, ln_f X98 (by omega)⟩)))
  iterate 4 refine hR (?_ : R (_, _, _, _, _, _))
  refine hR (c_get hT97 rfl ?_)
  refine hR (c_obj hO96 (zcall_i 0 0 (Nat.le_of_ble_eq_true rfl) (Nat.le_of_ble_eq_true rfl) (c_keepNumber _ p a1 a2 v_97 f_97 hw91 hρp (ln_ff X98 (by omega)) (by omega) (by omega) (by omega) _ fun w107 hw107 g107 hp108 => ?_)))
  have fr109 := wfR_tr fr95 g107 (by decide)
  have hO110 := (g107.2 q (by rw [hρq]; decide)).trans hT97
  refine (?_ : R (_, _, [], w107, 0, 0))
  exact hR (zret_i rfl (Nat.le_refl _) rfl (h _ hw107 fr109 (te_of hO110 ht97 (by omega) ⟨by omega, hp108⟩)))
theorem c_lineOf_b {ρ : Nat → Nat} {w : zW} (d : Nat) (p q : Nat) (hw : CI ρ w) (hρp : ρ p = 19) (hρq : ρ q = 9) (hr0 : TE ρ w q (fun l a s v f => 0 ≤ s ∧ s ≤ a ∧ a ≤ l ∧ l ≤ 600)) (Q : zQ) (h : ∀ (v : Int), (-1 ≤ v ∧ v ≤ 7) → Q (some (.int (Int32.ofInt v))) w) : zCl zTab (d + 6) iX0_lineOf [.ref p, .ref q] w 0 0 Q := by
  refine zCl_i (M := kX0_lineOf) rfl (Nat.le_of_ble_eq_true rfl) fun R hR => ?_
  have fr0 := wfR_rf [] ρ w
  obtain ⟨t_1, l_1, a_1, k_1, s_1, v_1, f_1, c_1, hT1, ht1, hTr1, hTp1⟩ := hr0
  (try dsimp only at hTp1)
  iterate 2 refine hR (?_ : R (_, _, _, _, _, _))
  refine hR (c_obj hT1 (zcall_i 0 0 (Nat.le_of_ble_eq_true rfl) (Nat.le_of_ble_eq_true rfl) (c_isAtHand _ q 1 hw hρq (te_of hT1 ht1 (by omega) (by (try dsimp only); omega)) rfl _ fun v2 hp4 => ?_)))
  refine (?_ : R (_, _, (.int (Int32.ofInt v2)) :: [], w, 0, 0))
  refine hR (k_eq (by omega) (fun hc5 => ?_) (fun hc5 => ?_))
  rotate_left
  · skip
    refine hR (?_ : R (_, _, _, _, _, _))
    exact hR (zret_i rfl (Nat.le_refl _) trivial (h _ (by omega)))
  iterate 2 refine hR (?_ : R (_, _, _, _, _, _))
  refine hR (c_obj hT1 (zcall_i 0 0 (Nat.le_of_ble_eq_true rfl) (Nat.le_of_ble_eq_true rfl) (c_isAtHand _ q 2 hw hρq (te_of hT1 ht1 (by omega) (by (try dsimp only); omega)) rfl _ fun v6 hp8 => ?_)))
  refine (?_ : R (_, _, (.int (Int32.ofInt v6)) :: [], w, 0, 0))
  refine hR (k_eq (by omega) (fun hc9 => ?_) (fun hc9 => ?_))
  rotate_left
  · skip
    refine hR (?_ : R (_, _, _, _, _, _))
    exact hR (zret_i rfl (Nat.le_refl _) trivial (h _ (by omega)))
  iterate 2 refine hR (?_ : R (_, _, _, _, _, _))
  refine hR (c_obj hT1 (zcall_i 0 0 (Nat.le_of_ble_eq_true rfl) (Nat.le_of_ble_eq_true rfl) (c_isAtHand _ q 3 hw hρq (te_of hT1 ht1 (by omega) (by (try dsimp only); omega)) rfl _ fun v10 hp12 => ?_)))
  refine (?_ : R (_, _, (.int (Int32.ofInt v10)) :: [], w, 0, 0))
  refine hR (k_eq (by omega) (fun hc13 => ?_) (fun hc13 => ?_))
  rotate_left
  · skip
    refine hR (?_ : R (_, _, _, _, _, _))
    exact hR (zret_i rfl (Nat.le_refl _) trivial (h _ (by omega)))
  iterate 2 refine hR (?_ : R (_, _, _, _, _, _))
  refine hR (c_obj hT1 (zcall_i 0 0 (Nat.le_of_ble_eq_true rfl) (Nat.le_of_ble_eq_true rfl) (c_isAtHand _ q 4 hw hρq (te_of hT1 ht1 (by omega) (by (try dsimp only); omega)) rfl _ fun v14 hp16 => ?_)))
  refine (?_ : R (_, _, (.int (Int32.ofInt v14)) :: [], w, 0, 0))
  refine hR (k_eq (by omega) (fun hc17 => ?_) (fun hc17 => ?_))
  rotate_left
  · skip
    refine hR (?_ : R (_, _, _, _, _, _))
    exact hR (zret_i rfl (Nat.le_refl _) trivial (h _ (by omega)))
  iterate 2 refine hR (?_ : R (_, _, _, _, _, _))
  refine hR (c_obj hT1 (zcall_i 0 0 (Nat.le_of_ble_eq_true rfl) (Nat.le_of_ble_eq_true rfl) (c_isAtHand _ q 5 hw hρq (te_of hT1 ht1 (by omega) (by (try dsimp only); omega)) rfl _ fun v18 hp20 => ?_)))
  refine (?_ : R (_, _, (.int (Int32.ofInt v18)) :: [], w, 0, 0))
  refine hR (k_eq (by omega) (fun hc21 => ?_) (fun hc21 => ?_))
  rotate_left
  · skip
    refine hR (?_ : R (_, _, _, _, _, _))
    exact hR (zret_i rfl (Nat.le_refl _) trivial (h _ (by omega)))
  iterate 2 refine hR (?_ : R (_, _, _, _, _, _))
  refine hR (c_obj hT1 (zcall_i 0 0 (Nat.le_of_ble_eq_true rfl) (Nat.le_of_ble_eq_true rfl) (c_isAtHand _ q 6 hw hρq (te_of hT1 ht1 (by omega) (by (try dsimp only); omega)) rfl _ fun v22 hp24 => ?_)))
  refine (?_ : R (_, _, (.int (Int32.ofInt v22)) :: [], w, 0, 0))
  refine hR (k_eq (by omega) (fun hc25 => ?_) (fun hc25 => ?_))
  rotate_left
  · skip
    refine hR (?_ : R (_, _, _, _, _, _))
    exact hR (zret_i rfl (Nat.le_refl _) trivial (h _ (by omega)))
  iterate 2 refine hR (?_ : R (_, _, _, _, _, _))
  refine hR (c_obj hT1 (zcall_i 0 0 (Nat.le_of_ble_eq_true rfl) (Nat.le_of_ble_eq_true rfl) (c_isAtHand _ q 7 hw hρq (te_of hT1 ht1 (by omega) (by (try dsimp only); omega)) rfl _ fun v26 hp28 => ?_)))
  refine (?_ : R (_, _, (.int (Int32.ofInt v26)) :: [], w, 0, 0))
  refine hR (k_eq (by omega) (fun hc29 => ?_) (fun hc29 => ?_))
  rotate_left
  · skip
    refine hR (t_c 6 (by decide) ?_)
    exact hR (zret_i rfl (Nat.le_refl _) trivial (h _ (by omega)))
  iterate 2 refine hR (?_ : R (_, _, _, _, _, _))
  refine hR (c_obj hT1 (zcall_i 0 0 (Nat.le_of_ble_eq_true rfl) (Nat.le_of_ble_eq_true rfl) (c_isAtHand _ q 8 hw hρq (te_of hT1 ht1 (by omega) (by (try dsimp only); omega)) rfl _ fun v30 hp32 => ?_)))
  refine (?_ : R (_, _, (.int (Int32.ofInt v30)) :: [], w, 0, 0))
  refine hR (k_eq (by omega) (fun hc33 => ?_) (fun hc33 => ?_))
  · skip
    refine hR (?_ : R (_, _, _, _, _, _))
    exact hR (zret_i rfl (Nat.le_refl _) trivial (h _ (by omega)))
  refine hR (t_c 7 (by decide) ?_)
  refine hR (?_ : R (_, _, _, _, _, _))
  exact hR (zret_i rfl (Nat.le_refl _) trivial (h _ (by omega)))
theorem c_mostNumbers_b {ρ : Nat → Nat} {w : zW} (d : Nat) (p : Nat) (a1 : Int) (hw : CI ρ w) (hρp : ρ p = 19) (hr0 : 0 ≤ a1 ∧ a1 ≤ 7) (Q : zQ) (h : ∀ (v : Int), ((a1 = 5 ∧ v = 600) ∨ (a1 = 6 ∧ v = 2) ∨ ((a1 = 7 ∨ a1 = 4) ∧ v = 0) ∨ ((a1 = 0 ∨ a1 = 1 ∨ a1 = 2 ∨ a1 = 3) ∧ v = 1)) → Q (some (.int (Int32.ofInt v))) w) : zCl zTab (d + 1) iX0_mostNumbers [.ref p, .int (Int32.ofInt a1)] w 0 0 Q := by
  refine zCl_i (M := kX0_mostNumbers) rfl (Nat.le_of_ble_eq_true rfl) fun R hR => ?_
  have fr0 := wfR_rf [] ρ w
  refine hR (?_ : R (_, _, _, _, _, _))
  refine hR (?_ : _ ∧ _)
  rw [zti (e := a1) (by omega) (by omega)]
  refine ⟨fun hs1 => ?_, fun hs1 => ?_⟩
  · skip
    refine hR (?_ : R (_, _, _, _, _, _))
    exact hR (zret_i rfl (Nat.le_refl _) trivial (h _ (by omega)))
  · skip
    have hs1d : a1 = 4 ∨ a1 = 5 ∨ a1 = 6 ∨ a1 = 7 := by omega
    rcases hs1d with hs1e | hs1e | hs1e | hs1e
    · refine ⟨39, by rw [hs1e]; rfl, (?_ : R (_, _, _, _, _, _))⟩
      refine hR (?_ : R (_, _, _, _, _, _))
      exact hR (zret_i rfl (Nat.le_refl _) trivial (h _ (by omega)))
    · refine ⟨31, by rw [hs1e]; rfl, (?_ : R (_, _, _, _, _, _))⟩
      refine hR (t_c 600 (by decide) ?_)
      exact hR (zret_i rfl (Nat.le_refl _) trivial (h _ (by omega)))
    · refine ⟨35, by rw [hs1e]; rfl, (?_ : R (_, _, _, _, _, _))⟩
      refine hR (?_ : R (_, _, _, _, _, _))
      exact hR (zret_i rfl (Nat.le_refl _) trivial (h _ (by omega)))
    · refine ⟨37, by rw [hs1e]; rfl, (?_ : R (_, _, _, _, _, _))⟩
      refine hR (?_ : R (_, _, _, _, _, _))
      exact hR (zret_i rfl (Nat.le_refl _) trivial (h _ (by omega)))
theorem c_fewestNumbers_b {ρ : Nat → Nat} {w : zW} (d : Nat) (p : Nat) (a1 : Int) (hw : CI ρ w) (hρp : ρ p = 19) (hr0 : 0 ≤ a1 ∧ a1 ≤ 7) (Q : zQ) (h : ∀ (v : Int), ((a1 = 5 ∧ v = 0) ∨ (a1 = 6 ∧ v = 2) ∨ ((a1 = 7 ∨ a1 = 4) ∧ v = 0) ∨ ((a1 = 0 ∨ a1 = 1 ∨ a1 = 2 ∨ a1 = 3) ∧ v = 1)) → Q (some (.int (Int32.ofInt v))) w) : zCl zTab (d + 2) iX0_fewestNumbers [.ref p, .int (Int32.ofInt a1)] w 0 0 Q := by
  refine zCl_i (M := kX0_fewestNumbers) rfl (Nat.le_of_ble_eq_true rfl) fun R hR => ?_
  have fr0 := wfR_rf [] ρ w
  iterate 2 refine hR (?_ : R (_, _, _, _, _, _))
  refine hR (j_ne (by omega) (by omega) (fun hc1 => ?_) (fun hc1 => ?_))
  rotate_left
  · skip
    iterate 2 refine hR (?_ : R (_, _, _, _, _, _))
    exact hR (zret_i rfl (Nat.le_refl _) trivial (h _ (by omega)))
  iterate 2 refine hR (?_ : R (_, _, _, _, _, _))
  obtain ⟨x0_5, x1_5, x2_5, hO5, hk5_0, hk5_1, hk5_2, hk5_3, hk5_4, hk5_5, hk5_6⟩ := CI_o19 hw hρp
  refine hR (c_obj hO5 (zcall_i 0 0 (Nat.le_of_ble_eq_true rfl) (Nat.le_of_ble_eq_true rfl) (c_mostNumbers_b _ p a1 hw hρp (by omega) _ fun v2 hp4 => ?_)))
  refine (?_ : R (_, _, (.int (Int32.ofInt v2)) :: [], w, 0, 0))
  exact hR (zret_i rfl (Nat.le_refl _) trivial (h _ (by omega)))
theorem c_lineOf_y {ρ : Nat → Nat} {w : zW} (d : Nat) (p q : Nat) (hw : CI ρ w) (hρp : ρ p = 30) (hρq : ρ q = 9) (hr0 : TE ρ w q (fun l a s v f => 0 ≤ s ∧ s ≤ a ∧ a ≤ l ∧ l ≤ 600)) (Q : zQ) (h : ∀ (v : Int), (-1 ≤ v ∧ v ≤ 5) → Q (some (.int (Int32.ofInt v))) w) : zCl zTab (d + 6) iX10_lineOf [.ref p, .ref q] w 0 0 Q := by
  refine zCl_i (M := kX10_lineOf) rfl (Nat.le_of_ble_eq_true rfl) fun R hR => ?_
  have fr0 := wfR_rf [] ρ w
  obtain ⟨t_1, l_1, a_1, k_1, s_1, v_1, f_1, c_1, hT1, ht1, hTr1, hTp1⟩ := hr0
  (try dsimp only at hTp1)
  iterate 2 refine hR (?_ : R (_, _, _, _, _, _))
  refine hR (c_obj hT1 (zcall_i 0 0 (Nat.le_of_ble_eq_true rfl) (Nat.le_of_ble_eq_true rfl) (c_isAtHand _ q 10 hw hρq (te_of hT1 ht1 (by omega) (by (try dsimp only); omega)) rfl _ fun v2 hp4 => ?_)))
  refine (?_ : R (_, _, (.int (Int32.ofInt v2)) :: [], w, 0, 0))
  refine hR (k_eq (by omega) (fun hc5 => ?_) (fun hc5 => ?_))
  rotate_left
  · skip
    refine hR (?_ : R (_, _, _, _, _, _))
    exact hR (zret_i rfl (Nat.le_refl _) trivial (h _ (by omega)))
  iterate 2 refine hR (?_ : R (_, _, _, _, _, _))
  refine hR (c_obj hT1 (zcall_i 0 0 (Nat.le_of_ble_eq_true rfl) (Nat.le_of_ble_eq_true rfl) (c_isAtHand _ q 11 hw hρq (te_of hT1 ht1 (by omega) (by (try dsimp only); omega)) rfl _ fun v6 hp8 => ?_)))
  refine (?_ : R (_, _, (.int (Int32.ofInt v6)) :: [], w, 0, 0))
  refine hR (k_eq (by omega) (fun hc9 => ?_) (fun hc9 => ?_))
  rotate_left
  · skip
    refine hR (?_ : R (_, _, _, _, _, _))
    exact hR (zret_i rfl (Nat.le_refl _) trivial (h _ (by omega)))
  iterate 2 refine hR (?_ : R (_, _, _, _, _, _))
  refine hR (c_obj hT1 (zcall_i 0 0 (Nat.le_of_ble_eq_true rfl) (Nat.le_of_ble_eq_true rfl) (c_isAtHand _ q 12 hw hρq (te_of hT1 ht1 (by omega) (by (try dsimp only); omega)) rfl _ fun v10 hp12 => ?_)))
  refine (?_ : R (_, _, (.int (Int32.ofInt v10)) :: [], w, 0, 0))
  refine hR (k_eq (by omega) (fun hc13 => ?_) (fun hc13 => ?_))
  rotate_left
  · skip
    refine hR (?_ : R (_, _, _, _, _, _))
    exact hR (zret_i rfl (Nat.le_refl _) trivial (h _ (by omega)))
  iterate 2 refine hR (?_ : R (_, _, _, _, _, _))
  refine hR (c_obj hT1 (zcall_i 0 0 (Nat.le_of_ble_eq_true rfl) (Nat.le_of_ble_eq_true rfl) (c_isAtHand _ q 13 hw hρq (te_of hT1 ht1 (by omega) (by (try dsimp only); omega)) rfl _ fun v14 hp16 => ?_)))
  refine (?_ : R (_, _, (.int (Int32.ofInt v14)) :: [], w, 0, 0))
  refine hR (k_eq (by omega) (fun hc17 => ?_) (fun hc17 => ?_))
  rotate_left
  · skip
    refine hR (?_ : R (_, _, _, _, _, _))
    exact hR (zret_i rfl (Nat.le_refl _) trivial (h _ (by omega)))
  iterate 2 refine hR (?_ : R (_, _, _, _, _, _))
  refine hR (c_obj hT1 (zcall_i 0 0 (Nat.le_of_ble_eq_true rfl) (Nat.le_of_ble_eq_true rfl) (c_isAtHand _ q 14 hw hρq (te_of hT1 ht1 (by omega) (by (try dsimp only); omega)) rfl _ fun v18 hp20 => ?_)))
  refine (?_ : R (_, _, (.int (Int32.ofInt v18)) :: [], w, 0, 0))
  refine hR (k_eq (by omega) (fun hc21 => ?_) (fun hc21 => ?_))
  rotate_left
  · skip
    refine hR (?_ : R (_, _, _, _, _, _))
    exact hR (zret_i rfl (Nat.le_refl _) trivial (h _ (by omega)))
  iterate 2 refine hR (?_ : R (_, _, _, _, _, _))
  refine hR (c_obj hT1 (zcall_i 0 0 (Nat.le_of_ble_eq_true rfl) (Nat.le_of_ble_eq_true rfl) (c_isAtHand _ q 15 hw hρq (te_of hT1 ht1 (by omega) (by (try dsimp only); omega)) rfl _ fun v22 hp24 => ?_)))
  refine (?_ : R (_, _, (.int (Int32.ofInt v22)) :: [], w, 0, 0))
  refine hR (k_eq (by omega) (fun hc25 => ?_) (fun hc25 => ?_))
  · skip
    refine hR (?_ : R (_, _, _, _, _, _))
    exact hR (zret_i rfl (Nat.le_refl _) trivial (h _ (by omega)))
  iterate 2 refine hR (?_ : R (_, _, _, _, _, _))
  exact hR (zret_i rfl (Nat.le_refl _) trivial (h _ (by omega)))
theorem c_mostNumbers_y {ρ : Nat → Nat} {w : zW} (d : Nat) (p : Nat) (a1 : Int) (hw : CI ρ w) (hρp : ρ p = 30) (hr0 : 0 ≤ a1 ∧ a1 ≤ 7) (Q : zQ) (h : ∀ (v : Int), (0 ≤ v ∧ v ≤ 600) → Q (some (.int (Int32.ofInt v))) w) : zCl zTab (d + 1) iX10_mostNumbers [.ref p, .int (Int32.ofInt a1)] w 0 0 Q := by
  refine zCl_i (M := kX10_mostNumbers) rfl (Nat.le_of_ble_eq_true rfl) fun R hR => ?_
  have fr0 := wfR_rf [] ρ w
  refine hR (?_ : R (_, _, _, _, _, _))
  have hl1 : a1 = 0 ∨ a1 = 1 ∨ a1 = 5 ∨ (a1 ≠ 0 ∧ a1 ≠ 1 ∧ a1 ≠ 5) := by omega
  rcases hl1 with hl1 | hl1 | hl1 | hl1
  · refine hR (t_pc (pc2 := 36) (by rw [zti (e := a1) (by omega) (by omega)]; show (((1 : Nat) : Int) + Op.lookupswitch.offset [(0, 35), (1, 37), (5, 39)] 41 a1).toNat = 36; simp only [Op.lookupswitch.offset_cons]; (repeat' split) <;> first | omega | rfl) ?_)
    refine hR (?_ : R (_, _, _, _, _, _))
    exact hR (zret_i rfl (Nat.le_refl _) trivial (h _ (by omega)))
  · refine hR (t_pc (pc2 := 38) (by rw [zti (e := a1) (by omega) (by omega)]; show (((1 : Nat) : Int) + Op.lookupswitch.offset [(0, 35), (1, 37), (5, 39)] 41 a1).toNat = 38; simp only [Op.lookupswitch.offset_cons]; (repeat' split) <;> first | omega | rfl) ?_)
    refine hR (?_ : R (_, _, _, _, _, _))
    exact hR (zret_i rfl (Nat.le_refl _) trivial (h _ (by omega)))
  · refine hR (t_pc (pc2 := 40) (by rw [zti (e := a1) (by omega) (by omega)]; show (((1 : Nat) : Int) + Op.lookupswitch.offset [(0, 35), (1, 37), (5, 39)] 41 a1).toNat = 40; simp only [Op.lookupswitch.offset_cons]; (repeat' split) <;> first | omega | rfl) ?_)
    refine hR (?_ : R (_, _, _, _, _, _))
    exact hR (zret_i rfl (Nat.le_refl _) trivial (h _ (by omega)))
  · refine hR (t_pc (pc2 := 42) (by rw [zti (e := a1) (by omega) (by omega)]; show (((1 : Nat) : Int) + Op.lookupswitch.offset [(0, 35), (1, 37), (5, 39)] 41 a1).toNat = 42; simp only [Op.lookupswitch.offset_cons]; (repeat' split) <;> first | omega | rfl) ?_)
    refine hR (?_ : R (_, _, _, _, _, _))
    exact hR (zret_i rfl (Nat.le_refl _) trivial (h _ (by omega)))
theorem c_fewestNumbers_y {ρ : Nat → Nat} {w : zW} (d : Nat) (p : Nat) (a1 : Int) (hw : CI ρ w) (hρp : ρ p = 30) (hr0 : 0 ≤ a1 ∧ a1 ≤ 7) (Q : zQ) (h : ∀ (v : Int), (0 ≤ v ∧ v ≤ 600) → Q (some (.int (Int32.ofInt v))) w) : zCl zTab (d + 2) iX10_fewestNumbers [.ref p, .int (Int32.ofInt a1)] w 0 0 Q := by
  refine zCl_i (M := kX10_fewestNumbers) rfl (Nat.le_of_ble_eq_true rfl) fun R hR => ?_
  have fr0 := wfR_rf [] ρ w
  iterate 2 refine hR (?_ : R (_, _, _, _, _, _))
  obtain ⟨x0_4, hO4, hk4_0, hk4_1, hk4_2, hk4_3⟩ := CI_o30 hw hρp
  refine hR (c_obj hO4 (zcall_i 0 0 (Nat.le_of_ble_eq_true rfl) (Nat.le_of_ble_eq_true rfl) (c_mostNumbers_y _ p a1 hw hρp (by omega) _ fun v1 hp3 => ?_)))
  refine (?_ : R (_, _, (.int (Int32.ofInt v1)) :: [], w, 0, 0))
  exact hR (zret_i rfl (Nat.le_refl _) trivial (h _ (by omega)))
theorem c_beginLine_y {ρ : Nat → Nat} {w : zW} (d : Nat) (p q : Nat) (a1 : Int) (hw : CI ρ w) (hρp : ρ p = 30) (hρq : ρ q = 9) (hr0 : 0 ≤ a1 ∧ a1 ≤ 7) (hr1 : TE ρ w q (fun l a s v f => 0 ≤ s ∧ s ≤ a ∧ a ≤ l ∧ l ≤ 600)) (Q : zQ) (h : ∀ (w' : zW), CI ρ w' → wfR [9, 30, 31, 32, 33] ρ w w' → (TE ρ w' q (fun l a s v f => 0 ≤ s ∧ s ≤ a ∧ a ≤ l ∧ l ≤ 600)) → Q (none) w') : zCl zTab (d + 2) iX10_beginLine [.ref p, .int (Int32.ofInt a1), .ref q] w 0 0 Q := by
  refine zCl_i (M := kX10_beginLine) rfl (Nat.le_of_ble_eq_true rfl) fun R hR => ?_
  have fr0 := wfR_rf [9, 30, 31, 32, 33] ρ w
  obtain ⟨t_1, l_1, a_1, k_1, s_1, v_1, f_1, c_1, hT1, ht1, hTr1, hTp1⟩ := hr1
  (try dsimp only at hTp1)
  refine hR (?_ : R (_, _, _, _, _, _))
  obtain ⟨x0_2, hO2, hk2_0, hk2_1, hk2_2, hk2_3⟩ := CI_o30 hw hρp
  refine hR (c_get hO2 rfl ?_)
  refine hR (t_c 40 (by decide) ?_)
  refine hR (j_lt (by omega) (by omega) (fun hc3 => ?_) (fun hc3 => ?_))
  rotate_left
  · skip
    iterate 2 refine hR (?_ : R (_, _, _, _, _, _))
    refine hR (c_obj hT1 (zcall_i 0 0 (Nat.le_of_ble_eq_true rfl) (Nat.le_of_ble_eq_true rfl) (c_faultHere _ q 3 v_1 hw hρq (te_of hT1 ht1 (by omega) (by (try dsimp only); omega)) (by omega) _ fun w19 hw19 g19 hp20 => ?_)))
    have fr21 := wfR_tr fr0 g19 (by decide)
    have hO22 := (g19.2 p (by rw [hρp]; decide)).trans hO2
    refine (?_ : R (_, _, [], w19, 0, 0))
    obtain ⟨t_23, l_23, a_23, k_23, s_23, v_23, f_23, c_23, hT23, ht23, hTr23, hTp23⟩ := hp20
    (try dsimp only at hTp23)
    exact hR (zret_i rfl (Nat.le_refl _) rfl (h _ hw19 fr21 (te_of hT23 ht23 (by omega) (by (try dsimp only); omega))))
  refine hR (?_ : R (_, _, _, _, _, _))
  refine hR (c_get hO2 rfl ?_)
  refine hR (?_ : R (_, _, _, _, _, _))
  refine hR (c_get hO2 rfl ?_)
  refine hR (?_ : R (_, _, _, _, _, _))
  refine hR (c_astx hw (by rw [hk2_1]; rfl) ⟨by rw [hk2_1]; decide, by rw [hk2_1]; decide⟩ (by omega) (by omega) (Nat.le_of_ble_eq_true rfl) fun w4 hw4 f4 => ?_)
  have fr5 := wfR_st fr0 f4 (by rw [hk2_1]; decide)
  have hO6 := (f4.2 q (rne hρq hk2_1 (by decide))).trans hT1
  have hO7 := (f4.2 p (rne hρp hk2_1 (by decide))).trans hO2
  refine hR (?_ : R (_, _, _, _, _, _))
  refine hR (c_get hO7 rfl ?_)
  refine hR (?_ : R (_, _, _, _, _, _))
  refine hR (c_get hO7 rfl ?_)
  refine hR (?_ : R (_, _, _, _, _, _))
  refine hR (c_astx hw4 (by rw [hk2_2]; rfl) ⟨by rw [hk2_2]; decide, by rw [hk2_2]; decide⟩ (by omega) (by omega) (Nat.le_of_ble_eq_true rfl) fun w8 hw8 f8 => ?_)
  have fr9 := wfR_st fr5 f8 (by rw [hk2_2]; decide)
  have hO10 := (f8.2 q (rne hρq hk2_2 (by decide))).trans hO6
  have hO11 := (f8.2 p (rne hρp hk2_2 (by decide))).trans hO7
  refine hR (?_ : R (_, _, _, _, _, _))
  refine hR (c_get hO11 rfl ?_)
  refine hR (?_ : R (_, _, _, _, _, _))
  refine hR (c_get hO11 rfl ?_)
  refine hR (?_ : R (_, _, _, _, _, _))
  refine hR (c_astx hw8 (by rw [hk2_3]; rfl) ⟨by rw [hk2_3]; decide, by rw [hk2_3]; decide⟩ (by omega) (by omega) (Nat.le_of_ble_eq_true rfl) fun w12 hw12 f12 => ?_)
  have fr13 := wfR_st fr9 f12 (by rw [hk2_3]; decide)
  have hO14 := (f12.2 q (rne hρq hk2_3 (by decide))).trans hO10
  have hO15 := (f12.2 p (rne hρp hk2_3 (by decide))).trans hO11
  iterate 2 refine hR (?_ : R (_, _, _, _, _, _))
  refine hR (c_get hO15 rfl ?_)
  refine hR (?_ : R (_, _, _, _, _, _))
  refine hR (t_add ?_)
  refine hR (c_put hO15 rfl rfl fun w16 f16 hO16 => ?_)
  have hw16 := CI_w30 hw12 hρp f16 hO16 ⟨⟨by omega, by omega⟩, hk2_1, hk2_2, hk2_3⟩
  have fr17 := wfR_st fr13 f16 (by rw [hρp]; decide)
  have hO18 := (f16.2 q (rne hρq hρp (by decide))).trans hO14
  exact hR (zret_i rfl (Nat.le_refl _) rfl (h _ hw16 fr17 (te_of hO18 ht1 (by omega) (by (try dsimp only); omega))))
theorem c_takeNumber_y {ρ : Nat → Nat} {w : zW} (d : Nat) (p q : Nat) (a1 a2 : Int) (hw : CI ρ w) (hρp : ρ p = 30) (hρq : ρ q = 9) (hr0 : 0 ≤ a2 ∧ a2 ≤ 600) (hr1 : 0 ≤ a1 ∧ a1 ≤ 7) (hr2 : TE ρ w q (fun l a s v f => 0 ≤ s ∧ s ≤ a ∧ a ≤ l ∧ l ≤ 600)) (Q : zQ) (h : ∀ (w' : zW), CI ρ w' → wfR [9, 32, 33] ρ w w' → (TE ρ w' q (fun l a s v f => 0 ≤ s ∧ s ≤ a ∧ a ≤ l ∧ l ≤ 600)) → Q (none) w') : zCl zTab (d + 3) iX10_takeNumber [.ref p, .int (Int32.ofInt a1), .int (Int32.ofInt a2), .ref q] w 0 0 Q := by
  refine zCl_i (M := kX10_takeNumber) rfl (Nat.le_of_ble_eq_true rfl) fun R hR => ?_
  have fr0 := wfR_rf [9, 32, 33] ρ w
  obtain ⟨t_1, l_1, a_1, k_1, s_1, v_1, f_1, c_1, hT1, ht1, hTr1, hTp1⟩ := hr2
  (try dsimp only at hTp1)
  refine hR (?_ : R (_, _, _, _, _, _))
  obtain ⟨x0_2, hO2, hk2_0, hk2_1, hk2_2, hk2_3⟩ := CI_o30 hw hρp
  refine hR (c_get hO2 rfl ?_)
  refine hR (?_ : R (_, _, _, _, _, _))
  refine hR (t_sub ?_)
  iterate 2 refine hR (?_ : R (_, _, _, _, _, _))
  refine hR (k_ne (by omega) (fun hc3 => ?_) (fun hc3 => ?_))
  · skip
    iterate 5 refine hR (?_ : R (_, _, _, _, _, _))
    refine hR (k_eq (by omega) (fun _ => ?_) (fun hc => by omega))
    refine hR (?_ : R (_, _, _, _, _, _))
    refine hR (c_obj hT1 (zcall_i 0 0 (Nat.le_of_ble_eq_true rfl) (Nat.le_of_ble_eq_true rfl) (c_isWithin _ q 0 3 v_1 f_1 hw hρq (te_of hT1 ht1 (by omega) (by (try dsimp only); omega)) (by omega) _ fun v4 w5 hw5 g5 hp6 hp7 hp8 => ?_)))
    have fr9 := wfR_tr fr0 g5 (by decide)
    have hO10 := (g5.2 p (by rw [hρp]; decide)).trans hO2
    refine (?_ : R (_, _, (.int (Int32.ofInt v4)) :: [], w5, 0, 0))
    obtain ⟨t_11, l_11, a_11, k_11, s_11, v_11, f_11, c_11, hT11, ht11, hTr11, hTp11⟩ := hp8
    (try dsimp only at hTp11)
    refine hR (k_eq (by omega) (fun hc12 => ?_) (fun hc12 => ?_))
    · skip
      exact hR (zret_i rfl (Nat.le_refl _) rfl (h _ hw5 fr9 (te_of hT11 ht11 (by omega) (by (try dsimp only); omega))))
    refine hR (?_ : R (_, _, _, _, _, _))
    refine hR (k_ge (by omega) (fun hc13 => ?_) (fun hc13 => ?_))
    rotate_left
    · skip
      exact hR (zret_i rfl (Nat.le_refl _) rfl (h _ hw5 fr9 (te_of hT11 ht11 (by omega) (by (try dsimp only); omega))))
    refine hR (?_ : R (_, _, _, _, _, _))
    refine hR (k_ne (by omega) (fun hc14 => ?_) (fun hc14 => ?_))
    rotate_left
    · skip
      refine hR (?_ : R (_, _, _, _, _, _))
      refine hR (c_get hO10 rfl ?_)
      iterate 2 refine hR (?_ : R (_, _, _, _, _, _))
      refine hR (c_get hT11 rfl ?_)
      refine hR (c_astx hw5 (by rw [hk2_2]; rfl) ⟨by rw [hk2_2]; decide, by rw [hk2_2]; decide⟩ (by omega) (by omega) (Nat.le_of_ble_eq_true rfl) fun w34 hw34 f34 => ?_)
      have fr35 := wfR_st fr9 f34 (by rw [hk2_2]; decide)
      have hO36 := (f34.2 p (rne hρp hk2_2 (by decide))).trans hO10
      have hO37 := (f34.2 q (rne hρq hk2_2 (by decide))).trans hT11
      exact hR (zret_i rfl (Nat.le_refl _) rfl (h _ hw34 fr35 (te_of hO37 ht11 (by omega) (by (try dsimp only); omega))))
    iterate 2 refine hR (?_ : R (_, _, _, _, _, _))
    refine hR (j_ne (by omega) (by omega) (fun hc15 => ?_) (fun hc15 => ?_))
    · skip
      refine hR (?_ : R (_, _, _, _, _, _))
      refine hR (c_get hO10 rfl ?_)
      iterate 2 refine hR (?_ : R (_, _, _, _, _, _))
      refine hR (c_get hT11 rfl ?_)
      refine hR (c_astx hw5 (by rw [hk2_3]; rfl) ⟨by rw [hk2_3]; decide, by rw [hk2_3]; decide⟩ (by omega) (by omega) (Nat.le_of_ble_eq_true rfl) fun w16 hw16 f16 => ?_)
      have fr17 := wfR_st fr9 f16 (by rw [hk2_3]; decide)
      have hO18 := (f16.2 p (rne hρp hk2_3 (by decide))).trans hO10
      have hO19 := (f16.2 q (rne hρq hk2_3 (by decide))).trans hT11
      exact hR (zret_i rfl (Nat.le_refl _) rfl (h _ hw16 fr17 (te_of hO19 ht11 (by omega) (by (try dsimp only); omega))))
    refine hR (?_ : R (_, _, _, _, _, _))
    refine hR (c_get hO10 rfl ?_)
    refine hR (?_ : R (_, _, _, _, _, _))
    refine hR (c_ald hw5 (by rw [hk2_2]; rfl) (by omega) (by omega) (Nat.le_of_ble_eq_true rfl) fun v20 lv20 uv20 => ?_)
    refine hR (?_ : R (_, _, _, _, _, _))
    refine hR (c_get hT11 rfl ?_)
    refine hR (j_any ?_ ?_)
    · skip
      refine hR (?_ : R (_, _, _, _, _, _))
      refine hR (c_get hO10 rfl ?_)
      iterate 2 refine hR (?_ : R (_, _, _, _, _, _))
      refine hR (c_get hT11 rfl ?_)
      refine hR (c_astx hw5 (by rw [hk2_3]; rfl) ⟨by rw [hk2_3]; decide, by rw [hk2_3]; decide⟩ (by omega) (by omega) (Nat.le_of_ble_eq_true rfl) fun w21 hw21 f21 => ?_)
      have fr22 := wfR_st fr9 f21 (by rw [hk2_3]; decide)
      have hO23 := (f21.2 p (rne hρp hk2_3 (by decide))).trans hO10
      have hO24 := (f21.2 q (rne hρq hk2_3 (by decide))).trans hT11
      exact hR (zret_i rfl (Nat.le_refl _) rfl (h _ hw21 fr22 (te_of hO24 ht11 (by omega) (by (try dsimp only); omega))))
    iterate 2 refine hR (?_ : R (_, _, _, _, _, _))
    refine hR (c_obj hT11 (zcall_i 0 0 (Nat.le_of_ble_eq_true rfl) (Nat.le_of_ble_eq_true rfl) (c_faultHere _ q 2 v_11 hw5 hρq (te_of hT11 ht11 (by omega) (by (try dsimp only); omega)) (by omega) _ fun w25 hw25 g25 hp26 => ?_)))
    have fr27 := wfR_tr fr9 g25 (by decide)
    have hO28 := (g25.2 p (by rw [hρp]; decide)).trans hO10
    refine (?_ : R (_, _, [], w25, 0, 0))
    obtain ⟨t_29, l_29, a_29, k_29, s_29, v_29, f_29, c_29, hT29, ht29, hTr29, hTp29⟩ := hp26
    (try dsimp only at hTp29)
    refine hR (?_ : R (_, _, _, _, _, _))
    refine hR (c_get hO28 rfl ?_)
    iterate 2 refine hR (?_ : R (_, _, _, _, _, _))
    refine hR (c_get hT29 rfl ?_)
    refine hR (c_astx hw25 (by rw [hk2_3]; rfl) ⟨by rw [hk2_3]; decide, by rw [hk2_3]; decide⟩ (by omega) (by omega) (Nat.le_of_ble_eq_true rfl) fun w30 hw30 f30 => ?_)
    have fr31 := wfR_st fr27 f30 (by rw [hk2_3]; decide)
    have hO32 := (f30.2 p (rne hρp hk2_3 (by decide))).trans hO28
    have hO33 := (f30.2 q (rne hρq hk2_3 (by decide))).trans hT29
    exact hR (zret_i rfl (Nat.le_refl _) rfl (h _ hw30 fr31 (te_of hO33 ht29 (by omega) (by (try dsimp only); omega))))
  iterate 2 refine hR (?_ : R (_, _, _, _, _, _))
  refine hR (j_ne (by omega) (by omega) (fun hc38 => ?_) (fun hc38 => ?_))
  · skip
    iterate 5 refine hR (?_ : R (_, _, _, _, _, _))
    refine hR (k_eq (by omega) (fun _ => ?_) (fun hc => by omega))
    refine hR (?_ : R (_, _, _, _, _, _))
    refine hR (c_obj hT1 (zcall_i 0 0 (Nat.le_of_ble_eq_true rfl) (Nat.le_of_ble_eq_true rfl) (c_isWithin _ q 0 3 v_1 f_1 hw hρq (te_of hT1 ht1 (by omega) (by (try dsimp only); omega)) (by omega) _ fun v39 w40 hw40 g40 hp41 hp42 hp43 => ?_)))
    have fr44 := wfR_tr fr0 g40 (by decide)
    have hO45 := (g40.2 p (by rw [hρp]; decide)).trans hO2
    refine (?_ : R (_, _, (.int (Int32.ofInt v39)) :: [], w40, 0, 0))
    obtain ⟨t_46, l_46, a_46, k_46, s_46, v_46, f_46, c_46, hT46, ht46, hTr46, hTp46⟩ := hp43
    (try dsimp only at hTp46)
    refine hR (k_eq (by omega) (fun hc47 => ?_) (fun hc47 => ?_))
    · skip
      exact hR (zret_i rfl (Nat.le_refl _) rfl (h _ hw40 fr44 (te_of hT46 ht46 (by omega) (by (try dsimp only); omega))))
    refine hR (?_ : R (_, _, _, _, _, _))
    refine hR (k_ge (by omega) (fun hc48 => ?_) (fun hc48 => ?_))
    rotate_left
    · skip
      exact hR (zret_i rfl (Nat.le_refl _) rfl (h _ hw40 fr44 (te_of hT46 ht46 (by omega) (by (try dsimp only); omega))))
    refine hR (?_ : R (_, _, _, _, _, _))
    refine hR (k_ne (by omega) (fun hc49 => ?_) (fun hc49 => ?_))
    rotate_left
    · skip
      refine hR (?_ : R (_, _, _, _, _, _))
      refine hR (c_get hO45 rfl ?_)
      iterate 2 refine hR (?_ : R (_, _, _, _, _, _))
      refine hR (c_get hT46 rfl ?_)
      refine hR (c_astx hw40 (by rw [hk2_2]; rfl) ⟨by rw [hk2_2]; decide, by rw [hk2_2]; decide⟩ (by omega) (by omega) (Nat.le_of_ble_eq_true rfl) fun w69 hw69 f69 => ?_)
      have fr70 := wfR_st fr44 f69 (by rw [hk2_2]; decide)
      have hO71 := (f69.2 p (rne hρp hk2_2 (by decide))).trans hO45
      have hO72 := (f69.2 q (rne hρq hk2_2 (by decide))).trans hT46
      exact hR (zret_i rfl (Nat.le_refl _) rfl (h _ hw69 fr70 (te_of hO72 ht46 (by omega) (by (try dsimp only); omega))))
    iterate 2 refine hR (?_ : R (_, _, _, _, _, _))
    refine hR (j_ne (by omega) (by omega) (fun hc50 => ?_) (fun hc50 => ?_))
    · skip
      refine hR (?_ : R (_, _, _, _, _, _))
      refine hR (c_get hO45 rfl ?_)
      iterate 2 refine hR (?_ : R (_, _, _, _, _, _))
      refine hR (c_get hT46 rfl ?_)
      refine hR (c_astx hw40 (by rw [hk2_3]; rfl) ⟨by rw [hk2_3]; decide, by rw [hk2_3]; decide⟩ (by omega) (by omega) (Nat.le_of_ble_eq_true rfl) fun w51 hw51 f51 => ?_)
      have fr52 := wfR_st fr44 f51 (by rw [hk2_3]; decide)
      have hO53 := (f51.2 p (rne hρp hk2_3 (by decide))).trans hO45
      have hO54 := (f51.2 q (rne hρq hk2_3 (by decide))).trans hT46
      exact hR (zret_i rfl (Nat.le_refl _) rfl (h _ hw51 fr52 (te_of hO54 ht46 (by omega) (by (try dsimp only); omega))))
    refine hR (?_ : R (_, _, _, _, _, _))
    refine hR (c_get hO45 rfl ?_)
    refine hR (?_ : R (_, _, _, _, _, _))
    refine hR (c_ald hw40 (by rw [hk2_2]; rfl) (by omega) (by omega) (Nat.le_of_ble_eq_true rfl) fun v55 lv55 uv55 => ?_)
    refine hR (?_ : R (_, _, _, _, _, _))
    refine hR (c_get hT46 rfl ?_)
    refine hR (j_any ?_ ?_)
    · skip
      refine hR (?_ : R (_, _, _, _, _, _))
      refine hR (c_get hO45 rfl ?_)
      iterate 2 refine hR (?_ : R (_, _, _, _, _, _))
      refine hR (c_get hT46 rfl ?_)
      refine hR (c_astx hw40 (by rw [hk2_3]; rfl) ⟨by rw [hk2_3]; decide, by rw [hk2_3]; decide⟩ (by omega) (by omega) (Nat.le_of_ble_eq_true rfl) fun w56 hw56 f56 => ?_)
      have fr57 := wfR_st fr44 f56 (by rw [hk2_3]; decide)
      have hO58 := (f56.2 p (rne hρp hk2_3 (by decide))).trans hO45
      have hO59 := (f56.2 q (rne hρq hk2_3 (by decide))).trans hT46
      exact hR (zret_i rfl (Nat.le_refl _) rfl (h _ hw56 fr57 (te_of hO59 ht46 (by omega) (by (try dsimp only); omega))))
    iterate 2 refine hR (?_ : R (_, _, _, _, _, _))
    refine hR (c_obj hT46 (zcall_i 0 0 (Nat.le_of_ble_eq_true rfl) (Nat.le_of_ble_eq_true rfl) (c_faultHere _ q 2 v_46 hw40 hρq (te_of hT46 ht46 (by omega) (by (try dsimp only); omega)) (by omega) _ fun w60 hw60 g60 hp61 => ?_)))
    have fr62 := wfR_tr fr44 g60 (by decide)
    have hO63 := (g60.2 p (by rw [hρp]; decide)).trans hO45
    refine (?_ : R (_, _, [], w60, 0, 0))
    obtain ⟨t_64, l_64, a_64, k_64, s_64, v_64, f_64, c_64, hT64, ht64, hTr64, hTp64⟩ := hp61
    (try dsimp only at hTp64)
    refine hR (?_ : R (_, _, _, _, _, _))
    refine hR (c_get hO63 rfl ?_)
    iterate 2 refine hR (?_ : R (_, _, _, _, _, _))
    refine hR (c_get hT64 rfl ?_)
    refine hR (c_astx hw60 (by rw [hk2_3]; rfl) ⟨by rw [hk2_3]; decide, by rw [hk2_3]; decide⟩ (by omega) (by omega) (Nat.le_of_ble_eq_true rfl) fun w65 hw65 f65 => ?_)
    have fr66 := wfR_st fr62 f65 (by rw [hk2_3]; decide)
    have hO67 := (f65.2 p (rne hρp hk2_3 (by decide))).trans hO63
    have hO68 := (f65.2 q (rne hρq hk2_3 (by decide))).trans hT64
    exact hR (zret_i rfl (Nat.le_refl _) rfl (h _ hw65 fr66 (te_of hO68 ht64 (by omega) (by (try dsimp only); omega))))
  iterate 6 refine hR (?_ : R (_, _, _, _, _, _))
  refine hR (k_eq (by omega) (fun hc => by omega) (fun _ => ?_))
  iterate 2 refine hR (?_ : R (_, _, _, _, _, _))
  refine hR (c_obj hT1 (zcall_i 0 0 (Nat.le_of_ble_eq_true rfl) (Nat.le_of_ble_eq_true rfl) (c_isWithin _ q 0 4 v_1 f_1 hw hρq (te_of hT1 ht1 (by omega) (by (try dsimp only); omega)) (by omega) _ fun v73 w74 hw74 g74 hp75 hp76 hp77 => ?_)))
  have fr78 := wfR_tr fr0 g74 (by decide)
  have hO79 := (g74.2 p (by rw [hρp]; decide)).trans hO2
  refine (?_ : R (_, _, (.int (Int32.ofInt v73)) :: [], w74, 0, 0))
  obtain ⟨t_80, l_80, a_80, k_80, s_80, v_80, f_80, c_80, hT80, ht80, hTr80, hTp80⟩ := hp77
  (try dsimp only at hTp80)
  refine hR (k_eq (by omega) (fun hc81 => ?_) (fun hc81 => ?_))
  · skip
    exact hR (zret_i rfl (Nat.le_refl _) rfl (h _ hw74 fr78 (te_of hT80 ht80 (by omega) (by (try dsimp only); omega))))
  refine hR (?_ : R (_, _, _, _, _, _))
  refine hR (k_ge (by omega) (fun hc82 => ?_) (fun hc82 => ?_))
  rotate_left
  · skip
    exact hR (zret_i rfl (Nat.le_refl _) rfl (h _ hw74 fr78 (te_of hT80 ht80 (by omega) (by (try dsimp only); omega))))
  refine hR (?_ : R (_, _, _, _, _, _))
  refine hR (k_ne (by omega) (fun hc83 => ?_) (fun hc83 => ?_))
  rotate_left
  · skip
    refine hR (?_ : R (_, _, _, _, _, _))
    refine hR (c_get hO79 rfl ?_)
    iterate 2 refine hR (?_ : R (_, _, _, _, _, _))
    refine hR (c_get hT80 rfl ?_)
    refine hR (c_astx hw74 (by rw [hk2_2]; rfl) ⟨by rw [hk2_2]; decide, by rw [hk2_2]; decide⟩ (by omega) (by omega) (Nat.le_of_ble_eq_true rfl) fun w103 hw103 f103 => ?_)
    have fr104 := wfR_st fr78 f103 (by rw [hk2_2]; decide)
    have hO105 := (f103.2 p (rne hρp hk2_2 (by decide))).trans hO79
    have hO106 := (f103.2 q (rne hρq hk2_2 (by decide))).trans hT80
    exact hR (zret_i rfl (Nat.le_refl _) rfl (h _ hw103 fr104 (te_of hO106 ht80 (by omega) (by (try dsimp only); omega))))
  iterate 2 refine hR (?_ : R (_, _, _, _, _, _))
  refine hR (j_ne (by omega) (by omega) (fun hc84 => ?_) (fun hc84 => ?_))
  · skip
    refine hR (?_ : R (_, _, _, _, _, _))
    refine hR (c_get hO79 rfl ?_)
    iterate 2 refine hR (?_ : R (_, _, _, _, _, _))
    refine hR (c_get hT80 rfl ?_)
    refine hR (c_astx hw74 (by rw [hk2_3]; rfl) ⟨by rw [hk2_3]; decide, by rw [hk2_3]; decide⟩ (by omega) (by omega) (Nat.le_of_ble_eq_true rfl) fun w85 hw85 f85 => ?_)
    have fr86 := wfR_st fr78 f85 (by rw [hk2_3]; decide)
    have hO87 := (f85.2 p (rne hρp hk2_3 (by decide))).trans hO79
    have hO88 := (f85.2 q (rne hρq hk2_3 (by decide))).trans hT80
    exact hR (zret_i rfl (Nat.le_refl _) rfl (h _ hw85 fr86 (te_of hO88 ht80 (by omega) (by (try dsimp only); omega))))
  refine hR (?_ : R (_, _, _, _, _, _))
  refine hR (c_get hO79 rfl ?_)
  refine hR (?_ : R (_, _, _, _, _, _))
  refine hR (c_ald hw74 (by rw [hk2_2]; rfl) (by omega) (by omega) (Nat.le_of_ble_eq_true rfl) fun v89 lv89 uv89 => ?_)
  refine hR (?_ : R (_, _, _, _, _, _))
  refine hR (c_get hT80 rfl ?_)
  refine hR (j_any ?_ ?_)
  · skip
    refine hR (?_ : R (_, _, _, _, _, _))
    refine hR (c_get hO79 rfl ?_)
    iterate 2 refine hR (?_ : R (_, _, _, _, _, _))
    refine hR (c_get hT80 rfl ?_)
    refine hR (c_astx hw74 (by rw [hk2_3]; rfl) ⟨by rw [hk2_3]; decide, by rw [hk2_3]; decide⟩ (by omega) (by omega) (Nat.le_of_ble_eq_true rfl) fun w90 hw90 f90 => ?_)
    have fr91 := wfR_st fr78 f90 (by rw [hk2_3]; decide)
    have hO92 := (f90.2 p (rne hρp hk2_3 (by decide))).trans hO79
    have hO93 := (f90.2 q (rne hρq hk2_3 (by decide))).trans hT80
    exact hR (zret_i rfl (Nat.le_refl _) rfl (h _ hw90 fr91 (te_of hO93 ht80 (by omega) (by (try dsimp only); omega))))
  iterate 2 refine hR (?_ : R (_, _, _, _, _, _))
  refine hR (c_obj hT80 (zcall_i 0 0 (Nat.le_of_ble_eq_true rfl) (Nat.le_of_ble_eq_true rfl) (c_faultHere _ q 2 v_80 hw74 hρq (te_of hT80 ht80 (by omega) (by (try dsimp only); omega)) (by omega) _ fun w94 hw94 g94 hp95 => ?_)))
  have fr96 := wfR_tr fr78 g94 (by decide)
  have hO97 := (g94.2 p (by rw [hρp]; decide)).trans hO79
  refine (?_ : R (_, _, [], w94, 0, 0))
  obtain ⟨t_98, l_98, a_98, k_98, s_98, v_98, f_98, c_98, hT98, ht98, hTr98, hTp98⟩ := hp95
  (try dsimp only at hTp98)
  refine hR (?_ : R (_, _, _, _, _, _))
  refine hR (c_get hO97 rfl ?_)
  iterate 2 refine hR (?_ : R (_, _, _, _, _, _))
  refine hR (c_get hT98 rfl ?_)
  refine hR (c_astx hw94 (by rw [hk2_3]; rfl) ⟨by rw [hk2_3]; decide, by rw [hk2_3]; decide⟩ (by omega) (by omega) (Nat.le_of_ble_eq_true rfl) fun w99 hw99 f99 => ?_)
  have fr100 := wfR_st fr96 f99 (by rw [hk2_3]; decide)
  have hO101 := (f99.2 p (rne hρp hk2_3 (by decide))).trans hO97
  have hO102 := (f99.2 q (rne hρq hk2_3 (by decide))).trans hT98
  exact hR (zret_i rfl (Nat.le_refl _) rfl (h _ hw99 fr100 (te_of hO102 ht98 (by omega) (by (try dsimp only); omega))))
theorem c_lineOf_s {ρ : Nat → Nat} {w : zW} (d : Nat) (p q : Nat) (hw : CI ρ w) (hρp : ρ p = 40) (hρq : ρ q = 9) (hr0 : TE ρ w q (fun l a s v f => 0 ≤ s ∧ s ≤ a ∧ a ≤ l ∧ l ≤ 600)) (Q : zQ) (h : ∀ (v : Int), (-1 ≤ v ∧ v ≤ 0) → Q (some (.int (Int32.ofInt v))) w) : zCl zTab (d + 6) iX6_lineOf [.ref p, .ref q] w 0 0 Q := by
  refine zCl_i (M := kX6_lineOf) rfl (Nat.le_of_ble_eq_true rfl) fun R hR => ?_
  have fr0 := wfR_rf [] ρ w
  obtain ⟨t_1, l_1, a_1, k_1, s_1, v_1, f_1, c_1, hT1, ht1, hTr1, hTp1⟩ := hr0
  (try dsimp only at hTp1)
  iterate 2 refine hR (?_ : R (_, _, _, _, _, _))
  refine hR (c_obj hT1 (zcall_i 0 0 (Nat.le_of_ble_eq_true rfl) (Nat.le_of_ble_eq_true rfl) (c_isAtHand _ q 9 hw hρq (te_of hT1 ht1 (by omega) (by (try dsimp only); omega)) rfl _ fun v2 hp4 => ?_)))
  refine (?_ : R (_, _, (.int (Int32.ofInt v2)) :: [], w, 0, 0))
  refine hR (k_eq (by omega) (fun hc5 => ?_) (fun hc5 => ?_))
  · skip
    refine hR (?_ : R (_, _, _, _, _, _))
    exact hR (zret_i rfl (Nat.le_refl _) trivial (h _ (by omega)))
  iterate 2 refine hR (?_ : R (_, _, _, _, _, _))
  exact hR (zret_i rfl (Nat.le_refl _) trivial (h _ (by omega)))
theorem c_mostNumbers_s {ρ : Nat → Nat} {w : zW} (d : Nat) (p : Nat) (a1 : Int) (hw : CI ρ w) (hρp : ρ p = 40) (hr0 : 0 ≤ a1 ∧ a1 ≤ 7) (Q : zQ) (h : ∀ (v : Int), (0 ≤ v ∧ v ≤ 600) → Q (some (.int (Int32.ofInt v))) w) : zCl zTab (d + 1) iX6_mostNumbers [.ref p, .int (Int32.ofInt a1)] w 0 0 Q := by
  refine zCl_i (M := kX6_mostNumbers) rfl (Nat.le_of_ble_eq_true rfl) fun R hR => ?_
  have fr0 := wfR_rf [] ρ w
  refine hR (t_c 600 (by decide) ?_)
  exact hR (zret_i rfl (Nat.le_refl _) trivial (h _ (by omega)))
theorem c_fewestNumbers_s {ρ : Nat → Nat} {w : zW} (d : Nat) (p : Nat) (a1 : Int) (hw : CI ρ w) (hρp : ρ p = 40) (hr0 : 0 ≤ a1 ∧ a1 ≤ 7) (Q : zQ) (h : ∀ (v : Int), (0 ≤ v ∧ v ≤ 600) → Q (some (.int (Int32.ofInt v))) w) : zCl zTab (d + 1) iX6_fewestNumbers [.ref p, .int (Int32.ofInt a1)] w 0 0 Q := by
  refine zCl_i (M := kX6_fewestNumbers) rfl (Nat.le_of_ble_eq_true rfl) fun R hR => ?_
  have fr0 := wfR_rf [] ρ w
  refine hR (?_ : R (_, _, _, _, _, _))
  exact hR (zret_i rfl (Nat.le_refl _) trivial (h _ (by omega)))
theorem c_beginLine_s {ρ : Nat → Nat} {w : zW} (d : Nat) (p q : Nat) (a1 : Int) (hw : CI ρ w) (hρp : ρ p = 40) (hρq : ρ q = 9) (hr0 : 0 ≤ a1 ∧ a1 ≤ 7) (hr1 : TE ρ w q (fun l a s v f => 0 ≤ s ∧ s ≤ a ∧ a ≤ l ∧ l ≤ 600)) (Q : zQ) (h : ∀ (w' : zW), CI ρ w' → wfR [9, 40, 42] ρ w w' → (TE ρ w' q (fun l a s v f => 0 ≤ s ∧ s ≤ a ∧ a ≤ l ∧ l ≤ 600)) → Q (none) w') : zCl zTab (d + 2) iX6_beginLine [.ref p, .int (Int32.ofInt a1), .ref q] w 0 0 Q := by
  refine zCl_i (M := kX6_beginLine) rfl (Nat.le_of_ble_eq_true rfl) fun R hR => ?_
  have fr0 := wfR_rf [9, 40, 42] ρ w
  obtain ⟨t_1, l_1, a_1, k_1, s_1, v_1, f_1, c_1, hT1, ht1, hTr1, hTp1⟩ := hr1
  (try dsimp only at hTp1)
  refine hR (?_ : R (_, _, _, _, _, _))
  obtain ⟨x0_2, hO2, hk2_0, hk2_1, hk2_2⟩ := CI_o40 hw hρp
  refine hR (c_get hO2 rfl ?_)
  refine hR (t_c 6 (by decide) ?_)
  refine hR (j_lt (by omega) (by omega) (fun hc3 => ?_) (fun hc3 => ?_))
  rotate_left
  · skip
    iterate 2 refine hR (?_ : R (_, _, _, _, _, _))
    refine hR (c_obj hT1 (zcall_i 0 0 (Nat.le_of_ble_eq_true rfl) (Nat.le_of_ble_eq_true rfl) (c_faultHere _ q 3 v_1 hw hρq (te_of hT1 ht1 (by omega) (by (try dsimp only); omega)) (by omega) _ fun w11 hw11 g11 hp12 => ?_)))
    have fr13 := wfR_tr fr0 g11 (by decide)
    have hO14 := (g11.2 p (by rw [hρp]; decide)).trans hO2
    refine (?_ : R (_, _, [], w11, 0, 0))
    obtain ⟨t_15, l_15, a_15, k_15, s_15, v_15, f_15, c_15, hT15, ht15, hTr15, hTp15⟩ := hp12
    (try dsimp only at hTp15)
    exact hR (zret_i rfl (Nat.le_refl _) rfl (h _ hw11 fr13 (te_of hT15 ht15 (by omega) (by (try dsimp only); omega))))
  refine hR (?_ : R (_, _, _, _, _, _))
  refine hR (c_get hO2 rfl ?_)
  refine hR (?_ : R (_, _, _, _, _, _))
  refine hR (c_get hO2 rfl ?_)
  refine hR (?_ : R (_, _, _, _, _, _))
  refine hR (c_astx hw (by rw [hk2_2]; rfl) ⟨by rw [hk2_2]; decide, by rw [hk2_2]; decide⟩ (by omega) (by omega) (Nat.le_of_ble_eq_true rfl) fun w4 hw4 f4 => ?_)
  have fr5 := wfR_st fr0 f4 (by rw [hk2_2]; decide)
  have hO6 := (f4.2 q (rne hρq hk2_2 (by decide))).trans hT1
  have hO7 := (f4.2 p (rne hρp hk2_2 (by decide))).trans hO2
  iterate 2 refine hR (?_ : R (_, _, _, _, _, _))
  refine hR (c_get hO7 rfl ?_)
  refine hR (?_ : R (_, _, _, _, _, _))
  refine hR (t_add ?_)
  refine hR (c_put hO7 rfl rfl fun w8 f8 hO8 => ?_)
  have hw8 := CI_w40 hw4 hρp f8 hO8 ⟨⟨by omega, by omega⟩, hk2_1, hk2_2⟩
  have fr9 := wfR_st fr5 f8 (by rw [hρp]; decide)
  have hO10 := (f8.2 q (rne hρq hρp (by decide))).trans hO6
  exact hR (zret_i rfl (Nat.le_refl _) rfl (h _ hw8 fr9 (te_of hO10 ht1 (by omega) (by (try dsimp only); omega))))
theorem c_takeNumber_s {ρ : Nat → Nat} {w : zW} (d : Nat) (p q : Nat) (a1 a2 : Int) (hw : CI ρ w) (hρp : ρ p = 40) (hρq : ρ q = 9) (hr0 : 0 ≤ a2 ∧ a2 ≤ 600) (hr1 : 0 ≤ a1 ∧ a1 ≤ 7) (hr2 : TE ρ w q (fun l a s v f => 0 ≤ s ∧ s ≤ a ∧ a ≤ l ∧ l ≤ 600)) (Q : zQ) (h : ∀ (w' : zW), CI ρ w' → wfR [9, 41, 42] ρ w w' → (TE ρ w' q (fun l a s v f => 0 ≤ s ∧ s ≤ a ∧ a ≤ l ∧ l ≤ 600)) → Q (none) w') : zCl zTab (d + 3) iX6_takeNumber [.ref p, .int (Int32.ofInt a1), .int (Int32.ofInt a2), .ref q] w 0 0 Q := by
  refine zCl_i (M := kX6_takeNumber) rfl (Nat.le_of_ble_eq_true rfl) fun R hR => ?_
  have fr0 := wfR_rf [9, 41, 42] ρ w
  obtain ⟨t_1, l_1, a_1, k_1, s_1, v_1, f_1, c_1, hT1, ht1, hTr1, hTp1⟩ := hr2
  (try dsimp only at hTp1)
  iterate 3 refine hR (?_ : R (_, _, _, _, _, _))
  refine hR (k_ne (by omega) (fun hc2 => ?_) (fun hc2 => ?_))
  rotate_left
  · skip
    refine hR (t_c 9 (by decide) ?_)
    refine hR (?_ : R (_, _, _, _, _, _))
    refine hR (c_obj hT1 (zcall_i 0 0 (Nat.le_of_ble_eq_true rfl) (Nat.le_of_ble_eq_true rfl) (c_isWithin _ q 0 9 v_1 f_1 hw hρq (te_of hT1 ht1 (by omega) (by (try dsimp only); omega)) (by omega) _ fun v27 w28 hw28 g28 hp29 hp30 hp31 => ?_)))
    have fr32 := wfR_tr fr0 g28 (by decide)
    refine (?_ : R (_, _, (.int (Int32.ofInt v27)) :: [], w28, 0, 0))
    obtain ⟨t_33, l_33, a_33, k_33, s_33, v_33, f_33, c_33, hT33, ht33, hTr33, hTp33⟩ := hp31
    (try dsimp only at hTp33)
    iterate 2 refine hR (?_ : R (_, _, _, _, _, _))
    obtain ⟨x0_34, hO34, hk34_0, hk34_1, hk34_2⟩ := CI_o40 hw28 hρp
    refine hR (c_get hO34 rfl ?_)
    refine hR (?_ : R (_, _, _, _, _, _))
    refine hR (t_sub ?_)
    iterate 2 refine hR (?_ : R (_, _, _, _, _, _))
    refine hR (t_c 6 (by decide) ?_)
    refine hR (j_le (by omega) (by omega) (fun hc35 => ?_) (fun hc35 => ?_))
    rotate_left
    · skip
      iterate 2 refine hR (?_ : R (_, _, _, _, _, _))
      refine hR (c_obj hT33 (zcall_i 0 0 (Nat.le_of_ble_eq_true rfl) (Nat.le_of_ble_eq_true rfl) (c_faultHere _ q 3 v_33 hw28 hρq (te_of hT33 ht33 (by omega) (by (try dsimp only); omega)) (by omega) _ fun w42 hw42 g42 hp43 => ?_)))
      have fr44 := wfR_tr fr32 g42 (by decide)
      have hO45 := (g42.2 p (by rw [hρp]; decide)).trans hO34
      refine (?_ : R (_, _, [], w42, 0, 0))
      obtain ⟨t_46, l_46, a_46, k_46, s_46, v_46, f_46, c_46, hT46, ht46, hTr46, hTp46⟩ := hp43
      (try dsimp only at hTp46)
      refine hR (?_ : R (_, _, _, _, _, _))
      exact hR (zret_i rfl (Nat.le_refl _) rfl (h _ hw42 fr44 (te_of hT46 ht46 (by omega) (by (try dsimp only); omega))))
    refine hR (?_ : R (_, _, _, _, _, _))
    refine hR (k_eq (by omega) (fun hc36 => ?_) (fun hc36 => ?_))
    · skip
      exact hR (zret_i rfl (Nat.le_refl _) rfl (h _ hw28 fr32 (te_of hT33 ht33 (by omega) (by (try dsimp only); omega))))
    refine hR (?_ : R (_, _, _, _, _, _))
    refine hR (k_lt (by omega) (fun hc37 => ?_) (fun hc37 => ?_))
    · skip
      exact hR (zret_i rfl (Nat.le_refl _) rfl (h _ hw28 fr32 (te_of hT33 ht33 (by omega) (by (try dsimp only); omega))))
    refine hR (?_ : R (_, _, _, _, _, _))
    refine hR (k_ne (by omega) (fun hc => by omega) (fun _ => ?_))
    refine hR (?_ : R (_, _, _, _, _, _))
    refine hR (c_get hO34 rfl ?_)
    iterate 2 refine hR (?_ : R (_, _, _, _, _, _))
    refine hR (c_get hT33 rfl ?_)
    refine hR (c_ast hw28 (by rw [hk34_1]; rfl) ⟨by rw [hk34_1]; decide, by rw [hk34_1]; decide⟩ (by omega) (by omega) (by omega) (by omega) (by omega) (by omega) (Nat.le_of_ble_eq_true rfl) fun w38 hw38 f38 => ?_)
    have fr39 := wfR_st fr32 f38 (by rw [hk34_1]; decide)
    have hO40 := (f38.2 q (rne hρq hk34_1 (by decide))).trans hT33
    have hO41 := (f38.2 p (rne hρp hk34_1 (by decide))).trans hO34
    refine hR (?_ : R (_, _, _, _, _, _))
    exact hR (zret_i rfl (Nat.le_refl _) rfl (h _ hw38 fr39 (te_of hO40 ht33 (by omega) (by (try dsimp only); omega))))
  refine hR (?_ : R (_, _, _, _, _, _))
  refine hR (c_obj hT1 (zcall_i 0 0 (Nat.le_of_ble_eq_true rfl) (Nat.le_of_ble_eq_true rfl) (c_isWithin _ q 0 3 v_1 f_1 hw hρq (te_of hT1 ht1 (by omega) (by (try dsimp only); omega)) (by omega) _ fun v3 w4 hw4 g4 hp5 hp6 hp7 => ?_)))
  have fr8 := wfR_tr fr0 g4 (by decide)
  refine (?_ : R (_, _, (.int (Int32.ofInt v3)) :: [], w4, 0, 0))
  obtain ⟨t_9, l_9, a_9, k_9, s_9, v_9, f_9, c_9, hT9, ht9, hTr9, hTp9⟩ := hp7
  (try dsimp only at hTp9)
  iterate 2 refine hR (?_ : R (_, _, _, _, _, _))
  obtain ⟨x0_10, hO10, hk10_0, hk10_1, hk10_2⟩ := CI_o40 hw4 hρp
  refine hR (c_get hO10 rfl ?_)
  refine hR (?_ : R (_, _, _, _, _, _))
  refine hR (t_sub ?_)
  iterate 2 refine hR (?_ : R (_, _, _, _, _, _))
  refine hR (t_c 6 (by decide) ?_)
  refine hR (j_le (by omega) (by omega) (fun hc11 => ?_) (fun hc11 => ?_))
  rotate_left
  · skip
    iterate 2 refine hR (?_ : R (_, _, _, _, _, _))
    refine hR (c_obj hT9 (zcall_i 0 0 (Nat.le_of_ble_eq_true rfl) (Nat.le_of_ble_eq_true rfl) (c_faultHere _ q 3 v_9 hw4 hρq (te_of hT9 ht9 (by omega) (by (try dsimp only); omega)) (by omega) _ fun w22 hw22 g22 hp23 => ?_)))
    have fr24 := wfR_tr fr8 g22 (by decide)
    have hO25 := (g22.2 p (by rw [hρp]; decide)).trans hO10
    refine (?_ : R (_, _, [], w22, 0, 0))
    obtain ⟨t_26, l_26, a_26, k_26, s_26, v_26, f_26, c_26, hT26, ht26, hTr26, hTp26⟩ := hp23
    (try dsimp only at hTp26)
    refine hR (?_ : R (_, _, _, _, _, _))
    exact hR (zret_i rfl (Nat.le_refl _) rfl (h _ hw22 fr24 (te_of hT26 ht26 (by omega) (by (try dsimp only); omega))))
  refine hR (?_ : R (_, _, _, _, _, _))
  refine hR (k_eq (by omega) (fun hc12 => ?_) (fun hc12 => ?_))
  · skip
    exact hR (zret_i rfl (Nat.le_refl _) rfl (h _ hw4 fr8 (te_of hT9 ht9 (by omega) (by (try dsimp only); omega))))
  refine hR (?_ : R (_, _, _, _, _, _))
  refine hR (k_lt (by omega) (fun hc13 => ?_) (fun hc13 => ?_))
  · skip
    exact hR (zret_i rfl (Nat.le_refl _) rfl (h _ hw4 fr8 (te_of hT9 ht9 (by omega) (by (try dsimp only); omega))))
  refine hR (?_ : R (_, _, _, _, _, _))
  refine hR (k_ne (by omega) (fun _ => ?_) (fun hc => by omega))
  refine hR (?_ : R (_, _, _, _, _, _))
  refine hR (c_get hO10 rfl ?_)
  iterate 2 refine hR (?_ : R (_, _, _, _, _, _))
  refine hR (c_get hO10 rfl ?_)
  refine hR (?_ : R (_, _, _, _, _, _))
  refine hR (c_ald hw4 (by rw [hk10_2]; rfl) (by omega) (by omega) (Nat.le_of_ble_eq_true rfl) fun v14 lv14 uv14 => ?_)
  refine hR (?_ : R (_, _, _, _, _, _))
  refine hR (c_get hT9 rfl ?_)
  refine hR (zcall_i 0 0 (Nat.le_of_ble_eq_true rfl) (Nat.le_of_ble_eq_true rfl) (c_longer _ _ v14 v_9 _ fun v15 hp17 => ?_))
  refine (?_ : R (_, _, (.int (Int32.ofInt v15)) :: (.int (Int32.ofInt (x0_10 - 1))) :: (.ref (p + 2)) :: [], w4, 0, 0))
  refine hR (c_astx hw4 (by rw [hk10_2]; rfl) ⟨by rw [hk10_2]; decide, by rw [hk10_2]; decide⟩ (by omega) (by omega) (Nat.le_of_ble_eq_true rfl) fun w18 hw18 f18 => ?_)
  have fr19 := wfR_st fr8 f18 (by rw [hk10_2]; decide)
  have hO20 := (f18.2 q (rne hρq hk10_2 (by decide))).trans hT9
  have hO21 := (f18.2 p (rne hρp hk10_2 (by decide))).trans hO10
  exact hR (zret_i rfl (Nat.le_refl _) rfl (h _ hw18 fr19 (te_of hO20 ht9 (by omega) (by (try dsimp only); omega))))
section AB
variable {C : zCT} {mc ms : Nat} {L : zL} {w : zW} {k n np a : Nat} {K : zS → Prop} {q : Nat} {t : List Value}
theorem t_abs1 {v1 : Value} (h : zvt w q a fun _ a' => zif (zrm t) (zcall C a' [.ref q, v1] t w k n mc ms np L K)) : zif (Nat.ble (11 - 10) (List.length (v1 :: .ref q :: t))) (z1r (List.drop (11 - 10) (v1 :: .ref q :: t)) fun q t => zvt w q a fun _ a' => zif (zrm t) (zcall C a' (.ref q :: (List.take (11 - 10) (v1 :: .ref q :: t)).reverse) t w k n mc ms np L K)) := by
  rw [show (11 : Nat) - 10 = 1 from rfl]
  exact h
theorem t_abs2 {v2 v1 : Value} (h : zvt w q a fun _ a' => zif (zrm t) (zcall C a' [.ref q, v1, v2] t w k n mc ms np L K)) : zif (Nat.ble (12 - 10) (List.length (v2 :: v1 :: .ref q :: t))) (z1r (List.drop (12 - 10) (v2 :: v1 :: .ref q :: t)) fun q t => zvt w q a fun _ a' => zif (zrm t) (zcall C a' (.ref q :: (List.take (12 - 10) (v2 :: v1 :: .ref q :: t)).reverse) t w k n mc ms np L K)) := by
  rw [show (12 : Nat) - 10 = 2 from rfl]
  exact h
theorem t_abs3 {v3 v2 v1 : Value} (h : zvt w q a fun _ a' => zif (zrm t) (zcall C a' [.ref q, v1, v2, v3] t w k n mc ms np L K)) : zif (Nat.ble (13 - 10) (List.length (v3 :: v2 :: v1 :: .ref q :: t))) (z1r (List.drop (13 - 10) (v3 :: v2 :: v1 :: .ref q :: t)) fun q t => zvt w q a fun _ a' => zif (zrm t) (zcall C a' (.ref q :: (List.take (13 - 10) (v3 :: v2 :: v1 :: .ref q :: t)).reverse) t w k n mc ms np L K)) := by
  rw [show (13 : Nat) - 10 = 3 from rfl]
  exact h
end AB
theorem c_tellLine_b {ρ : Nat → Nat} {w : zW} (d : Nat) (q p : Nat) (hw : CI ρ w) (hρq : ρ q = 9) (hρp : ρ p = 19) (hr0 : TE ρ w q (fun l a s v f => (0 ≤ s ∧ s ≤ a ∧ a ≤ l ∧ l ≤ 600) ∧ (f ≠ 0 ∨ REL w (p + 3)))) (Q : zQ) (h : ∀ (v : Int) (w' : zW), CI ρ w' → wfR [9, 19, 21, 22, 25, 26] ρ w w' → (v = 0 ∨ v = 1) → (TE ρ w' q (fun l a s x f => (0 ≤ s ∧ s ≤ a ∧ a ≤ l ∧ l ≤ 600) ∧ (v = 0 ∨ f ≠ 0 ∨ REL w' (p + 3)))) → Q (some (.int (Int32.ofInt v))) w') : zCl zTab (d + 7) iX7_tellLine [.ref q, .ref p] w 0 0 Q := by
  refine zCl_i (M := kX7_tellLine) rfl (Nat.le_of_ble_eq_true rfl) fun R hR => ?_
  have fr0 := wfR_rf [9, 19, 21, 22, 25, 26] ρ w
  obtain ⟨t_1, l_1, a_1, k_1, s_1, v_1, f_1, c_1, hT1, ht1, hTr1, hTp1⟩ := hr0
  obtain ⟨hTp1, hX1⟩ := hTp1
  (try dsimp only at hTp1)
  obtain ⟨x0_2, x1_2, x2_2, hO2, hk2_0, hk2_1, hk2_2, hk2_3, hk2_4, hk2_5, hk2_6⟩ := CI_o19 hw hρp
  refine hR (?_ : R (_, _, _, _, _, _))
  refine hR (c_get hT1 rfl ?_)
  refine hR (?_ : R (_, _, _, _, _, _))
  refine hR (j_ne (by omega) (by omega) (fun hc3 => ?_) (fun hc3 => ?_))
  · skip
    iterate 4 refine hR (?_ : R (_, _, _, _, _, _))
    refine hR (j_ne (by omega) (by omega) (fun hc => by omega) (fun _ => ?_))
    refine hR (?_ : R (_, _, _, _, _, _))
    exact hR (zret_i rfl (Nat.le_refl _) (zbo (by omega)) (h _ _ hw fr0 (by omega) (te_of hT1 ht1 (by omega) ⟨by omega, Or.inl (by omega)⟩)))
  iterate 2 refine hR (?_ : R (_, _, _, _, _, _))
  refine hR (t_abs1 (c_vt0 hO2 ?_))
  refine zcall_i 0 0 (Nat.le_of_ble_eq_true rfl) (Nat.le_of_ble_eq_true rfl) (c_lineOf_b _ p q hw hρp hρq (te_of hT1 ht1 (by omega) (by (try dsimp only); omega)) _ fun v4 hp6 => ?_)
  refine (?_ : R (_, _, (.int (Int32.ofInt v4)) :: [], w, 0, 0))
  iterate 4 refine hR (?_ : R (_, _, _, _, _, _))
  refine hR (j_ne (by omega) (by omega) (fun hc7 => ?_) (fun hc7 => ?_))
  rotate_left
  · skip
    refine hR (?_ : R (_, _, _, _, _, _))
    exact hR (zret_i rfl (Nat.le_refl _) (zbo (by omega)) (h _ _ hw fr0 (by omega) (te_of hT1 ht1 (by omega) ⟨by omega, Or.inl (by omega)⟩)))
  iterate 3 refine hR (?_ : R (_, _, _, _, _, _))
  refine hR (t_abs2 (c_vt0 hO2 ?_))
  refine zcall_i 0 0 (Nat.le_of_ble_eq_true rfl) (Nat.le_of_ble_eq_true rfl) (c_beginLine_b _ p q v4 hw hρp hρq (by omega) (te_of hT1 ht1 (by omega) ⟨by omega, hX1⟩) _ fun w8 hw8 g8 hp9 => ?_)
  have fr10 := wfR_tr fr0 g8 (by decide)
  refine (?_ : R (_, _, [], w8, 0, 0))
  obtain ⟨t_11, l_11, a_11, k_11, s_11, v_11, f_11, c_11, hT11, ht11, hTr11, hTp11⟩ := hp9
  obtain ⟨hTp11, hX11⟩ := hTp11
  (try dsimp only at hTp11)
  refine hR (?_ : R (_, _, _, _, _, _))
  refine hR (c_obj hT11 (zcall_i 0 0 (Nat.le_of_ble_eq_true rfl) (Nat.le_of_ble_eq_true rfl) (c_advance _ q f_11 hw8 hρq (te_of hT11 ht11 (by omega) (by (try dsimp only); omega)) _ fun w12 hw12 g12 hp13 => ?_)))
  have fr14 := wfR_tr fr10 g12 (by decide)
  refine (?_ : R (_, _, [], w12, 0, 0))
  obtain ⟨t_15, l_15, a_15, k_15, s_15, v_15, f_15, c_15, hT15, ht15, hTr15, hTp15⟩ := hp13
  (try dsimp only at hTp15)
  obtain ⟨x0_16, x1_16, x2_16, hO16, hk16_0, hk16_1, hk16_2, hk16_3, hk16_4, hk16_5, hk16_6⟩ := CI_o19 hw12 hρp
  have X17 := ln_ff (f' := f_15) (LN_fr (g12.2 p (by rw [hρp]; decide)) (g12.2 (p + 2) (by rw [hk16_4]; decide)) (g12.2 (p + 3) (by rw [hk16_5]; decide)) (g12.2 (p + 4) (by rw [hk16_6]; decide)) hX11) (by omega)
  iterate 2 refine hR (?_ : R (_, _, _, _, _, _))
  refine hR (t_abs1 (c_vt0 hO16 ?_))
  refine zcall_i 0 0 (Nat.le_of_ble_eq_true rfl) (Nat.le_of_ble_eq_true rfl) (c_mostNumbers_b _ p v4 hw12 hρp (by omega) _ fun v18 hp20 => ?_)
  refine (?_ : R (_, _, (.int (Int32.ofInt v18)) :: [], w12, 0, 0))
  iterate 3 refine hR (?_ : R (_, _, _, _, _, _))
  have lp44 : ∀ (N : Nat) (nu : Int) (w_44 : zW), (CI ρ w_44) → (wfR [9, 19, 21, 22, 25, 26] ρ w w_44) → (0 ≤ nu ∧ nu ≤ 600) → (TE ρ w_44 q (fun l a s v f => (0 ≤ s ∧ s ≤ a ∧ a ≤ l ∧ l ≤ 600) ∧ LN w_44 p v4 nu f)) → (601 - nu < N) → R (44, [some (.ref q), some (.ref p), some (.int (Int32.ofInt v4)), some (.int (Int32.ofInt v18)), some (.int (Int32.ofInt nu))], [], w_44, 0, 0) := by
    intro N
    induction N with
    | zero => intros; omega
    | succ N ih44 =>
      intro nu w_44 hw_44 fr_44 hf0_44 hp0_44 hN44
      obtain ⟨t_21, l_21, a_21, k_21, s_21, v_21, f_21, c_21, hT21, ht21, hTr21, hTp21⟩ := hp0_44
      obtain ⟨hTp21, hX21⟩ := hTp21
      (try dsimp only at hTp21)
      iterate 2 refine hR (?_ : R (_, _, _, _, _, _))
      refine hR (j_ge (by omega) (by omega) (fun hc22 => ?_) (fun hc22 => ?_))
      · skip
        iterate 3 refine hR (?_ : R (_, _, _, _, _, _))
        obtain ⟨x0_26, x1_26, x2_26, hO26, hk26_0, hk26_1, hk26_2, hk26_3, hk26_4, hk26_5, hk26_6⟩ := CI_o19 hw_44 hρp
        refine hR (t_abs1 (c_vt0 hO26 ?_))
        refine zcall_i 0 0 (Nat.le_of_ble_eq_true rfl) (Nat.le_of_ble_eq_true rfl) (c_fewestNumbers_b _ p v4 hw_44 hρp (by omega) _ fun v23 hp25 => ?_)
        refine (?_ : R (_, _, (.int (Int32.ofInt v23)) :: (.int (Int32.ofInt nu)) :: [], w_44, 0, 0))
        refine hR (j_lt (by omega) (by omega) (fun hc27 => ?_) (fun hc27 => ?_))
        · skip
          refine hR (?_ : R (_, _, _, _, _, _))
          exact hR (zret_i rfl (Nat.le_refl _) (zbo (by omega)) (h _ _ hw_44 fr_44 (by omega) (te_of hT21 ht21 (by omega) ⟨by omega, Or.inl (by omega)⟩)))
        refine hR (?_ : R (_, _, _, _, _, _))
        refine hR (c_get hT21 rfl ?_)
        refine hR (?_ : R (_, _, _, _, _, _))
        refine hR (j_eq (by omega) (by omega) (fun hc28 => ?_) (fun hc28 => ?_))
        rotate_left
        · skip
          refine hR (?_ : R (_, _, _, _, _, _))
          exact hR (zret_i rfl (Nat.le_refl _) (zbo (by omega)) (h _ _ hw_44 fr_44 (by omega) (te_of hT21 ht21 (by omega) ⟨by omega, Or.inl (by omega)⟩)))
        refine hR (?_ : R (_, _, _, _, _, _))
        refine hR (c_obj hT21 (zcall_i 0 0 (Nat.le_of_ble_eq_true rfl) (Nat.le_of_ble_eq_true rfl) (c_advance _ q f_21 hw_44 hρq (te_of hT21 ht21 (by omega) (by (try dsimp only); omega)) _ fun w29 hw29 g29 hp30 => ?_)))
        have fr31 := wfR_tr fr_44 g29 (by decide)
        have hO32 := (g29.2 p (by rw [hρp]; decide)).trans hO26
        refine (?_ : R (_, _, [], w29, 0, 0))
        obtain ⟨t_33, l_33, a_33, k_33, s_33, v_33, f_33, c_33, hT33, ht33, hTr33, hTp33⟩ := hp30
        (try dsimp only at hTp33)
        have X34 := ln_ff (f' := f_33) (LN_fr (g29.2 p (by rw [hρp]; decide)) (g29.2 (p + 2) (by rw [hk26_4]; decide)) (g29.2 (p + 3) (by rw [hk26_5]; decide)) (g29.2 (p + 4) (by rw [hk26_6]; decide)) hX21) (by omega)
        refine hR (?_ : R (_, _, _, _, _, _))
        exact hR (zret_i rfl (Nat.le_refl _) (zbo (by omega)) (h _ _ hw29 fr31 (by omega) (te_of hT33 ht33 (by omega) ⟨by omega, Or.inr (ln_end X34 (by omega))⟩)))
      refine hR (?_ : R (_, _, _, _, _, _))
      refine hR (c_get hT21 rfl ?_)
      refine hR (?_ : R (_, _, _, _, _, _))
      refine hR (j_ne (by omega) (by omega) (fun hc35 => ?_) (fun hc35 => ?_))
      rotate_left
      · skip
        iterate 4 refine hR (?_ : R (_, _, _, _, _, _))
        obtain ⟨x0_50, x1_50, x2_50, hO50, hk50_0, hk50_1, hk50_2, hk50_3, hk50_4, hk50_5, hk50_6⟩ := CI_o19 hw_44 hρp
        refine hR (t_abs3 (c_vt0 hO50 ?_))
        refine zcall_i 0 0 (Nat.le_of_ble_eq_true rfl) (Nat.le_of_ble_eq_true rfl) (c_takeNumber_b _ p q v4 nu hw_44 hρp hρq (by omega) (by omega) (te_of hT21 ht21 (by omega) ⟨by omega, hX21⟩) _ fun w48 hw48 g48 hp49 => ?_)
        have fr51 := wfR_tr fr_44 g48 (by decide)
        refine (?_ : R (_, _, [], w48, 0, 0))
        obtain ⟨t_52, l_52, a_52, k_52, s_52, v_52, f_52, c_52, hT52, ht52, hTr52, hTp52⟩ := hp49
        obtain ⟨hTp52, hX52⟩ := hTp52
        (try dsimp only at hTp52)
        refine hR (t_inc ?_)
        refine hR (?_ : R (_, _, _, _, _, _))
        refine hR (c_obj hT52 (zcall_i 0 0 (Nat.le_of_ble_eq_true rfl) (Nat.le_of_ble_eq_true rfl) (c_advance _ q f_52 hw48 hρq (te_of hT52 ht52 (by omega) (by (try dsimp only); omega)) _ fun w53 hw53 g53 hp54 => ?_)))
        have fr55 := wfR_tr fr51 g53 (by decide)
        refine (?_ : R (_, _, [], w53, 0, 0))
        obtain ⟨t_56, l_56, a_56, k_56, s_56, v_56, f_56, c_56, hT56, ht56, hTr56, hTp56⟩ := hp54
        (try dsimp only at hTp56)
        obtain ⟨x0_57, x1_57, x2_57, hO57, hk57_0, hk57_1, hk57_2, hk57_3, hk57_4, hk57_5, hk57_6⟩ := CI_o19 hw53 hρp
        have X58 := ln_ff (f' := f_56) (LN_fr (g53.2 p (by rw [hρp]; decide)) (g53.2 (p + 2) (by rw [hk57_4]; decide)) (g53.2 (p + 3) (by rw [hk57_5]; decide)) (g53.2 (p + 4) (by rw [hk57_6]; decide)) hX52) (by omega)
        refine hR (?_ : R (_, _, _, _, _, _))
        exact ih44 _ _ hw53 fr55 (by omega) (te_of hT56 ht56 (by omega) ⟨by omega, X58⟩) (by omega)
      iterate 3 refine hR (?_ : R (_, _, _, _, _, _))
      obtain ⟨x0_39, x1_39, x2_39, hO39, hk39_0, hk39_1, hk39_2, hk39_3, hk39_4, hk39_5, hk39_6⟩ := CI_o19 hw_44 hρp
      refine hR (t_abs1 (c_vt0 hO39 ?_))
      refine zcall_i 0 0 (Nat.le_of_ble_eq_true rfl) (Nat.le_of_ble_eq_true rfl) (c_fewestNumbers_b _ p v4 hw_44 hρp (by omega) _ fun v36 hp38 => ?_)
      refine (?_ : R (_, _, (.int (Int32.ofInt v36)) :: (.int (Int32.ofInt nu)) :: [], w_44, 0, 0))
      refine hR (j_lt (by omega) (by omega) (fun hc40 => ?_) (fun hc40 => ?_))
      · skip
        refine hR (?_ : R (_, _, _, _, _, _))
        exact hR (zret_i rfl (Nat.le_refl _) (zbo (by omega)) (h _ _ hw_44 fr_44 (by omega) (te_of hT21 ht21 (by omega) ⟨by omega, Or.inl (by omega)⟩)))
      refine hR (?_ : R (_, _, _, _, _, _))
      refine hR (c_get hT21 rfl ?_)
      refine hR (?_ : R (_, _, _, _, _, _))
      refine hR (j_eq (by omega) (by omega) (fun hc41 => ?_) (fun hc41 => ?_))
      rotate_left
      · skip
        refine hR (?_ : R (_, _, _, _, _, _))
        exact hR (zret_i rfl (Nat.le_refl _) (zbo (by omega)) (h _ _ hw_44 fr_44 (by omega) (te_of hT21 ht21 (by omega) ⟨by omega, Or.inl (by omega)⟩)))
      refine hR (?_ : R (_, _, _, _, _, _))
      refine hR (c_obj hT21 (zcall_i 0 0 (Nat.le_of_ble_eq_true rfl) (Nat.le_of_ble_eq_true rfl) (c_advance _ q f_21 hw_44 hρq (te_of hT21 ht21 (by omega) (by (try dsimp only); omega)) _ fun w42 hw42 g42 hp43 => ?_)))
      have fr44 := wfR_tr fr_44 g42 (by decide)
      have hO45 := (g42.2 p (by rw [hρp]; decide)).trans hO39
      refine (?_ : R (_, _, [], w42, 0, 0))
      obtain ⟨t_46, l_46, a_46, k_46, s_46, v_46, f_46, c_46, hT46, ht46, hTr46, hTp46⟩ := hp43
      (try dsimp only at hTp46)
      have X47 := ln_ff (f' := f_46) (LN_fr (g42.2 p (by rw [hρp]; decide)) (g42.2 (p + 2) (by rw [hk39_4]; decide)) (g42.2 (p + 3) (by rw [hk39_5]; decide)) (g42.2 (p + 4) (by rw [hk39_6]; decide)) hX21) (by omega)
      refine hR (?_ : R (_, _, _, _, _, _))
      exact hR (zret_i rfl (Nat.le_refl _) (zbo (by omega)) (h _ _ hw42 fr44 (by omega) (te_of hT46 ht46 (by omega) ⟨by omega, Or.inr (ln_end X47 (by omega))⟩)))
  exact lp44 400000000 _ _ hw12 fr14 (by omega) (te_of hT15 ht15 (by omega) ⟨by omega, X17⟩) (by omega)
theorem c_tellLine_y {ρ : Nat → Nat} {w : zW} (d : Nat) (q p : Nat) (hw : CI ρ w) (hρq : ρ q = 9) (hρp : ρ p = 30) (hr0 : TE ρ w q (fun l a s v f => 0 ≤ s ∧ s ≤ a ∧ a ≤ l ∧ l ≤ 600)) (Q : zQ) (h : ∀ (v : Int) (w' : zW), CI ρ w' → wfR [9, 30, 31, 32, 33] ρ w w' → (v = 0 ∨ v = 1) → (TE ρ w' q (fun l a s x f => (0 ≤ s ∧ s ≤ a ∧ a ≤ l ∧ l ≤ 600))) → Q (some (.int (Int32.ofInt v))) w') : zCl zTab (d + 7) iX7_tellLine [.ref q, .ref p] w 0 0 Q := by
  refine zCl_i (M := kX7_tellLine) rfl (Nat.le_of_ble_eq_true rfl) fun R hR => ?_
  have fr0 := wfR_rf [9, 30, 31, 32, 33] ρ w
  obtain ⟨t_1, l_1, a_1, k_1, s_1, v_1, f_1, c_1, hT1, ht1, hTr1, hTp1⟩ := hr0
  (try dsimp only at hTp1)
  obtain ⟨x0_2, hO2, hk2_0, hk2_1, hk2_2, hk2_3⟩ := CI_o30 hw hρp
  refine hR (?_ : R (_, _, _, _, _, _))
  refine hR (c_get hT1 rfl ?_)
  refine hR (?_ : R (_, _, _, _, _, _))
  refine hR (j_ne (by omega) (by omega) (fun hc3 => ?_) (fun hc3 => ?_))
  · skip
    iterate 4 refine hR (?_ : R (_, _, _, _, _, _))
    refine hR (j_ne (by omega) (by omega) (fun hc => by omega) (fun _ => ?_))
    refine hR (?_ : R (_, _, _, _, _, _))
    exact hR (zret_i rfl (Nat.le_refl _) (zbo (by omega)) (h _ _ hw fr0 (by omega) (te_of hT1 ht1 (by omega) (by (try dsimp only); omega))))
  iterate 2 refine hR (?_ : R (_, _, _, _, _, _))
  refine hR (t_abs1 (c_vt9 hO2 ?_))
  refine zcall_i 0 0 (Nat.le_of_ble_eq_true rfl) (Nat.le_of_ble_eq_true rfl) (c_lineOf_y _ p q hw hρp hρq (te_of hT1 ht1 (by omega) (by (try dsimp only); omega)) _ fun v4 hp6 => ?_)
  refine (?_ : R (_, _, (.int (Int32.ofInt v4)) :: [], w, 0, 0))
  iterate 4 refine hR (?_ : R (_, _, _, _, _, _))
  refine hR (j_ne (by omega) (by omega) (fun hc7 => ?_) (fun hc7 => ?_))
  rotate_left
  · skip
    refine hR (?_ : R (_, _, _, _, _, _))
    exact hR (zret_i rfl (Nat.le_refl _) (zbo (by omega)) (h _ _ hw fr0 (by omega) (te_of hT1 ht1 (by omega) (by (try dsimp only); omega))))
  iterate 3 refine hR (?_ : R (_, _, _, _, _, _))
  refine hR (t_abs2 (c_vt9 hO2 ?_))
  refine zcall_i 0 0 (Nat.le_of_ble_eq_true rfl) (Nat.le_of_ble_eq_true rfl) (c_beginLine_y _ p q v4 hw hρp hρq (by omega) (te_of hT1 ht1 (by omega) (by (try dsimp only); omega)) _ fun w8 hw8 g8 hp9 => ?_)
  have fr10 := wfR_tr fr0 g8 (by decide)
  refine (?_ : R (_, _, [], w8, 0, 0))
  obtain ⟨t_11, l_11, a_11, k_11, s_11, v_11, f_11, c_11, hT11, ht11, hTr11, hTp11⟩ := hp9
  (try dsimp only at hTp11)
  refine hR (?_ : R (_, _, _, _, _, _))
  refine hR (c_obj hT11 (zcall_i 0 0 (Nat.le_of_ble_eq_true rfl) (Nat.le_of_ble_eq_true rfl) (c_advance _ q f_11 hw8 hρq (te_of hT11 ht11 (by omega) (by (try dsimp only); omega)) _ fun w12 hw12 g12 hp13 => ?_)))
  have fr14 := wfR_tr fr10 g12 (by decide)
  refine (?_ : R (_, _, [], w12, 0, 0))
  obtain ⟨t_15, l_15, a_15, k_15, s_15, v_15, f_15, c_15, hT15, ht15, hTr15, hTp15⟩ := hp13
  (try dsimp only at hTp15)
  iterate 2 refine hR (?_ : R (_, _, _, _, _, _))
  obtain ⟨x0_19, hO19, hk19_0, hk19_1, hk19_2, hk19_3⟩ := CI_o30 hw12 hρp
  refine hR (t_abs1 (c_vt9 hO19 ?_))
  refine zcall_i 0 0 (Nat.le_of_ble_eq_true rfl) (Nat.le_of_ble_eq_true rfl) (c_mostNumbers_y _ p v4 hw12 hρp (by omega) _ fun v16 hp18 => ?_)
  refine (?_ : R (_, _, (.int (Int32.ofInt v16)) :: [], w12, 0, 0))
  iterate 3 refine hR (?_ : R (_, _, _, _, _, _))
  have lp44 : ∀ (N : Nat) (nu : Int) (w_44 : zW), (CI ρ w_44) → (wfR [9, 30, 31, 32, 33] ρ w w_44) → (0 ≤ nu ∧ nu ≤ 600) → (TE ρ w_44 q (fun l a s v f => 0 ≤ s ∧ s ≤ a ∧ a ≤ l ∧ l ≤ 600)) → (601 - nu < N) → R (44, [some (.ref q), some (.ref p), some (.int (Int32.ofInt v4)), some (.int (Int32.ofInt v16)), some (.int (Int32.ofInt nu))], [], w_44, 0, 0) := by
    intro N
    induction N with
    | zero => intros; omega
    | succ N ih44 =>
      intro nu w_44 hw_44 fr_44 hf0_44 hp0_44 hN44
      obtain ⟨t_20, l_20, a_20, k_20, s_20, v_20, f_20, c_20, hT20, ht20, hTr20, hTp20⟩ := hp0_44
      (try dsimp only at hTp20)
      iterate 2 refine hR (?_ : R (_, _, _, _, _, _))
      refine hR (j_ge (by omega) (by omega) (fun hc21 => ?_) (fun hc21 => ?_))
      · skip
        iterate 3 refine hR (?_ : R (_, _, _, _, _, _))
        obtain ⟨x0_25, hO25, hk25_0, hk25_1, hk25_2, hk25_3⟩ := CI_o30 hw_44 hρp
        refine hR (t_abs1 (c_vt9 hO25 ?_))
        refine zcall_i 0 0 (Nat.le_of_ble_eq_true rfl) (Nat.le_of_ble_eq_true rfl) (c_fewestNumbers_y _ p v4 hw_44 hρp (by omega) _ fun v22 hp24 => ?_)
        refine (?_ : R (_, _, (.int (Int32.ofInt v22)) :: (.int (Int32.ofInt nu)) :: [], w_44, 0, 0))
        refine hR (j_lt (by omega) (by omega) (fun hc26 => ?_) (fun hc26 => ?_))
        · skip
          refine hR (?_ : R (_, _, _, _, _, _))
          exact hR (zret_i rfl (Nat.le_refl _) (zbo (by omega)) (h _ _ hw_44 fr_44 (by omega) (te_of hT20 ht20 (by omega) (by (try dsimp only); omega))))
        refine hR (?_ : R (_, _, _, _, _, _))
        refine hR (c_get hT20 rfl ?_)
        refine hR (?_ : R (_, _, _, _, _, _))
        refine hR (j_eq (by omega) (by omega) (fun hc27 => ?_) (fun hc27 => ?_))
        rotate_left
        · skip
          refine hR (?_ : R (_, _, _, _, _, _))
          exact hR (zret_i rfl (Nat.le_refl _) (zbo (by omega)) (h _ _ hw_44 fr_44 (by omega) (te_of hT20 ht20 (by omega) (by (try dsimp only); omega))))
        refine hR (?_ : R (_, _, _, _, _, _))
        refine hR (c_obj hT20 (zcall_i 0 0 (Nat.le_of_ble_eq_true rfl) (Nat.le_of_ble_eq_true rfl) (c_advance _ q f_20 hw_44 hρq (te_of hT20 ht20 (by omega) (by (try dsimp only); omega)) _ fun w28 hw28 g28 hp29 => ?_)))
        have fr30 := wfR_tr fr_44 g28 (by decide)
        have hO31 := (g28.2 p (by rw [hρp]; decide)).trans hO25
        refine (?_ : R (_, _, [], w28, 0, 0))
        obtain ⟨t_32, l_32, a_32, k_32, s_32, v_32, f_32, c_32, hT32, ht32, hTr32, hTp32⟩ := hp29
        (try dsimp only at hTp32)
        refine hR (?_ : R (_, _, _, _, _, _))
        exact hR (zret_i rfl (Nat.le_refl _) (zbo (by omega)) (h _ _ hw28 fr30 (by omega) (te_of hT32 ht32 (by omega) (by (try dsimp only); omega))))
      refine hR (?_ : R (_, _, _, _, _, _))
      refine hR (c_get hT20 rfl ?_)
      refine hR (?_ : R (_, _, _, _, _, _))
      refine hR (j_ne (by omega) (by omega) (fun hc33 => ?_) (fun hc33 => ?_))
      rotate_left
      · skip
        iterate 4 refine hR (?_ : R (_, _, _, _, _, _))
        obtain ⟨x0_47, hO47, hk47_0, hk47_1, hk47_2, hk47_3⟩ := CI_o30 hw_44 hρp
        refine hR (t_abs3 (c_vt9 hO47 ?_))
        refine zcall_i 0 0 (Nat.le_of_ble_eq_true rfl) (Nat.le_of_ble_eq_true rfl) (c_takeNumber_y _ p q v4 nu hw_44 hρp hρq (by omega) (by omega) (te_of hT20 ht20 (by omega) (by (try dsimp only); omega)) _ fun w45 hw45 g45 hp46 => ?_)
        have fr48 := wfR_tr fr_44 g45 (by decide)
        have hO49 := (g45.2 p (by rw [hρp]; decide)).trans hO47
        refine (?_ : R (_, _, [], w45, 0, 0))
        obtain ⟨t_50, l_50, a_50, k_50, s_50, v_50, f_50, c_50, hT50, ht50, hTr50, hTp50⟩ := hp46
        (try dsimp only at hTp50)
        refine hR (t_inc ?_)
        refine hR (?_ : R (_, _, _, _, _, _))
        refine hR (c_obj hT50 (zcall_i 0 0 (Nat.le_of_ble_eq_true rfl) (Nat.le_of_ble_eq_true rfl) (c_advance _ q f_50 hw45 hρq (te_of hT50 ht50 (by omega) (by (try dsimp only); omega)) _ fun w51 hw51 g51 hp52 => ?_)))
        have fr53 := wfR_tr fr48 g51 (by decide)
        have hO54 := (g51.2 p (by rw [hρp]; decide)).trans hO49
        refine (?_ : R (_, _, [], w51, 0, 0))
        obtain ⟨t_55, l_55, a_55, k_55, s_55, v_55, f_55, c_55, hT55, ht55, hTr55, hTp55⟩ := hp52
        (try dsimp only at hTp55)
        refine hR (?_ : R (_, _, _, _, _, _))
        exact ih44 _ _ hw51 fr53 (by omega) (te_of hT55 ht55 (by omega) (by (try dsimp only); omega)) (by omega)
      iterate 3 refine hR (?_ : R (_, _, _, _, _, _))
      obtain ⟨x0_37, hO37, hk37_0, hk37_1, hk37_2, hk37_3⟩ := CI_o30 hw_44 hρp
      refine hR (t_abs1 (c_vt9 hO37 ?_))
      refine zcall_i 0 0 (Nat.le_of_ble_eq_true rfl) (Nat.le_of_ble_eq_true rfl) (c_fewestNumbers_y _ p v4 hw_44 hρp (by omega) _ fun v34 hp36 => ?_)
      refine (?_ : R (_, _, (.int (Int32.ofInt v34)) :: (.int (Int32.ofInt nu)) :: [], w_44, 0, 0))
      refine hR (j_lt (by omega) (by omega) (fun hc38 => ?_) (fun hc38 => ?_))
      · skip
        refine hR (?_ : R (_, _, _, _, _, _))
        exact hR (zret_i rfl (Nat.le_refl _) (zbo (by omega)) (h _ _ hw_44 fr_44 (by omega) (te_of hT20 ht20 (by omega) (by (try dsimp only); omega))))
      refine hR (?_ : R (_, _, _, _, _, _))
      refine hR (c_get hT20 rfl ?_)
      refine hR (?_ : R (_, _, _, _, _, _))
      refine hR (j_eq (by omega) (by omega) (fun hc39 => ?_) (fun hc39 => ?_))
      rotate_left
      · skip
        refine hR (?_ : R (_, _, _, _, _, _))
        exact hR (zret_i rfl (Nat.le_refl _) (zbo (by omega)) (h _ _ hw_44 fr_44 (by omega) (te_of hT20 ht20 (by omega) (by (try dsimp only); omega))))
      refine hR (?_ : R (_, _, _, _, _, _))
      refine hR (c_obj hT20 (zcall_i 0 0 (Nat.le_of_ble_eq_true rfl) (Nat.le_of_ble_eq_true rfl) (c_advance _ q f_20 hw_44 hρq (te_of hT20 ht20 (by omega) (by (try dsimp only); omega)) _ fun w40 hw40 g40 hp41 => ?_)))
      have fr42 := wfR_tr fr_44 g40 (by decide)
      have hO43 := (g40.2 p (by rw [hρp]; decide)).trans hO37
      refine (?_ : R (_, _, [], w40, 0, 0))
      obtain ⟨t_44, l_44, a_44, k_44, s_44, v_44, f_44, c_44, hT44, ht44, hTr44, hTp44⟩ := hp41
      (try dsimp only at hTp44)
      refine hR (?_ : R (_, _, _, _, _, _))
      exact hR (zret_i rfl (Nat.le_refl _) (zbo (by omega)) (h _ _ hw40 fr42 (by omega) (te_of hT44 ht44 (by omega) (by (try dsimp only); omega))))
  exact lp44 400000000 _ _ hw12 fr14 (by omega) (te_of hT15 ht15 (by omega) (by (try dsimp only); omega)) (by omega)
theorem c_tellLine_s {ρ : Nat → Nat} {w : zW} (d : Nat) (q p : Nat) (hw : CI ρ w) (hρq : ρ q = 9) (hρp : ρ p = 40) (hr0 : TE ρ w q (fun l a s v f => 0 ≤ s ∧ s ≤ a ∧ a ≤ l ∧ l ≤ 600)) (Q : zQ) (h : ∀ (v : Int) (w' : zW), CI ρ w' → wfR [9, 40, 41, 42] ρ w w' → (v = 0 ∨ v = 1) → (TE ρ w' q (fun l a s x f => (0 ≤ s ∧ s ≤ a ∧ a ≤ l ∧ l ≤ 600))) → Q (some (.int (Int32.ofInt v))) w') : zCl zTab (d + 7) iX7_tellLine [.ref q, .ref p] w 0 0 Q := by
  refine zCl_i (M := kX7_tellLine) rfl (Nat.le_of_ble_eq_true rfl) fun R hR => ?_
  have fr0 := wfR_rf [9, 40, 41, 42] ρ w
  obtain ⟨t_1, l_1, a_1, k_1, s_1, v_1, f_1, c_1, hT1, ht1, hTr1, hTp1⟩ := hr0
  (try dsimp only at hTp1)
  obtain ⟨x0_2, hO2, hk2_0, hk2_1, hk2_2⟩ := CI_o40 hw hρp
  refine hR (?_ : R (_, _, _, _, _, _))
  refine hR (c_get hT1 rfl ?_)
  refine hR (?_ : R (_, _, _, _, _, _))
  refine hR (j_ne (by omega) (by omega) (fun hc3 => ?_) (fun hc3 => ?_))
  · skip
    iterate 4 refine hR (?_ : R (_, _, _, _, _, _))
    refine hR (j_ne (by omega) (by omega) (fun hc => by omega) (fun _ => ?_))
    refine hR (?_ : R (_, _, _, _, _, _))
    exact hR (zret_i rfl (Nat.le_refl _) (zbo (by omega)) (h _ _ hw fr0 (by omega) (te_of hT1 ht1 (by omega) (by (try dsimp only); omega))))
  iterate 2 refine hR (?_ : R (_, _, _, _, _, _))
  refine hR (t_abs1 (c_vt5 hO2 ?_))
  refine zcall_i 0 0 (Nat.le_of_ble_eq_true rfl) (Nat.le_of_ble_eq_true rfl) (c_lineOf_s _ p q hw hρp hρq (te_of hT1 ht1 (by omega) (by (try dsimp only); omega)) _ fun v4 hp6 => ?_)
  refine (?_ : R (_, _, (.int (Int32.ofInt v4)) :: [], w, 0, 0))
  iterate 4 refine hR (?_ : R (_, _, _, _, _, _))
  refine hR (j_ne (by omega) (by omega) (fun hc7 => ?_) (fun hc7 => ?_))
  rotate_left
  · skip
    refine hR (?_ : R (_, _, _, _, _, _))
    exact hR (zret_i rfl (Nat.le_refl _) (zbo (by omega)) (h _ _ hw fr0 (by omega) (te_of hT1 ht1 (by omega) (by (try dsimp only); omega))))
  iterate 3 refine hR (?_ : R (_, _, _, _, _, _))
  refine hR (t_abs2 (c_vt5 hO2 ?_))
  refine zcall_i 0 0 (Nat.le_of_ble_eq_true rfl) (Nat.le_of_ble_eq_true rfl) (c_beginLine_s _ p q v4 hw hρp hρq (by omega) (te_of hT1 ht1 (by omega) (by (try dsimp only); omega)) _ fun w8 hw8 g8 hp9 => ?_)
  have fr10 := wfR_tr fr0 g8 (by decide)
  refine (?_ : R (_, _, [], w8, 0, 0))
  obtain ⟨t_11, l_11, a_11, k_11, s_11, v_11, f_11, c_11, hT11, ht11, hTr11, hTp11⟩ := hp9
  (try dsimp only at hTp11)
  refine hR (?_ : R (_, _, _, _, _, _))
  refine hR (c_obj hT11 (zcall_i 0 0 (Nat.le_of_ble_eq_true rfl) (Nat.le_of_ble_eq_true rfl) (c_advance _ q f_11 hw8 hρq (te_of hT11 ht11 (by omega) (by (try dsimp only); omega)) _ fun w12 hw12 g12 hp13 => ?_)))
  have fr14 := wfR_tr fr10 g12 (by decide)
  refine (?_ : R (_, _, [], w12, 0, 0))
  obtain ⟨t_15, l_15, a_15, k_15, s_15, v_15, f_15, c_15, hT15, ht15, hTr15, hTp15⟩ := hp13
  (try dsimp only at hTp15)
  iterate 2 refine hR (?_ : R (_, _, _, _, _, _))
  obtain ⟨x0_19, hO19, hk19_0, hk19_1, hk19_2⟩ := CI_o40 hw12 hρp
  refine hR (t_abs1 (c_vt5 hO19 ?_))
  refine zcall_i 0 0 (Nat.le_of_ble_eq_true rfl) (Nat.le_of_ble_eq_true rfl) (c_mostNumbers_s _ p v4 hw12 hρp (by omega) _ fun v16 hp18 => ?_)
  refine (?_ : R (_, _, (.int (Int32.ofInt v16)) :: [], w12, 0, 0))
  iterate 3 refine hR (?_ : R (_, _, _, _, _, _))
  have lp44 : ∀ (N : Nat) (nu : Int) (w_44 : zW), (CI ρ w_44) → (wfR [9, 40, 41, 42] ρ w w_44) → (0 ≤ nu ∧ nu ≤ 600) → (TE ρ w_44 q (fun l a s v f => 0 ≤ s ∧ s ≤ a ∧ a ≤ l ∧ l ≤ 600)) → (601 - nu < N) → R (44, [some (.ref q), some (.ref p), some (.int (Int32.ofInt v4)), some (.int (Int32.ofInt v16)), some (.int (Int32.ofInt nu))], [], w_44, 0, 0) := by
    intro N
    induction N with
    | zero => intros; omega
    | succ N ih44 =>
      intro nu w_44 hw_44 fr_44 hf0_44 hp0_44 hN44
      obtain ⟨t_20, l_20, a_20, k_20, s_20, v_20, f_20, c_20, hT20, ht20, hTr20, hTp20⟩ := hp0_44
      (try dsimp only at hTp20)
      iterate 2 refine hR (?_ : R (_, _, _, _, _, _))
      refine hR (j_ge (by omega) (by omega) (fun hc21 => ?_) (fun hc21 => ?_))
      · skip
        iterate 3 refine hR (?_ : R (_, _, _, _, _, _))
        obtain ⟨x0_25, hO25, hk25_0, hk25_1, hk25_2⟩ := CI_o40 hw_44 hρp
        refine hR (t_abs1 (c_vt5 hO25 ?_))
        refine zcall_i 0 0 (Nat.le_of_ble_eq_true rfl) (Nat.le_of_ble_eq_true rfl) (c_fewestNumbers_s _ p v4 hw_44 hρp (by omega) _ fun v22 hp24 => ?_)
        refine (?_ : R (_, _, (.int (Int32.ofInt v22)) :: (.int (Int32.ofInt nu)) :: [], w_44, 0, 0))
        refine hR (j_lt (by omega) (by omega) (fun hc26 => ?_) (fun hc26 => ?_))
        · skip
          refine hR (?_ : R (_, _, _, _, _, _))
          exact hR (zret_i rfl (Nat.le_refl _) (zbo (by omega)) (h _ _ hw_44 fr_44 (by omega) (te_of hT20 ht20 (by omega) (by (try dsimp only); omega))))
        refine hR (?_ : R (_, _, _, _, _, _))
        refine hR (c_get hT20 rfl ?_)
        refine hR (?_ : R (_, _, _, _, _, _))
        refine hR (j_eq (by omega) (by omega) (fun hc27 => ?_) (fun hc27 => ?_))
        rotate_left
        · skip
          refine hR (?_ : R (_, _, _, _, _, _))
          exact hR (zret_i rfl (Nat.le_refl _) (zbo (by omega)) (h _ _ hw_44 fr_44 (by omega) (te_of hT20 ht20 (by omega) (by (try dsimp only); omega))))
        refine hR (?_ : R (_, _, _, _, _, _))
        refine hR (c_obj hT20 (zcall_i 0 0 (Nat.le_of_ble_eq_true rfl) (Nat.le_of_ble_eq_true rfl) (c_advance _ q f_20 hw_44 hρq (te_of hT20 ht20 (by omega) (by (try dsimp only); omega)) _ fun w28 hw28 g28 hp29 => ?_)))
        have fr30 := wfR_tr fr_44 g28 (by decide)
        have hO31 := (g28.2 p (by rw [hρp]; decide)).trans hO25
        refine (?_ : R (_, _, [], w28, 0, 0))
        obtain ⟨t_32, l_32, a_32, k_32, s_32, v_32, f_32, c_32, hT32, ht32, hTr32, hTp32⟩ := hp29
        (try dsimp only at hTp32)
        refine hR (?_ : R (_, _, _, _, _, _))
        exact hR (zret_i rfl (Nat.le_refl _) (zbo (by omega)) (h _ _ hw28 fr30 (by omega) (te_of hT32 ht32 (by omega) (by (try dsimp only); omega))))
      refine hR (?_ : R (_, _, _, _, _, _))
      refine hR (c_get hT20 rfl ?_)
      refine hR (?_ : R (_, _, _, _, _, _))
      refine hR (j_ne (by omega) (by omega) (fun hc33 => ?_) (fun hc33 => ?_))
      rotate_left
      · skip
        iterate 4 refine hR (?_ : R (_, _, _, _, _, _))
        obtain ⟨x0_47, hO47, hk47_0, hk47_1, hk47_2⟩ := CI_o40 hw_44 hρp
        refine hR (t_abs3 (c_vt5 hO47 ?_))
        refine zcall_i 0 0 (Nat.le_of_ble_eq_true rfl) (Nat.le_of_ble_eq_true rfl) (c_takeNumber_s _ p q v4 nu hw_44 hρp hρq (by omega) (by omega) (te_of hT20 ht20 (by omega) (by (try dsimp only); omega)) _ fun w45 hw45 g45 hp46 => ?_)
        have fr48 := wfR_tr fr_44 g45 (by decide)
        have hO49 := (g45.2 p (by rw [hρp]; decide)).trans hO47
        refine (?_ : R (_, _, [], w45, 0, 0))
        obtain ⟨t_50, l_50, a_50, k_50, s_50, v_50, f_50, c_50, hT50, ht50, hTr50, hTp50⟩ := hp46
        (try dsimp only at hTp50)
        refine hR (t_inc ?_)
        refine hR (?_ : R (_, _, _, _, _, _))
        refine hR (c_obj hT50 (zcall_i 0 0 (Nat.le_of_ble_eq_true rfl) (Nat.le_of_ble_eq_true rfl) (c_advance _ q f_50 hw45 hρq (te_of hT50 ht50 (by omega) (by (try dsimp only); omega)) _ fun w51 hw51 g51 hp52 => ?_)))
        have fr53 := wfR_tr fr48 g51 (by decide)
        have hO54 := (g51.2 p (by rw [hρp]; decide)).trans hO49
        refine (?_ : R (_, _, [], w51, 0, 0))
        obtain ⟨t_55, l_55, a_55, k_55, s_55, v_55, f_55, c_55, hT55, ht55, hTr55, hTp55⟩ := hp52
        (try dsimp only at hTp55)
        refine hR (?_ : R (_, _, _, _, _, _))
        exact ih44 _ _ hw51 fr53 (by omega) (te_of hT55 ht55 (by omega) (by (try dsimp only); omega)) (by omega)
      iterate 3 refine hR (?_ : R (_, _, _, _, _, _))
      obtain ⟨x0_37, hO37, hk37_0, hk37_1, hk37_2⟩ := CI_o40 hw_44 hρp
      refine hR (t_abs1 (c_vt5 hO37 ?_))
      refine zcall_i 0 0 (Nat.le_of_ble_eq_true rfl) (Nat.le_of_ble_eq_true rfl) (c_fewestNumbers_s _ p v4 hw_44 hρp (by omega) _ fun v34 hp36 => ?_)
      refine (?_ : R (_, _, (.int (Int32.ofInt v34)) :: (.int (Int32.ofInt nu)) :: [], w_44, 0, 0))
      refine hR (j_lt (by omega) (by omega) (fun hc38 => ?_) (fun hc38 => ?_))
      · skip
        refine hR (?_ : R (_, _, _, _, _, _))
        exact hR (zret_i rfl (Nat.le_refl _) (zbo (by omega)) (h _ _ hw_44 fr_44 (by omega) (te_of hT20 ht20 (by omega) (by (try dsimp only); omega))))
      refine hR (?_ : R (_, _, _, _, _, _))
      refine hR (c_get hT20 rfl ?_)
      refine hR (?_ : R (_, _, _, _, _, _))
      refine hR (j_eq (by omega) (by omega) (fun hc39 => ?_) (fun hc39 => ?_))
      rotate_left
      · skip
        refine hR (?_ : R (_, _, _, _, _, _))
        exact hR (zret_i rfl (Nat.le_refl _) (zbo (by omega)) (h _ _ hw_44 fr_44 (by omega) (te_of hT20 ht20 (by omega) (by (try dsimp only); omega))))
      refine hR (?_ : R (_, _, _, _, _, _))
      refine hR (c_obj hT20 (zcall_i 0 0 (Nat.le_of_ble_eq_true rfl) (Nat.le_of_ble_eq_true rfl) (c_advance _ q f_20 hw_44 hρq (te_of hT20 ht20 (by omega) (by (try dsimp only); omega)) _ fun w40 hw40 g40 hp41 => ?_)))
      have fr42 := wfR_tr fr_44 g40 (by decide)
      have hO43 := (g40.2 p (by rw [hρp]; decide)).trans hO37
      refine (?_ : R (_, _, [], w40, 0, 0))
      obtain ⟨t_44, l_44, a_44, k_44, s_44, v_44, f_44, c_44, hT44, ht44, hTr44, hTp44⟩ := hp41
      (try dsimp only at hTp44)
      refine hR (?_ : R (_, _, _, _, _, _))
      exact hR (zret_i rfl (Nat.le_refl _) (zbo (by omega)) (h _ _ hw40 fr42 (by omega) (te_of hT44 ht44 (by omega) (by (try dsimp only); omega))))
  exact lp44 400000000 _ _ hw12 fr14 (by omega) (te_of hT15 ht15 (by omega) (by (try dsimp only); omega)) (by omega)
theorem c_tell_b {ρ : Nat → Nat} {w : zW} (d : Nat) (q t p : Nat) (a1 : Int) (hw : CI ρ w) (hρq : ρ q = 9) (hρt : ρ t = 3) (hρp : ρ p = 19) (hr0 : 0 ≤ a1 ∧ a1 ≤ 600) (hr1 : REL w (p + 3)) (Q : zQ) (h : ∀ (v : Int) (w' : zW), CI ρ w' → wfR [9, 19, 21, 22, 25, 26] ρ w w' → (v = 0 ∨ v = 1) → (v = 0 ∨ REL w' (p + 3)) → Q (some (.int (Int32.ofInt v))) w') : zCl zTab (d + 8) iX7_tell [.ref q, .ref t, .int (Int32.ofInt a1), .ref p] w 0 0 Q := by
  refine zCl_i (M := kX7_tell) rfl (Nat.le_of_ble_eq_true rfl) fun R hR => ?_
  have fr0 := wfR_rf [9, 19, 21, 22, 25, 26] ρ w
  obtain ⟨x0_1, x1_1, x2_1, hO1, hk1_0, hk1_1, hk1_2, hk1_3, hk1_4, hk1_5, hk1_6⟩ := CI_o19 hw hρp
  have hX0 : (0 : Int) ≠ 0 ∨ REL w (p + 3) := Or.inr hr1
  iterate 2 refine hR (?_ : R (_, _, _, _, _, _))
  obtain ⟨y0_2, x1_2, x2_2, x3_2, x4_2, x5_2, x6_2, x7_2, hO2, hk2_0, hk2_1, hk2_2, hk2_3, hk2_4, hk2_5, hk2_6, hk2_7⟩ := CI_o9 hw hρq
  refine hR (c_put hO2 rfl rfl fun w3 f3 hO3 => ?_)
  have hw3 := CI_w9 hw hρq f3 (y0 := some t) hO3 ⟨(fun z h => by cases h; exact hρt), ⟨by omega, by omega⟩, ⟨by omega, by omega⟩, ⟨by omega, by omega⟩, ⟨by omega, by omega⟩, ⟨by omega, by omega⟩, ⟨by omega, by omega⟩, ⟨by omega, by omega⟩⟩
  have fr4 := wfR_st fr0 f3 (by rw [hρq]; decide)
  have hn5 := nn_of hO3
  have hO6 := (f3.2 p (rne hρp hρq (by decide))).trans hO1
  have X7 := rel_fr (f3.2 (p + 3) (rne hk1_5 hρq (by decide))) (f3.2 (p + 4) (rne hk1_6 hρq (by decide))) hX0
  iterate 2 refine hR (?_ : R (_, _, _, _, _, _))
  refine hR (c_put hO3 rfl rfl fun w8 f8 hO8 => ?_)
  have hw8 := CI_w9 hw3 hρq f8 (y0 := some t) hO8 ⟨(fun z h => by cases h; exact hρt), ⟨by omega, by omega⟩, ⟨by omega, by omega⟩, ⟨by omega, by omega⟩, ⟨by omega, by omega⟩, ⟨by omega, by omega⟩, ⟨by omega, by omega⟩, ⟨by omega, by omega⟩⟩
  have fr9 := wfR_st fr4 f8 (by rw [hρq]; decide)
  have hn10 := nn_of hO8
  have hO11 := (f8.2 p (rne hρp hρq (by decide))).trans hO6
  have X12 := rel_fr (f8.2 (p + 3) (rne hk1_5 hρq (by decide))) (f8.2 (p + 4) (rne hk1_6 hρq (by decide))) X7
  iterate 2 refine hR (?_ : R (_, _, _, _, _, _))
  refine hR (c_put hO8 rfl rfl fun w13 f13 hO13 => ?_)
  have hw13 := CI_w9 hw8 hρq f13 (y0 := some t) hO13 ⟨(fun z h => by cases h; exact hρt), ⟨by omega, by omega⟩, ⟨by omega, by omega⟩, ⟨by omega, by omega⟩, ⟨by omega, by omega⟩, ⟨by omega, by omega⟩, ⟨by omega, by omega⟩, ⟨by omega, by omega⟩⟩
  have fr14 := wfR_st fr9 f13 (by rw [hρq]; decide)
  have hn15 := nn_of hO13
  have hO16 := (f13.2 p (rne hρp hρq (by decide))).trans hO11
  have X17 := rel_fr (f13.2 (p + 3) (rne hk1_5 hρq (by decide))) (f13.2 (p + 4) (rne hk1_6 hρq (by decide))) X12
  iterate 2 refine hR (?_ : R (_, _, _, _, _, _))
  refine hR (c_put hO13 rfl rfl fun w18 f18 hO18 => ?_)
  have hw18 := CI_w9 hw13 hρq f18 (y0 := some t) hO18 ⟨(fun z h => by cases h; exact hρt), ⟨by omega, by omega⟩, ⟨by omega, by omega⟩, ⟨by omega, by omega⟩, ⟨by omega, by omega⟩, ⟨by omega, by omega⟩, ⟨by omega, by omega⟩, ⟨by omega, by omega⟩⟩
  have fr19 := wfR_st fr14 f18 (by rw [hρq]; decide)
  have hn20 := nn_of hO18
  have hO21 := (f18.2 p (rne hρp hρq (by decide))).trans hO16
  have X22 := rel_fr (f18.2 (p + 3) (rne hk1_5 hρq (by decide))) (f18.2 (p + 4) (rne hk1_6 hρq (by decide))) X17
  iterate 2 refine hR (?_ : R (_, _, _, _, _, _))
  refine hR (c_put hO18 rfl rfl fun w23 f23 hO23 => ?_)
  have hw23 := CI_w9 hw18 hρq f23 (y0 := some t) hO23 ⟨(fun z h => by cases h; exact hρt), ⟨by omega, by omega⟩, ⟨by omega, by omega⟩, ⟨by omega, by omega⟩, ⟨by omega, by omega⟩, ⟨by omega, by omega⟩, ⟨by omega, by omega⟩, ⟨by omega, by omega⟩⟩
  have fr24 := wfR_st fr19 f23 (by rw [hρq]; decide)
  have hn25 := nn_of hO23
  have hO26 := (f23.2 p (rne hρp hρq (by decide))).trans hO21
  have X27 := rel_fr (f23.2 (p + 3) (rne hk1_5 hρq (by decide))) (f23.2 (p + 4) (rne hk1_6 hρq (by decide))) X22
  refine hR (?_ : R (_, _, _, _, _, _))
  refine hR (c_obj hO23 (zcall_i 0 0 (Nat.le_of_ble_eq_true rfl) (Nat.le_of_ble_eq_true rfl) (c_advance _ q 0 hw23 hρq (te_of hO23 hρt (by omega) (by (try dsimp only); omega)) _ fun w28 hw28 g28 hp29 => ?_)))
  have fr30 := wfR_tr fr24 g28 (by decide)
  have hO31 := (g28.2 p (by rw [hρp]; decide)).trans hO26
  refine (?_ : R (_, _, [], w28, 0, 0))
  obtain ⟨t_32, l_32, a_32, k_32, s_32, v_32, f_32, c_32, hT32, ht32, hTr32, hTp32⟩ := hp29
  (try dsimp only at hTp32)
  have X33 : f_32 ≠ 0 ∨ REL w28 (p + 3) := Or.inr ((rel_fr (g28.2 (p + 3) (by rw [hk1_5]; decide)) (g28.2 (p + 4) (by rw [hk1_6]; decide)) X27).resolve_left (by omega))
  iterate 2 refine hR (?_ : R (_, _, _, _, _, _))
  have lp32 : ∀ (N : Nat) (it : Int) (w_32 : zW), (CI ρ w_32) → (wfR [9, 19, 21, 22, 25, 26] ρ w w_32) → (0 ≤ it ∧ it ≤ 601) → (TE ρ w_32 q (fun l a s v f => (0 ≤ s ∧ s ≤ a ∧ a ≤ l ∧ l ≤ 600) ∧ (f ≠ 0 ∨ REL w_32 (p + 3)))) → (602 - it < N) → R (32, [some (.ref q), some (.ref t), some (.int (Int32.ofInt a1)), some (.ref p), some (.int (Int32.ofInt it))], [], w_32, 0, 0) := by
    intro N
    induction N with
    | zero => intros; omega
    | succ N ih32 =>
      intro it w_32 hw_32 fr_32 hf0_32 hp0_32 hN32
      obtain ⟨t_34, l_34, a_34, k_34, s_34, v_34, f_34, c_34, hT34, ht34, hTr34, hTp34⟩ := hp0_32
      obtain ⟨hTp34, hX34⟩ := hTp34
      (try dsimp only at hTp34)
      refine hR (?_ : R (_, _, _, _, _, _))
      refine hR (t_c 600 (by decide) ?_)
      refine hR (j_gt (by omega) (by omega) (fun hc35 => ?_) (fun hc35 => ?_))
      · skip
        refine hR (?_ : R (_, _, _, _, _, _))
        refine hR (c_get hT34 rfl ?_)
        refine hR (k_ne (by omega) (fun hc36 => ?_) (fun hc36 => ?_))
        · skip
          refine hR (?_ : R (_, _, _, _, _, _))
          exact hR (zret_i rfl (Nat.le_refl _) (zbo (by omega)) (h _ _ hw_32 fr_32 (by omega) (Or.inl (by omega))))
        iterate 2 refine hR (?_ : R (_, _, _, _, _, _))
        exact hR (zret_i rfl (Nat.le_refl _) (zbo (by omega)) (h _ _ hw_32 fr_32 (by omega) (Or.inr (hX34.resolve_left (by omega)))))
      refine hR (?_ : R (_, _, _, _, _, _))
      refine hR (c_get hT34 rfl ?_)
      refine hR (k_eq (by omega) (fun hc37 => ?_) (fun hc37 => ?_))
      · skip
        refine hR (?_ : R (_, _, _, _, _, _))
        refine hR (c_get hT34 rfl ?_)
        refine hR (k_ne (by omega) (fun hc38 => ?_) (fun hc38 => ?_))
        · skip
          refine hR (?_ : R (_, _, _, _, _, _))
          exact hR (zret_i rfl (Nat.le_refl _) (zbo (by omega)) (h _ _ hw_32 fr_32 (by omega) (Or.inl (by omega))))
        iterate 2 refine hR (?_ : R (_, _, _, _, _, _))
        exact hR (zret_i rfl (Nat.le_refl _) (zbo (by omega)) (h _ _ hw_32 fr_32 (by omega) (Or.inr (hX34.resolve_left (by omega)))))
      iterate 2 refine hR (?_ : R (_, _, _, _, _, _))
      refine hR (c_obj hT34 (zcall_i 0 0 (Nat.le_of_ble_eq_true rfl) (Nat.le_of_ble_eq_true rfl) (c_tellLine_b _ q p hw_32 hρq hρp (te_of hT34 ht34 (by omega) ⟨by omega, hX34⟩) _ fun v39 w40 hw40 g40 hp41 hp42 => ?_)))
      have fr43 := wfR_tr fr_32 g40 (by decide)
      refine (?_ : R (_, _, (.int (Int32.ofInt v39)) :: [], w40, 0, 0))
      obtain ⟨t_44, l_44, a_44, k_44, s_44, v_44, f_44, c_44, hT44, ht44, hTr44, hTp44⟩ := hp42
      obtain ⟨hTp44, hX44⟩ := hTp44
      (try dsimp only at hTp44)
      refine hR (k_ne (by omega) (fun hc45 => ?_) (fun hc45 => ?_))
      · skip
        have X46 := hX44.resolve_left (by omega)
        refine hR (t_inc ?_)
        refine hR (?_ : R (_, _, _, _, _, _))
        exact ih32 _ _ hw40 fr43 (by omega) (te_of hT44 ht44 (by omega) ⟨by omega, X46⟩) (by omega)
      iterate 2 refine hR (?_ : R (_, _, _, _, _, _))
      refine hR (c_put hT44 rfl rfl fun w47 f47 hO47 => ?_)
      have hw47 := CI_w9 hw40 hρq f47 (y0 := some t_44) hO47 ⟨(fun z h => by cases h; exact ht44), ⟨by omega, by omega⟩, ⟨by omega, by omega⟩, ⟨by omega, by omega⟩, ⟨by omega, by omega⟩, ⟨by omega, by omega⟩, ⟨by omega, by omega⟩, ⟨by omega, by omega⟩⟩
      have fr48 := wfR_st fr43 f47 (by rw [hρq]; decide)
      iterate 2 refine hR (?_ : R (_, _, _, _, _, _))
      refine hR (c_get hO47 rfl ?_)
      refine hR (c_put hO47 rfl rfl fun w49 f49 hO49 => ?_)
      have hw49 := CI_w9 hw47 hρq f49 (y0 := some t_44) hO49 ⟨(fun z h => by cases h; exact ht44), ⟨by omega, by omega⟩, ⟨by omega, by omega⟩, ⟨by omega, by omega⟩, ⟨by omega, by omega⟩, ⟨by omega, by omega⟩, ⟨by omega, by omega⟩, ⟨by omega, by omega⟩⟩
      have fr50 := wfR_st fr48 f49 (by rw [hρq]; decide)
      refine hR (?_ : R (_, _, _, _, _, _))
      exact hR (zret_i rfl (Nat.le_refl _) (zbo (by omega)) (h _ _ hw49 fr50 (by omega) (Or.inl (by omega))))
  exact lp32 400000000 _ _ hw28 fr30 (by omega) (te_of hT32 ht32 (by omega) ⟨by omega, X33⟩) (by omega)
theorem c_tell_y {ρ : Nat → Nat} {w : zW} (d : Nat) (q t p : Nat) (a1 : Int) (hw : CI ρ w) (hρq : ρ q = 9) (hρt : ρ t = 3) (hρp : ρ p = 30) (hr0 : 0 ≤ a1 ∧ a1 ≤ 600) (Q : zQ) (h : ∀ (v : Int) (w' : zW), CI ρ w' → wfR [9, 30, 31, 32, 33] ρ w w' → (v = 0 ∨ v = 1) → Q (some (.int (Int32.ofInt v))) w') : zCl zTab (d + 8) iX7_tell [.ref q, .ref t, .int (Int32.ofInt a1), .ref p] w 0 0 Q := by
  refine zCl_i (M := kX7_tell) rfl (Nat.le_of_ble_eq_true rfl) fun R hR => ?_
  have fr0 := wfR_rf [9, 30, 31, 32, 33] ρ w
  obtain ⟨x0_1, hO1, hk1_0, hk1_1, hk1_2, hk1_3⟩ := CI_o30 hw hρp
  iterate 2 refine hR (?_ : R (_, _, _, _, _, _))
  obtain ⟨y0_2, x1_2, x2_2, x3_2, x4_2, x5_2, x6_2, x7_2, hO2, hk2_0, hk2_1, hk2_2, hk2_3, hk2_4, hk2_5, hk2_6, hk2_7⟩ := CI_o9 hw hρq
  refine hR (c_put hO2 rfl rfl fun w3 f3 hO3 => ?_)
  have hw3 := CI_w9 hw hρq f3 (y0 := some t) hO3 ⟨(fun z h => by cases h; exact hρt), ⟨by omega, by omega⟩, ⟨by omega, by omega⟩, ⟨by omega, by omega⟩, ⟨by omega, by omega⟩, ⟨by omega, by omega⟩, ⟨by omega, by omega⟩, ⟨by omega, by omega⟩⟩
  have fr4 := wfR_st fr0 f3 (by rw [hρq]; decide)
  have hn5 := nn_of hO3
  have hO6 := (f3.2 p (rne hρp hρq (by decide))).trans hO1
  iterate 2 refine hR (?_ : R (_, _, _, _, _, _))
  refine hR (c_put hO3 rfl rfl fun w7 f7 hO7 => ?_)
  have hw7 := CI_w9 hw3 hρq f7 (y0 := some t) hO7 ⟨(fun z h => by cases h; exact hρt), ⟨by omega, by omega⟩, ⟨by omega, by omega⟩, ⟨by omega, by omega⟩, ⟨by omega, by omega⟩, ⟨by omega, by omega⟩, ⟨by omega, by omega⟩, ⟨by omega, by omega⟩⟩
  have fr8 := wfR_st fr4 f7 (by rw [hρq]; decide)
  have hn9 := nn_of hO7
  have hO10 := (f7.2 p (rne hρp hρq (by decide))).trans hO6
  iterate 2 refine hR (?_ : R (_, _, _, _, _, _))
  refine hR (c_put hO7 rfl rfl fun w11 f11 hO11 => ?_)
  have hw11 := CI_w9 hw7 hρq f11 (y0 := some t) hO11 ⟨(fun z h => by cases h; exact hρt), ⟨by omega, by omega⟩, ⟨by omega, by omega⟩, ⟨by omega, by omega⟩, ⟨by omega, by omega⟩, ⟨by omega, by omega⟩, ⟨by omega, by omega⟩, ⟨by omega, by omega⟩⟩
  have fr12 := wfR_st fr8 f11 (by rw [hρq]; decide)
  have hn13 := nn_of hO11
  have hO14 := (f11.2 p (rne hρp hρq (by decide))).trans hO10
  iterate 2 refine hR (?_ : R (_, _, _, _, _, _))
  refine hR (c_put hO11 rfl rfl fun w15 f15 hO15 => ?_)
  have hw15 := CI_w9 hw11 hρq f15 (y0 := some t) hO15 ⟨(fun z h => by cases h; exact hρt), ⟨by omega, by omega⟩, ⟨by omega, by omega⟩, ⟨by omega, by omega⟩, ⟨by omega, by omega⟩, ⟨by omega, by omega⟩, ⟨by omega, by omega⟩, ⟨by omega, by omega⟩⟩
  have fr16 := wfR_st fr12 f15 (by rw [hρq]; decide)
  have hn17 := nn_of hO15
  have hO18 := (f15.2 p (rne hρp hρq (by decide))).trans hO14
  iterate 2 refine hR (?_ : R (_, _, _, _, _, _))
  refine hR (c_put hO15 rfl rfl fun w19 f19 hO19 => ?_)
  have hw19 := CI_w9 hw15 hρq f19 (y0 := some t) hO19 ⟨(fun z h => by cases h; exact hρt), ⟨by omega, by omega⟩, ⟨by omega, by omega⟩, ⟨by omega, by omega⟩, ⟨by omega, by omega⟩, ⟨by omega, by omega⟩, ⟨by omega, by omega⟩, ⟨by omega, by omega⟩⟩
  have fr20 := wfR_st fr16 f19 (by rw [hρq]; decide)
  have hn21 := nn_of hO19
  have hO22 := (f19.2 p (rne hρp hρq (by decide))).trans hO18
  refine hR (?_ : R (_, _, _, _, _, _))
  refine hR (c_obj hO19 (zcall_i 0 0 (Nat.le_of_ble_eq_true rfl) (Nat.le_of_ble_eq_true rfl) (c_advance _ q 0 hw19 hρq (te_of hO19 hρt (by omega) (by (try dsimp only); omega)) _ fun w23 hw23 g23 hp24 => ?_)))
  have fr25 := wfR_tr fr20 g23 (by decide)
  have hO26 := (g23.2 p (by rw [hρp]; decide)).trans hO22
  refine (?_ : R (_, _, [], w23, 0, 0))
  obtain ⟨t_27, l_27, a_27, k_27, s_27, v_27, f_27, c_27, hT27, ht27, hTr27, hTp27⟩ := hp24
  (try dsimp only at hTp27)
  iterate 2 refine hR (?_ : R (_, _, _, _, _, _))
  have lp32 : ∀ (N : Nat) (it : Int) (w_32 : zW), (CI ρ w_32) → (wfR [9, 30, 31, 32, 33] ρ w w_32) → (0 ≤ it ∧ it ≤ 601) → (TE ρ w_32 q (fun l a s v f => 0 ≤ s ∧ s ≤ a ∧ a ≤ l ∧ l ≤ 600)) → (602 - it < N) → R (32, [some (.ref q), some (.ref t), some (.int (Int32.ofInt a1)), some (.ref p), some (.int (Int32.ofInt it))], [], w_32, 0, 0) := by
    intro N
    induction N with
    | zero => intros; omega
    | succ N ih32 =>
      intro it w_32 hw_32 fr_32 hf0_32 hp0_32 hN32
      obtain ⟨t_28, l_28, a_28, k_28, s_28, v_28, f_28, c_28, hT28, ht28, hTr28, hTp28⟩ := hp0_32
      (try dsimp only at hTp28)
      refine hR (?_ : R (_, _, _, _, _, _))
      refine hR (t_c 600 (by decide) ?_)
      refine hR (j_gt (by omega) (by omega) (fun hc29 => ?_) (fun hc29 => ?_))
      · skip
        refine hR (?_ : R (_, _, _, _, _, _))
        refine hR (c_get hT28 rfl ?_)
        refine hR (k_ne (by omega) (fun hc30 => ?_) (fun hc30 => ?_))
        · skip
          refine hR (?_ : R (_, _, _, _, _, _))
          exact hR (zret_i rfl (Nat.le_refl _) (zbo (by omega)) (h _ _ hw_32 fr_32 (by omega)))
        iterate 2 refine hR (?_ : R (_, _, _, _, _, _))
        exact hR (zret_i rfl (Nat.le_refl _) (zbo (by omega)) (h _ _ hw_32 fr_32 (by omega)))
      refine hR (?_ : R (_, _, _, _, _, _))
      refine hR (c_get hT28 rfl ?_)
      refine hR (k_eq (by omega) (fun hc31 => ?_) (fun hc31 => ?_))
      · skip
        refine hR (?_ : R (_, _, _, _, _, _))
        refine hR (c_get hT28 rfl ?_)
        refine hR (k_ne (by omega) (fun hc32 => ?_) (fun hc32 => ?_))
        · skip
          refine hR (?_ : R (_, _, _, _, _, _))
          exact hR (zret_i rfl (Nat.le_refl _) (zbo (by omega)) (h _ _ hw_32 fr_32 (by omega)))
        iterate 2 refine hR (?_ : R (_, _, _, _, _, _))
        exact hR (zret_i rfl (Nat.le_refl _) (zbo (by omega)) (h _ _ hw_32 fr_32 (by omega)))
      iterate 2 refine hR (?_ : R (_, _, _, _, _, _))
      refine hR (c_obj hT28 (zcall_i 0 0 (Nat.le_of_ble_eq_true rfl) (Nat.le_of_ble_eq_true rfl) (c_tellLine_y _ q p hw_32 hρq hρp (te_of hT28 ht28 (by omega) (by (try dsimp only); omega)) _ fun v33 w34 hw34 g34 hp35 hp36 => ?_)))
      have fr37 := wfR_tr fr_32 g34 (by decide)
      refine (?_ : R (_, _, (.int (Int32.ofInt v33)) :: [], w34, 0, 0))
      obtain ⟨t_38, l_38, a_38, k_38, s_38, v_38, f_38, c_38, hT38, ht38, hTr38, hTp38⟩ := hp36
      (try dsimp only at hTp38)
      refine hR (k_ne (by omega) (fun hc39 => ?_) (fun hc39 => ?_))
      · skip
        refine hR (t_inc ?_)
        refine hR (?_ : R (_, _, _, _, _, _))
        exact ih32 _ _ hw34 fr37 (by omega) (te_of hT38 ht38 (by omega) (by (try dsimp only); omega)) (by omega)
      iterate 2 refine hR (?_ : R (_, _, _, _, _, _))
      refine hR (c_put hT38 rfl rfl fun w40 f40 hO40 => ?_)
      have hw40 := CI_w9 hw34 hρq f40 (y0 := some t_38) hO40 ⟨(fun z h => by cases h; exact ht38), ⟨by omega, by omega⟩, ⟨by omega, by omega⟩, ⟨by omega, by omega⟩, ⟨by omega, by omega⟩, ⟨by omega, by omega⟩, ⟨by omega, by omega⟩, ⟨by omega, by omega⟩⟩
      have fr41 := wfR_st fr37 f40 (by rw [hρq]; decide)
      iterate 2 refine hR (?_ : R (_, _, _, _, _, _))
      refine hR (c_get hO40 rfl ?_)
      refine hR (c_put hO40 rfl rfl fun w42 f42 hO42 => ?_)
      have hw42 := CI_w9 hw40 hρq f42 (y0 := some t_38) hO42 ⟨(fun z h => by cases h; exact ht38), ⟨by omega, by omega⟩, ⟨by omega, by omega⟩, ⟨by omega, by omega⟩, ⟨by omega, by omega⟩, ⟨by omega, by omega⟩, ⟨by omega, by omega⟩, ⟨by omega, by omega⟩⟩
      have fr43 := wfR_st fr41 f42 (by rw [hρq]; decide)
      refine hR (?_ : R (_, _, _, _, _, _))
      exact hR (zret_i rfl (Nat.le_refl _) (zbo (by omega)) (h _ _ hw42 fr43 (by omega)))
  exact lp32 400000000 _ _ hw23 fr25 (by omega) (te_of hT27 ht27 (by omega) (by (try dsimp only); omega)) (by omega)
theorem c_tell_s {ρ : Nat → Nat} {w : zW} (d : Nat) (q t p : Nat) (a1 : Int) (hw : CI ρ w) (hρq : ρ q = 9) (hρt : ρ t = 3) (hρp : ρ p = 40) (hr0 : 0 ≤ a1 ∧ a1 ≤ 600) (Q : zQ) (h : ∀ (v : Int) (w' : zW), CI ρ w' → wfR [9, 40, 41, 42] ρ w w' → (v = 0 ∨ v = 1) → Q (some (.int (Int32.ofInt v))) w') : zCl zTab (d + 8) iX7_tell [.ref q, .ref t, .int (Int32.ofInt a1), .ref p] w 0 0 Q := by
  refine zCl_i (M := kX7_tell) rfl (Nat.le_of_ble_eq_true rfl) fun R hR => ?_
  have fr0 := wfR_rf [9, 40, 41, 42] ρ w
  obtain ⟨x0_1, hO1, hk1_0, hk1_1, hk1_2⟩ := CI_o40 hw hρp
  iterate 2 refine hR (?_ : R (_, _, _, _, _, _))
  obtain ⟨y0_2, x1_2, x2_2, x3_2, x4_2, x5_2, x6_2, x7_2, hO2, hk2_0, hk2_1, hk2_2, hk2_3, hk2_4, hk2_5, hk2_6, hk2_7⟩ := CI_o9 hw hρq
  refine hR (c_put hO2 rfl rfl fun w3 f3 hO3 => ?_)
  have hw3 := CI_w9 hw hρq f3 (y0 := some t) hO3 ⟨(fun z h => by cases h; exact hρt), ⟨by omega, by omega⟩, ⟨by omega, by omega⟩, ⟨by omega, by omega⟩, ⟨by omega, by omega⟩, ⟨by omega, by omega⟩, ⟨by omega, by omega⟩, ⟨by omega, by omega⟩⟩
  have fr4 := wfR_st fr0 f3 (by rw [hρq]; decide)
  have hn5 := nn_of hO3
  have hO6 := (f3.2 p (rne hρp hρq (by decide))).trans hO1
  iterate 2 refine hR (?_ : R (_, _, _, _, _, _))
  refine hR (c_put hO3 rfl rfl fun w7 f7 hO7 => ?_)
  have hw7 := CI_w9 hw3 hρq f7 (y0 := some t) hO7 ⟨(fun z h => by cases h; exact hρt), ⟨by omega, by omega⟩, ⟨by omega, by omega⟩, ⟨by omega, by omega⟩, ⟨by omega, by omega⟩, ⟨by omega, by omega⟩, ⟨by omega, by omega⟩, ⟨by omega, by omega⟩⟩
  have fr8 := wfR_st fr4 f7 (by rw [hρq]; decide)
  have hn9 := nn_of hO7
  have hO10 := (f7.2 p (rne hρp hρq (by decide))).trans hO6
  iterate 2 refine hR (?_ : R (_, _, _, _, _, _))
  refine hR (c_put hO7 rfl rfl fun w11 f11 hO11 => ?_)
  have hw11 := CI_w9 hw7 hρq f11 (y0 := some t) hO11 ⟨(fun z h => by cases h; exact hρt), ⟨by omega, by omega⟩, ⟨by omega, by omega⟩, ⟨by omega, by omega⟩, ⟨by omega, by omega⟩, ⟨by omega, by omega⟩, ⟨by omega, by omega⟩, ⟨by omega, by omega⟩⟩
  have fr12 := wfR_st fr8 f11 (by rw [hρq]; decide)
  have hn13 := nn_of hO11
  have hO14 := (f11.2 p (rne hρp hρq (by decide))).trans hO10
  iterate 2 refine hR (?_ : R (_, _, _, _, _, _))
  refine hR (c_put hO11 rfl rfl fun w15 f15 hO15 => ?_)
  have hw15 := CI_w9 hw11 hρq f15 (y0 := some t) hO15 ⟨(fun z h => by cases h; exact hρt), ⟨by omega, by omega⟩, ⟨by omega, by omega⟩, ⟨by omega, by omega⟩, ⟨by omega, by omega⟩, ⟨by omega, by omega⟩, ⟨by omega, by omega⟩, ⟨by omega, by omega⟩⟩
  have fr16 := wfR_st fr12 f15 (by rw [hρq]; decide)
  have hn17 := nn_of hO15
  have hO18 := (f15.2 p (rne hρp hρq (by decide))).trans hO14
  iterate 2 refine hR (?_ : R (_, _, _, _, _, _))
  refine hR (c_put hO15 rfl rfl fun w19 f19 hO19 => ?_)
  have hw19 := CI_w9 hw15 hρq f19 (y0 := some t) hO19 ⟨(fun z h => by cases h; exact hρt), ⟨by omega, by omega⟩, ⟨by omega, by omega⟩, ⟨by omega, by omega⟩, ⟨by omega, by omega⟩, ⟨by omega, by omega⟩, ⟨by omega, by omega⟩, ⟨by omega, by omega⟩⟩
  have fr20 := wfR_st fr16 f19 (by rw [hρq]; decide)
  have hn21 := nn_of hO19
  have hO22 := (f19.2 p (rne hρp hρq (by decide))).trans hO18
  refine hR (?_ : R (_, _, _, _, _, _))
  refine hR (c_obj hO19 (zcall_i 0 0 (Nat.le_of_ble_eq_true rfl) (Nat.le_of_ble_eq_true rfl) (c_advance _ q 0 hw19 hρq (te_of hO19 hρt (by omega) (by (try dsimp only); omega)) _ fun w23 hw23 g23 hp24 => ?_)))
  have fr25 := wfR_tr fr20 g23 (by decide)
  have hO26 := (g23.2 p (by rw [hρp]; decide)).trans hO22
  refine (?_ : R (_, _, [], w23, 0, 0))
  obtain ⟨t_27, l_27, a_27, k_27, s_27, v_27, f_27, c_27, hT27, ht27, hTr27, hTp27⟩ := hp24
  (try dsimp only at hTp27)
  iterate 2 refine hR (?_ : R (_, _, _, _, _, _))
  have lp32 : ∀ (N : Nat) (it : Int) (w_32 : zW), (CI ρ w_32) → (wfR [9, 40, 41, 42] ρ w w_32) → (0 ≤ it ∧ it ≤ 601) → (TE ρ w_32 q (fun l a s v f => 0 ≤ s ∧ s ≤ a ∧ a ≤ l ∧ l ≤ 600)) → (602 - it < N) → R (32, [some (.ref q), some (.ref t), some (.int (Int32.ofInt a1)), some (.ref p), some (.int (Int32.ofInt it))], [], w_32, 0, 0) := by
    intro N
    induction N with
    | zero => intros; omega
    | succ N ih32 =>
      intro it w_32 hw_32 fr_32 hf0_32 hp0_32 hN32
      obtain ⟨t_28, l_28, a_28, k_28, s_28, v_28, f_28, c_28, hT28, ht28, hTr28, hTp28⟩ := hp0_32
      (try dsimp only at hTp28)
      refine hR (?_ : R (_, _, _, _, _, _))
      refine hR (t_c 600 (by decide) ?_)
      refine hR (j_gt (by omega) (by omega) (fun hc29 => ?_) (fun hc29 => ?_))
      · skip
        refine hR (?_ : R (_, _, _, _, _, _))
        refine hR (c_get hT28 rfl ?_)
        refine hR (k_ne (by omega) (fun hc30 => ?_) (fun hc30 => ?_))
        · skip
          refine hR (?_ : R (_, _, _, _, _, _))
          exact hR (zret_i rfl (Nat.le_refl _) (zbo (by omega)) (h _ _ hw_32 fr_32 (by omega)))
        iterate 2 refine hR (?_ : R (_, _, _, _, _, _))
        exact hR (zret_i rfl (Nat.le_refl _) (zbo (by omega)) (h _ _ hw_32 fr_32 (by omega)))
      refine hR (?_ : R (_, _, _, _, _, _))
      refine hR (c_get hT28 rfl ?_)
      refine hR (k_eq (by omega) (fun hc31 => ?_) (fun hc31 => ?_))
      · skip
        refine hR (?_ : R (_, _, _, _, _, _))
        refine hR (c_get hT28 rfl ?_)
        refine hR (k_ne (by omega) (fun hc32 => ?_) (fun hc32 => ?_))
        · skip
          refine hR (?_ : R (_, _, _, _, _, _))
          exact hR (zret_i rfl (Nat.le_refl _) (zbo (by omega)) (h _ _ hw_32 fr_32 (by omega)))
        iterate 2 refine hR (?_ : R (_, _, _, _, _, _))
        exact hR (zret_i rfl (Nat.le_refl _) (zbo (by omega)) (h _ _ hw_32 fr_32 (by omega)))
      iterate 2 refine hR (?_ : R (_, _, _, _, _, _))
      refine hR (c_obj hT28 (zcall_i 0 0 (Nat.le_of_ble_eq_true rfl) (Nat.le_of_ble_eq_true rfl) (c_tellLine_s _ q p hw_32 hρq hρp (te_of hT28 ht28 (by omega) (by (try dsimp only); omega)) _ fun v33 w34 hw34 g34 hp35 hp36 => ?_)))
      have fr37 := wfR_tr fr_32 g34 (by decide)
      refine (?_ : R (_, _, (.int (Int32.ofInt v33)) :: [], w34, 0, 0))
      obtain ⟨t_38, l_38, a_38, k_38, s_38, v_38, f_38, c_38, hT38, ht38, hTr38, hTp38⟩ := hp36
      (try dsimp only at hTp38)
      refine hR (k_ne (by omega) (fun hc39 => ?_) (fun hc39 => ?_))
      · skip
        refine hR (t_inc ?_)
        refine hR (?_ : R (_, _, _, _, _, _))
        exact ih32 _ _ hw34 fr37 (by omega) (te_of hT38 ht38 (by omega) (by (try dsimp only); omega)) (by omega)
      iterate 2 refine hR (?_ : R (_, _, _, _, _, _))
      refine hR (c_put hT38 rfl rfl fun w40 f40 hO40 => ?_)
      have hw40 := CI_w9 hw34 hρq f40 (y0 := some t_38) hO40 ⟨(fun z h => by cases h; exact ht38), ⟨by omega, by omega⟩, ⟨by omega, by omega⟩, ⟨by omega, by omega⟩, ⟨by omega, by omega⟩, ⟨by omega, by omega⟩, ⟨by omega, by omega⟩, ⟨by omega, by omega⟩⟩
      have fr41 := wfR_st fr37 f40 (by rw [hρq]; decide)
      iterate 2 refine hR (?_ : R (_, _, _, _, _, _))
      refine hR (c_get hO40 rfl ?_)
      refine hR (c_put hO40 rfl rfl fun w42 f42 hO42 => ?_)
      have hw42 := CI_w9 hw40 hρq f42 (y0 := some t_38) hO42 ⟨(fun z h => by cases h; exact ht38), ⟨by omega, by omega⟩, ⟨by omega, by omega⟩, ⟨by omega, by omega⟩, ⟨by omega, by omega⟩, ⟨by omega, by omega⟩, ⟨by omega, by omega⟩, ⟨by omega, by omega⟩⟩
      have fr43 := wfR_st fr41 f42 (by rw [hρq]; decide)
      refine hR (?_ : R (_, _, _, _, _, _))
      exact hR (zret_i rfl (Nat.le_refl _) (zbo (by omega)) (h _ _ hw42 fr43 (by omega)))
  exact lp32 400000000 _ _ hw23 fr25 (by omega) (te_of hT27 ht27 (by omega) (by (try dsimp only); omega)) (by omega)
/-! ONE STEP HAS ONE SUCCESSOR: so what a call returns is fixed before it begins, and its room may be told afterwards. -/
noncomputable def kk (u : zS) : Nat := u.2.2.2.2.1
noncomputable def nk (u : zS) : Nat := u.2.2.2.2.2
noncomputable abbrev zF : Type := Nat → Nat → zQ → (zS → Prop) → Prop
noncomputable def ST1 (k n : Nat) (F : zF) : Prop := ∀ mc ms Q K, F mc ms Q K → (∃ u : zS, K u ∧ k ≤ kk u ∧ n ≤ nk u ∧ ∀ mc0 ms0 Q', ((mc0 = mc ∧ ms0 = ms) ∨ (kk u ≤ mc0 ∧ nk u ≤ ms0)) → F mc0 ms0 Q' (fun z => z = u)) ∨ (∃ r w', Q r w' ∧ ∀ (Q' : zQ) K', Q' r w' → F mc ms Q' K')
section ST
variable {k n : Nat} {F G : zF}
theorem st_F : ST1 k n (fun _ _ _ _ => False) := fun _ _ _ _ h => h.elim
theorem st_K {u : zS} (h1 : k ≤ kk u) (h2 : n ≤ nk u) : ST1 k n (fun _ _ _ K => K u) := fun _ _ _ _ h => Or.inl ⟨u, h, h1, h2, fun _ _ _ _ => rfl⟩
theorem st_zif {b : Bool} (h : ST1 k n F) : ST1 k n (fun mc ms Q K => zif b (F mc ms Q K)) := by
  cases b
  · exact st_F
  · exact h
theorem st_zor {b : Bool} (h : ST1 k n F) (h2 : ST1 k n G) : ST1 k n (fun mc ms Q K => zor b (F mc ms Q K) (G mc ms Q K)) := by
  cases b
  · exact h2
  · exact h
theorem st_and {P : Prop} (h : ST1 k n F) : ST1 k n (fun mc ms Q K => P ∧ F mc ms Q K) := by
  rintro mc ms Q K ⟨hp, hf⟩
  rcases h mc ms Q K hf with ⟨u, a, b, c, d⟩ | ⟨r, w', a, b⟩
  · exact Or.inl ⟨u, a, b, c, fun mc0 ms0 Q' e => ⟨hp, d mc0 ms0 Q' e⟩⟩
  · exact Or.inr ⟨r, w', a, fun Q' K' e => ⟨hp, b Q' K' e⟩⟩
theorem st_br {P : Prop} (h : ST1 k n F) (h2 : ST1 k n G) : ST1 k n (fun mc ms Q K => (P → F mc ms Q K) ∧ (¬ P → G mc ms Q K)) := by
  rintro mc ms Q K ⟨hf, hg⟩
  by_cases hp : P
  · rcases h mc ms Q K (hf hp) with ⟨u, a, b, c, d⟩ | ⟨r, w', a, b⟩
    · exact Or.inl ⟨u, a, b, c, fun mc0 ms0 Q' e => ⟨fun _ => d mc0 ms0 Q' e, fun x => absurd hp x⟩⟩
    · exact Or.inr ⟨r, w', a, fun Q' K' e => ⟨fun _ => b Q' K' e, fun x => absurd hp x⟩⟩
  · rcases h2 mc ms Q K (hg hp) with ⟨u, a, b, c, d⟩ | ⟨r, w', a, b⟩
    · exact Or.inl ⟨u, a, b, c, fun mc0 ms0 Q' e => ⟨fun x => absurd x hp, fun _ => d mc0 ms0 Q' e⟩⟩
    · exact Or.inr ⟨r, w', a, fun Q' K' e => ⟨fun x => absurd x hp, fun _ => b Q' K' e⟩⟩
theorem st_rb {P : Prop} (h : ST1 k n F) (h2 : ST1 k n G) : ST1 k n (fun mc ms Q K => (¬ P → F mc ms Q K) ∧ (P → G mc ms Q K)) := by
  intro mc ms Q K hh
  rcases st_br (P := P) h2 h mc ms Q K ⟨hh.2, hh.1⟩ with ⟨u, a, b, c, d⟩ | ⟨r, w', a, b⟩
  · exact Or.inl ⟨u, a, b, c, fun mc0 ms0 Q' e => ⟨(d mc0 ms0 Q' e).2, (d mc0 ms0 Q' e).1⟩⟩
  · exact Or.inr ⟨r, w', a, fun Q' K' e => ⟨(b Q' K' e).2, (b Q' K' e).1⟩⟩
theorem st_ex {H : Int → zF} {o : Option Int} (h : ∀ x, ST1 k n (H x)) : ST1 k n (fun mc ms Q K => ∃ x, o = some x ∧ H x mc ms Q K) := by
  rintro mc ms Q K ⟨x, hx, hf⟩
  rcases h x mc ms Q K hf with ⟨u, a, b, c, d⟩ | ⟨r, w', a, b⟩
  · exact Or.inl ⟨u, a, b, c, fun mc0 ms0 Q' e => ⟨x, hx, d mc0 ms0 Q' e⟩⟩
  · exact Or.inr ⟨r, w', a, fun Q' K' e => ⟨x, hx, b Q' K' e⟩⟩
theorem st_zbr {c : Jvm.ClassFile.Cond} {x y : Int32} (h : ST1 k n F) (h2 : ST1 k n G) : ST1 k n (fun mc ms Q K => zbr c x y (F mc ms Q K) (G mc ms Q K)) := by
  cases c
  · exact st_br h h2
  · exact st_rb h h2
  all_goals exact st_br h h2
theorem st_zbr0 {c : Jvm.ClassFile.Cond} {x : Int32} (h : ST1 k n F) (h2 : ST1 k n G) : ST1 k n (fun mc ms Q K => zbr0 c x (F mc ms Q K) (G mc ms Q K)) := by
  cases c
  · exact st_br h h2
  · exact st_rb h h2
  all_goals exact st_br h h2
theorem st_zbra {c : Jvm.ClassFile.ACond} {x y : Option Nat} (h : ST1 k n F) (h2 : ST1 k n G) : ST1 k n (fun mc ms Q K => zbra c x y (F mc ms Q K) (G mc ms Q K)) := by
  cases c
  · exact st_br h h2
  · exact st_rb h h2
theorem st_z1i {S : List Value} {H : Int32 → List Value → zF} (h : ∀ x t, ST1 k n (H x t)) : ST1 k n (fun mc ms Q K => z1i S fun x t => H x t mc ms Q K) := by
  rcases S with _ | ⟨v, t⟩
  · exact st_F
  · cases v <;> first | exact h _ _ | exact st_F
theorem st_z1l {S : List Value} {H : Int64 → List Value → zF} (h : ∀ x t, ST1 k n (H x t)) : ST1 k n (fun mc ms Q K => z1l S fun x t => H x t mc ms Q K) := by
  rcases S with _ | ⟨v, t⟩
  · exact st_F
  · cases v <;> first | exact h _ _ | exact st_F
theorem st_z1r {S : List Value} {H : Nat → List Value → zF} (h : ∀ x t, ST1 k n (H x t)) : ST1 k n (fun mc ms Q K => z1r S fun x t => H x t mc ms Q K) := by
  rcases S with _ | ⟨v, t⟩
  · exact st_F
  · cases v <;> first | exact h _ _ | exact st_F
theorem st_z1v {S : List Value} {H : Value → List Value → zF} (h : ∀ x t, ST1 k n (H x t)) : ST1 k n (fun mc ms Q K => z1v S fun x t => H x t mc ms Q K) := by
  rcases S with _ | ⟨v, t⟩
  · exact st_F
  · exact h _ _
theorem st_z2i {S : List Value} {H : Int32 → Int32 → List Value → zF} (h : ∀ x y t, ST1 k n (H x y t)) : ST1 k n (fun mc ms Q K => z2i S fun x y t => H x y t mc ms Q K) := by
  rcases S with _ | ⟨v, t⟩
  · exact st_F
  · rcases t with _ | ⟨v2, t⟩
    · cases v <;> exact st_F
    · cases v <;> cases v2 <;> first | exact h _ _ _ | exact st_F
theorem st_z2l {S : List Value} {H : Int64 → Int64 → List Value → zF} (h : ∀ x y t, ST1 k n (H x y t)) : ST1 k n (fun mc ms Q K => z2l S fun x y t => H x y t mc ms Q K) := by
  rcases S with _ | ⟨v, t⟩
  · exact st_F
  · rcases t with _ | ⟨v2, t⟩
    · cases v <;> exact st_F
    · cases v <;> cases v2 <;> first | exact h _ _ _ | exact st_F
theorem st_zil {S : List Value} {H : Int64 → Int32 → List Value → zF} (h : ∀ x y t, ST1 k n (H x y t)) : ST1 k n (fun mc ms Q K => zil S fun x y t => H x y t mc ms Q K) := by
  rcases S with _ | ⟨v, t⟩
  · exact st_F
  · rcases t with _ | ⟨v2, t⟩
    · cases v <;> exact st_F
    · cases v <;> cases v2 <;> first | exact h _ _ _ | exact st_F
theorem st_zgf {S : List Value} {H H2 : Nat → List Value → zF} (h : ∀ x t, ST1 k n (H x t)) (h2 : ∀ x t, ST1 k n (H2 x t)) : ST1 k n (fun mc ms Q K => zgf S (fun x t => H x t mc ms Q K) (fun x t => H2 x t mc ms Q K)) := by
  rcases S with _ | ⟨v, t⟩
  · exact st_F
  · cases v <;> first | exact h _ _ | exact h2 _ _ | exact st_F
theorem st_zlen1 {S : List Value} {H H2 : Nat → List Value → zF} (h : ∀ x t, ST1 k n (H x t)) (h2 : ∀ x t, ST1 k n (H2 x t)) : ST1 k n (fun mc ms Q K => zlen1 S (fun x t => H x t mc ms Q K) (fun x t => H2 x t mc ms Q K)) := by
  rcases S with _ | ⟨v, t⟩
  · exact st_F
  · cases v <;> first | exact h _ _ | exact h2 _ _ | exact st_F
theorem st_zvt {w : zW} {q a : Nat} {H : Nat → Nat → zF} (h : ∀ x y, ST1 k n (H x y)) : ST1 k n (fun mc ms Q K => zvt w q a fun x y => H x y mc ms Q K) := by
  unfold zvt
  rcases zix w q with _ | c
  · exact st_F
  · rcases c with c | ⟨ci, fs⟩
    · exact st_F
    · dsimp only
      split
      · exact h _ _
      · exact h _ _
      · exact h _ _
      · exact st_F
theorem st_zvr {S : List Value} {H : Value → Nat → List Value → zF} (h : ∀ x y t, ST1 k n (H x y t)) : ST1 k n (fun mc ms Q K => zvr S fun x y t => H x y t mc ms Q K) := by
  rcases S with _ | ⟨v, t⟩
  · exact st_F
  · rcases t with _ | ⟨v2, t⟩
    · exact st_F
    · cases v2 <;> first | exact h _ _ _ | exact st_F
theorem st_zvr2 {S : List Value} {H : Value → Value → List Value → zF} (h : ∀ x y t, ST1 k n (H x y t)) : ST1 k n (fun mc ms Q K => zvr2 S fun x y t => H x y t mc ms Q K) := by
  rcases S with _ | ⟨v, t⟩
  · exact st_F
  · rcases t with _ | ⟨v2, t⟩
    · exact st_F
    · exact h _ _ _
theorem st_zia {S : List Value} {H H2 : Int32 → Nat → List Value → zF} (h : ∀ x y t, ST1 k n (H x y t)) (h2 : ∀ x y t, ST1 k n (H2 x y t)) : ST1 k n (fun mc ms Q K => zia S (fun x y t => H x y t mc ms Q K) (fun x y t => H2 x y t mc ms Q K)) := by
  rcases S with _ | ⟨v, t⟩
  · exact st_F
  · rcases t with _ | ⟨v2, t⟩
    · cases v <;> exact st_F
    · cases v <;> cases v2 <;> first | exact h _ _ _ | exact h2 _ _ _ | exact st_F
theorem st_zvia {S : List Value} {H : Value → Int32 → Nat → List Value → zF} (h : ∀ x y z t, ST1 k n (H x y z t)) : ST1 k n (fun mc ms Q K => zvia S fun x y z t => H x y z t mc ms Q K) := by
  rcases S with _ | ⟨v, t⟩
  · exact st_F
  · rcases t with _ | ⟨v2, t⟩
    · exact st_F
    · rcases t with _ | ⟨v3, t⟩
      · cases v2 <;> exact st_F
      · cases v2 <;> cases v3 <;> first | exact h _ _ _ _ | exact st_F
theorem st_zli {L : zL} {j : Nat} {H : Int32 → zF} (h : ∀ x, ST1 k n (H x)) : ST1 k n (fun mc ms Q K => zli L j fun x => H x mc ms Q K) := by
  unfold zli
  rcases zget L j with _ | v
  · exact st_F
  · cases v <;> first | exact h _ | exact st_F
theorem st_zll {L : zL} {j : Nat} {H : Int64 → zF} (h : ∀ x, ST1 k n (H x)) : ST1 k n (fun mc ms Q K => zll L j fun x => H x mc ms Q K) := by
  unfold zll
  rcases zget L j with _ | v
  · exact st_F
  · cases v <;> first | exact h _ | exact st_F
theorem st_zla {L : zL} {j : Nat} {H : Value → zF} (h : ∀ x, ST1 k n (H x)) : ST1 k n (fun mc ms Q K => zla L j fun x => H x mc ms Q K) := by
  unfold zla
  rcases zget L j with _ | v
  · exact st_F
  · cases v <;> first | exact h _ | exact st_F
theorem st_zob {w : zW} {q ci : Nat} {H : List Value → zF} (h : ∀ x, ST1 k n (H x)) : ST1 k n (fun mc ms Q K => zob w q ci fun x => H x mc ms Q K) := by
  unfold zob
  rcases zix w q with _ | c
  · exact st_F
  · rcases c with c | ⟨c, fs⟩
    · exact st_F
    · exact st_zif (h _)
theorem st_zai {w : zW} {q : Nat} {H : Nat → Nat → (Nat → Int32) → zF} (h : ∀ x y z, ST1 k n (H x y z)) : ST1 k n (fun mc ms Q K => zai w q fun x y z => H x y z mc ms Q K) := by
  unfold zai
  rcases zix w q with _ | c
  · exact st_F
  · rcases c with ⟨ti, len, c⟩ | c
    · rcases c with g | c
      · exact h _ _ _
      · exact st_F
    · exact st_F
theorem st_zaq {w : zW} {q : Nat} {H : Nat → Nat → (Nat → Option Nat) → zF} (h : ∀ x y z, ST1 k n (H x y z)) : ST1 k n (fun mc ms Q K => zaq w q fun x y z => H x y z mc ms Q K) := by
  unfold zaq
  rcases zix w q with _ | c
  · exact st_F
  · rcases c with ⟨ti, len, c⟩ | c
    · rcases c with g | g | g | g | g
      all_goals first | exact h _ _ _ | exact st_F
    · exact st_F
theorem st_zin1 {S : List Value} {H : Value → zF} (h : ∀ x, ST1 k n (H x)) : ST1 k n (fun mc ms Q K => zin1 S fun x => H x mc ms Q K) := by
  rcases S with _ | ⟨v, t⟩
  · exact st_F
  · rcases t with _ | ⟨v2, t⟩
    · exact h _
    · exact st_F
theorem st_z2r {S : List Value} {H : Option Nat → Option Nat → List Value → zF} (h : ∀ x y t, ST1 k n (H x y t)) : ST1 k n (fun mc ms Q K => z2r S fun x y t => H x y t mc ms Q K) := by
  rcases S with _ | ⟨v, t⟩
  · exact st_F
  · rcases t with _ | ⟨v2, t⟩
    · exact st_F
    · cases v <;> cases v2 <;> first | exact h _ _ _ | exact st_F
theorem st_zasv {S : List Value} {H : Value → List Value → zF} (h : ∀ x t, ST1 k n (H x t)) : ST1 k n (fun mc ms Q K => zasv S fun x t => H x t mc ms Q K) := by
  rcases S with _ | ⟨v, t⟩
  · exact st_F
  · cases v <;> first | exact h _ _ | exact st_F
theorem st_zrn {S : List Value} {H H2 : List Value → zF} (h : ∀ t, ST1 k n (H t)) (h2 : ∀ t, ST1 k n (H2 t)) : ST1 k n (fun mc ms Q K => zrn S (fun t => H t mc ms Q K) (fun t => H2 t mc ms Q K)) := by
  rcases S with _ | ⟨v, t⟩
  · exact st_F
  · cases v <;> first | exact h _ | exact h2 _ | exact st_F
theorem st_zrn2 {v : Value} {H : Nat → zF} (h : ∀ t, ST1 k n (H t)) (h2 : ST1 k n F) : ST1 k n (fun mc ms Q K => zrn2 v (fun t => H t mc ms Q K) (F mc ms Q K)) := by
  cases v <;> first | exact h _ | exact h2 | exact st_F
theorem st_zfld {fs : List Value} {b : Nat} {H : Value → zF} (h : ∀ x, ST1 k n (H x)) : ST1 k n (fun mc ms Q K => zfld fs b fun x => H x mc ms Q K) := by
  unfold zfld
  rcases zix fs b with _ | v
  · exact st_F
  · exact h _
theorem st_zext {E : zX} {H : Nat → (Nat → Int32) → zF} (h : ∀ x y, ST1 k n (H x y)) : ST1 k n (fun mc ms Q K => zext E fun x y => H x y mc ms Q K) := by
  rcases E with _ | q
  · exact st_F
  · exact h _ _
theorem st_zcpy {S : List Value} {H : Nat → Int32 → Nat → Int32 → Int32 → List Value → zF} (h : ∀ a b c d e t, ST1 k n (H a b c d e t)) : ST1 k n (fun mc ms Q K => zcpy S fun a b c d e t => H a b c d e t mc ms Q K) := by
  unfold zcpy
  split
  · exact h _ _ _ _ _ _
  · exact st_F
theorem st_znil {S : List Value} (h : ST1 k n F) : ST1 k n (fun mc ms Q K => znil S (F mc ms Q K)) := by
  rcases S with _ | ⟨v, t⟩
  · exact h
  · exact st_F
theorem st_fin {E : zX} {P : Prop} {r : Option Value} {w : zW} : ST1 k n (fun mc ms Q _ => zfin E k n mc ms ∧ P ∧ Q r w) := by
  rintro mc ms Q K ⟨a, b, c⟩
  exact Or.inr ⟨r, w, c, fun Q' _ h => ⟨a, b, h⟩⟩
theorem st_new {c : Nat} {u : zS} (h1 : kk u = k + 1) (h2 : nk u = n + c) : ST1 k n (fun mc ms _ K => zif (Nat.ble (k + 1) mc) (zif (Nat.ble (n + c) ms) (K u))) := by
  intro mc ms Q K h
  have hK : K u ∧ k + 1 ≤ mc ∧ n + c ≤ ms := by
    revert h
    cases e : Nat.ble (k + 1) mc
    · exact fun h => h.elim
    · cases e2 : Nat.ble (n + c) ms
      · exact fun h => h.elim
      · exact fun h => ⟨h, Nat.ble_eq.mp e, Nat.ble_eq.mp e2⟩
  obtain ⟨hK, hm1, hm2⟩ := hK
  refine Or.inl ⟨u, hK, by omega, by omega, fun mc0 ms0 Q' a => ?_⟩
  show zif _ (zif _ (u = u))
  rw [show Nat.ble (k + 1) mc0 = true from Nat.ble_eq.mpr (by omega), show Nat.ble (n + c) ms0 = true from Nat.ble_eq.mpr (by omega)]
  exact rfl
theorem st_max {b : Bool} {u : zS} (h1 : kk u = k) (h2 : nk u = n) : ST1 k n (fun mc ms _ K => zif (b && (Nat.ble k mc && Nat.ble n ms)) (K u)) := by
  cases b
  · exact st_F
  · intro mc ms Q K h
    have hK : K u ∧ k ≤ mc ∧ n ≤ ms := by
      revert h
      show zif (Nat.ble k mc && Nat.ble n ms) (K u) → _
      cases e : Nat.ble k mc
      · exact fun h => h.elim
      · cases e2 : Nat.ble n ms
        · exact fun h => h.elim
        · exact fun h => ⟨h, Nat.ble_eq.mp e, Nat.ble_eq.mp e2⟩
    obtain ⟨hK, hm1, hm2⟩ := hK
    refine Or.inl ⟨u, hK, by omega, by omega, fun mc0 ms0 Q' a => ?_⟩
    show zif (Nat.ble k mc0 && Nat.ble n ms0) (u = u)
    rw [show Nat.ble k mc0 = true from Nat.ble_eq.mpr (by omega), show Nat.ble n ms0 = true from Nat.ble_eq.mpr (by omega)]
    exact rfl
theorem st_call {C : zCT} (hC : ∀ a As w mc ms Q, C a As w mc ms Q → ∃ r w', Q r w' ∧ C a As w mc ms (fun r1 w1 => r1 = r ∧ w1 = w')) (hM : ∀ a As w mc ms Q Q', (∀ r w', Q r w' → Q' r w') → C a As w mc ms Q → C a As w mc ms Q') {a : Nat} {As S : List Value} {w : zW} {np : Nat} {L : zL} : ST1 k n (fun mc ms _ K => zcall C a As S w k n mc ms np L K) := by
  rintro mc ms Q K ⟨mc', ms', ⟨h1, h2⟩, h⟩
  obtain ⟨r, w', hq, hc⟩ := hC _ _ _ _ _ _ h
  refine Or.inl ⟨_, hq, Nat.le_add_right k mc', Nat.le_add_right n ms', fun mc0 ms0 Q' a => ⟨mc', ms', ?_, hM _ _ _ _ _ _ _ ?_ hc⟩⟩
  · rcases a with ⟨rfl, rfl⟩ | a
    · exact ⟨h1, h2⟩
    · exact a
  rintro r1 w1 ⟨rfl, rfl⟩
  rfl
end ST
set_option maxHeartbeats 4000000 in
theorem z_one {C : zCT} (hC : ∀ a As w mc ms Q, C a As w mc ms Q → ∃ r w', Q r w' ∧ C a As w mc ms (fun r1 w1 => r1 = r ∧ w1 = w')) (hM : ∀ a As w mc ms Q Q', (∀ r w', Q r w' → Q' r w') → C a As w mc ms Q → C a As w mc ms Q') {d : Nat} {M : zM} {E : zX} {tab : List zM} {pc : Nat} {L : zL} {S : List Value} {w : zW} {k n : Nat} {i : Instr} {np a b : Nat} : ST1 k n (fun mc ms Q K => zins C d M E tab mc ms Q pc L S w k n i np a b K) := by
  cases i <;> first | exact st_F | exact st_K (Nat.le_refl _) (Nat.le_refl _) | (unfold zins; dsimp only; repeat' first | exact st_F | exact st_K (Nat.le_refl _) (Nat.le_refl _) | exact st_fin | exact st_new rfl rfl | exact st_max rfl rfl | exact st_call hC hM | refine st_z2r fun _ _ _ => ?_ | refine st_zif ?_ | refine st_zor ?_ ?_ | refine st_and ?_ | refine st_br ?_ ?_ | refine st_ex fun _ => ?_ | refine st_zbr ?_ ?_ | refine st_zbr0 ?_ ?_ | refine st_zbra ?_ ?_ | refine st_z1i fun _ _ => ?_ | refine st_z1l fun _ _ => ?_ | refine st_z1r fun _ _ => ?_ | refine st_z1v fun _ _ => ?_ | refine st_z2i fun _ _ _ => ?_ | refine st_z2l fun _ _ _ => ?_ | refine st_zil fun _ _ _ => ?_ | refine st_zgf (fun _ _ => ?_) (fun _ _ => ?_) | refine st_zlen1 (fun _ _ => ?_) (fun _ _ => ?_) | refine st_zvt fun _ _ => ?_ | refine st_zvr fun _ _ _ => ?_ | refine st_zvr2 fun _ _ _ => ?_ | refine st_zia (fun _ _ _ => ?_) (fun _ _ _ => ?_) | refine st_zvia fun _ _ _ _ => ?_ | refine st_zli fun _ => ?_ | refine st_zll fun _ => ?_ | refine st_zla fun _ => ?_ | refine st_zob fun _ => ?_ | refine st_zai fun _ _ _ => ?_ | refine st_zaq fun _ _ _ => ?_ | refine st_zin1 fun _ => ?_ | refine st_zasv fun _ _ => ?_ | refine st_zrn (fun _ => ?_) (fun _ => ?_) | refine st_zrn2 (fun _ => ?_) ?_ | refine st_zfld fun _ => ?_ | refine st_zext fun _ _ => ?_ | refine st_zcpy fun _ _ _ _ _ _ => ?_ | refine st_znil ?_)

theorem zsc_one {C : zCT} (hC : ∀ a As w mc ms Q, C a As w mc ms Q → ∃ r w', Q r w' ∧ C a As w mc ms (fun r1 w1 => r1 = r ∧ w1 = w')) (hM : ∀ a As w mc ms Q Q', (∀ r w', Q r w' → Q' r w') → C a As w mc ms Q → C a As w mc ms Q') {d : Nat} {M : zM} {E : zX} {tab : List zM} {pc : Nat} {L : zL} {S : List Value} {w : zW} {k n : Nat} : ST1 k n (fun mc ms Q K => zsc C d M E tab mc ms Q pc L S w k n K) := by
  unfold zsc
  rcases zat M.2.2.2.2.2 pc with _ | e
  · exact st_F
  · exact z_one hC hM
theorem zwp_det {C : zCT} (hC : ∀ a As w mc ms Q, C a As w mc ms Q → ∃ r w', Q r w' ∧ C a As w mc ms (fun r1 w1 => r1 = r ∧ w1 = w')) (hM : ∀ a As w mc ms Q Q', (∀ r w', Q r w' → Q' r w') → C a As w mc ms Q → C a As w mc ms Q') {d : Nat} {M : zM} {E : zX} {tab : List zM} {mc ms : Nat} {Q : zQ} {x : zS} (h : zwp C d M E tab mc ms Q x) : ∃ r w', Q r w' ∧ ∀ Q' : zQ, Q' r w' → zwp C d M E tab mc ms Q' x := by
  refine h (fun x => ∃ r w', Q r w' ∧ ∀ Q' : zQ, Q' r w' → zwp C d M E tab mc ms Q' x) ?_
  rintro y ⟨P, hPR, hs⟩
  rcases zsc_one hC hM mc ms Q P hs with ⟨u, a, b, c, dd⟩ | ⟨r, w', a, b⟩
  · obtain ⟨r, w', hq, hz⟩ := hPR u a
    exact ⟨r, w', hq, fun Q' hQ' R hR => hR y ⟨fun z => z = u, fun z e => by subst e; exact hz Q' hQ' R hR, dd mc ms Q' (Or.inl ⟨rfl, rfl⟩)⟩⟩
  · exact ⟨r, w', a, fun Q' hQ' R hR => hR y ⟨R, fun _ q => q, b Q' R hQ'⟩⟩
theorem zCl_det {tab : List zM} : ∀ (d a : Nat) (As : List Value) (w : zW) (mc ms : Nat) (Q : zQ), zCl tab d a As w mc ms Q → ∃ r w', Q r w' ∧ ∀ Q' : zQ, Q' r w' → zCl tab d a As w mc ms Q' := by
  intro d
  induction d with
  | zero => exact fun _ _ _ _ _ _ h => h.elim
  | succ d ih =>
    intro a As w mc ms Q h
    unfold zCl at h ⊢
    revert h
    rcases zix tab a with _ | M
    · exact fun h => h.elim
    · rintro ⟨hl, hz⟩
      obtain ⟨r, w', hq, hz'⟩ := zwp_det (fun a As w mc ms Q h => by obtain ⟨r, w', x, y⟩ := ih a As w mc ms Q h; exact ⟨r, w', x, y _ ⟨rfl, rfl⟩⟩) (fun a As w mc ms Q Q' hi h => by obtain ⟨r, w', x, y⟩ := ih a As w mc ms Q h; exact y _ (hi _ _ x)) hz
      exact ⟨r, w', hq, fun Q' h => ⟨hl, hz' Q' h⟩⟩
/-- a call with its room, its answer and its world, all fixed -/
noncomputable def DET (tab : List zM) (d a : Nat) (As : List Value) (w : zW) (P : Nat → Nat → Option Value → zW → Prop) : Prop := ∃ mc ms r w', P mc ms r w' ∧ ∀ Q : zQ, Q r w' → zCl tab d a As w mc ms Q
theorem det_of {tab : List zM} {d a : Nat} {As : List Value} {w : zW} {mc ms : Nat} {P : Nat → Nat → Option Value → zW → Prop} (h : zCl tab d a As w mc ms (P mc ms)) : DET tab d a As w P := by
  obtain ⟨r, w', a, b⟩ := zCl_det d a As w mc ms _ h
  exact ⟨mc, ms, r, w', a, b⟩
theorem z_rel {tab : List zM} {d a : Nat} {As : List Value} {w : zW} {M : zM} (P : Nat → Nat → Option Value → zW → Prop) (hM : zix tab a = some M) (hl : (lg_sl As).length ≤ M.2.2.1) (h : ∀ R : zS → Prop, (∀ {pc : Nat} {L : zL} {S : List Value} {w : zW} {k n : Nat} (mc1 ms1 : Nat), k ≤ mc1 → n ≤ ms1 → zsc (zCl tab d) d M none tab mc1 ms1 (P mc1 ms1) pc L S w k n R → R (pc, L, S, w, k, n)) → R (0, zent M.2.2.1 As, [], w, 0, 0)) : DET tab (d + 1) a As w P := by
  have hh := h (fun x => ∃ mc ms, kk x ≤ mc ∧ nk x ≤ ms ∧ zwp (zCl tab d) d M none tab mc ms (P mc ms) x) ?_
  · obtain ⟨mc, ms, _, _, hz⟩ := hh
    refine det_of (mc := mc) (ms := ms) ?_
    unfold zCl
    rw [hM]
    exact ⟨hl, hz⟩
  · intro pc L S w k n mc1 ms1 h1 h2 hs
    rcases zsc_one (fun a As w mc ms Q h => by obtain ⟨r, w', x, y⟩ := zCl_det d a As w mc ms Q h; exact ⟨r, w', x, y _ ⟨rfl, rfl⟩⟩) (fun a As w mc ms Q Q' hi h => by obtain ⟨r, w', x, y⟩ := zCl_det d a As w mc ms Q h; exact y _ (hi _ _ x)) mc1 ms1 _ _ hs with ⟨u, a, b, c, dd⟩ | ⟨r, w', a, b⟩
    · obtain ⟨mc, ms, e1, e2, hz⟩ := a
      exact ⟨mc, ms, Nat.le_trans b e1, Nat.le_trans c e2, fun R' hR' => hR' _ ⟨fun z => z = u, fun z e => by subst e; exact hz R' hR', dd mc ms _ (Or.inr ⟨e1, e2⟩)⟩⟩
    · exact ⟨mc1, ms1, h1, h2, fun R' hR' => hR' _ ⟨R', fun _ q => q, b _ R' a⟩⟩
