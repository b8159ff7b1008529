theorem c_begin {ρ : Nat → Nat} {w : zW} (d : Nat) (p b : Nat) (hw : CI ρ w) (hρp : ρ p = 10) (hρb : ρ b = 20) (Q : zQ) (h : ∀ (w' : zW), CI ρ w' → wfR [10, 11, 12] ρ w w' → nn w' p → Q (none) w') : zCl zTab (d + 2) iX1_begin [.ref p, .ref b] w 0 0 Q := by
  refine zCl_i (M := kX1_begin) rfl (Nat.le_of_ble_eq_true rfl) fun R hR => ?_
  have fr0 := wfR_rf [10, 11, 12] ρ w
  iterate 2 refine hR (?_ : R (_, _, _, _, _, _))
  obtain ⟨y0_1, x1_1, x2_1, x3_1, x4_1, hO1, hk1_0, hk1_1, hk1_2, hk1_3, hk1_4, hk1_5, hk1_6⟩ := CI_o10 hw hρp
  refine hR (c_put hO1 rfl rfl fun w2 f2 hO2 => ?_)
  have hw2 := CI_w10 hw hρp f2 (y0 := some b) hO2 ⟨(fun z h => by cases h; exact hρb), ⟨by omega, by omega⟩, ⟨by omega, by omega⟩, ⟨by omega, by omega⟩, ⟨by omega, by omega⟩, hk1_5, hk1_6⟩
  have fr3 := wfR_st fr0 f2 (by rw [hρp]; decide)
  have hn4 := nn_of hO2
  iterate 2 refine hR (?_ : R (_, _, _, _, _, _))
  refine hR (c_put hO2 rfl rfl fun w5 f5 hO5 => ?_)
  have hw5 := CI_w10 hw2 hρp f5 (y0 := some b) hO5 ⟨(fun z h => by cases h; exact hρb), ⟨by omega, by omega⟩, ⟨by omega, by omega⟩, ⟨by omega, by omega⟩, ⟨by omega, by omega⟩, hk1_5, hk1_6⟩
  have fr6 := wfR_st fr3 f5 (by rw [hρp]; decide)
  have hn7 := nn_of hO5
  iterate 2 refine hR (?_ : R (_, _, _, _, _, _))
  refine hR (c_put hO5 rfl rfl fun w8 f8 hO8 => ?_)
  have hw8 := CI_w10 hw5 hρp f8 (y0 := some b) hO8 ⟨(fun z h => by cases h; exact hρb), ⟨by omega, by omega⟩, ⟨by omega, by omega⟩, ⟨by omega, by omega⟩, ⟨by omega, by omega⟩, hk1_5, hk1_6⟩
  have fr9 := wfR_st fr6 f8 (by rw [hρp]; decide)
  have hn10 := nn_of hO8
  iterate 2 refine hR (?_ : R (_, _, _, _, _, _))
  refine hR (c_put hO8 rfl rfl fun w11 f11 hO11 => ?_)
  have hw11 := CI_w10 hw8 hρp f11 (y0 := some b) hO11 ⟨(fun z h => by cases h; exact hρb), ⟨by omega, by omega⟩, ⟨by omega, by omega⟩, ⟨by omega, by omega⟩, ⟨by omega, by omega⟩, hk1_5, hk1_6⟩
  have fr12 := wfR_st fr9 f11 (by rw [hρp]; decide)
  have hn13 := nn_of hO11
  refine hR (?_ : R (_, _, _, _, _, _))
  refine hR (c_get hO11 rfl ?_)
  refine hR (?_ : R (_, _, _, _, _, _))
  obtain ⟨x0_14, x1_14, x2_14, hO14, hk14_0, hk14_1, hk14_2, hk14_3, hk14_4, hk14_5, hk14_6⟩ := CI_o20 hw11 hρb
  refine hR (c_get hO14 rfl ?_)
  refine hR (zcall_i 0 0 (Nat.le_of_ble_eq_true rfl) (Nat.le_of_ble_eq_true rfl) (c_fill _ (p + 1) 4 x0_14 0 5460 hw11 (by rw [hk1_5]; rfl) ⟨by rw [hk1_5]; decide, by rw [hk1_5]; decide⟩ (by omega) (by omega) (by omega) _ fun w15 hw15 f15 hg15 => ?_))
  refine (?_ : R (_, _, [], w15, 0, 0))
  have fr16 := wfR_st fr12 f15 (by rw [hk1_5]; decide)
  have hn17 := nn_eq (f15.2 p (rne hρp hk1_5 (by decide))) hn13
  have hO18 := (f15.2 p (rne hρp hk1_5 (by decide))).trans hO11
  have hO19 := (f15.2 b (rne hρb hk1_5 (by decide))).trans hO14
  refine hR (?_ : R (_, _, _, _, _, _))
  refine hR (c_get hO18 rfl ?_)
  refine hR (?_ : R (_, _, _, _, _, _))
  refine hR (zcall_i 0 0 (Nat.le_of_ble_eq_true rfl) (Nat.le_of_ble_eq_true rfl) (c_fill _ (p + 2) 5 0 (-2147483648) 2147483647 hw15 (by rw [hk1_6]; rfl) ⟨by rw [hk1_6]; decide, by rw [hk1_6]; decide⟩ (by omega) (by omega) (by omega) _ fun w20 hw20 f20 hg20 => ?_))
  refine (?_ : R (_, _, [], w20, 0, 0))
  have fr21 := wfR_st fr16 f20 (by rw [hk1_6]; decide)
  have hn22 := nn_eq (f20.2 p (rne hρp hk1_6 (by decide))) hn17
  have hO23 := (f20.2 p (rne hρp hk1_6 (by decide))).trans hO18
  have hO24 := (f20.2 b (rne hρb hk1_6 (by decide))).trans hO19
  exact hR (zret_i rfl (Nat.le_refl _) rfl (h _ hw20 fr21 hn22))
theorem c_doRead {ρ : Nat → Nat} {w : zW} (d : Nat) (p : Nat) (a1 a2 : Int) (hw : CI ρ w) (hρp : ρ p = 10) (hnp : nn w p) (hr0 : 0 ≤ a1 ∧ a1 ≤ 3) (hr1 : -2147483648 ≤ a2 ∧ a2 ≤ 2147483647) (Q : zQ) (h : ∀ (v : Int) (w' : zW), CI ρ w' → wfR [10, 11, 12] ρ w w' → nn w' p → (v = 0 ∨ v = 1) → Q (some (.int (Int32.ofInt v))) w') : zCl zTab (d + 4) iX1_doRead [.ref p, .int (Int32.ofInt a1), .int (Int32.ofInt a2)] w 0 0 Q := by
  refine zCl_i (M := kX1_doRead) rfl (Nat.le_of_ble_eq_true rfl) fun R hR => ?_
  have fr0 := wfR_rf [10, 11, 12] ρ w
  refine hR (?_ : R (_, _, _, _, _, _))
  obtain ⟨y0_1, x1_1, x2_1, x3_1, x4_1, hO1, hk1_0, hk1_1, hk1_2, hk1_3, hk1_4, hk1_5, hk1_6⟩ := CI_o10 hw hρp
  refine hR (c_get hO1 rfl ?_)
  obtain ⟨z2, rfl⟩ := nn_some hnp hO1
  have hz2 : ρ z2 = 20 := hk1_0 z2 rfl
  refine hR (?_ : R (_, _, _, _, _, _))
  obtain ⟨x0_6, x1_6, x2_6, hO6, hk6_0, hk6_1, hk6_2, hk6_3, hk6_4, hk6_5, hk6_6⟩ := CI_o20 hw hz2
  refine hR (c_obj hO6 (zcall_i 0 0 (Nat.le_of_ble_eq_true rfl) (Nat.le_of_ble_eq_true rfl) (c_hasReader _ z2 a2 hw hz2 (by omega) _ fun v3 hp5 => ?_)))
  refine (?_ : R (_, _, (.int (Int32.ofInt v3)) :: [], w, 0, 0))
  refine hR (k_ne (by omega) (fun hc7 => ?_) (fun hc7 => ?_))
  rotate_left
  · skip
    refine hR (?_ : R (_, _, _, _, _, _))
    exact hR (zret_i rfl (Nat.le_refl _) (zbo (by omega)) (h _ _ hw fr0 hnp (by omega)))
  refine hR (?_ : R (_, _, _, _, _, _))
  refine hR (c_get hO1 rfl ?_)
  iterate 2 refine hR (?_ : R (_, _, _, _, _, _))
  refine hR (c_ald hw (by rw [hk1_6]; rfl) (by omega) (by omega) (Nat.le_of_ble_eq_true rfl) fun v8 lv8 uv8 => ?_)
  refine hR (?_ : R (_, _, _, _, _, _))
  refine hR (t_o fun v9 rv9 => ?_)
  refine hR (c_astx hw (by rw [hk1_6]; rfl) ⟨by rw [hk1_6]; decide, by rw [hk1_6]; decide⟩ (by omega) (by omega) (Nat.le_of_ble_eq_true rfl) fun w10 hw10 f10 => ?_)
  have fr11 := wfR_st fr0 f10 (by rw [hk1_6]; decide)
  have hn12 := nn_eq (f10.2 p (rne hρp hk1_6 (by decide))) hnp
  have hO13 := (f10.2 p (rne hρp hk1_6 (by decide))).trans hO1
  have hO14 := (f10.2 z2 (rne hz2 hk1_6 (by decide))).trans hO6
  refine hR (?_ : R (_, _, _, _, _, _))
  refine hR (c_get hO13 rfl ?_)
  refine hR (?_ : R (_, _, _, _, _, _))
  refine hR (zcall_i 0 0 (Nat.le_of_ble_eq_true rfl) (Nat.le_of_ble_eq_true rfl) (c_isIn _ _ x3_1 a1 _ fun v15 hp17 => ?_))
  refine (?_ : R (_, _, (.int (Int32.ofInt v15)) :: [], w10, 0, 0))
  refine hR (k_eq (by omega) (fun hc18 => ?_) (fun hc18 => ?_))
  rotate_left
  · skip
    iterate 2 refine hR (?_ : R (_, _, _, _, _, _))
    refine hR (c_get hO13 rfl ?_)
    iterate 2 refine hR (?_ : R (_, _, _, _, _, _))
    obtain ⟨v28, lv28, uv28, qv28⟩ := zshl_r (e := a1) (by omega) (by omega)
    refine hR (t_c v28 qv28 ?_)
    refine hR (?_ : R (_, _, _, _, _, _))
    refine hR (t_o fun v29 rv29 => ?_)
    refine hR (t_o fun v30 rv30 => ?_)
    refine hR (c_put hO13 rfl rfl fun w31 f31 hO31 => ?_)
    have hw31 := CI_w10 hw10 hρp f31 (y0 := some z2) hO31 ⟨(fun z h => by cases h; exact hz2), ⟨by omega, by omega⟩, ⟨by omega, by omega⟩, ⟨by omega, by omega⟩, ⟨by omega, by omega⟩, hk1_5, hk1_6⟩
    have fr32 := wfR_st fr11 f31 (by rw [hρp]; decide)
    have hn33 := nn_of hO31
    have hO34 := (f31.2 z2 (rne hz2 hρp (by decide))).trans hO14
    iterate 2 refine hR (?_ : R (_, _, _, _, _, _))
    exact hR (zret_i rfl (Nat.le_refl _) (zbo (by omega)) (h _ _ hw31 fr32 hn33 (by omega)))
  refine hR (?_ : R (_, _, _, _, _, _))
  refine hR (c_get hO13 rfl ?_)
  iterate 2 refine hR (?_ : R (_, _, _, _, _, _))
  refine hR (c_get hO13 rfl ?_)
  iterate 2 refine hR (?_ : R (_, _, _, _, _, _))
  refine hR (c_get hO13 rfl ?_)
  refine hR (?_ : R (_, _, _, _, _, _))
  refine hR (c_ald hw10 (by rw [hk1_5]; rfl) (by omega) (by omega) (Nat.le_of_ble_eq_true rfl) fun v19 lv19 uv19 => ?_)
  refine hR (c_obj hO14 (zcall_i 0 0 (Nat.le_of_ble_eq_true rfl) (Nat.le_of_ble_eq_true rfl) (c_readBy _ z2 a2 v19 hw10 hz2 (by omega) (by omega) _ fun v20 hp22 => ?_)))
  refine (?_ : R (_, _, (.int (Int32.ofInt v20)) :: (.int (Int32.ofInt a1)) :: (.ref (p + 1)) :: [], w10, 0, 0))
  refine hR (c_ast hw10 (by rw [hk1_5]; rfl) ⟨by rw [hk1_5]; decide, by rw [hk1_5]; decide⟩ (by omega) (by omega) (by omega) (by omega) (by omega) (by omega) (Nat.le_of_ble_eq_true rfl) fun w23 hw23 f23 => ?_)
  have fr24 := wfR_st fr11 f23 (by rw [hk1_5]; decide)
  have hn25 := nn_eq (f23.2 p (rne hρp hk1_5 (by decide))) hn12
  have hO26 := (f23.2 p (rne hρp hk1_5 (by decide))).trans hO13
  have hO27 := (f23.2 z2 (rne hz2 hk1_5 (by decide))).trans hO14
  refine hR (?_ : R (_, _, _, _, _, _))
  exact hR (zret_i rfl (Nat.le_refl _) (zbo (by omega)) (h _ _ hw23 fr24 hn25 (by omega)))
theorem c_doCopy {ρ : Nat → Nat} {w : zW} (d : Nat) (p : Nat) (a1 a2 : Int) (hw : CI ρ w) (hρp : ρ p = 10) (hnp : nn w p) (hr0 : 0 ≤ a1 ∧ a1 ≤ 3) (hr1 : -2147483648 ≤ a2 ∧ a2 ≤ 2147483647) (Q : zQ) (h : ∀ (v : Int) (w' : zW), CI ρ w' → wfR [10, 11, 12] ρ w w' → nn w' p → (v = 0 ∨ v = 1) → Q (some (.int (Int32.ofInt v))) w') : zCl zTab (d + 1) iX1_doCopy [.ref p, .int (Int32.ofInt a1), .int (Int32.ofInt a2)] w 0 0 Q := by
  refine zCl_i (M := kX1_doCopy) rfl (Nat.le_of_ble_eq_true rfl) fun R hR => ?_
  have fr0 := wfR_rf [10, 11, 12] ρ w
  refine hR (?_ : R (_, _, _, _, _, _))
  refine hR (k_lt (by omega) (fun hc1 => ?_) (fun hc1 => ?_))
  · skip
    refine hR (?_ : R (_, _, _, _, _, _))
    exact hR (zret_i rfl (Nat.le_refl _) (zbo (by omega)) (h _ _ hw fr0 hnp (by omega)))
  iterate 2 refine hR (?_ : R (_, _, _, _, _, _))
  refine hR (j_ge (by omega) (by omega) (fun hc2 => ?_) (fun hc2 => ?_))
  · skip
    refine hR (?_ : R (_, _, _, _, _, _))
    exact hR (zret_i rfl (Nat.le_refl _) (zbo (by omega)) (h _ _ hw fr0 hnp (by omega)))
  iterate 2 refine hR (?_ : R (_, _, _, _, _, _))
  refine hR (j_ne (by omega) (by omega) (fun hc3 => ?_) (fun hc3 => ?_))
  rotate_left
  · skip
    refine hR (?_ : R (_, _, _, _, _, _))
    exact hR (zret_i rfl (Nat.le_refl _) (zbo (by omega)) (h _ _ hw fr0 hnp (by omega)))
  refine hR (?_ : R (_, _, _, _, _, _))
  obtain ⟨y0_4, x1_4, x2_4, x3_4, x4_4, hO4, hk4_0, hk4_1, hk4_2, hk4_3, hk4_4, hk4_5, hk4_6⟩ := CI_o10 hw hρp
  refine hR (c_get hO4 rfl ?_)
  iterate 2 refine hR (?_ : R (_, _, _, _, _, _))
  refine hR (c_get hO4 rfl ?_)
  refine hR (?_ : R (_, _, _, _, _, _))
  refine hR (c_ald hw (by rw [hk4_5]; rfl) (by omega) (by omega) (Nat.le_of_ble_eq_true rfl) fun v5 lv5 uv5 => ?_)
  refine hR (c_ast hw (by rw [hk4_5]; rfl) ⟨by rw [hk4_5]; decide, by rw [hk4_5]; decide⟩ (by omega) (by omega) (by omega) (by omega) (by omega) (by omega) (Nat.le_of_ble_eq_true rfl) fun w6 hw6 f6 => ?_)
  have fr7 := wfR_st fr0 f6 (by rw [hk4_5]; decide)
  have hn8 := nn_eq (f6.2 p (rne hρp hk4_5 (by decide))) hnp
  have hO9 := (f6.2 p (rne hρp hk4_5 (by decide))).trans hO4
  refine hR (?_ : R (_, _, _, _, _, _))
  exact hR (zret_i rfl (Nat.le_refl _) (zbo (by omega)) (h _ _ hw6 fr7 hn8 (by omega)))
theorem c_doDeed {ρ : Nat → Nat} {w : zW} (d : Nat) (p : Nat) (a1 a2 a3 : Int) (hw : CI ρ w) (hρp : ρ p = 10) (hnp : nn w p) (hr0 : -2147483648 ≤ a1 ∧ a1 ≤ 2147483647) (hr1 : -2147483648 ≤ a2 ∧ a2 ≤ 2147483647) (hr2 : -2147483648 ≤ a3 ∧ a3 ≤ 2147483647) (Q : zQ) (h : ∀ (v : Int) (w' : zW), CI ρ w' → wfR [10, 11, 12] ρ w w' → nn w' p → (v = 0 ∨ v = 1) → Q (some (.int (Int32.ofInt v))) w') : zCl zTab (d + 5) iX1_doDeed [.ref p, .int (Int32.ofInt a1), .int (Int32.ofInt a2), .int (Int32.ofInt a3)] w 0 0 Q := by
  refine zCl_i (M := kX1_doDeed) rfl (Nat.le_of_ble_eq_true rfl) fun R hR => ?_
  have fr0 := wfR_rf [10, 11, 12] ρ w
  iterate 2 refine hR (?_ : R (_, _, _, _, _, _))
  refine hR (j_eq (by omega) (by omega) (fun hc1 => ?_) (fun hc1 => ?_))
  · skip
    refine hR (?_ : R (_, _, _, _, _, _))
    refine hR (?_ : _ ∧ _)
    rw [zti (e := a1) (by omega) (by omega)]
    refine ⟨fun hs2 => ?_, fun hs2 => ?_⟩
    · skip
      refine hR (?_ : R (_, _, _, _, _, _))
      obtain ⟨y0_3, x1_3, x2_3, x3_3, x4_3, hO3, hk3_0, hk3_1, hk3_2, hk3_3, hk3_4, hk3_5, hk3_6⟩ := CI_o10 hw hρp
      refine hR (c_get hO3 rfl ?_)
      refine hR (t_c 99 (by decide) ?_)
      refine hR (j_lt (by omega) (by omega) (fun hc4 => ?_) (fun hc4 => ?_))
      rotate_left
      · skip
        refine hR (?_ : R (_, _, _, _, _, _))
        exact hR (zret_i rfl (Nat.le_refl _) (zbo (by omega)) (h _ _ hw fr0 hnp (by omega)))
      iterate 2 refine hR (?_ : R (_, _, _, _, _, _))
      refine hR (c_get hO3 rfl ?_)
      refine hR (?_ : R (_, _, _, _, _, _))
      refine hR (t_add ?_)
      obtain ⟨z5, rfl⟩ := nn_some hnp hO3
      have hz5 : ρ z5 = 20 := hk3_0 z5 rfl
      refine hR (c_put hO3 rfl rfl fun w6 f6 hO6 => ?_)
      have hw6 := CI_w10 hw hρp f6 (y0 := some z5) hO6 ⟨(fun z h => by cases h; exact hz5), ⟨by omega, by omega⟩, ⟨by omega, by omega⟩, ⟨by omega, by omega⟩, ⟨by omega, by omega⟩, hk3_5, hk3_6⟩
      have fr7 := wfR_st fr0 f6 (by rw [hρp]; decide)
      have hn8 := nn_of hO6
      refine hR (?_ : R (_, _, _, _, _, _))
      exact hR (zret_i rfl (Nat.le_refl _) (zbo (by omega)) (h _ _ hw6 fr7 hn8 (by omega)))
    · skip
      have hs2d : a1 = 0 ∨ a1 = 1 ∨ a1 = 2 ∨ a1 = 3 ∨ a1 = 4 := by omega
      rcases hs2d with hs2e | hs2e | hs2e | hs2e | hs2e
      · refine ⟨35, by rw [hs2e]; rfl, (?_ : R (_, _, _, _, _, _))⟩
        iterate 3 refine hR (?_ : R (_, _, _, _, _, _))
        obtain ⟨y0_13, x1_13, x2_13, x3_13, x4_13, hO13, hk13_0, hk13_1, hk13_2, hk13_3, hk13_4, hk13_5, hk13_6⟩ := CI_o10 hw hρp
        refine hR (c_obj hO13 (zcall_i 0 0 (Nat.le_of_ble_eq_true rfl) (Nat.le_of_ble_eq_true rfl) (c_doRead _ p a2 a3 hw hρp hnp (by omega) (by omega) _ fun v9 w10 hw10 g10 hn11 hp12 => ?_)))
        have fr14 := wfR_tr fr0 g10 (by decide)
        refine (?_ : R (_, _, (.int (Int32.ofInt v9)) :: [], w10, 0, 0))
        exact hR (zret_i rfl (Nat.le_refl _) (zbo (by omega)) (h _ _ hw10 fr14 hn11 (by omega)))
      · refine ⟨42, by rw [hs2e]; rfl, (?_ : R (_, _, _, _, _, _))⟩
        iterate 3 refine hR (?_ : R (_, _, _, _, _, _))
        obtain ⟨y0_19, x1_19, x2_19, x3_19, x4_19, hO19, hk19_0, hk19_1, hk19_2, hk19_3, hk19_4, hk19_5, hk19_6⟩ := CI_o10 hw hρp
        refine hR (c_obj hO19 (zcall_i 0 0 (Nat.le_of_ble_eq_true rfl) (Nat.le_of_ble_eq_true rfl) (c_doCopy _ p a2 a3 hw hρp hnp (by omega) (by omega) _ fun v15 w16 hw16 g16 hn17 hp18 => ?_)))
        have fr20 := wfR_tr fr0 g16 (by decide)
        refine (?_ : R (_, _, (.int (Int32.ofInt v15)) :: [], w16, 0, 0))
        exact hR (zret_i rfl (Nat.le_refl _) (zbo (by omega)) (h _ _ hw16 fr20 hn17 (by omega)))
      · refine ⟨49, by rw [hs2e]; rfl, (?_ : R (_, _, _, _, _, _))⟩
        iterate 2 refine hR (?_ : R (_, _, _, _, _, _))
        obtain ⟨y0_21, x1_21, x2_21, x3_21, x4_21, hO21, hk21_0, hk21_1, hk21_2, hk21_3, hk21_4, hk21_5, hk21_6⟩ := CI_o10 hw hρp
        obtain ⟨z22, rfl⟩ := nn_some hnp hO21
        have hz22 : ρ z22 = 20 := hk21_0 z22 rfl
        refine hR (c_put hO21 rfl rfl fun w23 f23 hO23 => ?_)
        have hw23 := CI_w10 hw hρp f23 (y0 := some z22) hO23 ⟨(fun z h => by cases h; exact hz22), ⟨by omega, by omega⟩, ⟨by omega, by omega⟩, ⟨by omega, by omega⟩, ⟨by omega, by omega⟩, hk21_5, hk21_6⟩
        have fr24 := wfR_st fr0 f23 (by rw [hρp]; decide)
        have hn25 := nn_of hO23
        refine hR (?_ : R (_, _, _, _, _, _))
        exact hR (zret_i rfl (Nat.le_refl _) (zbo (by omega)) (h _ _ hw23 fr24 hn25 (by omega)))
      · refine ⟨56, by rw [hs2e]; rfl, (?_ : R (_, _, _, _, _, _))⟩
        iterate 2 refine hR (?_ : R (_, _, _, _, _, _))
        obtain ⟨y0_26, x1_26, x2_26, x3_26, x4_26, hO26, hk26_0, hk26_1, hk26_2, hk26_3, hk26_4, hk26_5, hk26_6⟩ := CI_o10 hw hρp
        refine hR (c_get hO26 rfl ?_)
        refine hR (j_ne (by omega) (by omega) (fun hc27 => ?_) (fun hc27 => ?_))
        rotate_left
        · skip
          refine hR (?_ : R (_, _, _, _, _, _))
          exact hR (zret_i rfl (Nat.le_refl _) (zbo (by omega)) (h _ _ hw fr0 hnp (by omega)))
        refine hR (?_ : R (_, _, _, _, _, _))
        refine hR (c_get hO26 rfl ?_)
        iterate 2 refine hR (?_ : R (_, _, _, _, _, _))
        refine hR (c_get hO26 rfl ?_)
        obtain ⟨z28, rfl⟩ := nn_some hnp hO26
        have hz28 : ρ z28 = 20 := hk26_0 z28 rfl
        obtain ⟨x0_29, x1_29, x2_29, hO29, hk29_0, hk29_1, hk29_2, hk29_3, hk29_4, hk29_5, hk29_6⟩ := CI_o20 hw hz28
        refine hR (c_get hO29 rfl ?_)
        refine hR (c_ast hw (by rw [hk26_5]; rfl) ⟨by rw [hk26_5]; decide, by rw [hk26_5]; decide⟩ (by omega) (by omega) (by omega) (by omega) (by omega) (by omega) (Nat.le_of_ble_eq_true rfl) fun w30 hw30 f30 => ?_)
        have fr31 := wfR_st fr0 f30 (by rw [hk26_5]; decide)
        have hn32 := nn_eq (f30.2 p (rne hρp hk26_5 (by decide))) hnp
        have hO33 := (f30.2 p (rne hρp hk26_5 (by decide))).trans hO26
        have hO34 := (f30.2 z28 (rne hz28 hk26_5 (by decide))).trans hO29
        refine hR (?_ : R (_, _, _, _, _, _))
        exact hR (zret_i rfl (Nat.le_refl _) (zbo (by omega)) (h _ _ hw30 fr31 hn32 (by omega)))
      · refine ⟨81, by rw [hs2e]; rfl, (?_ : R (_, _, _, _, _, _))⟩
        refine hR (?_ : R (_, _, _, _, _, _))
        obtain ⟨y0_35, x1_35, x2_35, x3_35, x4_35, hO35, hk35_0, hk35_1, hk35_2, hk35_3, hk35_4, hk35_5, hk35_6⟩ := CI_o10 hw hρp
        refine hR (c_get hO35 rfl ?_)
        refine hR (?_ : R (_, _, _, _, _, _))
        refine hR (zcall_i 0 0 (Nat.le_of_ble_eq_true rfl) (Nat.le_of_ble_eq_true rfl) (c_isIn _ _ x3_35 a2 _ fun v36 hp38 => ?_))
        refine (?_ : R (_, _, (.int (Int32.ofInt v36)) :: [], w, 0, 0))
        refine hR (k_eq (by omega) (fun hc39 => ?_) (fun hc39 => ?_))
        rotate_left
        · skip
          refine hR (?_ : R (_, _, _, _, _, _))
          exact hR (zret_i rfl (Nat.le_refl _) (zbo (by omega)) (h _ _ hw fr0 hnp (by omega)))
        iterate 2 refine hR (?_ : R (_, _, _, _, _, _))
        refine hR (c_get hO35 rfl ?_)
        iterate 2 refine hR (?_ : R (_, _, _, _, _, _))
        obtain ⟨v40, lv40, uv40, qv40⟩ := zshl_r (e := a2) (by omega) (by omega)
        refine hR (t_c v40 qv40 ?_)
        refine hR (t_o fun v41 rv41 => ?_)
        obtain ⟨z42, rfl⟩ := nn_some hnp hO35
        have hz42 : ρ z42 = 20 := hk35_0 z42 rfl
        refine hR (c_put hO35 rfl rfl fun w43 f43 hO43 => ?_)
        have hw43 := CI_w10 hw hρp f43 (y0 := some z42) hO43 ⟨(fun z h => by cases h; exact hz42), ⟨by omega, by omega⟩, ⟨by omega, by omega⟩, ⟨by omega, by omega⟩, ⟨by omega, by omega⟩, hk35_5, hk35_6⟩
        have fr44 := wfR_st fr0 f43 (by rw [hρp]; decide)
        have hn45 := nn_of hO43
        refine hR (?_ : R (_, _, _, _, _, _))
        exact hR (zret_i rfl (Nat.le_refl _) (zbo (by omega)) (h _ _ hw43 fr44 hn45 (by omega)))
  refine hR (?_ : R (_, _, _, _, _, _))
  refine hR (k_lt (by omega) (fun hc46 => ?_) (fun hc46 => ?_))
  · skip
    refine hR (?_ : R (_, _, _, _, _, _))
    exact hR (zret_i rfl (Nat.le_refl _) (zbo (by omega)) (h _ _ hw fr0 hnp (by omega)))
  iterate 2 refine hR (?_ : R (_, _, _, _, _, _))
  refine hR (j_lt (by omega) (by omega) (fun hc47 => ?_) (fun hc47 => ?_))
  rotate_left
  · skip
    refine hR (?_ : R (_, _, _, _, _, _))
    exact hR (zret_i rfl (Nat.le_refl _) (zbo (by omega)) (h _ _ hw fr0 hnp (by omega)))
  refine hR (?_ : R (_, _, _, _, _, _))
  refine hR (?_ : _ ∧ _)
  rw [zti (e := a1) (by omega) (by omega)]
  refine ⟨fun hs48 => ?_, fun hs48 => ?_⟩
  · skip
    refine hR (?_ : R (_, _, _, _, _, _))
    obtain ⟨y0_49, x1_49, x2_49, x3_49, x4_49, hO49, hk49_0, hk49_1, hk49_2, hk49_3, hk49_4, hk49_5, hk49_6⟩ := CI_o10 hw hρp
    refine hR (c_get hO49 rfl ?_)
    refine hR (t_c 99 (by decide) ?_)
    refine hR (j_lt (by omega) (by omega) (fun hc50 => ?_) (fun hc50 => ?_))
    rotate_left
    · skip
      refine hR (?_ : R (_, _, _, _, _, _))
      exact hR (zret_i rfl (Nat.le_refl _) (zbo (by omega)) (h _ _ hw fr0 hnp (by omega)))
    iterate 2 refine hR (?_ : R (_, _, _, _, _, _))
    refine hR (c_get hO49 rfl ?_)
    refine hR (?_ : R (_, _, _, _, _, _))
    refine hR (t_add ?_)
    obtain ⟨z51, rfl⟩ := nn_some hnp hO49
    have hz51 : ρ z51 = 20 := hk49_0 z51 rfl
    refine hR (c_put hO49 rfl rfl fun w52 f52 hO52 => ?_)
    have hw52 := CI_w10 hw hρp f52 (y0 := some z51) hO52 ⟨(fun z h => by cases h; exact hz51), ⟨by omega, by omega⟩, ⟨by omega, by omega⟩, ⟨by omega, by omega⟩, ⟨by omega, by omega⟩, hk49_5, hk49_6⟩
    have fr53 := wfR_st fr0 f52 (by rw [hρp]; decide)
    have hn54 := nn_of hO52
    refine hR (?_ : R (_, _, _, _, _, _))
    exact hR (zret_i rfl (Nat.le_refl _) (zbo (by omega)) (h _ _ hw52 fr53 hn54 (by omega)))
  · skip
    have hs48d : a1 = 0 ∨ a1 = 1 ∨ a1 = 2 ∨ a1 = 3 ∨ a1 = 4 := by omega
    rcases hs48d with hs48e | hs48e | hs48e | hs48e | hs48e
    · refine ⟨35, by rw [hs48e]; rfl, (?_ : R (_, _, _, _, _, _))⟩
      iterate 3 refine hR (?_ : R (_, _, _, _, _, _))
      obtain ⟨y0_59, x1_59, x2_59, x3_59, x4_59, hO59, hk59_0, hk59_1, hk59_2, hk59_3, hk59_4, hk59_5, hk59_6⟩ := CI_o10 hw hρp
      refine hR (c_obj hO59 (zcall_i 0 0 (Nat.le_of_ble_eq_true rfl) (Nat.le_of_ble_eq_true rfl) (c_doRead _ p a2 a3 hw hρp hnp (by omega) (by omega) _ fun v55 w56 hw56 g56 hn57 hp58 => ?_)))
      have fr60 := wfR_tr fr0 g56 (by decide)
      refine (?_ : R (_, _, (.int (Int32.ofInt v55)) :: [], w56, 0, 0))
      exact hR (zret_i rfl (Nat.le_refl _) (zbo (by omega)) (h _ _ hw56 fr60 hn57 (by omega)))
    · refine ⟨42, by rw [hs48e]; rfl, (?_ : R (_, _, _, _, _, _))⟩
      iterate 3 refine hR (?_ : R (_, _, _, _, _, _))
      obtain ⟨y0_65, x1_65, x2_65, x3_65, x4_65, hO65, hk65_0, hk65_1, hk65_2, hk65_3, hk65_4, hk65_5, hk65_6⟩ := CI_o10 hw hρp
      refine hR (c_obj hO65 (zcall_i 0 0 (Nat.le_of_ble_eq_true rfl) (Nat.le_of_ble_eq_true rfl) (c_doCopy _ p a2 a3 hw hρp hnp (by omega) (by omega) _ fun v61 w62 hw62 g62 hn63 hp64 => ?_)))
      have fr66 := wfR_tr fr0 g62 (by decide)
      refine (?_ : R (_, _, (.int (Int32.ofInt v61)) :: [], w62, 0, 0))
      exact hR (zret_i rfl (Nat.le_refl _) (zbo (by omega)) (h _ _ hw62 fr66 hn63 (by omega)))
    · refine ⟨49, by rw [hs48e]; rfl, (?_ : R (_, _, _, _, _, _))⟩
      iterate 2 refine hR (?_ : R (_, _, _, _, _, _))
      obtain ⟨y0_67, x1_67, x2_67, x3_67, x4_67, hO67, hk67_0, hk67_1, hk67_2, hk67_3, hk67_4, hk67_5, hk67_6⟩ := CI_o10 hw hρp
      obtain ⟨z68, rfl⟩ := nn_some hnp hO67
      have hz68 : ρ z68 = 20 := hk67_0 z68 rfl
      refine hR (c_put hO67 rfl rfl fun w69 f69 hO69 => ?_)
      have hw69 := CI_w10 hw hρp f69 (y0 := some z68) hO69 ⟨(fun z h => by cases h; exact hz68), ⟨by omega, by omega⟩, ⟨by omega, by omega⟩, ⟨by omega, by omega⟩, ⟨by omega, by omega⟩, hk67_5, hk67_6⟩
      have fr70 := wfR_st fr0 f69 (by rw [hρp]; decide)
      have hn71 := nn_of hO69
      refine hR (?_ : R (_, _, _, _, _, _))
      exact hR (zret_i rfl (Nat.le_refl _) (zbo (by omega)) (h _ _ hw69 fr70 hn71 (by omega)))
    · refine ⟨56, by rw [hs48e]; rfl, (?_ : R (_, _, _, _, _, _))⟩
      iterate 2 refine hR (?_ : R (_, _, _, _, _, _))
      obtain ⟨y0_72, x1_72, x2_72, x3_72, x4_72, hO72, hk72_0, hk72_1, hk72_2, hk72_3, hk72_4, hk72_5, hk72_6⟩ := CI_o10 hw hρp
      refine hR (c_get hO72 rfl ?_)
      refine hR (j_ne (by omega) (by omega) (fun hc73 => ?_) (fun hc73 => ?_))
      rotate_left
      · skip
        refine hR (?_ : R (_, _, _, _, _, _))
        exact hR (zret_i rfl (Nat.le_refl _) (zbo (by omega)) (h _ _ hw fr0 hnp (by omega)))
      refine hR (?_ : R (_, _, _, _, _, _))
      refine hR (c_get hO72 rfl ?_)
      iterate 2 refine hR (?_ : R (_, _, _, _, _, _))
      refine hR (c_get hO72 rfl ?_)
      obtain ⟨z74, rfl⟩ := nn_some hnp hO72
      have hz74 : ρ z74 = 20 := hk72_0 z74 rfl
      obtain ⟨x0_75, x1_75, x2_75, hO75, hk75_0, hk75_1, hk75_2, hk75_3, hk75_4, hk75_5, hk75_6⟩ := CI_o20 hw hz74
      refine hR (c_get hO75 rfl ?_)
      refine hR (c_ast hw (by rw [hk72_5]; rfl) ⟨by rw [hk72_5]; decide, by rw [hk72_5]; decide⟩ (by omega) (by omega) (by omega) (by omega) (by omega) (by omega) (Nat.le_of_ble_eq_true rfl) fun w76 hw76 f76 => ?_)
      have fr77 := wfR_st fr0 f76 (by rw [hk72_5]; decide)
      have hn78 := nn_eq (f76.2 p (rne hρp hk72_5 (by decide))) hnp
      have hO79 := (f76.2 p (rne hρp hk72_5 (by decide))).trans hO72
      have hO80 := (f76.2 z74 (rne hz74 hk72_5 (by decide))).trans hO75
      refine hR (?_ : R (_, _, _, _, _, _))
      exact hR (zret_i rfl (Nat.le_refl _) (zbo (by omega)) (h _ _ hw76 fr77 hn78 (by omega)))
    · refine ⟨81, by rw [hs48e]; rfl, (?_ : R (_, _, _, _, _, _))⟩
      refine hR (?_ : R (_, _, _, _, _, _))
      obtain ⟨y0_81, x1_81, x2_81, x3_81, x4_81, hO81, hk81_0, hk81_1, hk81_2, hk81_3, hk81_4, hk81_5, hk81_6⟩ := CI_o10 hw hρp
      refine hR (c_get hO81 rfl ?_)
      refine hR (?_ : R (_, _, _, _, _, _))
      refine hR (zcall_i 0 0 (Nat.le_of_ble_eq_true rfl) (Nat.le_of_ble_eq_true rfl) (c_isIn _ _ x3_81 a2 _ fun v82 hp84 => ?_))
      refine (?_ : R (_, _, (.int (Int32.ofInt v82)) :: [], w, 0, 0))
      refine hR (k_eq (by omega) (fun hc85 => ?_) (fun hc85 => ?_))
      rotate_left
      · skip
        refine hR (?_ : R (_, _, _, _, _, _))
        exact hR (zret_i rfl (Nat.le_refl _) (zbo (by omega)) (h _ _ hw fr0 hnp (by omega)))
      iterate 2 refine hR (?_ : R (_, _, _, _, _, _))
      refine hR (c_get hO81 rfl ?_)
      iterate 2 refine hR (?_ : R (_, _, _, _, _, _))
      obtain ⟨v86, lv86, uv86, qv86⟩ := zshl_r (e := a2) (by omega) (by omega)
      refine hR (t_c v86 qv86 ?_)
      refine hR (t_o fun v87 rv87 => ?_)
      obtain ⟨z88, rfl⟩ := nn_some hnp hO81
      have hz88 : ρ z88 = 20 := hk81_0 z88 rfl
      refine hR (c_put hO81 rfl rfl fun w89 f89 hO89 => ?_)
      have hw89 := CI_w10 hw hρp f89 (y0 := some z88) hO89 ⟨(fun z h => by cases h; exact hz88), ⟨by omega, by omega⟩, ⟨by omega, by omega⟩, ⟨by omega, by omega⟩, ⟨by omega, by omega⟩, hk81_5, hk81_6⟩
      have fr90 := wfR_st fr0 f89 (by rw [hρp]; decide)
      have hn91 := nn_of hO89
      refine hR (?_ : R (_, _, _, _, _, _))
      exact hR (zret_i rfl (Nat.le_refl _) (zbo (by omega)) (h _ _ hw89 fr90 hn91 (by omega)))
theorem c_doFirst {ρ : Nat → Nat} {w : zW} (d : Nat) (p y : Nat) (a1 : Int) (hw : CI ρ w) (hρp : ρ p = 10) (hρy : ρ y = 30) (hnp : nn w p) (hr0 : -2147483648 ≤ a1 ∧ a1 ≤ 2147483647) (Q : zQ) (h : ∀ (v : Int) (w' : zW), CI ρ w' → wfR [10, 11, 12] ρ w w' → nn w' p → (-2147483648 ≤ v ∧ v ≤ 2147483647) → Q (some (.int (Int32.ofInt v))) w') : zCl zTab (d + 6) iX1_doFirst [.ref p, .ref y, .int (Int32.ofInt a1)] w 0 0 Q := by
  refine zCl_i (M := kX1_doFirst) rfl (Nat.le_of_ble_eq_true rfl) fun R hR => ?_
  have fr0 := wfR_rf [10, 11, 12] ρ w
  iterate 2 refine hR (?_ : R (_, _, _, _, _, _))
  have lp2 : ∀ (N : Nat) (k : Int) (w_2 : zW), (CI ρ w_2) → (wfR [10, 11, 12] ρ w w_2) → (nn w_2 p) → (0 ≤ k ∧ k ≤ 40) → (41 - k < N) → R (2, [some (.ref p), some (.ref y), some (.int (Int32.ofInt a1)), some (.int (Int32.ofInt k))], [], w_2, 0, 0) := by
    intro N
    induction N with
    | zero => intros; omega
    | succ N ih2 =>
      intro k w_2 hw_2 fr_2 hnp_2 hf0_2 hN2
      iterate 2 refine hR (?_ : R (_, _, _, _, _, _))
      refine hR (j_ge (by omega) (by omega) (fun hc1 => ?_) (fun hc1 => ?_))
      · skip
        refine hR (?_ : R (_, _, _, _, _, _))
        exact hR (zret_i rfl (Nat.le_refl _) trivial (h _ _ hw_2 fr_2 hnp_2 (by omega)))
      iterate 2 refine hR (?_ : R (_, _, _, _, _, _))
      obtain ⟨x0_2, hO2, hk2_0, hk2_1, hk2_2, hk2_3⟩ := CI_o30 hw_2 hρy
      refine hR (c_get hO2 rfl ?_)
      refine hR (j_ge (by omega) (by omega) (fun hc3 => ?_) (fun hc3 => ?_))
      · skip
        refine hR (?_ : R (_, _, _, _, _, _))
        exact hR (zret_i rfl (Nat.le_refl _) trivial (h _ _ hw_2 fr_2 hnp_2 (by omega)))
      iterate 2 refine hR (?_ : R (_, _, _, _, _, _))
      refine hR (c_get hO2 rfl ?_)
      refine hR (?_ : R (_, _, _, _, _, _))
      refine hR (c_ald hw_2 (by rw [hk2_1]; rfl) (by omega) (by omega) (Nat.le_of_ble_eq_true rfl) fun v4 lv4 uv4 => ?_)
      refine hR (?_ : R (_, _, _, _, _, _))
      refine hR (c_get hO2 rfl ?_)
      refine hR (?_ : R (_, _, _, _, _, _))
      refine hR (c_ald hw_2 (by rw [hk2_2]; rfl) (by omega) (by omega) (Nat.le_of_ble_eq_true rfl) fun v5 lv5 uv5 => ?_)
      refine hR (?_ : R (_, _, _, _, _, _))
      refine hR (c_get hO2 rfl ?_)
      refine hR (?_ : R (_, _, _, _, _, _))
      refine hR (c_ald hw_2 (by rw [hk2_3]; rfl) (by omega) (by omega) (Nat.le_of_ble_eq_true rfl) fun v6 lv6 uv6 => ?_)
      obtain ⟨y0_11, x1_11, x2_11, x3_11, x4_11, hO11, hk11_0, hk11_1, hk11_2, hk11_3, hk11_4, hk11_5, hk11_6⟩ := CI_o10 hw_2 hρp
      refine hR (c_obj hO11 (zcall_i 0 0 (Nat.le_of_ble_eq_true rfl) (Nat.le_of_ble_eq_true rfl) (c_doDeed _ p v4 v5 v6 hw_2 hρp hnp_2 (by omega) (by omega) (by omega) _ fun v7 w8 hw8 g8 hn9 hp10 => ?_)))
      have fr12 := wfR_tr fr_2 g8 (by decide)
      have hO13 := (g8.2 y (by rw [hρy]; decide)).trans hO2
      refine (?_ : R (_, _, (.int (Int32.ofInt v7)) :: [], w8, 0, 0))
      refine hR (k_ne (by omega) (fun hc14 => ?_) (fun hc14 => ?_))
      rotate_left
      · skip
        refine hR (?_ : R (_, _, _, _, _, _))
        exact hR (zret_i rfl (Nat.le_refl _) trivial (h _ _ hw8 fr12 hn9 (by omega)))
      refine hR (t_inc ?_)
      refine hR (?_ : R (_, _, _, _, _, _))
      exact ih2 _ _ hw8 fr12 hn9 (by omega) (by omega)
  exact lp2 400000000 _ _ hw fr0 hnp (by omega) (by omega)
theorem c_drawBelow {ρ : Nat → Nat} {w : zW} (d : Nat) (p : Nat) (a1 : Int) (hw : CI ρ w) (hρp : ρ p = 10) (hnp : nn w p) (hr0 : -2147483648 ≤ a1 ∧ a1 ≤ 2147483647) (Q : zQ) (h : ∀ (v : Int) (w' : zW), CI ρ w' → wfR [10, 11, 12] ρ w w' → nn w' p → (0 ≤ v ∧ v ≤ 2147483647) → Q (some (.int (Int32.ofInt v))) w') : zCl zTab (d + 1) iX1_drawBelow [.ref p, .int (Int32.ofInt a1)] w 0 0 Q := by
  refine zCl_i (M := kX1_drawBelow) rfl (Nat.le_of_ble_eq_true rfl) fun R hR => ?_
  have fr0 := wfR_rf [10, 11, 12] ρ w
  iterate 2 refine hR (?_ : R (_, _, _, _, _, _))
  obtain ⟨y0_1, x1_1, x2_1, x3_1, x4_1, hO1, hk1_0, hk1_1, hk1_2, hk1_3, hk1_4, hk1_5, hk1_6⟩ := CI_o10 hw hρp
  refine hR (c_get hO1 rfl ?_)
  refine hR (t_c 1103515245 (by decide) ?_)
  refine hR (t_o fun v2 rv2 => ?_)
  refine hR (t_c 12345 (by decide) ?_)
  refine hR (t_o fun v3 rv3 => ?_)
  obtain ⟨z4, rfl⟩ := nn_some hnp hO1
  have hz4 : ρ z4 = 20 := hk1_0 z4 rfl
  refine hR (c_put hO1 rfl rfl fun w5 f5 hO5 => ?_)
  have hw5 := CI_w10 hw hρp f5 (y0 := some z4) hO5 ⟨(fun z h => by cases h; exact hz4), ⟨by omega, by omega⟩, ⟨by omega, by omega⟩, ⟨by omega, by omega⟩, ⟨by omega, by omega⟩, hk1_5, hk1_6⟩
  have fr6 := wfR_st fr0 f5 (by rw [hρp]; decide)
  have hn7 := nn_of hO5
  refine hR (?_ : R (_, _, _, _, _, _))
  refine hR (k_gt (by omega) (fun hc8 => ?_) (fun hc8 => ?_))
  rotate_left
  · skip
    iterate 2 refine hR (?_ : R (_, _, _, _, _, _))
    exact hR (zret_i rfl (Nat.le_refl _) trivial (h _ _ hw5 fr6 hn7 (by omega)))
  refine hR (?_ : R (_, _, _, _, _, _))
  refine hR (c_get hO5 rfl ?_)
  refine hR (t_c 16 (by decide) ?_)
  obtain ⟨v9, lv9, uv9, qv9⟩ := zushr_r (Int32.ofInt v3)
  refine hR (t_c v9 qv9 ?_)
  refine hR (?_ : R (_, _, _, _, _, _))
  refine hR (t_remv (by omega) (by omega) (by omega) (by omega) fun v10 ev10 lv10 uv10 => ?_)
  clear ev10
  exact hR (zret_i rfl (Nat.le_refl _) trivial (h _ _ hw5 fr6 hn7 (by omega)))
theorem c_draw {ρ : Nat → Nat} {w : zW} (d : Nat) (p : Nat) (a1 a2 : Int) (hw : CI ρ w) (hρp : ρ p = 10) (hnp : nn w p) (hr0 : -2147483648 ≤ a1 ∧ a1 ≤ 2147483647) (hr1 : 0 ≤ a2 ∧ a2 ≤ 1000000) (Q : zQ) (h : ∀ (w' : zW), CI ρ w' → wfR [10, 11, 12] ρ w w' → nn w' p → Q (none) w') : zCl zTab (d + 6) iX1_draw [.ref p, .int (Int32.ofInt a1), .int (Int32.ofInt a2)] w 0 0 Q := by
  refine zCl_i (M := kX1_draw) rfl (Nat.le_of_ble_eq_true rfl) fun R hR => ?_
  have fr0 := wfR_rf [10, 11, 12] ρ w
  iterate 2 refine hR (?_ : R (_, _, _, _, _, _))
  obtain ⟨y0_1, x1_1, x2_1, x3_1, x4_1, hO1, hk1_0, hk1_1, hk1_2, hk1_3, hk1_4, hk1_5, hk1_6⟩ := CI_o10 hw hρp
  obtain ⟨z2, rfl⟩ := nn_some hnp hO1
  have hz2 : ρ z2 = 20 := hk1_0 z2 rfl
  refine hR (c_put hO1 rfl rfl fun w3 f3 hO3 => ?_)
  have hw3 := CI_w10 hw hρp f3 (y0 := some z2) hO3 ⟨(fun z h => by cases h; exact hz2), ⟨by omega, by omega⟩, ⟨by omega, by omega⟩, ⟨by omega, by omega⟩, ⟨by omega, by omega⟩, hk1_5, hk1_6⟩
  have fr4 := wfR_st fr0 f3 (by rw [hρp]; decide)
  have hn5 := nn_of hO3
  iterate 2 refine hR (?_ : R (_, _, _, _, _, _))
  have lp7 : ∀ (N : Nat) (i : Int) (o4_7 : Option Value) (o5_7 : Option Value) (w_7 : zW), (zc2 o4_7 = false) → (zc2 o5_7 = false) → (CI ρ w_7) → (wfR [10, 11, 12] ρ w w_7) → (nn w_7 p) → (0 ≤ i ∧ i ≤ 1000000) → (1000001 - i < N) → R (7, [some (.ref p), some (.int (Int32.ofInt a1)), some (.int (Int32.ofInt a2)), some (.int (Int32.ofInt i)), o4_7, o5_7], [], w_7, 0, 0) := by
    intro N
    induction N with
    | zero => intros; omega
    | succ N ih7 =>
      intro i o4_7 o5_7 w_7 hzo4_7 hzo5_7 hw_7 fr_7 hnp_7 hf0_7 hN7
      iterate 2 refine hR (?_ : R (_, _, _, _, _, _))
      refine hR (j_ge (by omega) (by omega) (fun hc6 => ?_) (fun hc6 => ?_))
      · skip
        exact hR (zret_i rfl (Nat.le_refl _) rfl (h _ hw_7 fr_7 hnp_7))
      iterate 2 refine hR (?_ : R (_, _, _, _, _, _))
      obtain ⟨y0_11, x1_11, x2_11, x3_11, x4_11, hO11, hk11_0, hk11_1, hk11_2, hk11_3, hk11_4, hk11_5, hk11_6⟩ := CI_o10 hw_7 hρp
      refine hR (c_obj hO11 (zcall_i 0 0 (Nat.le_of_ble_eq_true rfl) (Nat.le_of_ble_eq_true rfl) (c_drawBelow _ p 4 hw_7 hρp hnp_7 (by omega) _ fun v7 w8 hw8 g8 hn9 hp10 => ?_)))
      have fr12 := wfR_tr fr_7 g8 (by decide)
      refine (?_ : R (_, _, (.int (Int32.ofInt v7)) :: [], w8, 0, 0))
      iterate 2 refine hR (?_ : R (_, _, _, _, _, _))
      refine hR (t_c 8 (by decide) ?_)
      obtain ⟨y0_17, x1_17, x2_17, x3_17, x4_17, hO17, hk17_0, hk17_1, hk17_2, hk17_3, hk17_4, hk17_5, hk17_6⟩ := CI_o10 hw8 hρp
      refine hR (c_obj hO17 (zcall_i 0 0 (Nat.le_of_ble_eq_true rfl) (Nat.le_of_ble_eq_true rfl) (c_drawBelow _ p 8 hw8 hρp hn9 (by omega) _ fun v13 w14 hw14 g14 hn15 hp16 => ?_)))
      have fr18 := wfR_tr fr12 g14 (by decide)
      refine (?_ : R (_, _, (.int (Int32.ofInt v13)) :: [], w14, 0, 0))
      iterate 3 refine hR (?_ : R (_, _, _, _, _, _))
      refine hR (j_gt (by omega) (by omega) (fun hc19 => ?_) (fun hc19 => ?_))
      rotate_left
      · skip
        refine hR (?_ : R (_, _, _, _, _, _))
        obtain ⟨y0_46, x1_46, x2_46, x3_46, x4_46, hO46, hk46_0, hk46_1, hk46_2, hk46_3, hk46_4, hk46_5, hk46_6⟩ := CI_o10 hw14 hρp
        refine hR (c_get hO46 rfl ?_)
        obtain ⟨z47, rfl⟩ := nn_some hn15 hO46
        have hz47 : ρ z47 = 20 := hk46_0 z47 rfl
        obtain ⟨x0_48, x1_48, x2_48, hO48, hk48_0, hk48_1, hk48_2, hk48_3, hk48_4, hk48_5, hk48_6⟩ := CI_o20 hw14 hz47
        refine hR (c_get hO48 rfl ?_)
        refine hR (k_le (by omega) (fun hc49 => ?_) (fun hc49 => ?_))
        · skip
          refine hR (t_inc ?_)
          refine hR (?_ : R (_, _, _, _, _, _))
          exact ih7 _ _ _ _ (by rfl) (by rfl) hw14 fr18 hn15 (by omega) (by omega)
        iterate 5 refine hR (?_ : R (_, _, _, _, _, _))
        refine hR (c_get hO46 rfl ?_)
        refine hR (c_get hO48 rfl ?_)
        refine hR (c_obj hO46 (zcall_i 0 0 (Nat.le_of_ble_eq_true rfl) (Nat.le_of_ble_eq_true rfl) (c_drawBelow _ p x1_48 hw14 hρp hn15 (by omega) _ fun v50 w51 hw51 g51 hn52 hp53 => ?_)))
        have fr54 := wfR_tr fr18 g51 (by decide)
        have hO55 := (g51.2 z47 (by rw [hz47]; decide)).trans hO48
        refine (?_ : R (_, _, (.int (Int32.ofInt v50)) :: (.int (Int32.ofInt v7)) :: (.int (Int32.ofInt 0)) :: (.ref p) :: [], w51, 0, 0))
        obtain ⟨y0_60, x1_60, x2_60, x3_60, x4_60, hO60, hk60_0, hk60_1, hk60_2, hk60_3, hk60_4, hk60_5, hk60_6⟩ := CI_o10 hw51 hρp
        refine hR (c_obj hO60 (zcall_i 0 0 (Nat.le_of_ble_eq_true rfl) (Nat.le_of_ble_eq_true rfl) (c_doDeed _ p 0 v7 v50 hw51 hρp hn52 (by omega) (by omega) (by omega) _ fun v56 w57 hw57 g57 hn58 hp59 => ?_)))
        have fr61 := wfR_tr fr54 g57 (by decide)
        have hO62 := (g57.2 z47 (by rw [hz47]; decide)).trans hO55
        refine (?_ : R (_, _, (.int (Int32.ofInt v56)) :: [], w57, 0, 0))
        iterate 2 refine hR (?_ : R (_, _, _, _, _, _))
        refine hR (t_inc ?_)
        refine hR (?_ : R (_, _, _, _, _, _))
        exact ih7 _ _ _ _ (by rfl) (by rfl) hw57 fr61 hn58 (by omega) (by omega)
      iterate 2 refine hR (?_ : R (_, _, _, _, _, _))
      refine hR (j_ne (by omega) (by omega) (fun hc20 => ?_) (fun hc20 => ?_))
      rotate_left
      · skip
        iterate 5 refine hR (?_ : R (_, _, _, _, _, _))
        obtain ⟨y0_38, x1_38, x2_38, x3_38, x4_38, hO38, hk38_0, hk38_1, hk38_2, hk38_3, hk38_4, hk38_5, hk38_6⟩ := CI_o10 hw14 hρp
        refine hR (c_obj hO38 (zcall_i 0 0 (Nat.le_of_ble_eq_true rfl) (Nat.le_of_ble_eq_true rfl) (c_drawBelow _ p 4 hw14 hρp hn15 (by omega) _ fun v34 w35 hw35 g35 hn36 hp37 => ?_)))
        have fr39 := wfR_tr fr18 g35 (by decide)
        refine (?_ : R (_, _, (.int (Int32.ofInt v34)) :: (.int (Int32.ofInt v7)) :: (.int (Int32.ofInt 1)) :: (.ref p) :: [], w35, 0, 0))
        obtain ⟨y0_44, x1_44, x2_44, x3_44, x4_44, hO44, hk44_0, hk44_1, hk44_2, hk44_3, hk44_4, hk44_5, hk44_6⟩ := CI_o10 hw35 hρp
        refine hR (c_obj hO44 (zcall_i 0 0 (Nat.le_of_ble_eq_true rfl) (Nat.le_of_ble_eq_true rfl) (c_doDeed _ p 1 v7 v34 hw35 hρp hn36 (by omega) (by omega) (by omega) _ fun v40 w41 hw41 g41 hn42 hp43 => ?_)))
        have fr45 := wfR_tr fr39 g41 (by decide)
        refine (?_ : R (_, _, (.int (Int32.ofInt v40)) :: [], w41, 0, 0))
        iterate 2 refine hR (?_ : R (_, _, _, _, _, _))
        refine hR (t_inc ?_)
        refine hR (?_ : R (_, _, _, _, _, _))
        exact ih7 _ _ _ _ (by rfl) (by rfl) hw41 fr45 hn42 (by omega) (by omega)
      iterate 2 refine hR (?_ : R (_, _, _, _, _, _))
      refine hR (t_c 6 (by decide) ?_)
      refine hR (j_ne (by omega) (by omega) (fun hc21 => ?_) (fun hc21 => ?_))
      · skip
        iterate 3 refine hR (?_ : R (_, _, _, _, _, _))
        obtain ⟨y0_26, x1_26, x2_26, x3_26, x4_26, hO26, hk26_0, hk26_1, hk26_2, hk26_3, hk26_4, hk26_5, hk26_6⟩ := CI_o10 hw14 hρp
        refine hR (c_obj hO26 (zcall_i 0 0 (Nat.le_of_ble_eq_true rfl) (Nat.le_of_ble_eq_true rfl) (c_doDeed _ p 5 v7 ((-1)) hw14 hρp hn15 (by omega) (by omega) (by omega) _ fun v22 w23 hw23 g23 hn24 hp25 => ?_)))
        have fr27 := wfR_tr fr18 g23 (by decide)
        refine (?_ : R (_, _, (.int (Int32.ofInt v22)) :: [], w23, 0, 0))
        refine hR (?_ : R (_, _, _, _, _, _))
        refine hR (t_inc ?_)
        refine hR (?_ : R (_, _, _, _, _, _))
        exact ih7 _ _ _ _ (by rfl) (by rfl) hw23 fr27 hn24 (by omega) (by omega)
      iterate 4 refine hR (?_ : R (_, _, _, _, _, _))
      obtain ⟨y0_32, x1_32, x2_32, x3_32, x4_32, hO32, hk32_0, hk32_1, hk32_2, hk32_3, hk32_4, hk32_5, hk32_6⟩ := CI_o10 hw14 hρp
      refine hR (c_obj hO32 (zcall_i 0 0 (Nat.le_of_ble_eq_true rfl) (Nat.le_of_ble_eq_true rfl) (c_doDeed _ p 4 v7 ((-1)) hw14 hρp hn15 (by omega) (by omega) (by omega) _ fun v28 w29 hw29 g29 hn30 hp31 => ?_)))
      have fr33 := wfR_tr fr18 g29 (by decide)
      refine (?_ : R (_, _, (.int (Int32.ofInt v28)) :: [], w29, 0, 0))
      refine hR (?_ : R (_, _, _, _, _, _))
      refine hR (t_inc ?_)
      refine hR (?_ : R (_, _, _, _, _, _))
      exact ih7 _ _ _ _ (by rfl) (by rfl) hw29 fr33 hn30 (by omega) (by omega)
  exact lp7 400000000 _ _ _ _ (by rfl) (by rfl) hw3 fr4 hn5 (by omega) (by omega)
theorem c_suits {ρ : Nat → Nat} {w : zW} (d : Nat) (p : Nat) (hw : CI ρ w) (hρp : ρ p = 10) (Q : zQ) (h : ∀ (v : Int), (0 ≤ v ∧ v ≤ 4) → Q (some (.int (Int32.ofInt v))) w) : zCl zTab (d + 1) iX1_suits [.ref p] w 0 0 Q := by
  refine zCl_i (M := kX1_suits) rfl (Nat.le_of_ble_eq_true rfl) fun R hR => ?_
  have fr0 := wfR_rf [] ρ w
  iterate 4 refine hR (?_ : R (_, _, _, _, _, _))
  have lp4 : ∀ (N : Nat) (n : Int) (k : Int), (0 ≤ n ∧ n ≤ 4) → (0 ≤ k ∧ k ≤ 4) → (n ≤ k) → (5 - k < N) → R (4, [some (.ref p), some (.int (Int32.ofInt n)), some (.int (Int32.ofInt k))], [], w, 0, 0) := by
    intro N
    induction N with
    | zero => intros; omega
    | succ N ih4 =>
      intro n k hf0_4 hf1_4 hp0_4 hN4
      iterate 2 refine hR (?_ : R (_, _, _, _, _, _))
      refine hR (j_ge (by omega) (by omega) (fun hc1 => ?_) (fun hc1 => ?_))
      · skip
        refine hR (?_ : R (_, _, _, _, _, _))
        exact hR (zret_i rfl (Nat.le_refl _) trivial (h _ (by omega)))
      refine hR (?_ : R (_, _, _, _, _, _))
      obtain ⟨y0_2, x1_2, x2_2, x3_2, x4_2, hO2, hk2_0, hk2_1, hk2_2, hk2_3, hk2_4, hk2_5, hk2_6⟩ := CI_o10 hw hρp
      refine hR (c_get hO2 rfl ?_)
      refine hR (?_ : R (_, _, _, _, _, _))
      refine hR (c_ald hw (by rw [hk2_5]; rfl) (by omega) (by omega) (Nat.le_of_ble_eq_true rfl) fun v3 lv3 uv3 => ?_)
      refine hR (?_ : R (_, _, _, _, _, _))
      refine hR (c_get hO2 rfl ?_)
      refine hR (?_ : R (_, _, _, _, _, _))
      refine hR (c_get hO2 rfl ?_)
      refine hR (c_ald hw (by rw [hk2_5]; rfl) (by omega) (by omega) (Nat.le_of_ble_eq_true rfl) fun v4 lv4 uv4 => ?_)
      refine hR (j_eq (by omega) (by omega) (fun hc5 => ?_) (fun hc5 => ?_))
      · skip
        refine hR (t_inc ?_)
        refine hR (?_ : R (_, _, _, _, _, _))
        exact ih4 _ _ (by omega) (by omega) (by omega) (by omega)
      refine hR (t_inc ?_)
      refine hR (t_inc ?_)
      refine hR (?_ : R (_, _, _, _, _, _))
      exact ih4 _ _ (by omega) (by omega) (by omega) (by omega)
  exact lp4 400000000 _ _ (by omega) (by omega) (by omega) (by omega)
theorem c_driftOfCopy {ρ : Nat → Nat} {w : zW} (d : Nat) (p : Nat) (a1 : Int) (hw : CI ρ w) (hρp : ρ p = 10) (hnp : nn w p) (hr0 : 0 ≤ a1 ∧ a1 ≤ 3) (Q : zQ) (h : ∀ (v : Int), (-2147483648 ≤ v ∧ v ≤ 2147483647) → Q (some (.int (Int32.ofInt v))) w) : zCl zTab (d + 4) iX1_driftOfCopy [.ref p, .int (Int32.ofInt a1)] w 0 0 Q := by
  refine zCl_i (M := kX1_driftOfCopy) rfl (Nat.le_of_ble_eq_true rfl) fun R hR => ?_
  have fr0 := wfR_rf [] ρ w
  refine hR (?_ : R (_, _, _, _, _, _))
  obtain ⟨y0_1, x1_1, x2_1, x3_1, x4_1, hO1, hk1_0, hk1_1, hk1_2, hk1_3, hk1_4, hk1_5, hk1_6⟩ := CI_o10 hw hρp
  refine hR (c_get hO1 rfl ?_)
  refine hR (?_ : R (_, _, _, _, _, _))
  refine hR (c_ald hw (by rw [hk1_5]; rfl) (by omega) (by omega) (Nat.le_of_ble_eq_true rfl) fun v2 lv2 uv2 => ?_)
  refine hR (?_ : R (_, _, _, _, _, _))
  refine hR (c_get hO1 rfl ?_)
  obtain ⟨z3, rfl⟩ := nn_some hnp hO1
  have hz3 : ρ z3 = 20 := hk1_0 z3 rfl
  obtain ⟨x0_4, x1_4, x2_4, hO4, hk4_0, hk4_1, hk4_2, hk4_3, hk4_4, hk4_5, hk4_6⟩ := CI_o20 hw hz3
  refine hR (c_get hO4 rfl ?_)
  refine hR (zcall_i 0 0 (Nat.le_of_ble_eq_true rfl) (Nat.le_of_ble_eq_true rfl) (c_driftOf _ _ v2 x0_4 (by omega) (by omega) _ fun v5 hp7 => ?_))
  refine (?_ : R (_, _, (.int (Int32.ofInt v5)) :: [], w, 0, 0))
  exact hR (zret_i rfl (Nat.le_refl _) trivial (h _ (by omega)))
theorem c_against {ρ : Nat → Nat} {w : zW} (d : Nat) (p : Nat) (hw : CI ρ w) (hρp : ρ p = 10) (hnp : nn w p) (Q : zQ) (h : ∀ (v : Int), (0 ≤ v ∧ v ≤ 3) → Q (some (.int (Int32.ofInt v))) w) : zCl zTab (d + 5) iX1_against [.ref p] w 0 0 Q := by
  refine zCl_i (M := kX1_against) rfl (Nat.le_of_ble_eq_true rfl) fun R hR => ?_
  have fr0 := wfR_rf [] ρ w
  iterate 4 refine hR (?_ : R (_, _, _, _, _, _))
  have lp4 : ∀ (N : Nat) (n : Int) (k : Int), (0 ≤ n ∧ n ≤ 3) → (1 ≤ k ∧ k ≤ 4) → (5 - k < N) → R (4, [some (.ref p), some (.int (Int32.ofInt n)), some (.int (Int32.ofInt k))], [], w, 0, 0) := by
    intro N
    induction N with
    | zero => intros; omega
    | succ N ih4 =>
      intro n k hf0_4 hf1_4 hN4
      iterate 2 refine hR (?_ : R (_, _, _, _, _, _))
      refine hR (j_ge (by omega) (by omega) (fun hc1 => ?_) (fun hc1 => ?_))
      · skip
        refine hR (?_ : R (_, _, _, _, _, _))
        exact hR (zret_i rfl (Nat.le_refl _) trivial (h _ (by omega)))
      iterate 2 refine hR (?_ : R (_, _, _, _, _, _))
      obtain ⟨y0_5, x1_5, x2_5, x3_5, x4_5, hO5, hk5_0, hk5_1, hk5_2, hk5_3, hk5_4, hk5_5, hk5_6⟩ := CI_o10 hw hρp
      refine hR (c_obj hO5 (zcall_i 0 0 (Nat.le_of_ble_eq_true rfl) (Nat.le_of_ble_eq_true rfl) (c_driftOfCopy _ p k hw hρp hnp (by omega) _ fun v2 hp4 => ?_)))
      refine (?_ : R (_, _, (.int (Int32.ofInt v2)) :: [], w, 0, 0))
      iterate 2 refine hR (?_ : R (_, _, _, _, _, _))
      refine hR (c_obj hO5 (zcall_i 0 0 (Nat.le_of_ble_eq_true rfl) (Nat.le_of_ble_eq_true rfl) (c_driftOfCopy _ p n hw hρp hnp (by omega) _ fun v6 hp8 => ?_)))
      refine (?_ : R (_, _, (.int (Int32.ofInt v6)) :: (.int (Int32.ofInt v2)) :: [], w, 0, 0))
      refine hR (j_le (by omega) (by omega) (fun hc9 => ?_) (fun hc9 => ?_))
      · skip
        refine hR (t_inc ?_)
        refine hR (?_ : R (_, _, _, _, _, _))
        exact ih4 _ _ (by omega) (by omega) (by omega)
      iterate 2 refine hR (?_ : R (_, _, _, _, _, _))
      refine hR (t_inc ?_)
      refine hR (?_ : R (_, _, _, _, _, _))
      exact ih4 _ _ (by omega) (by omega) (by omega)
  exact lp4 400000000 _ _ (by omega) (by omega) (by omega)
theorem c_courseTells {ρ : Nat → Nat} {w : zW} (d : Nat) (p : Nat) (a1 : Int) (hw : CI ρ w) (hρp : ρ p = 10) (hnp : nn w p) (hr0 : -2147483648 ≤ a1 ∧ a1 ≤ 2147483647) (Q : zQ) (h : ∀ (v : Int), Q (some (.int (Int32.ofInt v))) w) : zCl zTab (d + 6) iX1_tells [.ref p, .int (Int32.ofInt a1)] w 0 0 Q := by
  refine zCl_i (M := kX1_tells) rfl (Nat.le_of_ble_eq_true rfl) fun R hR => ?_
  have fr0 := wfR_rf [] ρ w
  refine hR (?_ : R (_, _, _, _, _, _))
  refine hR (?_ : _ ∧ _)
  rw [zti (e := a1) (by omega) (by omega)]
  refine ⟨fun hs1 => ?_, fun hs1 => ?_⟩
  · skip
    refine hR (?_ : R (_, _, _, _, _, _))
    refine hR (t_c 10 (by decide) ?_)
    refine hR (j_lt (by omega) (by omega) (fun hc2 => ?_) (fun hc2 => ?_))
    · skip
      refine hR (?_ : R (_, _, _, _, _, _))
      refine hR (t_c 20 (by decide) ?_)
      refine hR (j_lt (by omega) (by omega) (fun hc3 => ?_) (fun hc3 => ?_))
      · skip
        refine hR (t_c (-2) (by decide) ?_)
        exact hR (zret_i rfl (Nat.le_refl _) trivial (h _))
      refine hR (?_ : R (_, _, _, _, _, _))
      refine hR (t_c 20 (by decide) ?_)
      refine hR (?_ : R (_, _, _, _, _, _))
      obtain ⟨y0_4, x1_4, x2_4, x3_4, x4_4, hO4, hk4_0, hk4_1, hk4_2, hk4_3, hk4_4, hk4_5, hk4_6⟩ := CI_o10 hw hρp
      refine hR (c_get hO4 rfl ?_)
      obtain ⟨z5, rfl⟩ := nn_some hnp hO4
      have hz5 : ρ z5 = 20 := hk4_0 z5 rfl
      obtain ⟨x0_6, x1_6, x2_6, hO6, hk6_0, hk6_1, hk6_2, hk6_3, hk6_4, hk6_5, hk6_6⟩ := CI_o20 hw hz5
      refine hR (c_get hO6 rfl ?_)
      refine hR (t_add ?_)
      refine hR (j_ge (by omega) (by omega) (fun hc7 => ?_) (fun hc7 => ?_))
      · skip
        refine hR (t_c (-2) (by decide) ?_)
        exact hR (zret_i rfl (Nat.le_refl _) trivial (h _))
      refine hR (?_ : R (_, _, _, _, _, _))
      refine hR (c_get hO4 rfl ?_)
      refine hR (?_ : R (_, _, _, _, _, _))
      refine hR (t_c 20 (by decide) ?_)
      refine hR (t_sub ?_)
      refine hR (c_ald hw (by rw [hk4_6]; rfl) (by omega) (by omega) (Nat.le_of_ble_eq_true rfl) fun v8 lv8 uv8 => ?_)
      refine hR (?_ : R (_, _, _, _, _, _))
      exact hR (zret_i rfl (Nat.le_refl _) trivial (h _))
    refine hR (?_ : R (_, _, _, _, _, _))
    refine hR (t_c 14 (by decide) ?_)
    refine hR (j_ge (by omega) (by omega) (fun hc9 => ?_) (fun hc9 => ?_))
    rotate_left
    · skip
      refine hR (?_ : R (_, _, _, _, _, _))
      obtain ⟨y0_16, x1_16, x2_16, x3_16, x4_16, hO16, hk16_0, hk16_1, hk16_2, hk16_3, hk16_4, hk16_5, hk16_6⟩ := CI_o10 hw hρp
      refine hR (c_get hO16 rfl ?_)
      refine hR (?_ : R (_, _, _, _, _, _))
      refine hR (t_c 10 (by decide) ?_)
      refine hR (t_sub ?_)
      refine hR (c_ald hw (by rw [hk16_5]; rfl) (by omega) (by omega) (Nat.le_of_ble_eq_true rfl) fun v17 lv17 uv17 => ?_)
      exact hR (zret_i rfl (Nat.le_refl _) trivial (h _))
    refine hR (?_ : R (_, _, _, _, _, _))
    refine hR (t_c 20 (by decide) ?_)
    refine hR (j_lt (by omega) (by omega) (fun hc10 => ?_) (fun hc10 => ?_))
    · skip
      refine hR (t_c (-2) (by decide) ?_)
      exact hR (zret_i rfl (Nat.le_refl _) trivial (h _))
    refine hR (?_ : R (_, _, _, _, _, _))
    refine hR (t_c 20 (by decide) ?_)
    refine hR (?_ : R (_, _, _, _, _, _))
    obtain ⟨y0_11, x1_11, x2_11, x3_11, x4_11, hO11, hk11_0, hk11_1, hk11_2, hk11_3, hk11_4, hk11_5, hk11_6⟩ := CI_o10 hw hρp
    refine hR (c_get hO11 rfl ?_)
    obtain ⟨z12, rfl⟩ := nn_some hnp hO11
    have hz12 : ρ z12 = 20 := hk11_0 z12 rfl
    obtain ⟨x0_13, x1_13, x2_13, hO13, hk13_0, hk13_1, hk13_2, hk13_3, hk13_4, hk13_5, hk13_6⟩ := CI_o20 hw hz12
    refine hR (c_get hO13 rfl ?_)
    refine hR (t_add ?_)
    refine hR (j_ge (by omega) (by omega) (fun hc14 => ?_) (fun hc14 => ?_))
    · skip
      refine hR (t_c (-2) (by decide) ?_)
      exact hR (zret_i rfl (Nat.le_refl _) trivial (h _))
    refine hR (?_ : R (_, _, _, _, _, _))
    refine hR (c_get hO11 rfl ?_)
    refine hR (?_ : R (_, _, _, _, _, _))
    refine hR (t_c 20 (by decide) ?_)
    refine hR (t_sub ?_)
    refine hR (c_ald hw (by rw [hk11_6]; rfl) (by omega) (by omega) (Nat.le_of_ble_eq_true rfl) fun v15 lv15 uv15 => ?_)
    refine hR (?_ : R (_, _, _, _, _, _))
    exact hR (zret_i rfl (Nat.le_refl _) trivial (h _))
  · skip
    have hs1d : a1 = 0 ∨ a1 = 1 ∨ a1 = 2 ∨ a1 = 3 ∨ a1 = 4 ∨ a1 = 5 := by omega
    rcases hs1d with hs1e | hs1e | hs1e | hs1e | hs1e | hs1e
    · refine ⟨39, by rw [hs1e]; rfl, (?_ : R (_, _, _, _, _, _))⟩
      refine hR (?_ : R (_, _, _, _, _, _))
      obtain ⟨y0_18, x1_18, x2_18, x3_18, x4_18, hO18, hk18_0, hk18_1, hk18_2, hk18_3, hk18_4, hk18_5, hk18_6⟩ := CI_o10 hw hρp
      refine hR (c_get hO18 rfl ?_)
      exact hR (zret_i rfl (Nat.le_refl _) trivial (h _))
    · refine ⟨44, by rw [hs1e]; rfl, (?_ : R (_, _, _, _, _, _))⟩
      refine hR (?_ : R (_, _, _, _, _, _))
      obtain ⟨y0_19, x1_19, x2_19, x3_19, x4_19, hO19, hk19_0, hk19_1, hk19_2, hk19_3, hk19_4, hk19_5, hk19_6⟩ := CI_o10 hw hρp
      refine hR (c_get hO19 rfl ?_)
      exact hR (zret_i rfl (Nat.le_refl _) trivial (h _))
    · refine ⟨49, by rw [hs1e]; rfl, (?_ : R (_, _, _, _, _, _))⟩
      refine hR (?_ : R (_, _, _, _, _, _))
      obtain ⟨y0_23, x1_23, x2_23, x3_23, x4_23, hO23, hk23_0, hk23_1, hk23_2, hk23_3, hk23_4, hk23_5, hk23_6⟩ := CI_o10 hw hρp
      refine hR (c_obj hO23 (zcall_i 0 0 (Nat.le_of_ble_eq_true rfl) (Nat.le_of_ble_eq_true rfl) (c_suits _ p hw hρp _ fun v20 hp22 => ?_)))
      refine (?_ : R (_, _, (.int (Int32.ofInt v20)) :: [], w, 0, 0))
      exact hR (zret_i rfl (Nat.le_refl _) trivial (h _))
    · refine ⟨54, by rw [hs1e]; rfl, (?_ : R (_, _, _, _, _, _))⟩
      refine hR (?_ : R (_, _, _, _, _, _))
      obtain ⟨y0_27, x1_27, x2_27, x3_27, x4_27, hO27, hk27_0, hk27_1, hk27_2, hk27_3, hk27_4, hk27_5, hk27_6⟩ := CI_o10 hw hρp
      refine hR (c_obj hO27 (zcall_i 0 0 (Nat.le_of_ble_eq_true rfl) (Nat.le_of_ble_eq_true rfl) (c_against _ p hw hρp hnp _ fun v24 hp26 => ?_)))
      refine (?_ : R (_, _, (.int (Int32.ofInt v24)) :: [], w, 0, 0))
      exact hR (zret_i rfl (Nat.le_refl _) trivial (h _))
    · refine ⟨59, by rw [hs1e]; rfl, (?_ : R (_, _, _, _, _, _))⟩
      iterate 2 refine hR (?_ : R (_, _, _, _, _, _))
      obtain ⟨y0_31, x1_31, x2_31, x3_31, x4_31, hO31, hk31_0, hk31_1, hk31_2, hk31_3, hk31_4, hk31_5, hk31_6⟩ := CI_o10 hw hρp
      refine hR (c_obj hO31 (zcall_i 0 0 (Nat.le_of_ble_eq_true rfl) (Nat.le_of_ble_eq_true rfl) (c_against _ p hw hρp hnp _ fun v28 hp30 => ?_)))
      refine (?_ : R (_, _, (.int (Int32.ofInt v28)) :: (.ref p) :: [], w, 0, 0))
      refine hR (c_obj hO31 (zcall_i 0 0 (Nat.le_of_ble_eq_true rfl) (Nat.le_of_ble_eq_true rfl) (c_driftOfCopy _ p v28 hw hρp hnp (by omega) _ fun v32 hp34 => ?_)))
      refine (?_ : R (_, _, (.int (Int32.ofInt v32)) :: [], w, 0, 0))
      exact hR (zret_i rfl (Nat.le_refl _) trivial (h _))
    · refine ⟨68, by rw [hs1e]; rfl, (?_ : R (_, _, _, _, _, _))⟩
      refine hR (?_ : R (_, _, _, _, _, _))
      obtain ⟨y0_35, x1_35, x2_35, x3_35, x4_35, hO35, hk35_0, hk35_1, hk35_2, hk35_3, hk35_4, hk35_5, hk35_6⟩ := CI_o10 hw hρp
      refine hR (c_get hO35 rfl ?_)
      exact hR (zret_i rfl (Nat.le_refl _) trivial (h _))
