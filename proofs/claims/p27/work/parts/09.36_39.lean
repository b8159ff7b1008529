theorem c_begin {ρ : Nat → Nat} {w : zW} (d : Nat) (p b : Nat) (hw : CI ρ w) (hρp : ρ p = 10) (hρb : ρ b = 20) (Q : zQ) (h : ∀ (w' : zW), CI ρ w' → wfR [10, 11, 12] ρ w w' → nn w' p → Q (none) w') : zCl zTab (d + 2) iX1_begin [.ref p, .ref b] w 0 0 Q := by
  refine zCl_i (M := kX1_begin) rfl (Nat.le_of_ble_eq_true rfl) fun R hR => ?_
  have fr0 := wfR_rf [10, 11, 12] ρ w
  iterate 2 refine hR (?_ : R (_, _, _, _, _, _))
  obtain ⟨y0_1, x1_1, x2_1, x3_1, x4_1, hO1, hk1_0, hk1_1, hk1_2, hk1_3, hk1_4, hk1_5, hk1_6⟩ := CI_o10 hw hρp
  refine hR (c_put hO1 rfl rfl fun w2 f2 hO2 => ?_)
  have hw2 := CI_w10 hw hρp f2 (y0 := some b) hO2 ⟨(fun z h => by cases h; exact hρb), ⟨by omega, by omega⟩, ⟨by omega, by omega⟩, ⟨by omega, by omega⟩, ⟨by omega, by omega⟩, hk1_5, hk1_6⟩
  have fr3 := wfR_st fr0 f2 (by rw [hρp]; decide)
  have hn4 := nn_of hO2
  iterate 2 refine hR (?_ : R (_, _, _, _, _, _))
  refine hR (c_put hO2 rfl rfl fun w5 f5 hO5 => ?_)
  have hw5 := CI_w10 hw2 hρp f5 (y0 := some b) hO5 ⟨(fun z h => by cases h; exact hρb), ⟨by omega, by omega⟩, ⟨by omega, by omega⟩, ⟨by omega, by omega⟩, ⟨by omega, by omega⟩, hk1_5, hk1_6⟩
  have fr6 := wfR_st fr3 f5 (by rw [hρp]; decide)
  have hn7 := nn_of hO5
  iterate 2 refine hR (?_ : R (_, _, _, _, _, _))
  refine hR (c_put hO5 rfl rfl fun w8 f8 hO8 => ?_)
  have hw8 := CI_w10 hw5 hρp f8 (y0 := some b) hO8 ⟨(fun z h => by cases h; exact hρb), ⟨by omega, by omega⟩, ⟨by omega, by omega⟩, ⟨by omega, by omega⟩, ⟨by omega, by omega⟩, hk1_5, hk1_6⟩
  have fr9 := wfR_st fr6 f8 (by rw [hρp]; decide)
  have hn10 := nn_of hO8
  iterate 2 refine hR (?_ : R (_, _, _, _, _, _))
  refine hR (c_put hO8 rfl rfl fun w11 f11 hO11 => ?_)
  have hw11 := CI_w10 hw8 hρp f11 (y0 := some b) hO11 ⟨(fun z h => by cases h; exact hρb), ⟨by omega, by omega⟩, ⟨by omega, by omega⟩, ⟨by omega, by omega⟩, ⟨by omega, by omega⟩, hk1_5, hk1_6⟩
  have fr12 := wfR_st fr9 f11 (by rw [hρp]; decide)
  have hn13 := nn_of hO11
  refine hR (?_ : R (_, _, _, _, _, _))
  refine hR (c_get hO11 rfl ?_)
  refine hR (?_ : R (_, _, _, _, _, _))
  obtain ⟨x0_14, x1_14, x2_14, hO14, hk14_0, hk14_1, hk14_2, hk14_3, hk14_4, hk14_5, hk14_6⟩ := CI_o20 hw11 hρb
  refine hR (c_get hO14 rfl ?_)
  refine hR (zcall_i 0 0 (Nat.le_of_ble_eq_true rfl) (Nat.le_of_ble_eq_true rfl) (c_fill _ (p + 1) 4 x0_14 0 5460 hw11 (by rw [hk1_5]; rfl) ⟨by rw [hk1_5]; decide, by rw [hk1_5]; decide⟩ (by omega) (by omega) (by omega) _ fun w15 hw15 f15 hg15 => ?_))
  refine (?_ : R (_, _, [], w15, 0, 0))
  have fr16 := wfR_st fr12 f15 (by rw [hk1_5]; decide)
  have hn17 := nn_eq (f15.2 p (rne hρp hk1_5 (by decide))) hn13
  have hO18 := (f15.2 p (rne hρp hk1_5 (by decide))).trans hO11
  have hO19 := (f15.2 b (rne hρb hk1_5 (by decide))).trans hO14
  refine hR (?_ : R (_, _, _, _, _, _))
  refine hR (c_get hO18 rfl ?_)
  refine hR (?_ : R (_, _, _, _, _, _))
  refine hR (zcall_i 0 0 (Nat.le_of_ble_eq_true rfl) (Nat.le_of_ble_eq_true rfl) (c_fill _ (p + 2) 5 0 (-2147483648) 2147483647 hw15 (by rw [hk1_6]; rfl) ⟨by rw [hk1_6]; decide, by rw [hk1_6]; decide⟩ (by omega) (by omega) (by omega) _ fun w20 hw20 f20 hg20 => ?_))
  refine (?_ : R (_, _, [], w20, 0, 0))
  have fr21 := wfR_st fr16 f20 (by rw [hk1_6]; decide)
  have hn22 := nn_eq (f20.2 p (rne hρp hk1_6 (by decide))) hn17
  have hO23 := (f20.2 p (rne hρp hk1_6 (by decide))).trans hO18
  have hO24 := (f20.2 b (rne hρb hk1_6 (by decide))).trans hO19
  exact hR (zret_i rfl (Nat.le_refl _) rfl (h _ hw20 fr21 hn22))
theorem c_doRead {ρ : Nat → Nat} {w : zW} (d : Nat) (p : Nat) (a1 a2 : Int) (hw : CI ρ w) (hρp : ρ p = 10) (hnp : nn w p) (hr0 : 0 ≤ a1 ∧ a1 ≤ 3) (hr1 : -2147483648 ≤ a2 ∧ a2 ≤ 2147483647) (Q : zQ) (h : ∀ (v : Int) (w' : zW), CI ρ w' → wfR [10, 11, 12] ρ w w' → nn w' p → (v = 0 ∨ v = 1) → Q (some (.int (Int32.ofInt v))) w') : zCl zTab (d + 4) iX1_doRead [.ref p, .int (Int32.ofInt a1), .int (Int32.ofInt a2)] w 0 0 Q := by
  refine zCl_i (M := kX1_doRead) rfl (Nat.le_of_ble_eq_true rfl) fun R hR => ?_
  have fr0 := wfR_rf [10, 11, 12] ρ w
  refine hR (?_ : R (_, _, _, _, _, _))
  obtain ⟨y0_1, x1_1, x2_1, x3_1, x4_1, hO1, hk1_0, hk1_1, hk1_2, hk1_3, hk1_4, hk1_5, hk1_6⟩ := CI_o10 hw hρp
  refine hR (c_get hO1 rfl ?_)
  obtain ⟨z2, rfl⟩ := nn_some hnp hO1
  have hz2 : ρ z2 = 20 := hk1_0 z2 rfl
  refine hR (?_ : R (_, _, _, _, _, _))
  obtain ⟨x0_6, x1_6, x2_6, hO6, hk6_0, hk6_1, hk6_2, hk6_3, hk6_4, hk6_5, hk6_6⟩ := CI_o20 hw hz2
  refine hR (c_obj hO6 (zcall_i 0 0 (Nat.le_of_ble_eq_true rfl) (Nat.le_of_ble_eq_true rfl) (c_hasReader _ z2 a2 hw hz2 (by omega) _ fun v3 hp5 => ?_)))
  refine (?_ : R (_, _, (.int (Int32.ofInt v3)) :: [], w, 0, 0))
  refine hR (k_ne (by omega) (fun hc7 => ?_) (fun hc7 => ?_))
  rotate_left
  · skip
    refine hR (?_ : R (_, _, _, _, _, _))
    exact hR (zret_i rfl (Nat.le_refl _) (zbo (by omega)) (h _ _ hw fr0 hnp (by omega)))
  refine hR (?_ : R (_, _, _, _, _, _))
  refine hR (c_get hO1 rfl ?_)
  iterate 2 refine hR (?_ : R (_, _, _, _, _, _))
  refine hR (c_ald hw (by rw [hk1_6]; rfl) (by omega) (by omega) (Nat.le_of_ble_eq_true rfl) fun v8 lv8 uv8 => ?_)
  refine hR (?_ : R (_, _, _, _, _, _))
  refine hR (t_o fun v9 rv9 => ?_)
  refine hR (c_astx hw (by rw [hk1_6]; rfl) ⟨by rw [hk1_6]; decide, by rw [hk1_6]; decide⟩ (by omega) (by omega) (Nat.le_of_ble_eq_true rfl) fun w10 hw10 f10 => ?_)
  have fr11 := wfR_st fr0 f10 (by rw [hk1_6]; decide)
  have hn12 := nn_eq (f10.2 p (rne hρp hk1_6 (by decide))) hnp
  have hO13 := (f10.2 p (rne hρp hk1_6 (by decide))).trans hO1
  have hO14 := (f10.2 z2 (rne hz2 hk1_6 (by decide))).trans hO6
  refine hR (?_ : R (_, _, _, _, _, _))
  refine hR (c_get hO13 rfl ?_)
  refine hR (?_ : R (_, _, _, _, _, _))
  refine hR (zcall_i 0 0 (Nat.le_of_ble_eq_true rfl) (Nat.le_of_ble_eq_true rfl) (c_isIn _ _ x3_1 a1 _ fun v15 hp17 => ?_))
  refine (?_ : R (_, _, (.int (Int32.ofInt v15)) :: [], w10, 0, 0))
  refine hR (k_eq (by omega) (fun hc18 => ?_) (fun hc18 => ?_))
  rotate_left
  · skip
    iterate 2 refine hR (?_ : R (_, _, _, _, _, _))
    refine hR (c_get hO13 rfl ?_)
    iterate 2 refine hR (?_ : R (_, _, _, _, _, _))
    obtain ⟨v28, lv28, uv28, qv28⟩ := zshl_r (e := a1) (by omega) (by omega)
    refine hR (t_c v28 qv28 ?_)
    refine hR (?_ : R (_, _, _, _, _, _))
    refine hR (t_o fun v29 rv29 => ?_)
    refine hR (t_o fun v30 rv30 => ?_)
    refine hR (c_put hO13 rfl rfl fun w31 f31 hO31 => ?_)
    have hw31 := CI_w10 hw10 hρp f31 (y0 := some z2) hO31 ⟨(fun z h => by cases h; exact hz2), ⟨by omega, by omega⟩, ⟨by omega, by omega⟩, ⟨by omega, by omega⟩, ⟨by omega, by omega⟩, hk1_5, hk1_6⟩
    have fr32 := wfR_st fr11 f31 (by rw [hρp]; decide)
    have hn33 := nn_of hO31
    have hO34 := (f31.2 z2 (rne hz2 hρp (by decide))).trans hO14
    iterate 2 refine hR (?_ : R (_, _, _, _, _, _))
    exact hR (zret_i rfl (Nat.le_refl _) (zbo (by omega)) (h _ _ hw31 fr32 hn33 (by omega)))
  refine hR (?_ : R (_, _, _, _, _, _))
  refine hR (c_get hO13 rfl ?_)
  iterate 2 refine hR (?_ : R (_, _, _, _, _, _))
  refine hR (c_get hO13 rfl ?_)
  iterate 2 refine hR (?_ : R (_, _, _, _, _, _))
  refine hR (c_get hO13 rfl ?_)
  refine hR (?_ : R (_, _, _, _, _, _))
  refine hR (c_ald hw10 (by rw [hk1_5]; rfl) (by omega) (by omega) (Nat.le_of_ble_eq_true rfl) fun v19 lv19 uv19 => ?_)
  refine hR (c_obj hO14 (zcall_i 0 0 (Nat.le_of_ble_eq_true rfl) (Nat.le_of_ble_eq_true rfl) (c_readBy _ z2 a2 v19 hw10 hz2 (by omega) (by omega) _ fun v20 hp22 => ?_)))
  refine (?_ : R (_, _, (.int (Int32.ofInt v20)) :: (.int (Int32.ofInt a1)) :: (.ref (p + 1)) :: [], w10, 0, 0))
  refine hR (c_ast hw10 (by rw [hk1_5]; rfl) ⟨by rw [hk1_5]; decide, by rw [hk1_5]; decide⟩ (by omega) (by omega) (by omega) (by omega) (by omega) (by omega) (Nat.le_of_ble_eq_true rfl) fun w23 hw23 f23 => ?_)
  have fr24 := wfR_st fr11 f23 (by rw [hk1_5]; decide)
  have hn25 := nn_eq (f23.2 p (rne hρp hk1_5 (by decide))) hn12
  have hO26 := (f23.2 p (rne hρp hk1_5 (by decide))).trans hO13
  have hO27 := (f23.2 z2 (rne hz2 hk1_5 (by decide))).trans hO14
  refine hR (?_ : R (_, _, _, _, _, _))
  exact hR (zret_i rfl (Nat.le_refl _) (zbo (by omega)) (h _ _ hw23 fr24 hn25 (by omega)))
theorem c_doCopy {ρ : Nat → Nat} {w : zW} (d : Nat) (p : Nat) (a1 a2 : Int) (hw : CI ρ w) (hρp : ρ p = 10) (hnp : nn w p) (hr0 : 0 ≤ a1 ∧ a1 ≤ 3) (hr1 : -2147483648 ≤ a2 ∧ a2 ≤ 2147483647) (Q : zQ) (h : ∀ (v : Int) (w' : zW), CI ρ w' → wfR [10, 11, 12] ρ w w' → nn w' p → (v = 0 ∨ v = 1) → Q (some (.int (Int32.ofInt v))) w') : zCl zTab (d + 1) iX1_doCopy [.ref p, .int (Int32.ofInt a1), .int (Int32.ofInt a2)] w 0 0 Q := by
  refine zCl_i (M := kX1_doCopy) rfl (Nat.le_of_ble_eq_true rfl) fun R hR => ?_
  have fr0 := wfR_rf [10, 11, 12] ρ w
  refine hR (?_ : R (_, _, _, _, _, _))
  refine hR (k_lt (by omega) (fun hc1 => ?_) (fun hc1 => ?_))
  · skip
    refine hR (?_ : R (_, _, _, _, _, _))
    exact hR (zret_i rfl (Nat.le_refl _) (zbo (by omega)) (h _ _ hw fr0 hnp (by omega)))
  iterate 2 refine hR (?_ : R (_, _, _, _, _, _))
  refine hR (j_ge (by omega) (by omega) (fun hc2 => ?_) (fun hc2 => ?_))
  · skip
    refine hR (?_ : R (_, _, _, _, _, _))
    exact hR (zret_i rfl (Nat.le_refl _) (zbo (by omega)) (h _ _ hw fr0 hnp (by omega)))
  iterate 2 refine hR (?_ : R (_, _, _, _, _, _))
  refine hR (j_ne (by omega) (by omega) (fun hc3 => ?_) (fun hc3 => ?_))
  rotate_left
  · skip
    refine hR (?_ : R (_, _, _, _, _, _))
    exact hR (zret_i rfl (Nat.le_refl _) (zbo (by omega)) (h _ _ hw fr0 hnp (by omega)))
  refine hR (?_ : R (_, _, _, _, _, _))
  obtain ⟨y0_4, x1_4, x2_4, x3_4, x4_4, hO4, hk4_0, hk4_1, hk4_2, hk4_3, hk4_4, hk4_5, hk4_6⟩ := CI_o10 hw hρp
  refine hR (c_get hO4 rfl ?_)
  iterate 2 refine hR (?_ : R (_, _, _, _, _, _))
  refine hR (c_get hO4 rfl ?_)
  refine hR (?_ : R (_, _, _, _, _, _))
  refine hR (c_ald hw (by rw [hk4_5]; rfl) (by omega) (by omega) (Nat.le_of_ble_eq_true rfl) fun v5 lv5 uv5 => ?_)
  refine hR (c_ast hw (by rw [hk4_5]; rfl) ⟨by rw [hk4_5]; decide, by rw [hk4_5]; decide⟩ (by omega) (by omega) (by omega) (by omega) (by omega) (by omega) (Nat.le_of_ble_eq_true rfl) fun w6 hw6 f6 => ?_)
  have fr7 := wfR_st fr0 f6 (by rw [hk4_5]; decide)
  have hn8 := nn_eq (f6.2 p (rne hρp hk4_5 (by decide))) hnp
  have hO9 := (f6.2 p (rne hρp hk4_5 (by decide))).trans hO4
  refine hR (?_ : R (_, _, _, _, _, _))
  exact hR (zret_i rfl (Nat.le_refl _) (zbo (by omega)) (h _ _ hw6 fr7 hn8 (by omega)))
theorem c_doDeed {ρ : Nat → Nat} {w : zW} (d : Nat) (p : Nat) (a1 a2 a3 : Int) (hw : CI ρ w) (hρp : ρ p = 10) (hnp : nn w p) (hr0 : -2147483648 ≤ a1 ∧ a1 ≤ 2147483647) (hr1 : -2147483648 ≤ a2 ∧ a2 ≤ 2147483647) (hr2 : -2147483648 ≤ a3 ∧ a3 ≤ 2147483647) (Q : zQ) (h : ∀ (v : Int) (w' : zW), CI ρ w' → wfR [10, 11, 12] ρ w w' → nn w' p → (v = 0 ∨ v = 1) → Q (some (.int (Int32.ofInt v))) w') : zCl zTab (d + 5) iX1_doDeed [.ref p, .int (Int32.ofInt a1), .int (Int32.ofInt a2), .int (Int32.ofInt a3)] w 0 0 Q := by
  refine zCl_i (M := kX1_doDeed) rfl (Nat.le_of_ble_eq_true rfl) fun R hR => ?_
  have fr0 := wfR_rf [10, 11, 12] ρ w
  iterate 2 refine hR (?_ : R (_, _, _, _, _, _))
  refine hR (j_eq (by omega) (by omega) (fun hc1 => ?_) (fun hc1 => ?_))
  · skip
    refine hR (?_ : R (_, _, _, _, _, _))
    refine hR (?_ : _ ∧ _)
    rw [zti (e := a1) (by omega) (by omega)]
    refine ⟨fun hs2 => ?_, fun hs2 => ?_⟩
    · skip
      refine hR (?_ : R (_, _, _, _, _, _))
      obtain ⟨y0_3, x1_3, x2_3, x3_3, x4_3, hO3, hk3_0, hk3_1, hk3_2, hk3_3, hk3_4, hk3_5, hk3_6⟩ := CI_o10 hw hρp
      refine hR (c_get hO3 rfl ?_)
      refine hR (t_c 99 (by decide) ?_)
      refine hR (j_lt (by omega) (by omega) (fun hc4 => ?_) (fun hc4 => ?_))
      rotate_left
      · skip
        refine hR (?_ : R (_, _, _, _, _, _))
        exact hR (zret_i rfl (Nat.le_refl _) (zbo (by omega)) (h _ _ hw fr0 hnp (by omega)))
      iterate 2 refine hR (?_ : R (_, _, _, _, _, _))
      refine hR (c_get hO3 rfl ?_)
      refine hR (?_ : R (_, _, _, _, _, _))
      refine hR (t_add ?_)
      obtain ⟨z5, rfl⟩ := nn_some hnp hO3
      have hz5 : ρ z5 = 20 := hk3_0 z5 rfl
      refine hR (c_put hO3 rfl rfl fun w6 f6 hO6 => ?_)
      have hw6 := CI_w10 hw hρp f6 (y0 := some z5) hO6 ⟨(fun z h => by cases h; exact hz5), ⟨by omega, by omega⟩, ⟨by omega, by omega⟩, ⟨by omega, by omega⟩, ⟨by omega, by omega⟩, hk3_5, hk3_6⟩
      have fr7 := wfR_st fr0 f6 (by rw [hρp]; decide)
      have hn8 := nn_of hO6
      refine hR (?_ : R (_, _, _, _, _, _))
      exact hR (zret_i rfl (Nat.le_refl _) (zbo (by omega)) (h _ _ hw6 fr7 hn8 (by omega)))
    · skip
      have hs2d : a1 = 0 ∨ a1 = 1 ∨ a1 = 2 ∨ a1 = 3 ∨ a1 = 4 := by omega
      rcases hs2d with hs2e | hs2e | hs2e | hs2e | hs2e
      · refine ⟨35, by rw [hs2e]; rfl, (?_ : R (_, _, _, _, _, _))⟩
        iterate 3 refine hR (?_ : R (_, _, _, _, _, _))
        obtain ⟨y0_13, x1_13, x2_13, x3_13, x4_13, hO13, hk13_0, hk13_1, hk13_2, hk13_3, hk13_4, hk13_5, hk13_6⟩ := CI_o10 hw hρp
        refine hR (c_obj hO13 (zcall_i 0 0 (Nat.le_of_ble_eq_true rfl) (Nat.le_of_ble_eq_true rfl) (c_doRead _ p a2 a3 hw hρp hnp (by omega) (by omega) _ fun v9 w10 hw10 g10 hn11 hp12 => ?_)))
        have fr14 := wfR_tr fr0 g10 (by decide)
        refine (?_ : R (_, _, (.int (Int32.ofInt v9)) :: [], w10, 0, 0))
        exact hR (zret_i rfl (Nat.le_refl _) (zbo (by omega)) (h _ _ hw10 fr14 hn11 (by omega)))
      · refine ⟨42, by rw [hs2e]; rfl, (?_ : R (_, _, _, _, _, _))⟩
        iterate 3 refine hR (?_ : R (_, _, _, _, _, _))
        obtain ⟨y0_19, x1_19, x2_19, x3_19, x4_19, hO19, hk19_0, hk19_1, hk19_2, hk19_3, hk19_4, hk19_5, hk19_6⟩ := CI_o10 hw hρp
        refine hR (c_obj hO19 (zcall_i 0 0 (Nat.le_of_ble_eq_true rfl) (Nat.le_of_ble_eq_true rfl) (c_doCopy _ p a2 a3 hw hρp hnp (by omega) (by omega) _ fun v15 w16 hw16 g16 hn17 hp18 => ?_)))
        have fr20 := wfR_tr fr0 g16 (by decide)
        refine (?_ : R (_, _, (.int (Int32.ofInt v15)) :: [], w16, 0, 0))
        exact hR (zret_i rfl (Nat.le_refl _) (zbo (by omega)) (h _ _ hw16 fr20 hn17 (by omega)))
      · refine ⟨49, by rw [hs2e]; rfl, (?_ : R (_, _, _, _, _, _))⟩
        iterate 2 refine hR (?_ : R (_, _, _, _, _, _))
        obtain ⟨y0_21, x1_21, x2_21, x3_21, x4_21, hO21, hk21_0, hk21_1, hk21_2, hk21_3, hk21_4, hk21_5, hk21_6⟩ := CI_o10 hw hρp
        obtain ⟨z22, rfl⟩ := nn_some hnp hO21
        have hz22 : ρ z22 = 20 := hk21_0 z22 rfl
        refine hR (c_put hO21 rfl rfl fun w23 f23 hO23 => ?_)
        have hw23 := CI_w10 hw hρp f23 (y0 := some z22) hO23 ⟨(fun z h => by cases h; exact hz22), ⟨by omega, by omega⟩, ⟨by omega, by omega⟩, ⟨by omega, by omega⟩, ⟨by omega, by omega⟩, hk21_5, hk21_6⟩
        have fr24 := wfR_st fr0 f23 (by rw [hρp]; decide)
        have hn25 := nn_of hO23
        refine hR (?_ : R (_, _, _, _, _, _))
        exact hR (zret_i rfl (Nat.le_refl _) (zbo (by omega)) (h _ _ hw23 fr24 hn25 (by omega)))
      · refine ⟨56, by rw [hs2e]; rfl, (?_ : R (_, _, _, _, _, _))⟩
        iterate 2 refine hR (?_ : R (_, _, _, _, _, _))
        obtain ⟨y0_26, x1_26, x2_26, x3_26, x4_26, hO26, hk26_0, hk26_1, hk26_2, hk26_3, hk26_4, hk26_5, hk26_6⟩ := CI_o10 hw hρp
        refine hR (c_get hO26 rfl ?_)
        refine hR (j_ne (by omega) (by omega) (fun hc27 => ?_) (fun hc27 => ?_))
        rotate_left
        · skip
          refine hR (?_ : R (_, _, _, _, _, _))
          exact hR (zret_i rfl (Nat.le_refl _) (zbo (by omega)) (h _ _ hw fr0 hnp (by omega)))
        refine hR (?_ : R (_, _, _, _, _, _))
        refine hR (c_get hO26 rfl ?_)
        iterate 2 refine hR (?_ : R (_, _, _, _, _, _))
        refine hR (c_get hO26 rfl ?_)
        obtain ⟨z28, rfl⟩ := nn_some hnp hO26
        have hz28 : ρ z28 = 20 := hk26_0 z28 rfl
        obtain ⟨x0_29, x1_29, x2_29, hO29, hk29_0, hk29_1, hk29_2, hk29_3, hk29_4, hk29_5, hk29_6⟩ := CI_o20 hw hz28
        refine hR (c_get hO29 rfl ?_)
        refine hR (c_ast hw (by rw [hk26_5]; rfl) ⟨by rw [hk26_5]; decide, by rw [hk26_5]; decide⟩ (by omega) (by omega) (by omega) (by omega) (by omega) (by omega) (Nat.le_of_ble_eq_true rfl) fun w30 hw30 f30 => ?_)
        have fr31 := wfR_st fr0 f30 (by rw [hk26_5]; decide)
        have hn32 := nn_eq (f30.2 p (rne hρp hk26_5 (by decide))) hnp
        have hO33 := (f30.2 p (rne hρp hk26_5 (by decide))).trans hO26
        have hO34 := (f30.2 z28 (rne hz28 hk26_5 (by decide))).trans hO29
        refine hR (?_ : R (_, _, _, _, _, _))
        exact hR (zret_i rfl (Nat.le_refl _) (zbo (by omega)) (h _ _ hw30 fr31 hn32 (by omega)))
      · refine ⟨81, by rw [hs2e]; rfl, (?_ : R (_, _, _, _, _, _))⟩
        refine hR (?_ : R (_, _, _, _, _, _))
        obtain ⟨y0_35, x1_35, x2_35, x3_35, x4_35, hO35, hk35_0, hk35_1, hk35_2, hk35_3, hk35_4, hk35_5, hk35_6⟩ := CI_o10 hw hρp
        refine hR (c_get hO35 rfl ?_)
        refine hR (?_ : R (_, _, _, _, _, _))
        refine hR (zcall_i 0 0 (Nat.le_of_ble_eq_true rfl) (Nat.le_of_ble_eq_true rfl) (c_isIn _ _ x3_35 a2 _ fun v36 hp38 => ?_))
        refine (?_ : R (_, _, (.int (Int32.ofInt v36)) :: [], w, 0, 0))
        refine hR (k_eq (by omega) (fun hc39 => ?_) (fun hc39 => ?_))
        rotate_left
        · skip
          refine hR (?_ : R (_, _, _, _, _, _))
          exact hR (zret_i rfl (Nat.le_refl _) (zbo (by omega)) (h _ _ hw fr0 hnp (by omega)))
        iterate 2 refine hR (?_ : R (_, _, _, _, _, _))
        refine hR (c_get hO35 rfl ?_)
        iterate 2 refine hR (?_ : R (_, _, _, _, _, _))
        obtain ⟨v40, lv40, uv40, qv40⟩ := zshl_r (e := a2) (by omega) (by omega)
        refine hR (t_c v40 qv40 ?_)
        refine hR (t_o fun v41 rv41 => ?_)
        obtain ⟨z42, rfl⟩ := nn_some hnp hO35
        have hz42 : ρ z42 = 20 := hk35_0 z42 rfl
        refine hR (c_put hO35 rfl rfl fun w43 f43 hO43 => ?_)
        have hw43 := CI_w10 hw hρp f43 (y0 := some z42) hO43 ⟨(fun z h => by cases h; exact hz42), ⟨by omega, by omega⟩, ⟨by omega, by omega⟩, ⟨by omega, by omega⟩, ⟨by omega, by omega⟩, hk35_5, hk35_6⟩
        have fr44 := wfR_st fr0 f43 (by rw [hρp]; decide)
        have hn45 := nn_of hO43
        refine hR (?_ : R (_, _, _, _, _, _))
        exact hR (zret_i rfl (Nat.le_refl _) (zbo (by omega)) (h _ _ hw43 fr44 hn45 (by omega)))
  refine hR (?_ : R (_, _, _, _, _, _))
  refine hR (k_lt (by omega) (fun hc46 => ?_) (fun hc46 => ?_))
  · skip
    refine hR (?_ : R (_, _, _, _, _, _))
    exact hR (zret_i rfl (Nat.le_refl _) (zbo (by omega)) (h _ _ hw fr0 hnp (by omega)))
  iterate 2 refine hR (?_ : R (_, _, _, _, _, _))
  refine hR (j_lt (by omega) (by omega) (fun hc47 => ?_) (fun hc47 => ?_))
  rotate_left
  · skip
    refine hR (?_ : R (_, _, _, _, _, _))
    exact hR (zret_i rfl (Nat.le_refl _) (zbo (by omega)) (h _ _ hw fr0 hnp (by omega)))
  refine hR (?_ : R (_, _, _, _, _, _))
  refine hR (?_ : _ ∧ _)
  rw [zti (e := a1) (by omega) (by omega)]
  refine ⟨fun hs48 => ?_, fun hs48 => ?_⟩
  · skip
    refine hR (?_ : R (_, _, _, _, _, _))
    obtain ⟨y0_49, x1_49, x2_49, x3_49, x4_49, hO49, hk49_0, hk49_1, hk49_2, hk49_3, hk49_4, hk49_5, hk49_6⟩ := CI_o10 hw hρp
    refine hR (c_get hO49 rfl ?_)
    refine hR (t_c 99 (by decide) ?_)
    refine hR (j_lt (by omega) (by omega) (fun hc50 => ?_) (fun hc50 => ?_))
    rotate_left
    · skip
      refine hR (?_ : R (_, _, _, _, _, _))
      exact hR (zret_i rfl (Nat.le_refl _) (zbo (by omega)) (h _ _ hw fr0 hnp (by omega)))
    iterate 2 refine hR (?_ : R (_, _, _, _, _, _))
    refine hR (c_get hO49 rfl ?_)
    refine hR (?_ : R (_, _, _, _, _, _))
    refine hR (t_add ?_)
    obtain ⟨z51, rfl⟩ := nn_some hnp hO49
    have hz51 : ρ z51 = 20 := hk49_0 z51 rfl
    refine hR (c_put hO49 rfl rfl fun w52 f52 hO52 => ?_)
    have hw52 := CI_w10 hw hρp f52 (y0 := some z51) hO52 ⟨(fun z h => by cases h; exact hz51), ⟨by omega, by omega⟩, ⟨by omega, by omega⟩, ⟨by omega, by omega⟩, ⟨by omega, by omega⟩, hk49_5, hk49_6⟩
    have fr53 := wfR_st fr0 f52 (by rw [hρp]; decide)
    have hn54 := nn_of hO52
    refine hR (?_ : R (_, _, _, _, _, _))
    exact hR (zret_i rfl (Nat.le_refl _) (zbo (by omega)) (h _ _ hw52 fr53 hn54 (by omega)))
  · skip
    have hs48d : a1 = 0 ∨ a1 = 1 ∨ a1 = 2 ∨ a1 = 3 ∨ a1 = 4 := by omega
    rcases hs48d with hs48e | hs48e | hs48e | hs48e | hs48e
    · refine ⟨35, by rw [hs48e]; rfl, (?_ : R (_, _, _, _, _, _))⟩
      iterate 3 refine hR (?_ : R (_, _, _, _, _, _))
      obtain ⟨y0_59, x1_59, x2_59, x3_59, x4_59, hO59, hk59_0, hk59_1, hk59_2, hk59_3, hk59_4, hk59_5, hk59_6⟩ := CI_o10 hw hρp
      refine hR (c_obj hO59 (zcall_i 0 0 (Nat.le_of_ble_eq_true rfl) (Nat.le_of_ble_eq_true rfl) (c_doRead _ p a2 a3 hw hρp hnp (by omega) (by omega) _ fun v55 w56 hw56 g56 hn57 hp58 => ?_)))
      have fr60 := wfR_tr fr0 g56 (by decide)
      refine (?_ : R (_, _, (.int (Int32.ofInt v55)) :: [], w56, 0, 0))
      exact hR (zret_i rfl (Nat.le_refl _) (zbo (by omega)) (h _ _ hw56 fr60 hn57 (by omega)))
    · refine ⟨42, by rw [hs48e]; rfl, (?_ : R (_, _, _, _, _, _))⟩
      iterate 3 refine hR (?_ : R (_, _, _, _, _, _))
      obtain ⟨y0_65, x1_65, x2_65, x3_65, x4_65, hO65, hk65_0, hk65_1, hk65_2, hk65_3, hk65_4, hk65_5, hk65_6⟩ := CI_o10 hw hρp
      refine hR (c_obj hO65 (zcall_i 0 0 (Nat.le_of_ble_eq_true rfl) (Nat.le_of_ble_eq_true rfl) (c_doCopy _ p a2 a3 hw hρp hnp (by omega) (by omega) _ fun v61 w62 hw62 g62 hn63 hp64 => ?_)))
      have fr66 := wfR_tr fr0 g62 (by decide)
      refine (?_ : R (_, _, (.int (Int32.ofInt v61)) :: [], w62, 0, 0))
      exact hR (zret_i rfl (Nat.le_refl _) (zbo (by omega)) (h _ _ hw62 fr66 hn63 (by omega)))
    · refine ⟨49, by rw [hs48e]; rfl, (?_ : R (_, _, _, _, _, _))⟩
      iterate 2 refine hR (?_ : R (_, _, _, _, _, _))
      obtain ⟨y0_67, x1_67, x2_67, x3_67, x4_67, hO67, hk67_0, hk67_1, hk67_2, hk67_3, hk67_4, hk67_5, hk67_6⟩ := CI_o10 hw hρp
      obtain ⟨z68, rfl⟩ := nn_some hnp hO67
      have hz68 : ρ z68 = 20 := hk67_0 z68 rfl
      refine hR (c_put hO67 rfl rfl fun w69 f69 hO69 => ?_)
      have hw69 := CI_w10 hw hρp f69 (y0 := some z68) hO69 ⟨(fun z h => by cases h; exact hz68), ⟨by omega, by omega⟩, ⟨by omega, by omega⟩, ⟨by omega, by omega⟩, ⟨by omega, by omega⟩, hk67_5, hk67_6⟩
      have fr70 := wfR_st fr0 f69 (by rw [hρp]; decide)
      have hn71 := nn_of hO69
      refine hR (?_ : R (_, _, _, _, _, _))
      exact hR (zret_i rfl (Nat.le_refl _) (zbo (by omega)) (h _ _ hw69 fr70 hn71 (by omega)))
    · refine ⟨56, by rw [hs48e]; rfl, (?_ : R (_, _, _, _, _, _))⟩
      iterate 2 refine hR (?_ : R (_, _, _, _, _, _))
      obtain ⟨y0_72, x1_72, x2_72, x3_72, x4_72, hO72, hk72_0, hk72_1, hk72_2, hk72_3, hk72_4, hk72_5, hk72_6⟩ := CI_o10 hw hρp
      refine hR (c_get hO72 rfl ?_)
      refine hR (j_ne (by omega) (by omega) (fun hc73 => ?_) (fun hc73 => ?_))
      rotate_left
      · skip
        refine hR (?_ : R (_, _, _, _, _, _))
        exact hR (zret_i rfl (Nat.le_refl _) (zbo (by omega)) (h _ _ hw fr0 hnp (by omega)))
      refine hR (?_ : R (_, _, _, _, _, _))
      refine hR (c_get hO72 rfl ?_)
      iterate 2 refine hR (?_ : R (_, _, _, _, _, _))
      refine hR (c_get hO72 rfl ?_)
      obtain ⟨z74, rfl⟩ := nn_some hnp hO72
      have hz74 : ρ z74 = 20 := hk72_0 z74 rfl
      obtain ⟨x0_75, x1_75, x2_75, hO75, hk75_0, hk75_1, hk75_2, hk75_3, hk75_4, hk75_5, hk75_6⟩ := CI_o20 hw hz74
      refine hR (c_get hO75 rfl ?_)
      refine hR (c_ast hw (by rw [hk72_5]; rfl) ⟨by rw [hk72_5]; decide, by rw [hk72_5]; decide⟩ (by omega) (by omega) (by omega) (by omega) (by omega) (by omega) (Nat.le_of_ble_eq_true rfl) fun w76 hw76 f76 => ?_)
      have fr77 := wfR_st fr0 f76 (by rw [hk72_5]; decide)
      have hn78 := nn_eq (f76.2 p (rne hρp hk72_5 (by decide))) hnp
      have hO79 := (f76.2 p (rne hρp hk72_5 (by decide))).trans hO72
      have hO80 := (f76.2 z74 (rne hz74 hk72_5 (by decide))).trans hO75
      refine hR (?_ : R (_, _, _, _, _, _))
      exact hR (zret_i rfl (Nat.le_refl _) (zbo (by omega)) (h _ _ hw76 fr77 hn78 (by omega)))
    · refine ⟨81, by rw [hs48e]; rfl, (?_ : R (_, _, _, _, _, _))⟩
      refine hR (?_ : R (_, _, _, _, _, _))
      obtain ⟨y0_81, x1_81, x2_81, x3_81, x4_81, hO81, hk81_0, hk81_1, hk81_2, hk81_3, hk81_4, hk81_5, hk81_6⟩ := CI_o10 hw hρp
      refine hR (c_get hO81 rfl ?_)
      refine hR (?_ : R (_, _, _, _, _, _))
      refine hR (zcall_i 0 0 (Nat.le_of_ble_eq_true rfl) (Nat.le_of_ble_eq_true rfl) (c_isIn _ _ x3_81 a2 _ fun v82 hp84 => ?_))
      refine (?_ : R (_, _, (.int (Int32.ofInt v82)) :: [], w, 0, 0))
      refine hR (k_eq (by omega) (fun hc85 => ?_) (fun hc85 => ?_))
      rotate_left
      · skip
        refine hR (?_ : R (_, _, _, _, _, _))
        exact hR (zret_i rfl (Nat.le_refl _) (zbo (by omega)) (h _ _ hw fr0 hnp (by omega)))
      iterate 2 refine hR (?_ : R (_, _, _, _, _, _))
      refine hR (c_get hO81 rfl ?_)
      iterate 2 refine hR (?_ : R (_, _, _, _, _, _))
      obtain ⟨v86, lv86, uv86, qv86⟩ := zshl_r (e := a2) (by omega) (by omega)
      refine hR (t_c v86 qv86 ?_)
      refine hR (t_o fun v87 rv87 => ?_)
      obtain ⟨z88, rfl⟩ := nn_some hnp hO81
      have hz88 : ρ z88 = 20 := hk81_0 z88 rfl
      refine hR (c_put hO81 rfl rfl fun w89 f89 hO89 => ?_)
      have hw89 := CI_w10 hw hρp f89 (y0 := some z88) hO89 ⟨(fun z h => by cases h; exact hz88), ⟨by omega, by omega⟩, ⟨by omega, by omega⟩, ⟨by omega, by omega⟩, ⟨by omega, by omega⟩, hk81_5, hk81_6⟩
      have fr90 := wfR_st fr0 f89 (by rw [hρp]; decide)
      have hn91 := nn_of hO89
      refine hR (?_ : R (_, _, _, _, _, _))
      exact hR (zret_i rfl (Nat.le_refl _) (zbo (by omega)) (h _ _ hw89 fr90 hn91 (by omega)))
theorem c_doFirst {ρ : Nat → Nat} {w : zW} (d : Nat) (p y : Nat) (a1 : Int) (hw : CI ρ w) (hρp : ρ p = 10) (hρy : ρ y = 30) (hnp : nn w p) (hr0 : -2147483648 ≤ a1 ∧ a1 ≤ 2147483647) (Q : zQ) (h : ∀ (v : Int) (w' : zW), CI ρ w' → wfR [10, 11, 12] ρ w w' → nn w' p → (-2147483648 ≤ v ∧ v ≤ 2147483647) → Q (some (.int (Int32.ofInt v))) w') : zCl zTab (d + 6) iX1_doFirst [.ref p, .ref y, .int (Int32.ofInt a1)] w 0 0 Q := by
  refine zCl_i (M := kX1_doFirst) rfl (Nat.le_of_ble_eq_true rfl) fun R hR => ?_
  have fr0 := wfR_rf [10, 11, 12] ρ w
  iterate 2 refine hR (?_ : R (_, _, _, _, _, _))
  have lp2 : ∀ (N : Nat) (k : Int) (w_2 : zW), (CI ρ w_2) → (wfR [10, 11, 12] ρ w w_2) → (nn w_2 p) → (0 ≤ k ∧ k ≤ 40) → (41 - k < N) → R (2, [some (.ref p), some (.ref y), some (.int (Int32.ofInt a1)), some (.int (Int32.ofInt k))], [], w_2, 0, 0) := by
    intro N
    induction N with
    | zero => intros; omega
    | succ N ih2 =>
      intro k w_2 hw_2 fr_2 hnp_2 hf0_2 hN2
      iterate 2 refine hR (?_ : R (_, _, _, _, _, _))
      refine hR (j_ge (by omega) (by omega) (fun hc1 => ?_) (fun hc1 => ?_))
      · skip
        refine hR (?_ : R (_, _, _, _, _, _))
        exact hR (zret_i rfl (Nat.le_refl _) trivial (h _ _ hw_2 fr_2 hnp_2 (by omega)))
      iterate 2 refine hR (?_ : R (_, _, _, _, _, _))
      obtain ⟨x0_2, hO2, hk2_0, hk2_1, hk2_2, hk2_3⟩ := CI_o30 hw_2 hρy
      refine hR (c_get hO2 rfl ?_)
      refine hR (j_ge (by omega) (by omega) (fun hc3 => ?_) (fun hc3 => ?_))
      · skip
        refine hR (?_ : R (_, _, _, _, _, _))
        exact hR (zret_i rfl (Nat.le_refl _) trivial (h _ _ hw_2 fr_2 hnp_2 (by omega)))
      iterate 2 refine hR (?_ : R (_, _, _, _, _, _))
      refine hR (c_get hO2 rfl ?_)
      refine hR (?_ : R (_, _, _, _, _, _))
      refine hR (c_ald hw_2 (by rw [hk2_1]; rfl) (by omega) (by omega) (Nat.le_of_ble_eq_true rfl) fun v4 lv4 uv4 => ?_)
      refine hR (?_ : R (_, _, _, _, _, _))
      refine hR (c_get hO2 rfl ?_)
      refine hR (?_ : R (_, _, _, _, _, _))
      refine hR (c_ald hw_2 (by rw [hk2_2]; rfl) (by omega) (by omega) (Nat.le_of_ble_eq_true rfl) fun v5 lv5 uv5 => ?_)
      refine hR (?_ : R (_, _, _, _, _, _))
      refine hR (c_get hO2 rfl ?_)
      refine hR (?_ : R (_, _, _, _, _, _))
      refine hR (c_ald hw_2 (by rw [hk2_3]; rfl) (by omega) (by omega) (Nat.le_of_ble_eq_true rfl) fun v6 lv6 uv6 => ?_)
      obtain ⟨y0_11, x1_11, x2_11, x3_11, x4_11, hO11, hk11_0, hk11_1, hk11_2, hk11_3, hk11_4, hk11_5, hk11_6⟩ := CI_o10 hw_2 hρp
      refine hR (c_obj hO11 (zcall_i 0 0 (Nat.le_of_ble_eq_true rfl) (Nat.le_of_ble_eq_true rfl) (c_doDeed _ p v4 v5 v6 hw_2 hρp hnp_2 (by omega) (by omega) (by omega) _ fun v7 w8 hw8 g8 hn9 hp10 => ?_)))
      have fr12 := wfR_tr fr_2 g8 (by decide)
      have hO13 := (g8.2 y (by rw [hρy]; decide)).trans hO2
      refine (?_ : R (_, _, (.int (Int32.ofInt v7)) :: [], w8, 0, 0))
      refine hR (k_ne (by omega) (fun hc14 => ?_) (fun hc14 => ?_))
      rotate_left
      · skip
        refine hR (?_ : R (_, _, _, _, _, _))
        exact hR (zret_i rfl (Nat.le_refl _) trivial (h _ _ hw8 fr12 hn9 (by omega)))
      refine hR (t_inc ?_)
      refine hR (?_ : R (_, _, _, _, _, _))
      exact ih2 _ _ hw8 fr12 hn9 (by omega) (by omega)
  exact lp2 400000000 _ _ hw fr0 hnp (by omega) (by omega)
theorem c_drawBelow {ρ : Nat → Nat} {w : zW} (d : Nat) (p : Nat) (a1 : Int) (hw : CI ρ w) (hρp : ρ p = 10) (hnp : nn w p) (hr0 : -2147483648 ≤ a1 ∧ a1 ≤ 2147483647) (Q : zQ) (h : ∀ (v : Int) (w' : zW), CI ρ w' → wfR [10, 11, 12] ρ w w' → nn w' p → (0 ≤ v ∧ v ≤ 2147483647) → Q (some (.int (Int32.ofInt v))) w') : zCl zTab (d + 1) iX1_drawBelow [.ref p, .int (Int32.ofInt a1)] w 0 0 Q := by
  refine zCl_i (M := kX1_drawBelow) rfl (Nat.le_of_ble_eq_true rfl) fun R hR => ?_
  have fr0 := wfR_rf [10, 11, 12] ρ w
  iterate 2 refine hR (?_ : R (_, _, _, _, _, _))
  obtain ⟨y0_1, x1_1, x2_1, x3_1, x4_1, hO1, hk1_0, hk1_1, hk1_2, hk1_3, hk1_4, hk1_5, hk1_6⟩ := CI_o10 hw hρp
  refine hR (c_get hO1 rfl ?_)
  refine hR (t_c 1103515245 (by decide) ?_)
  refine hR (t_o fun v2 rv2 => ?_)
  refine hR (t_c 12345 (by decide) ?_)
  refine hR (t_o fun v3 rv3 => ?_)
  obtain ⟨z4, rfl⟩ := nn_some hnp hO1
  have hz4 : ρ z4 = 20 := hk1_0 z4 rfl
  refine hR (c_put hO1 rfl rfl fun w5 f5 hO5 => ?_)
  have hw5 := CI_w10 hw hρp f5 (y0 := some z4) hO5 ⟨(fun z h => by cases h; exact hz4), ⟨by omega, by omega⟩, ⟨by omega, by omega⟩, ⟨by omega, by omega⟩, ⟨by omega, by omega⟩, hk1_5, hk1_6⟩
  have fr6 := wfR_st fr0 f5 (by rw [hρp]; decide)
  have hn7 := nn_of hO5
  refine hR (?_ : R (_, _, _, _, _, _))
  refine hR (k_gt (by omega) (fun hc8 => ?_) (fun hc8 => ?_))
  rotate_left
  · skip
    iterate 2 refine hR (?_ : R (_, _, _, _, _, _))
    exact hR (zret_i rfl (Nat.le_refl _) trivial (h _ _ hw5 fr6 hn7 (by omega)))
  refine hR (?_ : R (_, _, _, _, _, _))
  refine hR (c_get hO5 rfl ?_)
  refine hR (t_c 16 (by decide) ?_)
  obtain ⟨v9, lv9, uv9, qv9⟩ := zushr_r (Int32.ofInt v3)
  refine hR (t_c v9 qv9 ?_)
  refine hR (?_ : R (_, _, _, _, _, _))
  refine hR (t_remv (by omega) (by omega) (by omega) (by omega) fun v10 ev10 lv10 uv10 => ?_)
  clear ev10
  exact hR (zret_i rfl (Nat.le_refl _) trivial (h _ _ hw5 fr6 hn7 (by omega)))
theorem c_draw {ρ : Nat → Nat} {w : zW} (d : Nat) (p : Nat) (a1 a2 : Int) (hw : CI ρ w) (hρp : ρ p = 10) (hnp : nn w p) (hr0 : -2147483648 ≤ a1 ∧ a1 ≤ 2147483647) (hr1 : 0 ≤ a2 ∧ a2 ≤ 1000000) (Q : zQ) (h : ∀ (w' : zW), CI ρ w' → wfR [10, 11, 12] ρ w w' → nn w' p → Q (none) w') : zCl zTab (d + 6) iX1_draw [.ref p, .int (Int32.ofInt a1), .int (Int32.ofInt a2)] w 0 0 Q := by
  refine zCl_i (M := kX1_draw) rfl (Nat.le_of_ble_eq_true rfl) fun R hR => ?_
  have fr0 := wfR_rf [10, 11, 12] ρ w
  iterate 2 refine hR (?_ : R (_, _, _, _, _, _))
  obtain ⟨y0_1, x1_1, x2_1, x3_1, x4_1, hO1, hk1_0, hk1_1, hk1_2, hk1_3, hk1_4, hk1_5, hk1_6⟩ := CI_o10 hw hρp
  obtain ⟨z2, rfl⟩ := nn_some hnp hO1
  have hz2 : ρ z2 = 20 := hk1_0 z2 rfl
  refine hR (c_put hO1 rfl rfl fun w3 f3 hO3 => ?_)
  have hw3 := CI_w10 hw hρp f3 (y0 := some z2) hO3 ⟨(fun z h => by cases h; exact hz2), ⟨by omega, by omega⟩, ⟨by omega, by omega⟩, ⟨by omega, by omega⟩, ⟨by omega, by omega⟩, hk1_5, hk1_6⟩
  have fr4 := wfR_st fr0 f3 (by rw [hρp]; decide)
  have hn5 := nn_of hO3
  iterate 2 refine hR (?_ : R (_, _, _, _, _, _))
  have lp7 : ∀ (N : Nat) (i : Int) (o4_7 : Option Value) (o5_7 : Option Value) (w_7 : zW), (zc2 o4_7 = false) → (zc2 o5_7 = false) → (CI ρ w_7) → (wfR [10, 11, 12] ρ w w_7) → (nn w_7 p) → (0 ≤ i ∧ i ≤ 1000000) → (1000001 - i < N) → R (7, [some (.ref p), some (.int (Int32.ofInt a1)), some (.int (Int32.ofInt a2)), some (.int (Int32.ofInt i)), o4_7, o5_7], [], w_7, 0, 0) := by
    intro N
    induction N with
    | zero => intros; omega
    | succ N ih7 =>
      intro i o4_7 o5_7 w_7 hzo4_7 hzo5_7 hw_7 fr_7 hnp_7 hf0_7 hN7
      iterate 2 refine hR (?_ : R (_, _, _, _, _, _))
      refine hR (j_ge (by omega) (by omega) (fun hc6 => ?_) (fun hc6 => ?_))
      · skip
        exact hR (zret_i rfl (Nat.le_refl _) rfl (h _ hw_7 fr_7 hnp_7))
      iterate 2 refine hR (?_ : R (_, _, _, _, _, _))
      obtain ⟨y0_11, x1_11, x2_11, x3_11, x4_11, hO11, hk11_0, hk11_1, hk11_2, hk11_3, hk11_4, hk11_5, hk11_6⟩ := CI_o10 hw_7 hρp
      refine hR (c_obj hO11 (zcall_i 0 0 (Nat.le_of_ble_eq_true rfl) (Nat.le_of_ble_eq_true rfl) (c_drawBelow _ p 4 hw_7 hρp hnp_7 (by omega) _ fun v7 w8 hw8 g8 hn9 hp10 => ?_)))
      have fr12 := wfR_tr fr_7 g8 (by decide)
      refine (?_ : R (_, _, (.int (Int32.ofInt v7)) :: [], w8, 0, 0))
      iterate 2 refine hR (?_ : R (_, _, _, _, _, _))
      refine hR (t_c 8 (by decide) ?_)
      obtain ⟨y0_17, x1_17, x2_17, x3_17, x4_17, hO17, hk17_0, hk17_1, hk17_2, hk17_3, hk17_4, hk17_5, hk17_6⟩ := CI_o10 hw8 hρp
      refine hR (c_obj hO17 (zcall_i 0 0 (Nat.le_of_ble_eq_true rfl) (Nat.le_of_ble_eq_true rfl) (c_drawBelow _ p 8 hw8 hρp hn9 (by omega) _ fun v13 w14 hw14 g14 hn15 hp16 => ?_)))
      have fr18 := wfR_tr fr12 g14 (by decide)
      refine (?_ : R (_, _, (.int (Int32.ofInt v13)) :: [], w14, 0, 0))
      iterate 3 refine hR (?_ : R (_, _, _, _, _, _))
      refine hR (j_gt (by omega) (by omega) (fun hc19 => ?_) (fun hc19 => ?_))
      rotate_left
      · skip
        refine hR (?_ : R (_, _, _, _, _, _))
        obtain ⟨y0_46, x1_46, x2_46, x3_46, x4_46, hO46, hk46_0, hk46_1, hk46_2, hk46_3, hk46_4, hk46_5, hk46_6⟩ := CI_o10 hw14 hρp
        refine hR (c_get hO46 rfl ?_)
        obtain ⟨z47, rfl⟩ := nn_some hn15 hO46
        have hz47 : ρ z47 = 20 := hk46_0 z47 rfl
        obtain ⟨x0_48, x1_48, x2_48, hO48, hk48_0, hk48_1, hk48_2, hk48_3, hk48_4, hk48_5, hk48_6⟩ := CI_o20 hw14 hz47
        refine hR (c_get hO48 rfl ?_)
        refine hR (k_le (by omega) (fun hc49 => ?_) (fun hc49 => ?_))
        · skip
          refine hR (t_inc ?_)
          refine hR (?_ : R (_, _, _, _, _, _))
          exact ih7 _ _ _ _ (by rfl) (by rfl) hw14 fr18 hn15 (by omega) (by omega)
        iterate 5 refine hR (?_ : R (_, _, _, _, _, _))
        refine hR (c_get hO46 rfl ?_)
        refine hR (c_get hO48 rfl ?_)
        refine hR (c_obj hO46 (zcall_i 0 0 (Nat.le_of_ble_eq_true rfl) (Nat.le_of_ble_eq_true rfl) (c_drawBelow _ p x1_48 hw14 hρp hn15 (by omega) _ fun v50 w51 hw51 g51 hn52 hp53 => ?_)))
        have fr54 := wfR_tr fr18 g51 (by decide)
        have hO55 := (g51.2 z47 (by rw [hz47]; decide)).trans hO48
        refine (?_ : R (_, _, (.int (Int32.ofInt v50)) :: (.int (Int32.ofInt v7)) :: (.int (Int32.ofInt 0)) :: (.ref p) :: [], w51, 0, 0))
        obtain ⟨y0_60, x1_60, x2_60, x3_60, x4_60, hO60, hk60_0, hk60_1, hk60_2, hk60_3, hk60_4, hk60_5, hk60_6⟩ := CI_o10 hw51 hρp
        refine hR (c_obj hO60 (zcall_i 0 0 (Nat.le_of_ble_eq_true rfl) (Nat.le_of_ble_eq_true rfl) (c_doDeed _ p 0 v7 v50 hw51 hρp hn52 (by omega) (by omega) (by omega) _ fun v56 w57 hw57 g57 hn58 hp59 => ?_)))
        have fr61 := wfR_tr fr54 g57 (by decide)
        have hO62 := (g57.2 z47 (by rw [hz47]; decide)).trans hO55
        refine (?_ : R (_, _, (.int (Int32.ofInt v56)) :: [], w57, 0, 0))
        iterate 2 refine hR (?_ : R (_, _, _, _, _, _))
        refine hR (t_inc ?_)
        refine hR (?_ : R (_, _, _, _, _, _))
        exact ih7 _ _ _ _ (by rfl) (by rfl) hw57 fr61 hn58 (by omega) (by omega)
      iterate 2 refine hR (?_ : R (_, _, _, _, _, _))
      refine hR (j_ne (by omega) (by omega) (fun hc20 => ?_) (fun hc20 => ?_))
      rotate_left
      · skip
        iterate 5 refine hR (?_ : R (_, _, _, _, _, _))
        obtain ⟨y0_38, x1_38, x2_38, x3_38, x4_38, hO38, hk38_0, hk38_1, hk38_2, hk38_3, hk38_4, hk38_5, hk38_6⟩ := CI_o10 hw14 hρp
        refine hR (c_obj hO38 (zcall_i 0 0 (Nat.le_of_ble_eq_true rfl) (Nat.le_of_ble_eq_true rfl) (c_drawBelow _ p 4 hw14 hρp hn15 (by omega) _ fun v34 w35 hw35 g35 hn36 hp37 => ?_)))
        have fr39 := wfR_tr fr18 g35 (by decide)
        refine (?_ : R (_, _, (.int (Int32.ofInt v34)) :: (.int (Int32.ofInt v7)) :: (.int (Int32.ofInt 1)) :: (.ref p) :: [], w35, 0, 0))
        obtain ⟨y0_44, x1_44, x2_44, x3_44, x4_44, hO44, hk44_0, hk44_1, hk44_2, hk44_3, hk44_4, hk44_5, hk44_6⟩ := CI_o10 hw35 hρp
        refine hR (c_obj hO44 (zcall_i 0 0 (Nat.le_of_ble_eq_true rfl) (Nat.le_of_ble_eq_true rfl) (c_doDeed _ p 1 v7 v34 hw35 hρp hn36 (by omega) (by omega) (by omega) _ fun v40 w41 hw41 g41 hn42 hp43 => ?_)))
        have fr45 := wfR_tr fr39 g41 (by decide)
        refine (?_ : R (_, _, (.int (Int32.ofInt v40)) :: [], w41, 0, 0))
        iterate 2 refine hR (?_ : R (_, _, _, _, _, _))
        refine hR (t_inc ?_)
        refine hR (?_ : R (_, _, _, _, _, _))
        exact ih7 _ _ _ _ (by rfl) (by rfl) hw41 fr45 hn42 (by omega) (by omega)
      iterate 2 refine hR (?_ : R (_, _, _, _, _, _))
      refine hR (t_c 6 (by decide) ?_)
      refine hR (j_ne (by omega) (by omega) (fun hc21 => ?_) (fun hc21 => ?_))
      · skip
        iterate 3 refine hR (?_ : R (_, _, _, _, _, _))
        obtain ⟨y0_26, x1_26, x2_26, x3_26, x4_26, hO26, hk26_0, hk26_1, hk26_2, hk26_3, hk26_4, hk26_5, hk26_6⟩ := CI_o10 hw14 hρp
        refine hR (c_obj hO26 (zcall_i 0 0 (Nat.le_of_ble_eq_true rfl) (Nat.le_of_ble_eq_true rfl) (c_doDeed _ p 5 v7 ((-1)) hw14 hρp hn15 (by omega) (by omega) (by omega) _ fun v22 w23 hw23 g23 hn24 hp25 => ?_)))
        have fr27 := wfR_tr fr18 g23 (by decide)
        refine (?_ : R (_, _, (.int (Int32.ofInt v22)) :: [], w23, 0, 0))
        refine hR (?_ : R (_, _, _, _, _, _))
        refine hR (t_inc ?_)
        refine hR (?_ : R (_, _, _, _, _, _))
        exact ih7 _ _ _ _ (by rfl) (by rfl) hw23 fr27 hn24 (by omega) (by omega)
      iterate 4 refine hR (?_ : R (_, _, _, _, _, _))
      obtain ⟨y0_32, x1_32, x2_32, x3_32, x4_32, hO32, hk32_0, hk32_1, hk32_2, hk32_3, hk32_4, hk32_5, hk32_6⟩ := CI_o10 hw14 hρp
      refine hR (c_obj hO32 (zcall_i 0 0 (Nat.le_of_ble_eq_true rfl) (Nat.le_of_ble_eq_true rfl) (c_doDeed _ p 4 v7 ((-1)) hw14 hρp hn15 (by omega) (by omega) (by omega) _ fun v28 w29 hw29 g29 hn30 hp31 => ?_)))
      have fr33 := wfR_tr fr18 g29 (by decide)
      refine (?_ : R (_, _, (.int (Int32.ofInt v28)) :: [], w29, 0, 0))
      refine hR (?_ : R (_, _, _, _, _, _))
      refine hR (t_inc ?_)
      refine hR (?_ : R (_, _, _, _, _, _))
      exact ih7 _ _ _ _ (by rfl) (by rfl) hw29 fr33 hn30 (by omega) (by omega)
  exact lp7 400000000 _ _ _ _ (by rfl) (by rfl) hw3 fr4 hn5 (by omega) (by omega)
theorem c_suits {ρ : Nat → Nat} {w : zW} (d : Nat) (p : Nat) (hw : CI ρ w) (hρp : ρ p = 10) (Q : zQ) (h : ∀ (v : Int), (0 ≤ v ∧ v ≤ 4) → Q (some (.int (Int32.ofInt v))) w) : zCl zTab (d + 1) iX1_suits [.ref p] w 0 0 Q := by
  refine zCl_i (M := kX1_suits) rfl (Nat.le_of_ble_eq_true rfl) fun R hR => ?_
  have fr0 := wfR_rf [] ρ w
  iterate 4 refine hR (?_ : R (_, _, _, _, _, _))
  have lp4 : ∀ (N : Nat) (n : Int) (k : Int), (0 ≤ n ∧ n ≤ 4) → (0 ≤ k ∧ k ≤ 4) → (n ≤ k) → (5 - k < N) → R (4, [some (.ref p), some (.int (Int32.ofInt n)), some (.int (Int32.ofInt k))], [], w, 0, 0) := by
    intro N
    induction N with
    | zero => intros; omega
    | succ N ih4 =>
      intro n k hf0_4 hf1_4 hp0_4 hN4
      iterate 2 refine hR (?_ : R (_, _, _, _, _, _))
      refine hR (j_ge (by omega) (by omega) (fun hc1 => ?_) (fun hc1 => ?_))
      · skip
        refine hR (?_ : R (_, _, _, _, _, _))
        exact hR (zret_i rfl (Nat.le_refl _) trivial (h _ (by omega)))
      refine hR (?_ : R (_, _, _, _, _, _))
      obtain ⟨y0_2, x1_2, x2_2, x3_2, x4_2, hO2, hk2_0, hk2_1, hk2_2, hk2_3, hk2_4, hk2_5, hk2_6⟩ := CI_o10 hw hρp
      refine hR (c_get hO2 rfl ?_)
      refine hR (?_ : R (_, _, _, _, _, _))
      refine hR (c_ald hw (by rw [hk2_5]; rfl) (by omega) (by omega) (Nat.le_of_ble_eq_true rfl) fun v3 lv3 uv3 => ?_)
      refine hR (?_ : R (_, _, _, _, _, _))
      refine hR (c_get hO2 rfl ?_)
      refine hR (?_ : R (_, _, _, _, _, _))
      refine hR (c_get hO2 rfl ?_)
      refine hR (c_ald hw (by rw [hk2_5]; rfl) (by omega) (by omega) (Nat.le_of_ble_eq_true rfl) fun v4 lv4 uv4 => ?_)
      refine hR (j_eq (by omega) (by omega) (fun hc5 => ?_) (fun hc5 => ?_))
      · skip
        refine hR (t_inc ?_)
        refine hR (?_ : R (_, _, _, _, _, _))
        exact ih4 _ _ (by omega) (by omega) (by omega) (by omega)
      refine hR (t_inc ?_)
      refine hR (t_inc ?_)
      refine hR (?_ : R (_, _, _, _, _, _))
      exact ih4 _ _ (by omega) (by omega) (by omega) (by omega)
  exact lp4 400000000 _ _ (by omega) (by omega) (by omega) (by omega)
theorem c_driftOfCopy {ρ : Nat → Nat} {w : zW} (d : Nat) (p : Nat) (a1 : Int) (hw : CI ρ w) (hρp : ρ p = 10) (hnp : nn w p) (hr0 : 0 ≤ a1 ∧ a1 ≤ 3) (Q : zQ) (h : ∀ (v : Int), (-2147483648 ≤ v ∧ v ≤ 2147483647) → Q (some (.int (Int32.ofInt v))) w) : zCl zTab (d + 4) iX1_driftOfCopy [.ref p, .int (Int32.ofInt a1)] w 0 0 Q := by
  refine zCl_i (M := kX1_driftOfCopy) rfl (Nat.le_of_ble_eq_true rfl) fun R hR => ?_
  have fr0 := wfR_rf [] ρ w
  refine hR (?_ : R (_, _, _, _, _, _))
  obtain ⟨y0_1, x1_1, x2_1, x3_1, x4_1, hO1, hk1_0, hk1_1, hk1_2, hk1_3, hk1_4, hk1_5, hk1_6⟩ := CI_o10 hw hρp
  refine hR (c_get hO1 rfl ?_)
  refine hR (?_ : R (_, _, _, _, _, _))
  refine hR (c_ald hw (by rw [hk1_5]; rfl) (by omega) (by omega) (Nat.le_of_ble_eq_true rfl) fun v2 lv2 uv2 => ?_)
  refine hR (?_ : R (_, _, _, _, _, _))
  refine hR (c_get hO1 rfl ?_)
  obtain ⟨z3, rfl⟩ := nn_some hnp hO1
  have hz3 : ρ z3 = 20 := hk1_0 z3 rfl
  obtain ⟨x0_4, x1_4, x2_4, hO4, hk4_0, hk4_1, hk4_2, hk4_3, hk4_4, hk4_5, hk4_6⟩ := CI_o20 hw hz3
  refine hR (c_get hO4 rfl ?_)
  refine hR (zcall_i 0 0 (Nat.le_of_ble_eq_true rfl) (Nat.le_of_ble_eq_true rfl) (c_driftOf _ _ v2 x0_4 (by omega) (by omega) _ fun v5 hp7 => ?_))
  refine (?_ : R (_, _, (.int (Int32.ofInt v5)) :: [], w, 0, 0))
  exact hR (zret_i rfl (Nat.le_refl _) trivial (h _ (by omega)))
theorem c_against {ρ : Nat → Nat} {w : zW} (d : Nat) (p : Nat) (hw : CI ρ w) (hρp : ρ p = 10) (hnp : nn w p) (Q : zQ) (h : ∀ (v : Int), (0 ≤ v ∧ v ≤ 3) → Q (some (.int (Int32.ofInt v))) w) : zCl zTab (d + 5) iX1_against [.ref p] w 0 0 Q := by
  refine zCl_i (M := kX1_against) rfl (Nat.le_of_ble_eq_true rfl) fun R hR => ?_
  have fr0 := wfR_rf [] ρ w
  iterate 4 refine hR (?_ : R (_, _, _, _, _, _))
  have lp4 : ∀ (N : Nat) (n : Int) (k : Int), (0 ≤ n ∧ n ≤ 3) → (1 ≤ k ∧ k ≤ 4) → (5 - k < N) → R (4, [some (.ref p), some (.int (Int32.ofInt n)), some (.int (Int32.ofInt k))], [], w, 0, 0) := by
    intro N
    induction N with
    | zero => intros; omega
    | succ N ih4 =>
      intro n k hf0_4 hf1_4 hN4
      iterate 2 refine hR (?_ : R (_, _, _, _, _, _))
      refine hR (j_ge (by omega) (by omega) (fun hc1 => ?_) (fun hc1 => ?_))
      · skip
        refine hR (?_ : R (_, _, _, _, _, _))
        exact hR (zret_i rfl (Nat.le_refl _) trivial (h _ (by omega)))
      iterate 2 refine hR (?_ : R (_, _, _, _, _, _))
      obtain ⟨y0_5, x1_5, x2_5, x3_5, x4_5, hO5, hk5_0, hk5_1, hk5_2, hk5_3, hk5_4, hk5_5, hk5_6⟩ := CI_o10 hw hρp
      refine hR (c_obj hO5 (zcall_i 0 0 (Nat.le_of_ble_eq_true rfl) (Nat.le_of_ble_eq_true rfl) (c_driftOfCopy _ p k hw hρp hnp (by omega) _ fun v2 hp4 => ?_)))
      refine (?_ : R (_, _, (.int (Int32.ofInt v2)) :: [], w, 0, 0))
      iterate 2 refine hR (?_ : R (_, _, _, _, _, _))
      refine hR (c_obj hO5 (zcall_i 0 0 (Nat.le_of_ble_eq_true rfl) (Nat.le_of_ble_eq_true rfl) (c_driftOfCopy _ p n hw hρp hnp (by omega) _ fun v6 hp8 => ?_)))
      refine (?_ : R (_, _, (.int (Int32.ofInt v6)) :: (.int (Int32.ofInt v2)) :: [], w, 0, 0))
      refine hR (j_le (by omega) (by omega) (fun hc9 => ?_) (fun hc9 => ?_))
      · skip
        refine hR (t_inc ?_)
        refine hR (?_ : R (_, _, _, _, _, _))
        exact ih4 _ _ (by omega) (by omega) (by omega)
      iterate 2 refine hR (?_ : R (_, _, _, _, _, _))
      refine hR (t_inc ?_)
      refine hR (?_ : R (_, _, _, _, _, _))
      exact ih4 _ _ (by omega) (by omega) (by omega)
  exact lp4 400000000 _ _ (by omega) (by omega) (by omega)
theorem c_courseTells {ρ : Nat → Nat} {w : zW} (d : Nat) (p : Nat) (a1 : Int) (hw : CI ρ w) (hρp : ρ p = 10) (hnp : nn w p) (hr0 : -2147483648 ≤ a1 ∧ a1 ≤ 2147483647) (Q : zQ) (h : ∀ (v : Int), Q (some (.int (Int32.ofInt v))) w) : zCl zTab (d + 6) iX1_tells [.ref p, .int (Int32.ofInt a1)] w 0 0 Q := by
  refine zCl_i (M := kX1_tells) rfl (Nat.le_of_ble_eq_true rfl) fun R hR => ?_
  have fr0 := wfR_rf [] ρ w
  refine hR (?_ : R (_, _, _, _, _, _))
  refine hR (?_ : _ ∧ _)
  rw [zti (e := a1) (by omega) (by omega)]
  refine ⟨fun hs1 => ?_, fun hs1 => ?_⟩
  · skip
    refine hR (?_ : R (_, _, _, _, _, _))
    refine hR (t_c 10 (by decide) ?_)
    refine hR (j_lt (by omega) (by omega) (fun hc2 => ?_) (fun hc2 => ?_))
    · skip
      refine hR (?_ : R (_, _, _, _, _, _))
      refine hR (t_c 20 (by decide) ?_)
      refine hR (j_lt (by omega) (by omega) (fun hc3 => ?_) (fun hc3 => ?_))
      · skip
        refine hR (t_c (-2) (by decide) ?_)
        exact hR (zret_i rfl (Nat.le_refl _) trivial (h _))
      refine hR (?_ : R (_, _, _, _, _, _))
      refine hR (t_c 20 (by decide) ?_)
      refine hR (?_ : R (_, _, _, _, _, _))
      obtain ⟨y0_4, x1_4, x2_4, x3_4, x4_4, hO4, hk4_0, hk4_1, hk4_2, hk4_3, hk4_4, hk4_5, hk4_6⟩ := CI_o10 hw hρp
      refine hR (c_get hO4 rfl ?_)
      obtain ⟨z5, rfl⟩ := nn_some hnp hO4
      have hz5 : ρ z5 = 20 := hk4_0 z5 rfl
      obtain ⟨x0_6, x1_6, x2_6, hO6, hk6_0, hk6_1, hk6_2, hk6_3, hk6_4, hk6_5, hk6_6⟩ := CI_o20 hw hz5
      refine hR (c_get hO6 rfl ?_)
      refine hR (t_add ?_)
      refine hR (j_ge (by omega) (by omega) (fun hc7 => ?_) (fun hc7 => ?_))
      · skip
        refine hR (t_c (-2) (by decide) ?_)
        exact hR (zret_i rfl (Nat.le_refl _) trivial (h _))
      refine hR (?_ : R (_, _, _, _, _, _))
      refine hR (c_get hO4 rfl ?_)
      refine hR (?_ : R (_, _, _, _, _, _))
      refine hR (t_c 20 (by decide) ?_)
      refine hR (t_sub ?_)
      refine hR (c_ald hw (by rw [hk4_6]; rfl) (by omega) (by omega) (Nat.le_of_ble_eq_true rfl) fun v8 lv8 uv8 => ?_)
      refine hR (?_ : R (_, _, _, _, _, _))
      exact hR (zret_i rfl (Nat.le_refl _) trivial (h _))
    refine hR (?_ : R (_, _, _, _, _, _))
    refine hR (t_c 14 (by decide) ?_)
    refine hR (j_ge (by omega) (by omega) (fun hc9 => ?_) (fun hc9 => ?_))
    rotate_left
    · skip
      refine hR (?_ : R (_, _, _, _, _, _))
      obtain ⟨y0_16, x1_16, x2_16, x3_16, x4_16, hO16, hk16_0, hk16_1, hk16_2, hk16_3, hk16_4, hk16_5, hk16_6⟩ := CI_o10 hw hρp
      refine hR (c_get hO16 rfl ?_)
      refine hR (?_ : R (_, _, _, _, _, _))
      refine hR (t_c 10 (by decide) ?_)
      refine hR (t_sub ?_)
      refine hR (c_ald hw (by rw [hk16_5]; rfl) (by omega) (by omega) (Nat.le_of_ble_eq_true rfl) fun v17 lv17 uv17 => ?_)
      exact hR (zret_i rfl (Nat.le_refl _) trivial (h _))
    refine hR (?_ : R (_, _, _, _, _, _))
    refine hR (t_c 20 (by decide) ?_)
    refine hR (j_lt (by omega) (by omega) (fun hc10 => ?_) (fun hc10 => ?_))
    · skip
      refine hR (t_c (-2) (by decide) ?_)
      exact hR (zret_i rfl (Nat.le_refl _) trivial (h _))
    refine hR (?_ : R (_, _, _, _, _, _))
    refine hR (t_c 20 (by decide) ?_)
    refine hR (?_ : R (_, _, _, _, _, _))
    obtain ⟨y0_11, x1_11, x2_11, x3_11, x4_11, hO11, hk11_0, hk11_1, hk11_2, hk11_3, hk11_4, hk11_5, hk11_6⟩ := CI_o10 hw hρp
    refine hR (c_get hO11 rfl ?_)
    obtain ⟨z12, rfl⟩ := nn_some hnp hO11
    have hz12 : ρ z12 = 20 := hk11_0 z12 rfl
    obtain ⟨x0_13, x1_13, x2_13, hO13, hk13_0, hk13_1, hk13_2, hk13_3, hk13_4, hk13_5, hk13_6⟩ := CI_o20 hw hz12
    refine hR (c_get hO13 rfl ?_)
    refine hR (t_add ?_)
    refine hR (j_ge (by omega) (by omega) (fun hc14 => ?_) (fun hc14 => ?_))
    · skip
      refine hR (t_c (-2) (by decide) ?_)
      exact hR (zret_i rfl (Nat.le_refl _) trivial (h _))
    refine hR (?_ : R (_, _, _, _, _, _))
    refine hR (c_get hO11 rfl ?_)
    refine hR (?_ : R (_, _, _, _, _, _))
    refine hR (t_c 20 (by decide) ?_)
    refine hR (t_sub ?_)
    refine hR (c_ald hw (by rw [hk11_6]; rfl) (by omega) (by omega) (Nat.le_of_ble_eq_true rfl) fun v15 lv15 uv15 => ?_)
    refine hR (?_ : R (_, _, _, _, _, _))
    exact hR (zret_i rfl (Nat.le_refl _) trivial (h _))
  · skip
    have hs1d : a1 = 0 ∨ a1 = 1 ∨ a1 = 2 ∨ a1 = 3 ∨ a1 = 4 ∨ a1 = 5 := by omega
    rcases hs1d with hs1e | hs1e | hs1e | hs1e | hs1e | hs1e
    · refine ⟨39, by rw [hs1e]; rfl, (?_ : R (_, _, _, _, _, _))⟩
      refine hR (?_ : R (_, _, _, _, _, _))
      obtain ⟨y0_18, x1_18, x2_18, x3_18, x4_18, hO18, hk18_0, hk18_1, hk18_2, hk18_3, hk18_4, hk18_5, hk18_6⟩ := CI_o10 hw hρp
      refine hR (c_get hO18 rfl ?_)
      exact hR (zret_i rfl (Nat.le_refl _) trivial (h _))
    · refine ⟨44, by rw [hs1e]; rfl, (?_ : R (_, _, _, _, _, _))⟩
      refine hR (?_ : R (_, _, _, _, _, _))
      obtain ⟨y0_19, x1_19, x2_19, x3_19, x4_19, hO19, hk19_0, hk19_1, hk19_2, hk19_3, hk19_4, hk19_5, hk19_6⟩ := CI_o10 hw hρp
      refine hR (c_get hO19 rfl ?_)
      exact hR (zret_i rfl (Nat.le_refl _) trivial (h _))
    · refine ⟨49, by rw [hs1e]; rfl, (?_ : R (_, _, _, _, _, _))⟩
      refine hR (?_ : R (_, _, _, _, _, _))
      obtain ⟨y0_23, x1_23, x2_23, x3_23, x4_23, hO23, hk23_0, hk23_1, hk23_2, hk23_3, hk23_4, hk23_5, hk23_6⟩ := CI_o10 hw hρp
      refine hR (c_obj hO23 (zcall_i 0 0 (Nat.le_of_ble_eq_true rfl) (Nat.le_of_ble_eq_true rfl) (c_suits _ p hw hρp _ fun v20 hp22 => ?_)))
      refine (?_ : R (_, _, (.int (Int32.ofInt v20)) :: [], w, 0, 0))
      exact hR (zret_i rfl (Nat.le_refl _) trivial (h _))
    · refine ⟨54, by rw [hs1e]; rfl, (?_ : R (_, _, _, _, _, _))⟩
      refine hR (?_ : R (_, _, _, _, _, _))
      obtain ⟨y0_27, x1_27, x2_27, x3_27, x4_27, hO27, hk27_0, hk27_1, hk27_2, hk27_3, hk27_4, hk27_5, hk27_6⟩ := CI_o10 hw hρp
      refine hR (c_obj hO27 (zcall_i 0 0 (Nat.le_of_ble_eq_true rfl) (Nat.le_of_ble_eq_true rfl) (c_against _ p hw hρp hnp _ fun v24 hp26 => ?_)))
      refine (?_ : R (_, _, (.int (Int32.ofInt v24)) :: [], w, 0, 0))
      exact hR (zret_i rfl (Nat.le_refl _) trivial (h _))
    · refine ⟨59, by rw [hs1e]; rfl, (?_ : R (_, _, _, _, _, _))⟩
      iterate 2 refine hR (?_ : R (_, _, _, _, _, _))
      obtain ⟨y0_31, x1_31, x2_31, x3_31, x4_31, hO31, hk31_0, hk31_1, hk31_2, hk31_3, hk31_4, hk31_5, hk31_6⟩ := CI_o10 hw hρp
      refine hR (c_obj hO31 (zcall_i 0 0 (Nat.le_of_ble_eq_true rfl) (Nat.le_of_ble_eq_true rfl) (c_against _ p hw hρp hnp _ fun v28 hp30 => ?_)))
      refine (?_ : R (_, _, (.int (Int32.ofInt v28)) :: (.ref p) :: [], w, 0, 0))
      refine hR (c_obj hO31 (zcall_i 0 0 (Nat.le_of_ble_eq_true rfl) (Nat.le_of_ble_eq_true rfl) (c_driftOfCopy _ p v28 hw hρp hnp (by omega) _ fun v32 hp34 => ?_)))
      refine (?_ : R (_, _, (.int (Int32.ofInt v32)) :: [], w, 0, 0))
      exact hR (zret_i rfl (Nat.le_refl _) trivial (h _))
    · refine ⟨68, by rw [hs1e]; rfl, (?_ : R (_, _, _, _, _, _))⟩
      refine hR (?_ : R (_, _, _, _, _, _))
      obtain ⟨y0_35, x1_35, x2_35, x3_35, x4_35, hO35, hk35_0, hk35_1, hk35_2, hk35_3, hk35_4, hk35_5, hk35_6⟩ := CI_o10 hw hρp
      refine hR (c_get hO35 rfl ?_)
      exact hR (zret_i rfl (Nat.le_refl _) trivial (h _))
theorem c_farthest {ρ : Nat → Nat} {w : zW} (d : Nat) (p : Nat) (hw : CI ρ w) (hρp : ρ p = 60) (Q : zQ) (h : ∀ (v : Int), Q (some (.int (Int32.ofInt v))) w) : zCl zTab (d + 1) iX9_farthest [.ref p] w 0 0 Q := by
  refine zCl_i (M := kX9_farthest) rfl (Nat.le_of_ble_eq_true rfl) fun R hR => ?_
  have fr0 := wfR_rf [] ρ w
  refine hR (?_ : R (_, _, _, _, _, _))
  obtain ⟨x0_1, hO1, hk1_0, hk1_1, hk1_2, hk1_3, hk1_4⟩ := CI_o60 hw hρp
  refine hR (c_get hO1 rfl ?_)
  refine hR (k_ne (by omega) (fun hc2 => ?_) (fun hc2 => ?_))
  rotate_left
  · skip
    iterate 2 refine hR (?_ : R (_, _, _, _, _, _))
    exact hR (zret_i rfl (Nat.le_refl _) trivial (h _))
  refine hR (?_ : R (_, _, _, _, _, _))
  refine hR (c_get hO1 rfl ?_)
  refine hR (?_ : R (_, _, _, _, _, _))
  refine hR (c_get hO1 rfl ?_)
  refine hR (?_ : R (_, _, _, _, _, _))
  refine hR (c_get hO1 rfl ?_)
  refine hR (?_ : R (_, _, _, _, _, _))
  refine hR (t_sub ?_)
  refine hR (c_ald hw (by rw [hk1_1]; rfl) (by omega) (by omega) (Nat.le_of_ble_eq_true rfl) fun v3 lv3 uv3 => ?_)
  refine hR (c_ald hw (by rw [hk1_2]; rfl) (by omega) (by omega) (Nat.le_of_ble_eq_true rfl) fun v4 lv4 uv4 => ?_)
  exact hR (zret_i rfl (Nat.le_refl _) trivial (h _))
theorem c_meeting {ρ : Nat → Nat} {w : zW} (d : Nat) (p o : Nat) (hw : CI ρ w) (hρp : ρ p = 60) (hρo : ρ o = 60) (Q : zQ) (h : ∀ (v : Int), (-1 ≤ v ∧ v ≤ 5460) → Q (some (.int (Int32.ofInt v))) w) : zCl zTab (d + 1) iX9_meeting [.ref p, .ref o] w 0 0 Q := by
  refine zCl_i (M := kX9_meeting) rfl (Nat.le_of_ble_eq_true rfl) fun R hR => ?_
  have fr0 := wfR_rf [] ρ w
  iterate 6 refine hR (?_ : R (_, _, _, _, _, _))
  have lp7 : ∀ (N : Nat) (be : Int) (fe : Int) (i : Int) (o5_7 : Option Value) (o6_7 : Option Value), (zc2 o5_7 = false) → (zc2 o6_7 = false) → (-1 ≤ be ∧ be ≤ 5460) → (-2147483648 ≤ fe ∧ fe ≤ 2147483647) → (0 ≤ i ∧ i ≤ 5461) → (5462 - i < N) → R (7, [some (.ref p), some (.ref o), some (.int (Int32.ofInt be)), some (.int (Int32.ofInt fe)), some (.int (Int32.ofInt i)), o5_7, o6_7], [], w, 0, 0) := by
    intro N
    induction N with
    | zero => intros; omega
    | succ N ih7 =>
      intro be fe i o5_7 o6_7 hzo5_7 hzo6_7 hf0_7 hf1_7 hf2_7 hN7
      iterate 2 refine hR (?_ : R (_, _, _, _, _, _))
      obtain ⟨x0_1, hO1, hk1_0, hk1_1, hk1_2, hk1_3, hk1_4⟩ := CI_o60 hw hρp
      refine hR (c_get hO1 rfl ?_)
      refine hR (j_ge (by omega) (by omega) (fun hc2 => ?_) (fun hc2 => ?_))
      · skip
        refine hR (?_ : R (_, _, _, _, _, _))
        exact hR (zret_i rfl (Nat.le_refl _) trivial (h _ (by omega)))
      refine hR (?_ : R (_, _, _, _, _, _))
      refine hR (c_get hO1 rfl ?_)
      refine hR (?_ : R (_, _, _, _, _, _))
      refine hR (c_ald hw (by rw [hk1_1]; rfl) (by omega) (by omega) (Nat.le_of_ble_eq_true rfl) fun v3 lv3 uv3 => ?_)
      iterate 2 refine hR (?_ : R (_, _, _, _, _, _))
      obtain ⟨x0_4, hO4, hk4_0, hk4_1, hk4_2, hk4_3, hk4_4⟩ := CI_o60 hw hρo
      refine hR (c_get hO4 rfl ?_)
      refine hR (?_ : R (_, _, _, _, _, _))
      refine hR (c_ald hw (by rw [hk4_2]; rfl) (by omega) (by omega) (Nat.le_of_ble_eq_true rfl) fun v5 lv5 uv5 => ?_)
      refine hR (?_ : R (_, _, _, _, _, _))
      refine hR (j_any ?_ ?_)
      · skip
        refine hR (t_inc ?_)
        refine hR (?_ : R (_, _, _, _, _, _))
        exact ih7 _ _ _ _ _ (by rfl) hzo6_7 (by omega) (by omega) (by omega) (by omega)
      refine hR (?_ : R (_, _, _, _, _, _))
      refine hR (c_get hO1 rfl ?_)
      refine hR (?_ : R (_, _, _, _, _, _))
      refine hR (c_ald hw (by rw [hk1_2]; rfl) (by omega) (by omega) (Nat.le_of_ble_eq_true rfl) fun v6 lv6 uv6 => ?_)
      refine hR (?_ : R (_, _, _, _, _, _))
      refine hR (c_get hO4 rfl ?_)
      refine hR (?_ : R (_, _, _, _, _, _))
      refine hR (c_ald hw (by rw [hk4_2]; rfl) (by omega) (by omega) (Nat.le_of_ble_eq_true rfl) fun v7 lv7 uv7 => ?_)
      refine hR (t_o fun v8 rv8 => ?_)
      iterate 3 refine hR (?_ : R (_, _, _, _, _, _))
      refine hR (j_eq (by omega) (by omega) (fun hc9 => ?_) (fun hc9 => ?_))
      · skip
        iterate 4 refine hR (?_ : R (_, _, _, _, _, _))
        refine hR (t_inc ?_)
        refine hR (?_ : R (_, _, _, _, _, _))
        exact ih7 _ _ _ _ _ (by rfl) (by rfl) (by omega) (by omega) (by omega) (by omega)
      iterate 2 refine hR (?_ : R (_, _, _, _, _, _))
      refine hR (j_any ?_ ?_)
      · skip
        iterate 4 refine hR (?_ : R (_, _, _, _, _, _))
        refine hR (t_inc ?_)
        refine hR (?_ : R (_, _, _, _, _, _))
        exact ih7 _ _ _ _ _ (by rfl) (by rfl) (by omega) (by omega) (by omega) (by omega)
      iterate 2 refine hR (?_ : R (_, _, _, _, _, _))
      refine hR (j_any ?_ ?_)
      · skip
        refine hR (t_inc ?_)
        refine hR (?_ : R (_, _, _, _, _, _))
        exact ih7 _ _ _ _ _ (by rfl) (by rfl) (by omega) (by omega) (by omega) (by omega)
      iterate 2 refine hR (?_ : R (_, _, _, _, _, _))
      refine hR (j_ge (by omega) (by omega) (fun hc10 => ?_) (fun hc10 => ?_))
      · skip
        refine hR (t_inc ?_)
        refine hR (?_ : R (_, _, _, _, _, _))
        exact ih7 _ _ _ _ _ (by rfl) (by rfl) (by omega) (by omega) (by omega) (by omega)
      iterate 4 refine hR (?_ : R (_, _, _, _, _, _))
      refine hR (t_inc ?_)
      refine hR (?_ : R (_, _, _, _, _, _))
      exact ih7 _ _ _ _ _ (by rfl) (by rfl) (by omega) (by omega) (by omega) (by omega)
  exact lp7 400000000 _ _ _ _ _ (by rfl) (by rfl) (by omega) (by omega) (by omega) (by omega)
theorem c_nearestTo {ρ : Nat → Nat} {w : zW} (d : Nat) (p : Nat) (a1 : Int) (hw : CI ρ w) (hρp : ρ p = 60) (hr0 : 0 ≤ a1 ∧ a1 ≤ 5460) (Q : zQ) (h : ∀ (v : Int), (0 ≤ v ∧ v ≤ 5460) → Q (some (.int (Int32.ofInt v))) w) : zCl zTab (d + 4) iX9_nearestTo [.ref p, .int (Int32.ofInt a1)] w 0 0 Q := by
  refine zCl_i (M := kX9_nearestTo) rfl (Nat.le_of_ble_eq_true rfl) fun R hR => ?_
  have fr0 := wfR_rf [] ρ w
  refine hR (?_ : R (_, _, _, _, _, _))
  obtain ⟨x0_1, hO1, hk1_0, hk1_1, hk1_2, hk1_3, hk1_4⟩ := CI_o60 hw hρp
  refine hR (c_get hO1 rfl ?_)
  refine hR (?_ : R (_, _, _, _, _, _))
  refine hR (c_ald hw (by rw [hk1_1]; rfl) (by omega) (by omega) (Nat.le_of_ble_eq_true rfl) fun v2 lv2 uv2 => ?_)
  iterate 3 refine hR (?_ : R (_, _, _, _, _, _))
  refine hR (zcall_i 0 0 (Nat.le_of_ble_eq_true rfl) (Nat.le_of_ble_eq_true rfl) (c_driftOf _ _ v2 a1 (by omega) (by omega) _ fun v3 hp5 => ?_))
  refine (?_ : R (_, _, (.int (Int32.ofInt v3)) :: [], w, 0, 0))
  iterate 3 refine hR (?_ : R (_, _, _, _, _, _))
  have lp16 : ∀ (N : Nat) (be : Int) (le : Int) (i : Int) (o5_16 : Option Value), (zc2 o5_16 = false) → (0 ≤ be ∧ be ≤ 5460) → (-2147483648 ≤ le ∧ le ≤ 2147483647) → (0 ≤ i ∧ i ≤ 5461) → (5462 - i < N) → R (16, [some (.ref p), some (.int (Int32.ofInt a1)), some (.int (Int32.ofInt be)), some (.int (Int32.ofInt le)), some (.int (Int32.ofInt i)), o5_16], [], w, 0, 0) := by
    intro N
    induction N with
    | zero => intros; omega
    | succ N ih16 =>
      intro be le i o5_16 hzo5_16 hf0_16 hf1_16 hf2_16 hN16
      iterate 2 refine hR (?_ : R (_, _, _, _, _, _))
      refine hR (c_get hO1 rfl ?_)
      refine hR (j_ge (by omega) (by omega) (fun hc6 => ?_) (fun hc6 => ?_))
      · skip
        refine hR (?_ : R (_, _, _, _, _, _))
        exact hR (zret_i rfl (Nat.le_refl _) trivial (h _ (by omega)))
      refine hR (?_ : R (_, _, _, _, _, _))
      refine hR (c_get hO1 rfl ?_)
      refine hR (?_ : R (_, _, _, _, _, _))
      refine hR (c_ald hw (by rw [hk1_1]; rfl) (by omega) (by omega) (Nat.le_of_ble_eq_true rfl) fun v7 lv7 uv7 => ?_)
      refine hR (?_ : R (_, _, _, _, _, _))
      refine hR (zcall_i 0 0 (Nat.le_of_ble_eq_true rfl) (Nat.le_of_ble_eq_true rfl) (c_driftOf _ _ v7 a1 (by omega) (by omega) _ fun v8 hp10 => ?_))
      refine (?_ : R (_, _, (.int (Int32.ofInt v8)) :: [], w, 0, 0))
      iterate 3 refine hR (?_ : R (_, _, _, _, _, _))
      refine hR (j_lt (by omega) (by omega) (fun hc11 => ?_) (fun hc11 => ?_))
      · skip
        refine hR (?_ : R (_, _, _, _, _, _))
        refine hR (c_get hO1 rfl ?_)
        refine hR (?_ : R (_, _, _, _, _, _))
        refine hR (c_ald hw (by rw [hk1_1]; rfl) (by omega) (by omega) (Nat.le_of_ble_eq_true rfl) fun v12 lv12 uv12 => ?_)
        iterate 3 refine hR (?_ : R (_, _, _, _, _, _))
        refine hR (t_inc ?_)
        refine hR (?_ : R (_, _, _, _, _, _))
        exact ih16 _ _ _ _ (by rfl) (by omega) (by omega) (by omega) (by omega)
      iterate 2 refine hR (?_ : R (_, _, _, _, _, _))
      refine hR (j_ne (by omega) (by omega) (fun hc13 => ?_) (fun hc13 => ?_))
      · skip
        refine hR (t_inc ?_)
        refine hR (?_ : R (_, _, _, _, _, _))
        exact ih16 _ _ _ _ (by rfl) (by omega) (by omega) (by omega) (by omega)
      refine hR (?_ : R (_, _, _, _, _, _))
      refine hR (c_get hO1 rfl ?_)
      refine hR (?_ : R (_, _, _, _, _, _))
      refine hR (c_ald hw (by rw [hk1_1]; rfl) (by omega) (by omega) (Nat.le_of_ble_eq_true rfl) fun v14 lv14 uv14 => ?_)
      refine hR (?_ : R (_, _, _, _, _, _))
      refine hR (j_ge (by omega) (by omega) (fun hc15 => ?_) (fun hc15 => ?_))
      · skip
        refine hR (t_inc ?_)
        refine hR (?_ : R (_, _, _, _, _, _))
        exact ih16 _ _ _ _ (by rfl) (by omega) (by omega) (by omega) (by omega)
      refine hR (?_ : R (_, _, _, _, _, _))
      refine hR (c_get hO1 rfl ?_)
      refine hR (?_ : R (_, _, _, _, _, _))
      refine hR (c_ald hw (by rw [hk1_1]; rfl) (by omega) (by omega) (Nat.le_of_ble_eq_true rfl) fun v16 lv16 uv16 => ?_)
      iterate 3 refine hR (?_ : R (_, _, _, _, _, _))
      refine hR (t_inc ?_)
      refine hR (?_ : R (_, _, _, _, _, _))
      exact ih16 _ _ _ _ (by rfl) (by omega) (by omega) (by omega) (by omega)
  exact lp16 400000000 _ _ _ _ (by rfl) (by omega) (by omega) (by omega) (by omega)
theorem c_wayBack {ρ : Nat → Nat} {w : zW} (d : Nat) (p rd : Nat) (a1 : Int) (hw : CI ρ w) (hρp : ρ p = 60) (hρrd : ρ rd = 50) (hr0 : 0 ≤ a1 ∧ a1 ≤ 5460) (Q : zQ) (h : ∀ (v : Int) (w' : zW), CI ρ w' → wfR [51] ρ w w' → (-2147483648 ≤ v ∧ v ≤ 2147483647) → Q (some (.int (Int32.ofInt v))) w') : zCl zTab (d + 5) iX9_wayBack [.ref p, .ref rd, .int (Int32.ofInt a1)] w 0 0 Q := by
  refine zCl_i (M := kX9_wayBack) rfl (Nat.le_of_ble_eq_true rfl) fun R hR => ?_
  have fr0 := wfR_rf [51] ρ w
  iterate 2 refine hR (?_ : R (_, _, _, _, _, _))
  have lp2 : ∀ (N : Nat) (i : Int) (o4_2 : Option Value) (w_2 : zW), (zc2 o4_2 = false) → (CI ρ w_2) → (wfR [51] ρ w w_2) → (0 ≤ i ∧ i ≤ 5461) → (5462 - i < N) → R (2, [some (.ref p), some (.ref rd), some (.int (Int32.ofInt a1)), some (.int (Int32.ofInt i)), o4_2], [], w_2, 0, 0) := by
    intro N
    induction N with
    | zero => intros; omega
    | succ N ih2 =>
      intro i o4_2 w_2 hzo4_2 hw_2 fr_2 hf0_2 hN2
      iterate 2 refine hR (?_ : R (_, _, _, _, _, _))
      obtain ⟨x0_1, hO1, hk1_0, hk1_1, hk1_2, hk1_3, hk1_4⟩ := CI_o60 hw_2 hρp
      refine hR (c_get hO1 rfl ?_)
      refine hR (j_ge (by omega) (by omega) (fun hc2 => ?_) (fun hc2 => ?_))
      · skip
        refine hR (?_ : R (_, _, _, _, _, _))
        exact hR (zret_i rfl (Nat.le_refl _) trivial (h _ _ hw_2 fr_2 (by omega)))
      iterate 2 refine hR (?_ : R (_, _, _, _, _, _))
      have lp13 : ∀ (N : Nat) (r : Int) (w_13 : zW), (CI ρ w_13) → (wfR [51] ρ w w_13) → (zix w_13 p = some (.inr (8, [.int (Int32.ofInt x0_1), .ref (p + 1), .ref (p + 2), .ref (p + 3), .ref (p + 4)]))) → (0 ≤ r ∧ r ≤ 5) → (6 - r < N) → R (13, [some (.ref p), some (.ref rd), some (.int (Int32.ofInt a1)), some (.int (Int32.ofInt i)), some (.int (Int32.ofInt r))], [], w_13, 0, 0) := by
        intro N
        induction N with
        | zero => intros; omega
        | succ N ih13 =>
          intro r w_13 hw_13 fr_13 hOp_13 hf0_13 hN13
          iterate 2 refine hR (?_ : R (_, _, _, _, _, _))
          obtain ⟨z0_3, z2_3, z3_3, hO3, hk3_0, hk3_1, hk3_2, hk3_3, hk3_4⟩ := CI_o50 hw_13 hρrd
          refine hR (c_get hO3 rfl ?_)
          obtain ⟨x0_4, x1_4, x2_4, hO4, hk4_0, hk4_1, hk4_2, hk4_3, hk4_4, hk4_5, hk4_6⟩ := CI_o20 hw_13 hk3_0
          refine hR (c_get hO4 rfl ?_)
          refine hR (j_ge (by omega) (by omega) (fun hc5 => ?_) (fun hc5 => ?_))
          · skip
            refine hR (t_inc ?_)
            refine hR (?_ : R (_, _, _, _, _, _))
            exact ih2 _ _ _ (by rfl) hw_13 fr_13 (by omega) (by omega)
          iterate 3 refine hR (?_ : R (_, _, _, _, _, _))
          refine hR (c_get hOp_13 rfl ?_)
          refine hR (?_ : R (_, _, _, _, _, _))
          refine hR (c_ald hw_13 (by rw [hk1_1]; rfl) (by omega) (by omega) (Nat.le_of_ble_eq_true rfl) fun v6 lv6 uv6 => ?_)
          refine hR (c_obj hO3 (zcall_i 0 0 (Nat.le_of_ble_eq_true rfl) (Nat.le_of_ble_eq_true rfl) (c_after _ rd r v6 hw_13 hρrd (by omega) (by omega) _ fun v7 w8 hw8 g8 hp9 => ?_)))
          have fr10 := wfR_tr fr_13 g8 (by decide)
          have hO11 := (g8.2 p (by rw [hρp]; decide)).trans hOp_13
          have hO12 := (g8.2 rd (by rw [hρrd]; decide)).trans hO3
          have hO13 := (g8.2 z0_3 (by rw [hk3_0]; decide)).trans hO4
          refine (?_ : R (_, _, (.int (Int32.ofInt v7)) :: [], w8, 0, 0))
          refine hR (?_ : R (_, _, _, _, _, _))
          refine hR (j_ne (by omega) (by omega) (fun hc14 => ?_) (fun hc14 => ?_))
          · skip
            refine hR (t_inc ?_)
            refine hR (?_ : R (_, _, _, _, _, _))
            exact ih13 _ _ hw8 fr10 hO11 (by omega) (by omega)
          refine hR (?_ : R (_, _, _, _, _, _))
          refine hR (c_get hO11 rfl ?_)
          refine hR (?_ : R (_, _, _, _, _, _))
          refine hR (c_get hO11 rfl ?_)
          refine hR (?_ : R (_, _, _, _, _, _))
          refine hR (c_ald hw8 (by rw [hk1_1]; rfl) (by omega) (by omega) (Nat.le_of_ble_eq_true rfl) fun v15 lv15 uv15 => ?_)
          refine hR (c_ald hw8 (by rw [hk1_2]; rfl) (by omega) (by omega) (Nat.le_of_ble_eq_true rfl) fun v16 lv16 uv16 => ?_)
          refine hR (?_ : R (_, _, _, _, _, _))
          refine hR (t_o fun v17 rv17 => ?_)
          exact hR (zret_i rfl (Nat.le_refl _) trivial (h _ _ hw8 fr10 (by omega)))
      exact lp13 400000000 _ _ hw_2 fr_2 hO1 (by omega) (by omega)
  exact lp2 400000000 _ _ _ (by rfl) hw fr0 (by omega) (by omega)
theorem c_firstSettled {ρ : Nat → Nat} {w : zW} (d : Nat) (p rd : Nat) (hw : CI ρ w) (hρp : ρ p = 60) (hρrd : ρ rd = 50) (Q : zQ) (h : ∀ (v : Int) (w' : zW), CI ρ w' → wfR [51] ρ w w' → (-1 ≤ v ∧ v ≤ 5460) → Q (some (.int (Int32.ofInt v))) w') : zCl zTab (d + 6) iX9_firstSettled [.ref p, .ref rd] w 0 0 Q := by
  refine zCl_i (M := kX9_firstSettled) rfl (Nat.le_of_ble_eq_true rfl) fun R hR => ?_
  have fr0 := wfR_rf [51] ρ w
  iterate 4 refine hR (?_ : R (_, _, _, _, _, _))
  have lp4 : ∀ (N : Nat) (be : Int) (i : Int) (o4_4 : Option Value) (w_4 : zW), (zc2 o4_4 = false) → (CI ρ w_4) → (wfR [51] ρ w w_4) → (-1 ≤ be ∧ be ≤ 5460) → (0 ≤ i ∧ i ≤ 5461) → (5462 - i < N) → R (4, [some (.ref p), some (.ref rd), some (.int (Int32.ofInt be)), some (.int (Int32.ofInt i)), o4_4], [], w_4, 0, 0) := by
    intro N
    induction N with
    | zero => intros; omega
    | succ N ih4 =>
      intro be i o4_4 w_4 hzo4_4 hw_4 fr_4 hf0_4 hf1_4 hN4
      iterate 2 refine hR (?_ : R (_, _, _, _, _, _))
      obtain ⟨x0_1, hO1, hk1_0, hk1_1, hk1_2, hk1_3, hk1_4⟩ := CI_o60 hw_4 hρp
      refine hR (c_get hO1 rfl ?_)
      refine hR (j_ge (by omega) (by omega) (fun hc2 => ?_) (fun hc2 => ?_))
      · skip
        refine hR (?_ : R (_, _, _, _, _, _))
        exact hR (zret_i rfl (Nat.le_refl _) trivial (h _ _ hw_4 fr_4 (by omega)))
      refine hR (?_ : R (_, _, _, _, _, _))
      refine hR (c_get hO1 rfl ?_)
      refine hR (?_ : R (_, _, _, _, _, _))
      refine hR (c_ald hw_4 (by rw [hk1_1]; rfl) (by omega) (by omega) (Nat.le_of_ble_eq_true rfl) fun v3 lv3 uv3 => ?_)
      iterate 3 refine hR (?_ : R (_, _, _, _, _, _))
      refine hR (j_eq (by omega) (by omega) (fun hc4 => ?_) (fun hc4 => ?_))
      · skip
        iterate 2 refine hR (?_ : R (_, _, _, _, _, _))
        refine hR (j_eq (by omega) (by omega) (fun _ => ?_) (fun hc => by omega))
        iterate 3 refine hR (?_ : R (_, _, _, _, _, _))
        obtain ⟨z0_8, z2_8, z3_8, hO8, hk8_0, hk8_1, hk8_2, hk8_3, hk8_4⟩ := CI_o50 hw_4 hρrd
        refine hR (c_obj hO8 (zcall_i 0 0 (Nat.le_of_ble_eq_true rfl) (Nat.le_of_ble_eq_true rfl) (c_all _ rd hw_4 hρrd _ fun v5 hp7 => ?_)))
        refine (?_ : R (_, _, (.int (Int32.ofInt v5)) :: (.int (Int32.ofInt v3)) :: (.ref rd) :: [], w_4, 0, 0))
        refine hR (c_obj hO8 (zcall_i 0 0 (Nat.le_of_ble_eq_true rfl) (Nat.le_of_ble_eq_true rfl) (c_isChanged _ rd v3 v5 hw_4 hρrd (by omega) (by omega) _ fun v9 w10 hw10 g10 hp11 => ?_)))
        have fr12 := wfR_tr fr_4 g10 (by decide)
        have hO13 := (g10.2 p (by rw [hρp]; decide)).trans hO1
        have hO14 := (g10.2 rd (by rw [hρrd]; decide)).trans hO8
        refine (?_ : R (_, _, (.int (Int32.ofInt v9)) :: [], w10, 0, 0))
        refine hR (k_ne (by omega) (fun hc15 => ?_) (fun hc15 => ?_))
        · skip
          refine hR (t_inc ?_)
          refine hR (?_ : R (_, _, _, _, _, _))
          exact ih4 _ _ _ _ (by rfl) hw10 fr12 (by omega) (by omega) (by omega)
        iterate 2 refine hR (?_ : R (_, _, _, _, _, _))
        refine hR (t_inc ?_)
        refine hR (?_ : R (_, _, _, _, _, _))
        exact ih4 _ _ _ _ (by rfl) hw10 fr12 (by omega) (by omega) (by omega)
      refine hR (?_ : R (_, _, _, _, _, _))
      refine hR (c_get hO1 rfl ?_)
      refine hR (?_ : R (_, _, _, _, _, _))
      refine hR (c_ald hw_4 (by rw [hk1_2]; rfl) (by omega) (by omega) (Nat.le_of_ble_eq_true rfl) fun v16 lv16 uv16 => ?_)
      refine hR (?_ : R (_, _, _, _, _, _))
      refine hR (c_get hO1 rfl ?_)
      refine hR (?_ : R (_, _, _, _, _, _))
      refine hR (c_ald hw_4 (by rw [hk1_2]; rfl) (by omega) (by omega) (Nat.le_of_ble_eq_true rfl) fun v17 lv17 uv17 => ?_)
      refine hR (j_any ?_ ?_)
      rotate_left
      · skip
        refine hR (?_ : R (_, _, _, _, _, _))
        exact hR (zret_i rfl (Nat.le_refl _) trivial (h _ _ hw_4 fr_4 (by omega)))
      iterate 2 refine hR (?_ : R (_, _, _, _, _, _))
      refine hR (j_eq (by omega) (by omega) (fun hc => by omega) (fun _ => ?_))
      iterate 2 refine hR (?_ : R (_, _, _, _, _, _))
      refine hR (j_ge (by omega) (by omega) (fun hc18 => ?_) (fun hc18 => ?_))
      · skip
        refine hR (t_inc ?_)
        refine hR (?_ : R (_, _, _, _, _, _))
        exact ih4 _ _ _ _ (by rfl) hw_4 fr_4 (by omega) (by omega) (by omega)
      iterate 3 refine hR (?_ : R (_, _, _, _, _, _))
      obtain ⟨z0_22, z2_22, z3_22, hO22, hk22_0, hk22_1, hk22_2, hk22_3, hk22_4⟩ := CI_o50 hw_4 hρrd
      refine hR (c_obj hO22 (zcall_i 0 0 (Nat.le_of_ble_eq_true rfl) (Nat.le_of_ble_eq_true rfl) (c_all _ rd hw_4 hρrd _ fun v19 hp21 => ?_)))
      refine (?_ : R (_, _, (.int (Int32.ofInt v19)) :: (.int (Int32.ofInt v3)) :: (.ref rd) :: [], w_4, 0, 0))
      refine hR (c_obj hO22 (zcall_i 0 0 (Nat.le_of_ble_eq_true rfl) (Nat.le_of_ble_eq_true rfl) (c_isChanged _ rd v3 v19 hw_4 hρrd (by omega) (by omega) _ fun v23 w24 hw24 g24 hp25 => ?_)))
      have fr26 := wfR_tr fr_4 g24 (by decide)
      have hO27 := (g24.2 p (by rw [hρp]; decide)).trans hO1
      have hO28 := (g24.2 rd (by rw [hρrd]; decide)).trans hO22
      refine (?_ : R (_, _, (.int (Int32.ofInt v23)) :: [], w24, 0, 0))
      refine hR (k_ne (by omega) (fun hc29 => ?_) (fun hc29 => ?_))
      · skip
        refine hR (t_inc ?_)
        refine hR (?_ : R (_, _, _, _, _, _))
        exact ih4 _ _ _ _ (by rfl) hw24 fr26 (by omega) (by omega) (by omega)
      iterate 2 refine hR (?_ : R (_, _, _, _, _, _))
      refine hR (t_inc ?_)
      refine hR (?_ : R (_, _, _, _, _, _))
      exact ih4 _ _ _ _ (by rfl) hw24 fr26 (by omega) (by omega) (by omega)
  exact lp4 400000000 _ _ _ _ (by rfl) hw fr0 (by omega) (by omega) (by omega)
/-! A WALK: the ways back that it keeps. -/
noncomputable def wkO (p : Nat) (sz : Int) : va_E := .inr (8, [.int (Int32.ofInt sz), .ref (p + 1), .ref (p + 2), .ref (p + 3), .ref (p + 4)])
noncomputable def wkG (w : zW) (p : Nat) (sz : Int) (gn : Nat → Int32) : Prop := (0 ≤ sz ∧ sz ≤ 5461) ∧ zix w p = some (wkO p sz) ∧ zix w (p + 2) = some (.inl (1, 5461, .inl gn))
noncomputable def wkI (sz : Int) (gq gn gb : Nat → Int32) : Prop := (∀ t : Nat, t < 5461 → (gn t).toInt ≠ -1 → ∃ i : Nat, (i : Int) < sz ∧ (gq i).toInt = t) ∧ (∀ t : Nat, t < 5461 → 1 ≤ (gn t).toInt → (0 ≤ (gb t).toInt ∧ (gb t).toInt ≤ 5460) ∧ (gn (gb t).toInt.toNat).toInt = (gn t).toInt - 1) ∧ (∀ t : Nat, t < 5461 → -1 ≤ (gn t).toInt ∧ (gn t).toInt ≤ sz - 1)
noncomputable def WK (w : zW) (p : Nat) : Prop := ∃ (sz : Int) (gq gn gb : Nat → Int32), wkG w p sz gn ∧ zix w (p + 1) = some (.inl (1, 5461, .inl gq)) ∧ zix w (p + 3) = some (.inl (1, 5461, .inl gb)) ∧ wkI sz gq gn gb
theorem WK_fr {rs : List Nat} {ρ : Nat → Nat} {w w1 : zW} {p : Nat} (g : wfR rs ρ w w1) (h0 : ρ p ∉ rs) (h1 : ρ (p + 1) ∉ rs) (h2 : ρ (p + 2) ∉ rs) (h3 : ρ (p + 3) ∉ rs) (h : WK w p) : WK w1 p := by
  obtain ⟨sz, gq, gn, gb, ⟨a, b, c⟩, d, e, f⟩ := h
  exact ⟨sz, gq, gn, gb, ⟨a, (g.2 _ h0).trans b, (g.2 _ h2).trans c⟩, (g.2 _ h1).trans d, (g.2 _ h3).trans e, f⟩
theorem wkG_u {w : zW} {p : Nat} {sz sz2 : Int} {gn gn2 : Nat → Int32} (h : wkG w p sz gn) (h2 : wkG w p sz2 gn2) : sz = sz2 ∧ gn = gn2 := by
  obtain ⟨a, b, c⟩ := h
  obtain ⟨a2, b2, c2⟩ := h2
  rw [b] at b2
  rw [c] at c2
  refine ⟨?_, by cases c2; rfl⟩
  have e : Int32.ofInt sz = Int32.ofInt sz2 := by
    unfold wkO at b2
    injection b2 with e1
    injection e1 with e2
    injection e2 with _ e3
    injection e3 with e4
    injection e4
  exact (zeq_o ⟨by omega, by omega⟩ ⟨by omega, by omega⟩).mp e
theorem wk_req {w : zW} {p : Nat} {sz v t : Int} {gn g : Nat → Int32} (hk : WK w p) (hG : wkG w p sz gn) (hg : zix w (p + 2) = some (.inl (1, 5461, .inl g))) (ht : 0 ≤ t ∧ t ≤ 5460) (e : v = (g t.toNat).toInt) : 0 ≤ v + 1 ∧ v + 1 ≤ sz ∧ (1 ≤ v + 1 → 0 ≤ t ∧ t ≤ 5460 ∧ (gn t.toNat).toInt = v + 1 - 1) := by
  obtain ⟨sz2, gq, gn2, gb, hG2, _, _, _, _, hC⟩ := hk
  obtain ⟨rfl, rfl⟩ := wkG_u hG hG2
  have e2 := hG.2.2
  rw [hg] at e2
  cases e2
  have := hC t.toNat (by omega)
  exact ⟨by omega, by omega, fun _ => ⟨by omega, by omega, by omega⟩⟩
theorem wk_add {sz a1 a2 a3 : Int} {gq gn gb : Nat → Int32} (h : wkI sz gq gn gb) (hs : 0 ≤ sz ∧ sz < 5461) (h1 : 0 ≤ a1 ∧ a1 ≤ 5460) (hf : (gn a1.toNat).toInt = -1) (h2 : 0 ≤ a2 ∧ a2 ≤ sz) (h3 : 1 ≤ a2 → 0 ≤ a3 ∧ a3 ≤ 5460 ∧ (gn a3.toNat).toInt = a2 - 1) : wkI (sz + 1) (upd gq sz.toNat (Int32.ofInt a1)) (upd gn a1.toNat (Int32.ofInt a2)) (upd gb a1.toNat (Int32.ofInt a3)) := by
  obtain ⟨hA, hB, hC⟩ := h
  refine ⟨fun t ht hn => ?_, fun t ht hn => ?_, fun t ht => ?_⟩
  · by_cases c : t = a1.toNat
    · refine ⟨sz.toNat, by omega, ?_⟩
      rw [pk_us, zti (by omega) (by omega)]
      omega
    · rw [pk_un c] at hn
      obtain ⟨i, hi, e⟩ := hA t ht hn
      refine ⟨i, by omega, ?_⟩
      rw [pk_un (by omega)]
      exact e
  · by_cases c : t = a1.toNat
    · subst c
      rw [pk_us, zti (by omega) (by omega)] at hn
      obtain ⟨b1, b2, b3⟩ := h3 hn
      rw [pk_us, pk_us, zti (by omega) (by omega), zti (by omega) (by omega)]
      refine ⟨⟨b1, b2⟩, ?_⟩
      rw [pk_un (fun e => by rw [e] at b3; omega)]
      exact b3
    · rw [pk_un c] at hn
      obtain ⟨b1, b2⟩ := hB t ht hn
      rw [pk_un c, pk_un c]
      refine ⟨b1, ?_⟩
      rw [pk_un (fun e => by rw [e] at b2; omega)]
      exact b2
  · by_cases c : t = a1.toNat
    · subst c
      rw [pk_us, zti (by omega) (by omega)]
      omega
    · rw [pk_un c]
      have := hC t ht
      omega
theorem c_comeTo {ρ : Nat → Nat} {w : zW} (d p : Nat) (a1 a2 a3 a4 : Int) (hw : CI ρ w) (hρp : ρ p = 60) (hr0 : WK w p) (hr1 : 0 ≤ a1 ∧ a1 ≤ 5460) (hr2 : ∀ sz gn, wkG w p sz gn → 0 ≤ a2 ∧ a2 ≤ sz ∧ (1 ≤ a2 → 0 ≤ a3 ∧ a3 ≤ 5460 ∧ (gn a3.toNat).toInt = a2 - 1)) (hr3 : -2147483648 ≤ a3 ∧ a3 ≤ 2147483647) (hr4 : -2147483648 ≤ a4 ∧ a4 ≤ 2147483647) (Q : zQ) (h : ∀ (w' : zW), CI ρ w' → wfR [60, 61, 62, 63, 64] ρ w w' → (WK w' p) → Q none w') : zCl zTab (d + 1) iX9_comeTo [.ref p, .int (Int32.ofInt a1), .int (Int32.ofInt a2), .int (Int32.ofInt a3), .int (Int32.ofInt a4)] w 0 0 Q := by
  obtain ⟨_, _, _, e61, e62, e63, e64⟩ := CI_o60 hw hρp
  have hr0' := hr0
  obtain ⟨sz, gq, gn, gb, hG, kq, kb, hI⟩ := hr0
  obtain ⟨q1, q2, q3⟩ := hr2 sz gn hG
  obtain ⟨ks, kO, kn⟩ := hG
  unfold wkO at kO
  obtain ⟨gq', kq', bq⟩ := CI_ar hw (q := p + 1) (by rw [e61]; rfl)
  rw [kq] at kq'
  cases kq'
  obtain ⟨gn', kn', bn⟩ := CI_ar hw (q := p + 2) (by rw [e62]; rfl)
  rw [kn] at kn'
  cases kn'
  obtain ⟨gb', kb', bb⟩ := CI_ar hw (q := p + 3) (by rw [e63]; rfl)
  rw [kb] at kb'
  cases kb'
  refine zCl_i (M := kX9_comeTo) rfl (Nat.le_of_ble_eq_true rfl) fun R hR => ?_
  have out : ∀ w1, CI ρ w1 → wfR [60, 61, 62, 63, 64] ρ w w1 → WK w1 p → R (62, [some (.ref p), some (.int (Int32.ofInt a1)), some (.int (Int32.ofInt a2)), some (.int (Int32.ofInt a3)), some (.int (Int32.ofInt a4))], [], w1, 0, 0) := fun w1 x1 x2 x3 => hR (zret_i rfl (Nat.le_refl _) rfl (h w1 x1 x2 x3))
  refine hR (?_ : R (_, _, _, _, _, _))
  refine hR (c_get kO rfl ?_)
  refine hR (?_ : R (_, _, _, _, _, _))
  refine hR (c_aldE kn (by omega) (by omega) (by omega) fun v ev hv => ?_)
  refine hR (?_ : R (_, _, _, _, _, _))
  refine hR (j_ne (by omega) (by omega) (fun _ => out w hw (wfR_rf _ _ _) hr0') (fun hc => ?_))
  refine hR (?_ : R (_, _, _, _, _, _))
  refine hR (c_get kO rfl ?_)
  refine hR (t_c 5461 (by decide) ?_)
  refine hR (j_ge (by omega) (by omega) (fun _ => out w hw (wfR_rf _ _ _) hr0') (fun hs => ?_))
  have n1 : p + 2 ≠ p := by omega
  refine hR (?_ : R (_, _, _, _, _, _))
  refine hR (c_get kO rfl ?_)
  iterate 2 refine hR (?_ : R (_, _, _, _, _, _))
  refine hR (c_astE hw kn bn (by rw [e62]; rfl) ⟨by rw [e62]; decide, by rw [e62]; decide⟩ (by omega) (by omega) (by omega) (by omega) (by omega) fun w1 hw1 f1 kn1 bn1 => ?_)
  have kO1 := (f1.2 p (by omega)).trans kO
  refine hR (?_ : R (_, _, _, _, _, _))
  refine hR (c_get kO1 rfl ?_)
  iterate 2 refine hR (?_ : R (_, _, _, _, _, _))
  refine hR (c_astE hw1 ((f1.2 (p + 3) (by omega)).trans kb) bb (by rw [e63]; rfl) ⟨by rw [e63]; decide, by rw [e63]; decide⟩ (by omega) (by omega) (by omega) (by omega) (by omega) fun w2 hw2 f2 kb2 bb2 => ?_)
  have kO2 := (f2.2 p (by omega)).trans kO1
  refine hR (?_ : R (_, _, _, _, _, _))
  refine hR (c_get kO2 rfl ?_)
  iterate 2 refine hR (?_ : R (_, _, _, _, _, _))
  refine hR (c_astx hw2 (by rw [e64]; rfl) ⟨by rw [e64]; decide, by rw [e64]; decide⟩ (by omega) (by omega) (by omega) fun w3 hw3 f3 => ?_)
  have kO3 := (f3.2 p (by omega)).trans kO2
  refine hR (?_ : R (_, _, _, _, _, _))
  refine hR (c_get kO3 rfl ?_)
  refine hR (?_ : R (_, _, _, _, _, _))
  refine hR (c_get kO3 rfl ?_)
  refine hR (?_ : R (_, _, _, _, _, _))
  refine hR (c_astE hw3 ((f3.2 (p + 1) (by omega)).trans ((f2.2 (p + 1) (by omega)).trans ((f1.2 (p + 1) (by omega)).trans kq))) bq (by rw [e61]; rfl) ⟨by rw [e61]; decide, by rw [e61]; decide⟩ (by omega) (by omega) (by omega) (by omega) (by omega) fun w4 hw4 f4 kq4 bq4 => ?_)
  have kO4 := (f4.2 p (by omega)).trans kO3
  iterate 2 refine hR (?_ : R (_, _, _, _, _, _))
  refine hR (c_get kO4 rfl ?_)
  refine hR (?_ : R (_, _, _, _, _, _))
  refine hR (t_add ?_)
  refine hR (c_put kO4 rfl rfl fun w5 f5 kO5 => ?_)
  have hw5 := CI_w60 hw4 hρp f5 kO5 ⟨⟨by omega, by omega⟩, e61, e62, e63, e64⟩
  have fr := wfR_st (wfR_st (wfR_st (wfR_st (wfR_st (wfR_rf [60, 61, 62, 63, 64] ρ w) f1 (by rw [e62]; decide)) f2 (by rw [e63]; decide)) f3 (by rw [e64]; decide)) f4 (by rw [e61]; decide)) f5 (by rw [hρp]; decide)
  refine out w5 hw5 fr ⟨sz + 1, _, _, _, ⟨⟨by omega, by omega⟩, kO5, (f5.2 (p + 2) (by omega)).trans ((f4.2 (p + 2) (by omega)).trans ((f3.2 (p + 2) (by omega)).trans ((f2.2 (p + 2) (by omega)).trans kn1)))⟩, (f5.2 (p + 1) (by omega)).trans kq4, (f5.2 (p + 3) (by omega)).trans ((f4.2 (p + 3) (by omega)).trans ((f3.2 (p + 3) (by omega)).trans kb2)), wk_add hI ⟨by omega, by omega⟩ hr1 (by omega) ⟨q1, q2⟩ q3⟩
theorem c_readerOnWay {ρ : Nat → Nat} {w : zW} (d p : Nat) (a1 a2 : Int) (hw : CI ρ w) (hρp : ρ p = 60) (hr0 : WK w p) (hr1 : 0 ≤ a1 ∧ a1 ≤ 5460) (hr2 : 0 ≤ a2 ∧ a2 ≤ 2147483647) (Q : zQ) (h : ∀ v : Int, (-2147483648 ≤ v ∧ v ≤ 2147483647) → Q (some (.int (Int32.ofInt v))) w) : zCl zTab (d + 1) iX9_readerOnWay [.ref p, .int (Int32.ofInt a1), .int (Int32.ofInt a2)] w 0 0 Q := by
  obtain ⟨_, _, _, e61, e62, e63, e64⟩ := CI_o60 hw hρp
  obtain ⟨sz, gq, gn, gb, ⟨ks, kO, kn⟩, kq, kb, hA, hB, hC⟩ := hr0
  unfold wkO at kO
  refine zCl_i (M := kX9_readerOnWay) rfl (Nat.le_of_ble_eq_true rfl) fun R hR => ?_
  have loop : ∀ (N : Nat) (t i : Int), (0 ≤ t ∧ t ≤ 5460) → i ≤ 5461 → (gn t.toNat).toInt = i + 1 → i < N → R (12, [some (.ref p), some (.int (Int32.ofInt a1)), some (.int (Int32.ofInt a2)), some (.int (Int32.ofInt t)), some (.int (Int32.ofInt i))], [], w, 0, 0) := by
    intro N
    induction N with
    | zero =>
      intro t i ht hi hg hN
      have hc := hC t.toNat (by omega)
      iterate 2 refine hR (?_ : R (_, _, _, _, _, _))
      refine hR (j_le (by omega) (by omega) (fun _ => ?_) (fun hx => by omega))
      refine hR (?_ : R (_, _, _, _, _, _))
      refine hR (c_get kO rfl ?_)
      refine hR (?_ : R (_, _, _, _, _, _))
      refine hR (c_ald hw (by rw [e64]; rfl) (by omega) (by omega) (by omega) fun v l u => ?_)
      exact hR (zret_i rfl (Nat.le_refl _) trivial (h v ⟨l, u⟩))
    | succ N ih =>
      intro t i ht hi hg hN
      have hc := hC t.toNat (by omega)
      iterate 2 refine hR (?_ : R (_, _, _, _, _, _))
      refine hR (j_le (by omega) (by omega) (fun _ => ?_) (fun hx => ?_))
      · refine hR (?_ : R (_, _, _, _, _, _))
        refine hR (c_get kO rfl ?_)
        refine hR (?_ : R (_, _, _, _, _, _))
        refine hR (c_ald hw (by rw [e64]; rfl) (by omega) (by omega) (by omega) fun v l u => ?_)
        exact hR (zret_i rfl (Nat.le_refl _) trivial (h v ⟨l, u⟩))
      · refine hR (?_ : R (_, _, _, _, _, _))
        refine hR (c_get kO rfl ?_)
        refine hR (?_ : R (_, _, _, _, _, _))
        refine hR (c_aldE kb (by omega) (by omega) (by omega) fun v ev hv => ?_)
        obtain ⟨b1, b2⟩ := hB t.toNat (by omega) (by omega)
        rw [← ev] at b1 b2
        refine hR (?_ : R (_, _, _, _, _, _))
        refine hR (t_inc ?_)
        refine hR (?_ : R (_, _, _, _, _, _))
        exact ih v (i + -1) b1 (by omega) (by omega) (by omega)
  iterate 3 refine hR (?_ : R (_, _, _, _, _, _))
  refine hR (c_get kO rfl ?_)
  refine hR (?_ : R (_, _, _, _, _, _))
  refine hR (c_aldE kn (by omega) (by omega) (by omega) fun v ev hv => ?_)
  have hc := hC a1.toNat (by omega)
  refine hR (?_ : R (_, _, _, _, _, _))
  refine hR (t_sub ?_)
  refine hR (?_ : R (_, _, _, _, _, _))
  exact loop 10000 a1 (v - 1) hr1 (by omega) (by omega) (by omega)
theorem c_go {ρ : Nat → Nat} {w : zW} (d : Nat) (p rd : Nat) (a1 a2 a3 : Int) (hw : CI ρ w) (hρp : ρ p = 60) (hρrd : ρ rd = 50) (hr0 : WK w p) (hr1 : 0 ≤ a1 ∧ a1 ≤ 5460) (hr2 : -2147483648 ≤ a2 ∧ a2 ≤ 2147483647) (hr3 : -2147483648 ≤ a3 ∧ a3 ≤ 2147483647) (Q : zQ) (h : ∀ (w' : zW), CI ρ w' → wfR [51, 60, 61, 62, 63, 64] ρ w w' → (WK w' p) → Q (none) w') : zCl zTab (d + 5) iX9_go [.ref p, .ref rd, .int (Int32.ofInt a1), .int (Int32.ofInt a2), .int (Int32.ofInt a3)] w 0 0 Q := by
  refine zCl_i (M := kX9_go) rfl (Nat.le_of_ble_eq_true rfl) fun R hR => ?_
  have fr0 := wfR_rf [51, 60, 61, 62, 63, 64] ρ w
  obtain ⟨xs, xO, xs2, e61, e62, e63, e64⟩ := CI_o60 hw hρp
  have cont : ∀ (o5 : Option Value) (w2 : zW), zc2 o5 = false → CI ρ w2 → wfR [51, 60, 61, 62, 63, 64] ρ w w2 → WK w2 p → R (36, [some (.ref p), some (.ref rd), some (.int (Int32.ofInt a1)), some (.int (Int32.ofInt a2)), some (.int (Int32.ofInt a3)), o5, none, none], [], w2, 0, 0) := by
    intro o5 w2 hz5 hw2 fr2 wk2
    iterate 5 refine hR (?_ : R (_, _, _, _, _, _))
    obtain ⟨x0_3, hO3, hk3_0, hk3_1, hk3_2, hk3_3, hk3_4⟩ := CI_o60 hw2 hρp
    refine hR (c_obj hO3 (zcall_i 0 0 (Nat.le_of_ble_eq_true rfl) (Nat.le_of_ble_eq_true rfl) (c_comeTo _ p a1 0 ((-1)) ((-1)) hw2 hρp wk2 (by omega) (fun sz gn hG => ⟨by omega, hG.1.1, fun hx => by omega⟩) (by omega) (by omega) _ fun w1 hw1 g1 hp2 => ?_)))
    have fr4 := wfR_tr fr2 g1 (by decide)
    refine (?_ : R (_, _, [], w1, 0, 0))
    iterate 2 refine hR (?_ : R (_, _, _, _, _, _))
    have lp47 : ∀ (N : Nat) (i : Int) (o6_47 : Option Value) (o7_47 : Option Value) (w_47 : zW), (zc2 o6_47 = false) → (zc2 o7_47 = false) → (CI ρ w_47) → (wfR [51, 60, 61, 62, 63, 64] ρ w w_47) → (0 ≤ i ∧ i ≤ 5461) → (WK w_47 p) → (5462 - i < N) → R (47, [some (.ref p), some (.ref rd), some (.int (Int32.ofInt a1)), some (.int (Int32.ofInt a2)), some (.int (Int32.ofInt a3)), some (.int (Int32.ofInt i)), o6_47, o7_47], [], w_47, 0, 0) := by
      intro N
      induction N with
      | zero => intros; omega
      | succ N ih47 =>
        intro i o6_47 o7_47 w_47 hzo6_47 hzo7_47 hw_47 fr_47 hf0_47 hp0_47 hN47
        iterate 2 refine hR (?_ : R (_, _, _, _, _, _))
        obtain ⟨x0_5, hO5, hk5_0, hk5_1, hk5_2, hk5_3, hk5_4⟩ := CI_o60 hw_47 hρp
        refine hR (c_get hO5 rfl ?_)
        refine hR (j_ge (by omega) (by omega) (fun hc6 => ?_) (fun hc6 => ?_))
        · skip
          exact hR (zret_i rfl (Nat.le_refl _) rfl (h _ hw_47 fr_47 hp0_47))
        refine hR (?_ : R (_, _, _, _, _, _))
        refine hR (t_c 5461 (by decide) ?_)
        refine hR (j_ge (by omega) (by omega) (fun hc7 => ?_) (fun hc7 => ?_))
        · skip
          exact hR (zret_i rfl (Nat.le_refl _) rfl (h _ hw_47 fr_47 hp0_47))
        refine hR (?_ : R (_, _, _, _, _, _))
        refine hR (c_get hO5 rfl ?_)
        refine hR (?_ : R (_, _, _, _, _, _))
        refine hR (c_ald hw_47 (by rw [hk5_1]; rfl) (by omega) (by omega) (Nat.le_of_ble_eq_true rfl) fun v8 lv8 uv8 => ?_)
        iterate 3 refine hR (?_ : R (_, _, _, _, _, _))
        refine hR (j_ne (by omega) (by omega) (fun hc9 => ?_) (fun hc9 => ?_))
        rotate_left
        · skip
          exact hR (zret_i rfl (Nat.le_refl _) rfl (h _ hw_47 fr_47 hp0_47))
        iterate 2 refine hR (?_ : R (_, _, _, _, _, _))
        have lp84 : ∀ (N : Nat) (r : Int) (w_84 : zW), (CI ρ w_84) → (wfR [51, 60, 61, 62, 63, 64] ρ w w_84) → (0 ≤ r ∧ r ≤ 5) → (WK w_84 p) → (6 - r < N) → R (84, [some (.ref p), some (.ref rd), some (.int (Int32.ofInt a1)), some (.int (Int32.ofInt a2)), some (.int (Int32.ofInt a3)), some (.int (Int32.ofInt i)), some (.int (Int32.ofInt v8)), some (.int (Int32.ofInt r))], [], w_84, 0, 0) := by
          intro N
          induction N with
          | zero => intros; omega
          | succ N ih84 =>
            intro r w_84 hw_84 fr_84 hf0_84 hp0_84 hN84
            iterate 2 refine hR (?_ : R (_, _, _, _, _, _))
            obtain ⟨z0_10, z2_10, z3_10, hO10, hk10_0, hk10_1, hk10_2, hk10_3, hk10_4⟩ := CI_o50 hw_84 hρrd
            refine hR (c_get hO10 rfl ?_)
            obtain ⟨x0_11, x1_11, x2_11, hO11, hk11_0, hk11_1, hk11_2, hk11_3, hk11_4, hk11_5, hk11_6⟩ := CI_o20 hw_84 hk10_0
            refine hR (c_get hO11 rfl ?_)
            refine hR (j_ge (by omega) (by omega) (fun hc12 => ?_) (fun hc12 => ?_))
            · skip
              refine hR (t_inc ?_)
              refine hR (?_ : R (_, _, _, _, _, _))
              exact ih47 _ _ _ _ (by rfl) (by rfl) hw_84 fr_84 (by omega) hp0_84 (by omega)
            iterate 2 refine hR (?_ : R (_, _, _, _, _, _))
            refine hR (zcall_i 0 0 (Nat.le_of_ble_eq_true rfl) (Nat.le_of_ble_eq_true rfl) (c_isIn _ _ a2 r _ fun v13 hp15 => ?_))
            refine (?_ : R (_, _, (.int (Int32.ofInt v13)) :: [], w_84, 0, 0))
            refine hR (k_eq (by omega) (fun hc16 => ?_) (fun hc16 => ?_))
            · skip
              refine hR (t_inc ?_)
              refine hR (?_ : R (_, _, _, _, _, _))
              exact ih84 _ _ hw_84 fr_84 (by omega) hp0_84 (by omega)
            iterate 4 refine hR (?_ : R (_, _, _, _, _, _))
            refine hR (c_obj hO10 (zcall_i 0 0 (Nat.le_of_ble_eq_true rfl) (Nat.le_of_ble_eq_true rfl) (c_after _ rd r v8 hw_84 hρrd (by omega) (by omega) _ fun v17 w18 hw18 g18 hp19 => ?_)))
            have fr20 := wfR_tr fr_84 g18 (by decide)
            have hO21 := (g18.2 rd (by rw [hρrd]; decide)).trans hO10
            have hO22 := (g18.2 z0_10 (by rw [hk10_0]; decide)).trans hO11
            refine (?_ : R (_, _, (.int (Int32.ofInt v17)) :: (.ref p) :: [], w18, 0, 0))
            have wk23 := WK_fr g18 (by rw [hρp]; decide) (by rw [e61]; decide) (by rw [e62]; decide) (by rw [e63]; decide) hp0_84
            refine hR (?_ : R (_, _, _, _, _, _))
            obtain ⟨x0_24, hO24, hk24_0, hk24_1, hk24_2, hk24_3, hk24_4⟩ := CI_o60 hw18 hρp
            refine hR (c_get hO24 rfl ?_)
            refine hR (?_ : R (_, _, _, _, _, _))
            obtain ⟨ge26, hge26, hBe26⟩ := CI_ar hw18 (q := p + 2) (by rw [hk24_2]; rfl)
            refine hR (c_aldE hge26 (by omega) (by omega) (Nat.le_of_ble_eq_true rfl) fun v25 e26 rv25 => ?_)
            have bv25 : (-2147483648) ≤ v25 ∧ v25 ≤ 2147483647 := by rw [e26]; exact hBe26 _
            refine hR (?_ : R (_, _, _, _, _, _))
            refine hR (t_add ?_)
            iterate 2 refine hR (?_ : R (_, _, _, _, _, _))
            refine hR (c_obj hO24 (zcall_i 0 0 (Nat.le_of_ble_eq_true rfl) (Nat.le_of_ble_eq_true rfl) (c_comeTo _ p v17 (v25 + 1) v8 r hw18 hρp wk23 (by omega) (fun sz gn hG => wk_req wk23 hG hge26 (by omega) e26) (by omega) (by omega) _ fun w27 hw27 g27 hp28 => ?_)))
            have fr29 := wfR_tr fr20 g27 (by decide)
            have hO30 := (g27.2 rd (by rw [hρrd]; decide)).trans hO21
            have hO31 := (g27.2 z0_10 (by rw [hk10_0]; decide)).trans hO22
            refine (?_ : R (_, _, [], w27, 0, 0))
            refine hR (t_inc ?_)
            refine hR (?_ : R (_, _, _, _, _, _))
            exact ih84 _ _ hw27 fr29 (by omega) hp28 (by omega)
        exact lp84 400000000 _ _ hw_47 fr_47 (by omega) hp0_47 (by omega)
    exact lp47 400000000 _ _ _ _ (by rfl) (by rfl) hw1 fr4 (by omega) hp2 (by omega)
  obtain ⟨sz, gq, gn, gb, ⟨ks, kO, kn⟩, kq, kb, kA, kB, kC⟩ := hr0
  unfold wkO at kO
  obtain ⟨gq', kq', bq⟩ := CI_ar hw (q := p + 1) (by rw [e61]; rfl)
  rw [kq] at kq'
  cases kq'
  obtain ⟨gn', kn', bn⟩ := CI_ar hw (q := p + 2) (by rw [e62]; rfl)
  rw [kn] at kn'
  cases kn'
  have clr : ∀ (N : Nat) (i : Int) (w1 : zW) (g : Nat → Int32), (0 ≤ i ∧ i ≤ sz) → CI ρ w1 → wfR [51, 60, 61, 62, 63, 64] ρ w w1 → zix w1 p = some (.inr (8, [.int (Int32.ofInt sz), .ref (p + 1), .ref (p + 2), .ref (p + 3), .ref (p + 4)])) → zix w1 (p + 1) = some (.inl (1, 5461, .inl gq)) → zix w1 (p + 2) = some (.inl (1, 5461, .inl g)) → zix w1 (p + 3) = some (.inl (1, 5461, .inl gb)) → zB (-2147483648) 2147483647 g → (∀ t : Nat, t < 5461 → (g t).toInt ≠ -1 → ∃ j : Nat, i ≤ j ∧ (j : Int) < sz ∧ (gq j).toInt = t) → sz - i < N → R (3, [some (.ref p), some (.ref rd), some (.int (Int32.ofInt a1)), some (.int (Int32.ofInt a2)), some (.int (Int32.ofInt a3)), some (.int (Int32.ofInt i)), none, none], [], w1, 0, 0) := by
    intro N
    induction N with
    | zero => intros; omega
    | succ N ih =>
      intro i w1 g hi hw1 f1 o1 q1 n1 b1 z1 hA hN
      iterate 2 refine hR (?_ : R (_, _, _, _, _, _))
      refine hR (c_get o1 rfl ?_)
      refine hR (j_ge (by omega) (by omega) (fun hc => ?_) (fun hc => ?_))
      · have all : ∀ t : Nat, t < 5461 → (g t).toInt = -1 := by
          intro t ht
          by_cases c : (g t).toInt = -1
          · exact c
          · obtain ⟨j, j1, j2, _⟩ := hA t ht c
            omega
        iterate 2 refine hR (?_ : R (_, _, _, _, _, _))
        refine hR (c_put o1 rfl rfl fun w2 f2 o2 => ?_)
        have hw2 := CI_w60 hw1 hρp f2 o2 ⟨⟨by omega, by omega⟩, e61, e62, e63, e64⟩
        refine cont _ w2 rfl hw2 (wfR_st f1 f2 (by rw [hρp]; decide)) ⟨0, gq, g, gb, ⟨⟨by omega, by omega⟩, o2, (f2.2 (p + 2) (by omega)).trans n1⟩, (f2.2 (p + 1) (by omega)).trans q1, (f2.2 (p + 3) (by omega)).trans b1, ?_, ?_, ?_⟩
        · intro t ht hx
          exact absurd (all t ht) hx
        · intro t ht hx
          have := all t ht
          omega
        · intro t ht
          have := all t ht
          omega
      · refine hR (?_ : R (_, _, _, _, _, _))
        refine hR (c_get o1 rfl ?_)
        refine hR (?_ : R (_, _, _, _, _, _))
        refine hR (c_get o1 rfl ?_)
        refine hR (?_ : R (_, _, _, _, _, _))
        refine hR (c_aldE q1 (by omega) (by omega) (by omega) fun v ev hv => ?_)
        have hb := bq i.toNat
        refine hR (?_ : R (_, _, _, _, _, _))
        refine hR (c_astE hw1 n1 z1 (by rw [e62]; rfl) ⟨by rw [e62]; decide, by rw [e62]; decide⟩ (by omega) (by omega) (by omega) (by omega) (by omega) fun w2 hw2 f2 n2 z2 => ?_)
        refine hR (t_inc ?_)
        refine hR (?_ : R (_, _, _, _, _, _))
        refine ih (i + 1) w2 _ (by omega) hw2 (wfR_st f1 f2 (by rw [e62]; decide)) ((f2.2 p (by omega)).trans o1) ((f2.2 (p + 1) (by omega)).trans q1) n2 ((f2.2 (p + 3) (by omega)).trans b1) z2 ?_ (by omega)
        intro t ht hx
        by_cases c : t = v.toNat
        · subst c
          rw [pk_us] at hx
          exact absurd (by decide) hx
        · rw [pk_un c] at hx
          obtain ⟨j, j1, j2, j3⟩ := hA t ht hx
          refine ⟨j, ?_, j2, j3⟩
          by_cases cj : (j : Int) = i
          · exfalso
            apply c
            rw [ev, ← cj]
            show t = (gq (j : Int).toNat).toInt.toNat
            rw [Int.toNat_natCast, j3, Int.toNat_natCast]
          · omega
  iterate 2 refine hR (?_ : R (_, _, _, _, _, _))
  refine clr 10000 0 w gn (by omega) hw fr0 kO kq kn kb bn (fun t ht hx => ?_) (by omega)
  obtain ⟨i, i1, i2⟩ := kA t ht hx
  exact ⟨i, by omega, i1, i2⟩
theorem c_wantNothing {ρ : Nat → Nat} {w : zW} (d : Nat) (p : Nat) (hw : CI ρ w) (hρp : ρ p = 70) (Q : zQ) (h : ∀ (w' : zW), CI ρ w' → wfR [72] ρ w w' → Q (none) w') : zCl zTab (d + 2) iX2_wantNothing [.ref p] w 0 0 Q := by
  refine zCl_i (M := kX2_wantNothing) rfl (Nat.le_of_ble_eq_true rfl) fun R hR => ?_
  have fr0 := wfR_rf [72] ρ w
  refine hR (?_ : R (_, _, _, _, _, _))
  obtain ⟨y0_1, x1_1, x2_1, x3_1, hO1, hk1_0, hk1_1, hk1_2, hk1_3, hk1_4, hk1_5, hk1_6, hk1_7, hk1_8, hk1_9⟩ := CI_o70 hw hρp
  refine hR (c_get hO1 rfl ?_)
  refine hR (?_ : R (_, _, _, _, _, _))
  refine hR (zcall_i 0 0 (Nat.le_of_ble_eq_true rfl) (Nat.le_of_ble_eq_true rfl) (c_fill _ (p + 2) 10 ((-1)) (-2147483648) 2147483647 hw (by rw [hk1_5]; rfl) ⟨by rw [hk1_5]; decide, by rw [hk1_5]; decide⟩ (by omega) (by omega) (by omega) _ fun w2 hw2 f2 hg2 => ?_))
  refine (?_ : R (_, _, [], w2, 0, 0))
  have fr3 := wfR_st fr0 f2 (by rw [hk1_5]; decide)
  have hO4 := (f2.2 p (rne hρp hk1_5 (by decide))).trans hO1
  exact hR (zret_i rfl (Nat.le_refl _) rfl (h _ hw2 fr3))
theorem c_want {ρ : Nat → Nat} {w : zW} (d : Nat) (p s : Nat) (hw : CI ρ w) (hρp : ρ p = 70) (hρs : ρ s = 40) (Q : zQ) (h : ∀ (w' : zW), CI ρ w' → wfR [72] ρ w w' → Q (none) w') : zCl zTab (d + 3) iX2_want [.ref p, .ref s] w 0 0 Q := by
  refine zCl_i (M := kX2_want) rfl (Nat.le_of_ble_eq_true rfl) fun R hR => ?_
  have fr0 := wfR_rf [72] ρ w
  refine hR (?_ : R (_, _, _, _, _, _))
  obtain ⟨y0_2, x1_2, x2_2, x3_2, hO2, hk2_0, hk2_1, hk2_2, hk2_3, hk2_4, hk2_5, hk2_6, hk2_7, hk2_8, hk2_9⟩ := CI_o70 hw hρp
  refine hR (c_obj hO2 (zcall_i 0 0 (Nat.le_of_ble_eq_true rfl) (Nat.le_of_ble_eq_true rfl) (c_wantNothing _ p hw hρp _ fun w1 hw1 g1 => ?_)))
  have fr3 := wfR_tr fr0 g1 (by decide)
  have hO4 := (g1.2 p (by rw [hρp]; decide)).trans hO2
  refine (?_ : R (_, _, [], w1, 0, 0))
  iterate 2 refine hR (?_ : R (_, _, _, _, _, _))
  have lp6 : ∀ (N : Nat) (k : Int) (o3_6 : Option Value) (w_6 : zW), (zc2 o3_6 = false) → (CI ρ w_6) → (wfR [72] ρ w w_6) → (zix w_6 p = some (.inr (2, [va_rf y0_2, .int (Int32.ofInt x1_2), .int (Int32.ofInt x2_2), .int (Int32.ofInt x3_2), .ref (p + 1), .ref (p + 2), .ref (p + 3), .ref (p + 4), .ref (p + 5), .ref (p + 6)]))) → (0 ≤ k ∧ k ≤ 6) → (7 - k < N) → R (6, [some (.ref p), some (.ref s), some (.int (Int32.ofInt k)), o3_6], [], w_6, 0, 0) := by
    intro N
    induction N with
    | zero => intros; omega
    | succ N ih6 =>
      intro k o3_6 w_6 hzo3_6 hw_6 fr_6 hOp_6 hf0_6 hN6
      iterate 2 refine hR (?_ : R (_, _, _, _, _, _))
      obtain ⟨x0_5, hO5, hk5_0, hk5_1, hk5_2⟩ := CI_o40 hw_6 hρs
      refine hR (c_get hO5 rfl ?_)
      refine hR (j_ge (by omega) (by omega) (fun hc6 => ?_) (fun hc6 => ?_))
      · skip
        exact hR (zret_i rfl (Nat.le_refl _) rfl (h _ hw_6 fr_6))
      refine hR (?_ : R (_, _, _, _, _, _))
      refine hR (c_get hO5 rfl ?_)
      refine hR (?_ : R (_, _, _, _, _, _))
      refine hR (c_ald hw_6 (by rw [hk5_1]; rfl) (by omega) (by omega) (Nat.le_of_ble_eq_true rfl) fun v7 lv7 uv7 => ?_)
      iterate 2 refine hR (?_ : R (_, _, _, _, _, _))
      refine hR (c_get hOp_6 rfl ?_)
      refine hR (?_ : R (_, _, _, _, _, _))
      refine hR (c_ald hw_6 (by rw [hk2_5]; rfl) (by omega) (by omega) (Nat.le_of_ble_eq_true rfl) fun v8 lv8 uv8 => ?_)
      refine hR (?_ : R (_, _, _, _, _, _))
      refine hR (j_any ?_ ?_)
      · skip
        refine hR (?_ : R (_, _, _, _, _, _))
        refine hR (c_get hOp_6 rfl ?_)
        iterate 2 refine hR (?_ : R (_, _, _, _, _, _))
        refine hR (c_get hO5 rfl ?_)
        refine hR (?_ : R (_, _, _, _, _, _))
        refine hR (c_ald hw_6 (by rw [hk5_2]; rfl) (by omega) (by omega) (Nat.le_of_ble_eq_true rfl) fun v9 lv9 uv9 => ?_)
        refine hR (c_astx hw_6 (by rw [hk2_5]; rfl) ⟨by rw [hk2_5]; decide, by rw [hk2_5]; decide⟩ (by omega) (by omega) (Nat.le_of_ble_eq_true rfl) fun w10 hw10 f10 => ?_)
        have fr11 := wfR_st fr_6 f10 (by rw [hk2_5]; decide)
        have hO12 := (f10.2 p (rne hρp hk2_5 (by decide))).trans hOp_6
        have hO13 := (f10.2 s (rne hρs hk2_5 (by decide))).trans hO5
        refine hR (?_ : R (_, _, _, _, _, _))
        refine hR (t_inc ?_)
        refine hR (?_ : R (_, _, _, _, _, _))
        exact ih6 _ _ _ (by rfl) hw10 fr11 hO12 (by omega) (by omega)
      refine hR (?_ : R (_, _, _, _, _, _))
      refine hR (c_get hOp_6 rfl ?_)
      refine hR (?_ : R (_, _, _, _, _, _))
      refine hR (c_ald hw_6 (by rw [hk2_5]; rfl) (by omega) (by omega) (Nat.le_of_ble_eq_true rfl) fun v14 lv14 uv14 => ?_)
      refine hR (?_ : R (_, _, _, _, _, _))
      refine hR (c_get hO5 rfl ?_)
      refine hR (?_ : R (_, _, _, _, _, _))
      refine hR (c_ald hw_6 (by rw [hk5_2]; rfl) (by omega) (by omega) (Nat.le_of_ble_eq_true rfl) fun v15 lv15 uv15 => ?_)
      refine hR (j_any ?_ ?_)
      · skip
        refine hR (?_ : R (_, _, _, _, _, _))
        refine hR (c_get hOp_6 rfl ?_)
        refine hR (?_ : R (_, _, _, _, _, _))
        refine hR (t_c (-2) (by decide) ?_)
        refine hR (c_astx hw_6 (by rw [hk2_5]; rfl) ⟨by rw [hk2_5]; decide, by rw [hk2_5]; decide⟩ (by omega) (by omega) (Nat.le_of_ble_eq_true rfl) fun w16 hw16 f16 => ?_)
        have fr17 := wfR_st fr_6 f16 (by rw [hk2_5]; decide)
        have hO18 := (f16.2 p (rne hρp hk2_5 (by decide))).trans hOp_6
        have hO19 := (f16.2 s (rne hρs hk2_5 (by decide))).trans hO5
        refine hR (t_inc ?_)
        refine hR (?_ : R (_, _, _, _, _, _))
        exact ih6 _ _ _ (by rfl) hw16 fr17 hO18 (by omega) (by omega)
      refine hR (?_ : R (_, _, _, _, _, _))
      refine hR (c_get hOp_6 rfl ?_)
      iterate 2 refine hR (?_ : R (_, _, _, _, _, _))
      refine hR (c_get hO5 rfl ?_)
      refine hR (?_ : R (_, _, _, _, _, _))
      refine hR (c_ald hw_6 (by rw [hk5_2]; rfl) (by omega) (by omega) (Nat.le_of_ble_eq_true rfl) fun v20 lv20 uv20 => ?_)
      refine hR (c_astx hw_6 (by rw [hk2_5]; rfl) ⟨by rw [hk2_5]; decide, by rw [hk2_5]; decide⟩ (by omega) (by omega) (Nat.le_of_ble_eq_true rfl) fun w21 hw21 f21 => ?_)
      have fr22 := wfR_st fr_6 f21 (by rw [hk2_5]; decide)
      have hO23 := (f21.2 p (rne hρp hk2_5 (by decide))).trans hOp_6
      have hO24 := (f21.2 s (rne hρs hk2_5 (by decide))).trans hO5
      refine hR (?_ : R (_, _, _, _, _, _))
      refine hR (t_inc ?_)
      refine hR (?_ : R (_, _, _, _, _, _))
      exact ih6 _ _ _ (by rfl) hw21 fr22 hO23 (by omega) (by omega)
  exact lp6 400000000 _ _ _ (by rfl) hw1 fr3 hO4 (by omega) (by omega)
theorem c_isWanted {ρ : Nat → Nat} {w : zW} (d : Nat) (p : Nat) (a1 a2 : Int) (hw : CI ρ w) (hρp : ρ p = 70) (hr0 : 0 ≤ a1 ∧ a1 ≤ 9) (hr1 : -2147483648 ≤ a2 ∧ a2 ≤ 2147483647) (Q : zQ) (h : ∀ (v : Int), (v = 0 ∨ v = 1) → Q (some (.int (Int32.ofInt v))) w) : zCl zTab (d + 1) iX2_isWanted [.ref p, .int (Int32.ofInt a1), .int (Int32.ofInt a2)] w 0 0 Q := by
  refine zCl_i (M := kX2_isWanted) rfl (Nat.le_of_ble_eq_true rfl) fun R hR => ?_
  have fr0 := wfR_rf [] ρ w
  refine hR (?_ : R (_, _, _, _, _, _))
  obtain ⟨y0_1, x1_1, x2_1, x3_1, hO1, hk1_0, hk1_1, hk1_2, hk1_3, hk1_4, hk1_5, hk1_6, hk1_7, hk1_8, hk1_9⟩ := CI_o70 hw hρp
  refine hR (c_get hO1 rfl ?_)
  refine hR (?_ : R (_, _, _, _, _, _))
  refine hR (c_ald hw (by rw [hk1_5]; rfl) (by omega) (by omega) (Nat.le_of_ble_eq_true rfl) fun v2 lv2 uv2 => ?_)
  refine hR (?_ : R (_, _, _, _, _, _))
  refine hR (j_any ?_ ?_)
  · skip
    iterate 2 refine hR (?_ : R (_, _, _, _, _, _))
    exact hR (zret_i rfl (Nat.le_refl _) (zbo (by omega)) (h _ (by omega)))
  refine hR (?_ : R (_, _, _, _, _, _))
  refine hR (c_get hO1 rfl ?_)
  refine hR (?_ : R (_, _, _, _, _, _))
  refine hR (c_ald hw (by rw [hk1_5]; rfl) (by omega) (by omega) (Nat.le_of_ble_eq_true rfl) fun v3 lv3 uv3 => ?_)
  refine hR (?_ : R (_, _, _, _, _, _))
  refine hR (j_any ?_ ?_)
  · skip
    refine hR (?_ : R (_, _, _, _, _, _))
    exact hR (zret_i rfl (Nat.le_refl _) (zbo (by omega)) (h _ (by omega)))
  iterate 2 refine hR (?_ : R (_, _, _, _, _, _))
  exact hR (zret_i rfl (Nat.le_refl _) (zbo (by omega)) (h _ (by omega)))
theorem c_onesAt {ρ : Nat → Nat} {w : zW} (d : Nat) (p : Nat) (a1 : Int) (hw : CI ρ w) (hρp : ρ p = 70) (hr0 : 0 ≤ a1 ∧ a1 ≤ 9) (Q : zQ) (h : ∀ (v : Int), (-2147483648 ≤ v ∧ v ≤ 2147483647) → Q (some (.int (Int32.ofInt v))) w) : zCl zTab (d + 1) iX2_onesAt [.ref p, .int (Int32.ofInt a1)] w 0 0 Q := by
  refine zCl_i (M := kX2_onesAt) rfl (Nat.le_of_ble_eq_true rfl) fun R hR => ?_
  have fr0 := wfR_rf [] ρ w
  iterate 2 refine hR (?_ : R (_, _, _, _, _, _))
  refine hR (t_rem (by omega) (by omega) (by omega) (by omega) ?_)
  refine hR (k_ne (by omega) (fun hc1 => ?_) (fun hc1 => ?_))
  · skip
    refine hR (?_ : R (_, _, _, _, _, _))
    obtain ⟨y0_2, x1_2, x2_2, x3_2, hO2, hk2_0, hk2_1, hk2_2, hk2_3, hk2_4, hk2_5, hk2_6, hk2_7, hk2_8, hk2_9⟩ := CI_o70 hw hρp
    refine hR (c_get hO2 rfl ?_)
    exact hR (zret_i rfl (Nat.le_refl _) trivial (h _ (by omega)))
  refine hR (?_ : R (_, _, _, _, _, _))
  obtain ⟨y0_3, x1_3, x2_3, x3_3, hO3, hk3_0, hk3_1, hk3_2, hk3_3, hk3_4, hk3_5, hk3_6, hk3_7, hk3_8, hk3_9⟩ := CI_o70 hw hρp
  refine hR (c_get hO3 rfl ?_)
  refine hR (?_ : R (_, _, _, _, _, _))
  exact hR (zret_i rfl (Nat.le_refl _) trivial (h _ (by omega)))
theorem c_recall {ρ : Nat → Nat} {w : zW} (d : Nat) (p : Nat) (a1 : Int) (hw : CI ρ w) (hρp : ρ p = 70) (hr0 : 0 ≤ a1 ∧ a1 ≤ 9) (Q : zQ) (h : ∀ (w' : zW), CI ρ w' → wfR [76] ρ w w' → Q (none) w') : zCl zTab (d + 1) iX2_recall [.ref p, .int (Int32.ofInt a1)] w 0 0 Q := by
  refine zCl_i (M := kX2_recall) rfl (Nat.le_of_ble_eq_true rfl) fun R hR => ?_
  have fr0 := wfR_rf [76] ρ w
  refine hR (?_ : R (_, _, _, _, _, _))
  obtain ⟨y0_1, x1_1, x2_1, x3_1, hO1, hk1_0, hk1_1, hk1_2, hk1_3, hk1_4, hk1_5, hk1_6, hk1_7, hk1_8, hk1_9⟩ := CI_o70 hw hρp
  refine hR (c_get hO1 rfl ?_)
  refine hR (?_ : R (_, _, _, _, _, _))
  refine hR (c_ald hw (by rw [hk1_4]; rfl) (by omega) (by omega) (Nat.le_of_ble_eq_true rfl) fun v2 lv2 uv2 => ?_)
  refine hR (?_ : R (_, _, _, _, _, _))
  have lp7 : ∀ (N : Nat) (x : Int) (w_7 : zW), (CI ρ w_7) → (wfR [76] ρ w w_7) → (zix w_7 p = some (.inr (2, [va_rf y0_1, .int (Int32.ofInt x1_1), .int (Int32.ofInt x2_1), .int (Int32.ofInt x3_1), .ref (p + 1), .ref (p + 2), .ref (p + 3), .ref (p + 4), .ref (p + 5), .ref (p + 6)]))) → (0 ≤ x ∧ x ≤ 25750) → (25751 - x < N) → R (7, [some (.ref p), some (.int (Int32.ofInt a1)), some (.int (Int32.ofInt x))], [], w_7, 0, 0) := by
    intro N
    induction N with
    | zero => intros; omega
    | succ N ih7 =>
      intro x w_7 hw_7 fr_7 hOp_7 hf0_7 hN7
      iterate 2 refine hR (?_ : R (_, _, _, _, _, _))
      refine hR (c_get hOp_7 rfl ?_)
      iterate 2 refine hR (?_ : R (_, _, _, _, _, _))
      refine hR (t_add ?_)
      refine hR (c_ald hw_7 (by rw [hk1_4]; rfl) (by omega) (by omega) (Nat.le_of_ble_eq_true rfl) fun v3 lv3 uv3 => ?_)
      refine hR (j_ge (by omega) (by omega) (fun hc4 => ?_) (fun hc4 => ?_))
      · skip
        exact hR (zret_i rfl (Nat.le_refl _) rfl (h _ hw_7 fr_7))
      refine hR (?_ : R (_, _, _, _, _, _))
      refine hR (c_get hOp_7 rfl ?_)
      refine hR (?_ : R (_, _, _, _, _, _))
      refine hR (c_get hOp_7 rfl ?_)
      refine hR (?_ : R (_, _, _, _, _, _))
      refine hR (c_ald hw_7 (by rw [hk1_6]; rfl) (by omega) (by omega) (Nat.le_of_ble_eq_true rfl) fun v5 lv5 uv5 => ?_)
      refine hR (?_ : R (_, _, _, _, _, _))
      refine hR (c_ast hw_7 (by rw [hk1_9]; rfl) ⟨by rw [hk1_9]; decide, by rw [hk1_9]; decide⟩ (by omega) (by omega) (by omega) (by omega) (by omega) (by omega) (Nat.le_of_ble_eq_true rfl) fun w6 hw6 f6 => ?_)
      have fr7 := wfR_st fr_7 f6 (by rw [hk1_9]; decide)
      have hO8 := (f6.2 p (rne hρp hk1_9 (by decide))).trans hOp_7
      refine hR (t_inc ?_)
      refine hR (?_ : R (_, _, _, _, _, _))
      exact ih7 _ _ hw6 fr7 hO8 (by omega) (by omega)
  exact lp7 400000000 _ _ hw fr0 hO1 (by omega) (by omega)
theorem c_forget {ρ : Nat → Nat} {w : zW} (d : Nat) (p : Nat) (a1 : Int) (hw : CI ρ w) (hρp : ρ p = 70) (hr0 : 0 ≤ a1 ∧ a1 ≤ 9) (Q : zQ) (h : ∀ (w' : zW), CI ρ w' → wfR [76] ρ w w' → Q (none) w') : zCl zTab (d + 1) iX2_forget [.ref p, .int (Int32.ofInt a1)] w 0 0 Q := by
  refine zCl_i (M := kX2_forget) rfl (Nat.le_of_ble_eq_true rfl) fun R hR => ?_
  have fr0 := wfR_rf [76] ρ w
  refine hR (?_ : R (_, _, _, _, _, _))
  obtain ⟨y0_1, x1_1, x2_1, x3_1, hO1, hk1_0, hk1_1, hk1_2, hk1_3, hk1_4, hk1_5, hk1_6, hk1_7, hk1_8, hk1_9⟩ := CI_o70 hw hρp
  refine hR (c_get hO1 rfl ?_)
  refine hR (?_ : R (_, _, _, _, _, _))
  refine hR (c_ald hw (by rw [hk1_4]; rfl) (by omega) (by omega) (Nat.le_of_ble_eq_true rfl) fun v2 lv2 uv2 => ?_)
  refine hR (?_ : R (_, _, _, _, _, _))
  have lp7 : ∀ (N : Nat) (x : Int) (w_7 : zW), (CI ρ w_7) → (wfR [76] ρ w w_7) → (zix w_7 p = some (.inr (2, [va_rf y0_1, .int (Int32.ofInt x1_1), .int (Int32.ofInt x2_1), .int (Int32.ofInt x3_1), .ref (p + 1), .ref (p + 2), .ref (p + 3), .ref (p + 4), .ref (p + 5), .ref (p + 6)]))) → (0 ≤ x ∧ x ≤ 25750) → (25751 - x < N) → R (7, [some (.ref p), some (.int (Int32.ofInt a1)), some (.int (Int32.ofInt x))], [], w_7, 0, 0) := by
    intro N
    induction N with
    | zero => intros; omega
    | succ N ih7 =>
      intro x w_7 hw_7 fr_7 hOp_7 hf0_7 hN7
      iterate 2 refine hR (?_ : R (_, _, _, _, _, _))
      refine hR (c_get hOp_7 rfl ?_)
      iterate 2 refine hR (?_ : R (_, _, _, _, _, _))
      refine hR (t_add ?_)
      refine hR (c_ald hw_7 (by rw [hk1_4]; rfl) (by omega) (by omega) (Nat.le_of_ble_eq_true rfl) fun v3 lv3 uv3 => ?_)
      refine hR (j_ge (by omega) (by omega) (fun hc4 => ?_) (fun hc4 => ?_))
      · skip
        exact hR (zret_i rfl (Nat.le_refl _) rfl (h _ hw_7 fr_7))
      refine hR (?_ : R (_, _, _, _, _, _))
      refine hR (c_get hOp_7 rfl ?_)
      refine hR (?_ : R (_, _, _, _, _, _))
      refine hR (c_get hOp_7 rfl ?_)
      refine hR (?_ : R (_, _, _, _, _, _))
      refine hR (c_ald hw_7 (by rw [hk1_6]; rfl) (by omega) (by omega) (Nat.le_of_ble_eq_true rfl) fun v5 lv5 uv5 => ?_)
      refine hR (?_ : R (_, _, _, _, _, _))
      refine hR (c_ast hw_7 (by rw [hk1_9]; rfl) ⟨by rw [hk1_9]; decide, by rw [hk1_9]; decide⟩ (by omega) (by omega) (by omega) (by omega) (by omega) (by omega) (Nat.le_of_ble_eq_true rfl) fun w6 hw6 f6 => ?_)
      have fr7 := wfR_st fr_7 f6 (by rw [hk1_9]; decide)
      have hO8 := (f6.2 p (rne hρp hk1_9 (by decide))).trans hOp_7
      refine hR (t_inc ?_)
      refine hR (?_ : R (_, _, _, _, _, _))
      exact ih7 _ _ hw6 fr7 hO8 (by omega) (by omega)
  exact lp7 400000000 _ _ hw fr0 hO1 (by omega) (by omega)
theorem c_endByDrift {ρ : Nat → Nat} {w : zW} (d : Nat) (p : Nat) (hw : CI ρ w) (hρp : ρ p = 70) (hnp : nn w p) (Q : zQ) (h : ∀ (w' : zW), CI ρ w' → wfR [75] ρ w w' → Q (none) w') : zCl zTab (d + 4) iX2_endByDrift [.ref p] w 0 0 Q := by
  refine zCl_i (M := kX2_endByDrift) rfl (Nat.le_of_ble_eq_true rfl) fun R hR => ?_
  have fr0 := wfR_rf [75] ρ w
  refine hR (?_ : R (_, _, _, _, _, _))
  obtain ⟨y0_1, x1_1, x2_1, x3_1, hO1, hk1_0, hk1_1, hk1_2, hk1_3, hk1_4, hk1_5, hk1_6, hk1_7, hk1_8, hk1_9⟩ := CI_o70 hw hρp
  refine hR (c_get hO1 rfl ?_)
  refine hR (?_ : R (_, _, _, _, _, _))
  refine hR (c_get hO1 rfl ?_)
  refine hR (c_ald hw (by rw [hk1_4]; rfl) (by omega) (by omega) (Nat.le_of_ble_eq_true rfl) fun v2 lv2 uv2 => ?_)
  refine hR (?_ : R (_, _, _, _, _, _))
  have lp10 : ∀ (N : Nat) (x : Int) (w_10 : zW), (CI ρ w_10) → (wfR [75] ρ w w_10) → (zix w_10 p = some (.inr (2, [va_rf y0_1, .int (Int32.ofInt x1_1), .int (Int32.ofInt x2_1), .int (Int32.ofInt x3_1), .ref (p + 1), .ref (p + 2), .ref (p + 3), .ref (p + 4), .ref (p + 5), .ref (p + 6)]))) → (nn w_10 p) → (0 ≤ x ∧ x ≤ 25750) → (25751 - x < N) → R (10, [some (.ref p), some (.int (Int32.ofInt x))], [], w_10, 0, 0) := by
    intro N
    induction N with
    | zero => intros; omega
    | succ N ih10 =>
      intro x w_10 hw_10 fr_10 hOp_10 hnp_10 hf0_10 hN10
      iterate 2 refine hR (?_ : R (_, _, _, _, _, _))
      refine hR (c_get hOp_10 rfl ?_)
      refine hR (?_ : R (_, _, _, _, _, _))
      refine hR (c_get hOp_10 rfl ?_)
      refine hR (?_ : R (_, _, _, _, _, _))
      refine hR (t_add ?_)
      refine hR (c_ald hw_10 (by rw [hk1_4]; rfl) (by omega) (by omega) (Nat.le_of_ble_eq_true rfl) fun v3 lv3 uv3 => ?_)
      refine hR (j_ge (by omega) (by omega) (fun hc4 => ?_) (fun hc4 => ?_))
      · skip
        exact hR (zret_i rfl (Nat.le_refl _) rfl (h _ hw_10 fr_10))
      refine hR (?_ : R (_, _, _, _, _, _))
      refine hR (c_get hOp_10 rfl ?_)
      iterate 2 refine hR (?_ : R (_, _, _, _, _, _))
      refine hR (c_get hOp_10 rfl ?_)
      refine hR (?_ : R (_, _, _, _, _, _))
      refine hR (c_ald hw_10 (by rw [hk1_6]; rfl) (by omega) (by omega) (Nat.le_of_ble_eq_true rfl) fun v5 lv5 uv5 => ?_)
      refine hR (?_ : R (_, _, _, _, _, _))
      refine hR (c_get hOp_10 rfl ?_)
      obtain ⟨z6, rfl⟩ := nn_some hnp_10 hOp_10
      have hz6 : ρ z6 = 50 := hk1_0 z6 rfl
      obtain ⟨z0_7, z2_7, z3_7, hO7, hk7_0, hk7_1, hk7_2, hk7_3, hk7_4⟩ := CI_o50 hw_10 hz6
      refine hR (c_get hO7 rfl ?_)
      obtain ⟨x0_8, x1_8, x2_8, hO8, hk8_0, hk8_1, hk8_2, hk8_3, hk8_4, hk8_5, hk8_6⟩ := CI_o20 hw_10 hk7_0
      refine hR (c_get hO8 rfl ?_)
      refine hR (zcall_i 0 0 (Nat.le_of_ble_eq_true rfl) (Nat.le_of_ble_eq_true rfl) (c_driftOf _ _ v5 x0_8 (by omega) (by omega) _ fun v9 hp11 => ?_))
      refine (?_ : R (_, _, (.int (Int32.ofInt v9)) :: (.int (Int32.ofInt x)) :: (.ref (p + 5)) :: [], w_10, 0, 0))
      refine hR (c_astx hw_10 (by rw [hk1_8]; rfl) ⟨by rw [hk1_8]; decide, by rw [hk1_8]; decide⟩ (by omega) (by omega) (Nat.le_of_ble_eq_true rfl) fun w12 hw12 f12 => ?_)
      have fr13 := wfR_st fr_10 f12 (by rw [hk1_8]; decide)
      have hn14 := nn_eq (f12.2 p (rne hρp hk1_8 (by decide))) hnp_10
      have hO15 := (f12.2 p (rne hρp hk1_8 (by decide))).trans hOp_10
      have hO16 := (f12.2 z6 (rne hz6 hk1_8 (by decide))).trans hO7
      have hO17 := (f12.2 z0_7 (rne hk7_0 hk1_8 (by decide))).trans hO8
      refine hR (t_inc ?_)
      refine hR (?_ : R (_, _, _, _, _, _))
      exact ih10 _ _ hw12 fr13 hO15 hn14 (by omega) (by omega)
  exact lp10 400000000 _ _ hw fr0 hO1 hnp (by omega) (by omega)
theorem c_endByOne {ρ : Nat → Nat} {w : zW} (d : Nat) (p : Nat) (hw : CI ρ w) (hρp : ρ p = 70) (hnp : nn w p) (Q : zQ) (h : ∀ (w' : zW), CI ρ w' → wfR [75] ρ w w' → Q (none) w') : zCl zTab (d + 1) iX2_endByOne [.ref p] w 0 0 Q := by
  refine zCl_i (M := kX2_endByOne) rfl (Nat.le_of_ble_eq_true rfl) fun R hR => ?_
  have fr0 := wfR_rf [75] ρ w
  refine hR (?_ : R (_, _, _, _, _, _))
  obtain ⟨y0_1, x1_1, x2_1, x3_1, hO1, hk1_0, hk1_1, hk1_2, hk1_3, hk1_4, hk1_5, hk1_6, hk1_7, hk1_8, hk1_9⟩ := CI_o70 hw hρp
  refine hR (c_get hO1 rfl ?_)
  refine hR (?_ : R (_, _, _, _, _, _))
  refine hR (c_get hO1 rfl ?_)
  refine hR (c_ald hw (by rw [hk1_4]; rfl) (by omega) (by omega) (Nat.le_of_ble_eq_true rfl) fun v2 lv2 uv2 => ?_)
  refine hR (?_ : R (_, _, _, _, _, _))
  have lp10 : ∀ (N : Nat) (x : Int) (w_10 : zW), (CI ρ w_10) → (wfR [75] ρ w w_10) → (zix w_10 p = some (.inr (2, [va_rf y0_1, .int (Int32.ofInt x1_1), .int (Int32.ofInt x2_1), .int (Int32.ofInt x3_1), .ref (p + 1), .ref (p + 2), .ref (p + 3), .ref (p + 4), .ref (p + 5), .ref (p + 6)]))) → (nn w_10 p) → (0 ≤ x ∧ x ≤ 25750) → (25751 - x < N) → R (10, [some (.ref p), some (.int (Int32.ofInt x))], [], w_10, 0, 0) := by
    intro N
    induction N with
    | zero => intros; omega
    | succ N ih10 =>
      intro x w_10 hw_10 fr_10 hOp_10 hnp_10 hf0_10 hN10
      iterate 2 refine hR (?_ : R (_, _, _, _, _, _))
      refine hR (c_get hOp_10 rfl ?_)
      refine hR (?_ : R (_, _, _, _, _, _))
      refine hR (c_get hOp_10 rfl ?_)
      refine hR (?_ : R (_, _, _, _, _, _))
      refine hR (t_add ?_)
      refine hR (c_ald hw_10 (by rw [hk1_4]; rfl) (by omega) (by omega) (Nat.le_of_ble_eq_true rfl) fun v3 lv3 uv3 => ?_)
      refine hR (j_ge (by omega) (by omega) (fun hc4 => ?_) (fun hc4 => ?_))
      · skip
        exact hR (zret_i rfl (Nat.le_refl _) rfl (h _ hw_10 fr_10))
      refine hR (?_ : R (_, _, _, _, _, _))
      refine hR (c_get hOp_10 rfl ?_)
      iterate 2 refine hR (?_ : R (_, _, _, _, _, _))
      refine hR (c_astx hw_10 (by rw [hk1_8]; rfl) ⟨by rw [hk1_8]; decide, by rw [hk1_8]; decide⟩ (by omega) (by omega) (Nat.le_of_ble_eq_true rfl) fun w5 hw5 f5 => ?_)
      have fr6 := wfR_st fr_10 f5 (by rw [hk1_8]; decide)
      have hn7 := nn_eq (f5.2 p (rne hρp hk1_8 (by decide))) hnp_10
      have hO8 := (f5.2 p (rne hρp hk1_8 (by decide))).trans hOp_10
      refine hR (t_inc ?_)
      refine hR (?_ : R (_, _, _, _, _, _))
      exact ih10 _ _ hw5 fr6 hO8 hn7 (by omega) (by omega)
  exact lp10 400000000 _ _ hw fr0 hO1 hnp (by omega) (by omega)
theorem c_endByWord {ρ : Nat → Nat} {w : zW} (d : Nat) (p : Nat) (a1 : Int) (hw : CI ρ w) (hρp : ρ p = 70) (hnp : nn w p) (hr0 : -2147483648 ≤ a1 ∧ a1 ≤ 2147483647) (Q : zQ) (h : ∀ (w' : zW), CI ρ w' → wfR [75] ρ w w' → Q (none) w') : zCl zTab (d + 4) iX2_endByWord [.ref p, .int (Int32.ofInt a1)] w 0 0 Q := by
  refine zCl_i (M := kX2_endByWord) rfl (Nat.le_of_ble_eq_true rfl) fun R hR => ?_
  have fr0 := wfR_rf [75] ρ w
  refine hR (?_ : R (_, _, _, _, _, _))
  obtain ⟨y0_1, x1_1, x2_1, x3_1, hO1, hk1_0, hk1_1, hk1_2, hk1_3, hk1_4, hk1_5, hk1_6, hk1_7, hk1_8, hk1_9⟩ := CI_o70 hw hρp
  refine hR (c_get hO1 rfl ?_)
  refine hR (?_ : R (_, _, _, _, _, _))
  refine hR (c_get hO1 rfl ?_)
  refine hR (c_ald hw (by rw [hk1_4]; rfl) (by omega) (by omega) (Nat.le_of_ble_eq_true rfl) fun v2 lv2 uv2 => ?_)
  refine hR (?_ : R (_, _, _, _, _, _))
  have lp10 : ∀ (N : Nat) (x : Int) (w_10 : zW), (CI ρ w_10) → (wfR [75] ρ w w_10) → (zix w_10 p = some (.inr (2, [va_rf y0_1, .int (Int32.ofInt x1_1), .int (Int32.ofInt x2_1), .int (Int32.ofInt x3_1), .ref (p + 1), .ref (p + 2), .ref (p + 3), .ref (p + 4), .ref (p + 5), .ref (p + 6)]))) → (nn w_10 p) → (0 ≤ x ∧ x ≤ 25750) → (25751 - x < N) → R (10, [some (.ref p), some (.int (Int32.ofInt a1)), some (.int (Int32.ofInt x))], [], w_10, 0, 0) := by
    intro N
    induction N with
    | zero => intros; omega
    | succ N ih10 =>
      intro x w_10 hw_10 fr_10 hOp_10 hnp_10 hf0_10 hN10
      iterate 2 refine hR (?_ : R (_, _, _, _, _, _))
      refine hR (c_get hOp_10 rfl ?_)
      refine hR (?_ : R (_, _, _, _, _, _))
      refine hR (c_get hOp_10 rfl ?_)
      refine hR (?_ : R (_, _, _, _, _, _))
      refine hR (t_add ?_)
      refine hR (c_ald hw_10 (by rw [hk1_4]; rfl) (by omega) (by omega) (Nat.le_of_ble_eq_true rfl) fun v3 lv3 uv3 => ?_)
      refine hR (j_ge (by omega) (by omega) (fun hc4 => ?_) (fun hc4 => ?_))
      · skip
        exact hR (zret_i rfl (Nat.le_refl _) rfl (h _ hw_10 fr_10))
      refine hR (?_ : R (_, _, _, _, _, _))
      refine hR (c_get hOp_10 rfl ?_)
      iterate 3 refine hR (?_ : R (_, _, _, _, _, _))
      refine hR (c_get hOp_10 rfl ?_)
      refine hR (?_ : R (_, _, _, _, _, _))
      refine hR (c_ald hw_10 (by rw [hk1_6]; rfl) (by omega) (by omega) (Nat.le_of_ble_eq_true rfl) fun v5 lv5 uv5 => ?_)
      refine hR (zcall_i 0 0 (Nat.le_of_ble_eq_true rfl) (Nat.le_of_ble_eq_true rfl) (c_timesOf _ _ a1 v5 (by omega) (by omega) _ fun v6 hp8 => ?_))
      refine (?_ : R (_, _, (.int (Int32.ofInt v6)) :: (.int (Int32.ofInt x)) :: (.ref (p + 5)) :: [], w_10, 0, 0))
      refine hR (c_astx hw_10 (by rw [hk1_8]; rfl) ⟨by rw [hk1_8]; decide, by rw [hk1_8]; decide⟩ (by omega) (by omega) (Nat.le_of_ble_eq_true rfl) fun w9 hw9 f9 => ?_)
      have fr10 := wfR_st fr_10 f9 (by rw [hk1_8]; decide)
      have hn11 := nn_eq (f9.2 p (rne hρp hk1_8 (by decide))) hnp_10
      have hO12 := (f9.2 p (rne hρp hk1_8 (by decide))).trans hOp_10
      refine hR (t_inc ?_)
      refine hR (?_ : R (_, _, _, _, _, _))
      exact ih10 _ _ hw9 fr10 hO12 hn11 (by omega) (by omega)
  exact lp10 400000000 _ _ hw fr0 hO1 hnp (by omega) (by omega)
theorem c_folded {ρ : Nat → Nat} {w : zW} (d : Nat) (p : Nat) (a1 a2 a3 : Int) (hw : CI ρ w) (hρp : ρ p = 70) (hnp : nn w p) (hr0 : 0 ≤ a1 ∧ a1 ≤ 9) (hr1 : 0 ≤ a2 ∧ a2 ≤ 25749) (hr2 : -2147483648 ≤ a3 ∧ a3 ≤ 2147483647) (Q : zQ) (h : ∀ (v : Int) (w' : zW), CI ρ w' → wfR [51] ρ w w' → (-2147483648 ≤ v ∧ v ≤ 2147483647) → Q (some (.int (Int32.ofInt v))) w') : zCl zTab (d + 5) iX2_folded [.ref p, .int (Int32.ofInt a1), .int (Int32.ofInt a2), .int (Int32.ofInt a3)] w 0 0 Q := by
  refine zCl_i (M := kX2_folded) rfl (Nat.le_of_ble_eq_true rfl) fun R hR => ?_
  have fr0 := wfR_rf [51] ρ w
  iterate 4 refine hR (?_ : R (_, _, _, _, _, _))
  have lp6 : ∀ (N : Nat) (fo : Int) (r : Int) (o6_6 : Option Value) (w_6 : zW), (zc2 o6_6 = false) → (CI ρ w_6) → (wfR [51] ρ w w_6) → (nn w_6 p) → (-2147483648 ≤ fo ∧ fo ≤ 2147483647) → (0 ≤ r ∧ r ≤ 5) → (6 - r < N) → R (6, [some (.ref p), some (.int (Int32.ofInt a1)), some (.int (Int32.ofInt a2)), some (.int (Int32.ofInt a3)), some (.int (Int32.ofInt fo)), some (.int (Int32.ofInt r)), o6_6], [], w_6, 0, 0) := by
    intro N
    induction N with
    | zero => intros; omega
    | succ N ih6 =>
      intro fo r o6_6 w_6 hzo6_6 hw_6 fr_6 hnp_6 hf0_6 hf1_6 hN6
      iterate 2 refine hR (?_ : R (_, _, _, _, _, _))
      obtain ⟨y0_1, x1_1, x2_1, x3_1, hO1, hk1_0, hk1_1, hk1_2, hk1_3, hk1_4, hk1_5, hk1_6, hk1_7, hk1_8, hk1_9⟩ := CI_o70 hw_6 hρp
      refine hR (c_get hO1 rfl ?_)
      obtain ⟨z2, rfl⟩ := nn_some hnp_6 hO1
      have hz2 : ρ z2 = 50 := hk1_0 z2 rfl
      obtain ⟨z0_3, z2_3, z3_3, hO3, hk3_0, hk3_1, hk3_2, hk3_3, hk3_4⟩ := CI_o50 hw_6 hz2
      refine hR (c_get hO3 rfl ?_)
      obtain ⟨x0_4, x1_4, x2_4, hO4, hk4_0, hk4_1, hk4_2, hk4_3, hk4_4, hk4_5, hk4_6⟩ := CI_o20 hw_6 hk3_0
      refine hR (c_get hO4 rfl ?_)
      refine hR (j_ge (by omega) (by omega) (fun hc5 => ?_) (fun hc5 => ?_))
      · skip
        iterate 2 refine hR (?_ : R (_, _, _, _, _, _))
        refine hR (j_ne (by omega) (by omega) (fun hc6 => ?_) (fun hc6 => ?_))
        · skip
          refine hR (?_ : R (_, _, _, _, _, _))
          exact hR (zret_i rfl (Nat.le_refl _) trivial (h _ _ hw_6 fr_6 (by omega)))
        iterate 2 refine hR (?_ : R (_, _, _, _, _, _))
        exact hR (zret_i rfl (Nat.le_refl _) trivial (h _ _ hw_6 fr_6 (by omega)))
      iterate 2 refine hR (?_ : R (_, _, _, _, _, _))
      refine hR (c_obj hO1 (zcall_i 0 0 (Nat.le_of_ble_eq_true rfl) (Nat.le_of_ble_eq_true rfl) (c_onesAt _ p a1 hw_6 hρp (by omega) _ fun v7 hp9 => ?_)))
      refine (?_ : R (_, _, (.int (Int32.ofInt v7)) :: [], w_6, 0, 0))
      refine hR (?_ : R (_, _, _, _, _, _))
      refine hR (zcall_i 0 0 (Nat.le_of_ble_eq_true rfl) (Nat.le_of_ble_eq_true rfl) (c_isIn _ _ v7 r _ fun v10 hp12 => ?_))
      refine (?_ : R (_, _, (.int (Int32.ofInt v10)) :: [], w_6, 0, 0))
      refine hR (k_eq (by omega) (fun hc13 => ?_) (fun hc13 => ?_))
      · skip
        iterate 4 refine hR (?_ : R (_, _, _, _, _, _))
        refine hR (j_ne (by omega) (by omega) (fun hc => by omega) (fun _ => ?_))
        refine hR (?_ : R (_, _, _, _, _, _))
        refine hR (t_inc ?_)
        refine hR (?_ : R (_, _, _, _, _, _))
        exact ih6 _ _ _ _ (by rfl) hw_6 fr_6 hnp_6 (by omega) (by omega) (by omega)
      refine hR (?_ : R (_, _, _, _, _, _))
      refine hR (c_get hO1 rfl ?_)
      refine hR (?_ : R (_, _, _, _, _, _))
      refine hR (c_get hO1 rfl ?_)
      iterate 2 refine hR (?_ : R (_, _, _, _, _, _))
      refine hR (c_get hO1 rfl ?_)
      refine hR (?_ : R (_, _, _, _, _, _))
      refine hR (c_ald hw_6 (by rw [hk1_6]; rfl) (by omega) (by omega) (Nat.le_of_ble_eq_true rfl) fun v14 lv14 uv14 => ?_)
      refine hR (c_obj hO3 (zcall_i 0 0 (Nat.le_of_ble_eq_true rfl) (Nat.le_of_ble_eq_true rfl) (c_after _ z2 r v14 hw_6 hz2 (by omega) (by omega) _ fun v15 w16 hw16 g16 hp17 => ?_)))
      have fr18 := wfR_tr fr_6 g16 (by decide)
      have hn19 := nn_eq (g16.2 p (by rw [hρp]; decide)) hnp_6
      have hO20 := (g16.2 p (by rw [hρp]; decide)).trans hO1
      have hO21 := (g16.2 z2 (by rw [hz2]; decide)).trans hO3
      have hO22 := (g16.2 z0_3 (by rw [hk3_0]; decide)).trans hO4
      refine (?_ : R (_, _, (.int (Int32.ofInt v15)) :: (.ref (p + 6)) :: [], w16, 0, 0))
      refine hR (c_ald hw16 (by rw [hk1_9]; rfl) (by omega) (by omega) (Nat.le_of_ble_eq_true rfl) fun v23 lv23 uv23 => ?_)
      iterate 4 refine hR (?_ : R (_, _, _, _, _, _))
      refine hR (j_ne (by omega) (by omega) (fun hc24 => ?_) (fun hc24 => ?_))
      rotate_left
      · skip
        refine hR (?_ : R (_, _, _, _, _, _))
        refine hR (t_inc ?_)
        refine hR (?_ : R (_, _, _, _, _, _))
        exact ih6 _ _ _ _ (by rfl) hw16 fr18 hn19 (by omega) (by omega) (by omega)
      iterate 2 refine hR (?_ : R (_, _, _, _, _, _))
      refine hR (j_ne (by omega) (by omega) (fun hc25 => ?_) (fun hc25 => ?_))
      rotate_left
      · skip
        refine hR (?_ : R (_, _, _, _, _, _))
        refine hR (c_get hO20 rfl ?_)
        refine hR (?_ : R (_, _, _, _, _, _))
        refine hR (c_ald hw16 (by rw [hk1_8]; rfl) (by omega) (by omega) (Nat.le_of_ble_eq_true rfl) fun v34 lv34 uv34 => ?_)
        iterate 2 refine hR (?_ : R (_, _, _, _, _, _))
        refine hR (t_inc ?_)
        refine hR (?_ : R (_, _, _, _, _, _))
        exact ih6 _ _ _ _ (by rfl) hw16 fr18 hn19 (by omega) (by omega) (by omega)
      iterate 2 refine hR (?_ : R (_, _, _, _, _, _))
      refine hR (j_ne (by omega) (by omega) (fun hc26 => ?_) (fun hc26 => ?_))
      rotate_left
      · skip
        iterate 2 refine hR (?_ : R (_, _, _, _, _, _))
        refine hR (c_get hO20 rfl ?_)
        refine hR (?_ : R (_, _, _, _, _, _))
        refine hR (c_ald hw16 (by rw [hk1_8]; rfl) (by omega) (by omega) (Nat.le_of_ble_eq_true rfl) fun v32 lv32 uv32 => ?_)
        refine hR (t_o fun v33 rv33 => ?_)
        iterate 2 refine hR (?_ : R (_, _, _, _, _, _))
        refine hR (t_inc ?_)
        refine hR (?_ : R (_, _, _, _, _, _))
        exact ih6 _ _ _ _ (by rfl) hw16 fr18 hn19 (by omega) (by omega) (by omega)
      refine hR (?_ : R (_, _, _, _, _, _))
      refine hR (k_ne (by omega) (fun hc27 => ?_) (fun hc27 => ?_))
      · skip
        iterate 2 refine hR (?_ : R (_, _, _, _, _, _))
        refine hR (c_get hO20 rfl ?_)
        refine hR (?_ : R (_, _, _, _, _, _))
        refine hR (c_ald hw16 (by rw [hk1_8]; rfl) (by omega) (by omega) (Nat.le_of_ble_eq_true rfl) fun v28 lv28 uv28 => ?_)
        refine hR (t_o fun v29 rv29 => ?_)
        refine hR (?_ : R (_, _, _, _, _, _))
        refine hR (t_inc ?_)
        refine hR (?_ : R (_, _, _, _, _, _))
        exact ih6 _ _ _ _ (by rfl) hw16 fr18 hn19 (by omega) (by omega) (by omega)
      iterate 2 refine hR (?_ : R (_, _, _, _, _, _))
      refine hR (c_get hO20 rfl ?_)
      refine hR (?_ : R (_, _, _, _, _, _))
      refine hR (c_ald hw16 (by rw [hk1_8]; rfl) (by omega) (by omega) (Nat.le_of_ble_eq_true rfl) fun v30 lv30 uv30 => ?_)
      refine hR (t_o fun v31 rv31 => ?_)
      iterate 2 refine hR (?_ : R (_, _, _, _, _, _))
      refine hR (t_inc ?_)
      refine hR (?_ : R (_, _, _, _, _, _))
      exact ih6 _ _ _ _ (by rfl) hw16 fr18 hn19 (by omega) (by omega) (by omega)
  exact lp6 400000000 _ _ _ _ (by rfl) hw fr0 hnp (by omega) (by omega) (by omega)
theorem c_foldBack {ρ : Nat → Nat} {w : zW} (d : Nat) (p : Nat) (a1 a2 : Int) (hw : CI ρ w) (hρp : ρ p = 70) (hnp : nn w p) (hr0 : -2147483648 ≤ a1 ∧ a1 ≤ 2147483647) (hr1 : -2147483648 ≤ a2 ∧ a2 ≤ 2147483647) (Q : zQ) (h : ∀ (w' : zW), CI ρ w' → wfR [51, 75, 76] ρ w w' → Q (none) w') : zCl zTab (d + 6) iX2_foldBack [.ref p, .int (Int32.ofInt a1), .int (Int32.ofInt a2)] w 0 0 Q := by
  refine zCl_i (M := kX2_foldBack) rfl (Nat.le_of_ble_eq_true rfl) fun R hR => ?_
  have fr0 := wfR_rf [51, 75, 76] ρ w
  refine hR (?_ : R (_, _, _, _, _, _))
  obtain ⟨y0_1, x1_1, x2_1, x3_1, hO1, hk1_0, hk1_1, hk1_2, hk1_3, hk1_4, hk1_5, hk1_6, hk1_7, hk1_8, hk1_9⟩ := CI_o70 hw hρp
  refine hR (c_get hO1 rfl ?_)
  refine hR (?_ : R (_, _, _, _, _, _))
  refine hR (t_sub ?_)
  refine hR (?_ : R (_, _, _, _, _, _))
  have lp7 : ∀ (N : Nat) (l : Int) (o4_7 : Option Value) (o5_7 : Option Value) (w_7 : zW), (zc2 o4_7 = false) → (zc2 o5_7 = false) → (CI ρ w_7) → (wfR [51, 75, 76] ρ w w_7) → (zix w_7 p = some (.inr (2, [va_rf y0_1, .int (Int32.ofInt x1_1), .int (Int32.ofInt x2_1), .int (Int32.ofInt x3_1), .ref (p + 1), .ref (p + 2), .ref (p + 3), .ref (p + 4), .ref (p + 5), .ref (p + 6)]))) → (nn w_7 p) → (-1 ≤ l ∧ l ≤ 8) → (l + 1 < N) → R (7, [some (.ref p), some (.int (Int32.ofInt a1)), some (.int (Int32.ofInt a2)), some (.int (Int32.ofInt l)), o4_7, o5_7], [], w_7, 0, 0) := by
    intro N
    induction N with
    | zero => intros; omega
    | succ N ih7 =>
      intro l o4_7 o5_7 w_7 hzo4_7 hzo5_7 hw_7 fr_7 hOp_7 hnp_7 hf0_7 hN7
      refine hR (?_ : R (_, _, _, _, _, _))
      refine hR (k_lt (by omega) (fun hc2 => ?_) (fun hc2 => ?_))
      · skip
        exact hR (zret_i rfl (Nat.le_refl _) rfl (h _ hw_7 fr_7))
      iterate 2 refine hR (?_ : R (_, _, _, _, _, _))
      refine hR (t_rem (by omega) (by omega) (by omega) (by omega) ?_)
      refine hR (k_ne (by omega) (fun hc3 => ?_) (fun hc3 => ?_))
      · skip
        iterate 5 refine hR (?_ : R (_, _, _, _, _, _))
        refine hR (t_add ?_)
        refine hR (c_obj hOp_7 (zcall_i 0 0 (Nat.le_of_ble_eq_true rfl) (Nat.le_of_ble_eq_true rfl) (c_recall _ p (l + 1) hw_7 hρp (by omega) _ fun w4 hw4 g4 => ?_)))
        have fr5 := wfR_tr fr_7 g4 (by decide)
        have hn6 := nn_eq (g4.2 p (by rw [hρp]; decide)) hnp_7
        have hO7 := (g4.2 p (by rw [hρp]; decide)).trans hOp_7
        refine (?_ : R (_, _, [], w4, 0, 0))
        refine hR (?_ : R (_, _, _, _, _, _))
        refine hR (c_get hO7 rfl ?_)
        refine hR (?_ : R (_, _, _, _, _, _))
        refine hR (c_ald hw4 (by rw [hk1_4]; rfl) (by omega) (by omega) (Nat.le_of_ble_eq_true rfl) fun v8 lv8 uv8 => ?_)
        refine hR (?_ : R (_, _, _, _, _, _))
        have lp39 : ∀ (N : Nat) (x : Int) (w_39 : zW), (CI ρ w_39) → (wfR [51, 75, 76] ρ w w_39) → (zix w_39 p = some (.inr (2, [va_rf y0_1, .int (Int32.ofInt x1_1), .int (Int32.ofInt x2_1), .int (Int32.ofInt x3_1), .ref (p + 1), .ref (p + 2), .ref (p + 3), .ref (p + 4), .ref (p + 5), .ref (p + 6)]))) → (nn w_39 p) → (0 ≤ x ∧ x ≤ 25750) → (25751 - x < N) → R (39, [some (.ref p), some (.int (Int32.ofInt a1)), some (.int (Int32.ofInt a2)), some (.int (Int32.ofInt l)), some (.int (Int32.ofInt a2)), some (.int (Int32.ofInt x))], [], w_39, 0, 0) := by
          intro N
          induction N with
          | zero => intros; omega
          | succ N ih39 =>
            intro x w_39 hw_39 fr_39 hOp_39 hnp_39 hf0_39 hN39
            iterate 2 refine hR (?_ : R (_, _, _, _, _, _))
            refine hR (c_get hOp_39 rfl ?_)
            iterate 2 refine hR (?_ : R (_, _, _, _, _, _))
            refine hR (t_add ?_)
            refine hR (c_ald hw_39 (by rw [hk1_4]; rfl) (by omega) (by omega) (Nat.le_of_ble_eq_true rfl) fun v9 lv9 uv9 => ?_)
            refine hR (j_ge (by omega) (by omega) (fun hc10 => ?_) (fun hc10 => ?_))
            · skip
              iterate 3 refine hR (?_ : R (_, _, _, _, _, _))
              refine hR (t_add ?_)
              refine hR (c_obj hOp_39 (zcall_i 0 0 (Nat.le_of_ble_eq_true rfl) (Nat.le_of_ble_eq_true rfl) (c_forget _ p (l + 1) hw_39 hρp (by omega) _ fun w11 hw11 g11 => ?_)))
              have fr12 := wfR_tr fr_39 g11 (by decide)
              have hn13 := nn_eq (g11.2 p (by rw [hρp]; decide)) hnp_39
              have hO14 := (g11.2 p (by rw [hρp]; decide)).trans hOp_39
              refine (?_ : R (_, _, [], w11, 0, 0))
              refine hR (t_inc ?_)
              refine hR (?_ : R (_, _, _, _, _, _))
              exact ih7 _ _ _ _ (by rfl) (by rfl) hw11 fr12 hO14 hn13 (by omega) (by omega)
            refine hR (?_ : R (_, _, _, _, _, _))
            refine hR (c_get hOp_39 rfl ?_)
            iterate 5 refine hR (?_ : R (_, _, _, _, _, _))
            refine hR (c_obj hOp_39 (zcall_i 0 0 (Nat.le_of_ble_eq_true rfl) (Nat.le_of_ble_eq_true rfl) (c_folded _ p l x a2 hw_39 hρp hnp_39 (by omega) (by omega) (by omega) _ fun v15 w16 hw16 g16 hp17 => ?_)))
            have fr18 := wfR_tr fr_39 g16 (by decide)
            have hn19 := nn_eq (g16.2 p (by rw [hρp]; decide)) hnp_39
            have hO20 := (g16.2 p (by rw [hρp]; decide)).trans hOp_39
            refine (?_ : R (_, _, (.int (Int32.ofInt v15)) :: (.int (Int32.ofInt x)) :: (.ref (p + 5)) :: [], w16, 0, 0))
            refine hR (c_astx hw16 (by rw [hk1_8]; rfl) ⟨by rw [hk1_8]; decide, by rw [hk1_8]; decide⟩ (by omega) (by omega) (Nat.le_of_ble_eq_true rfl) fun w21 hw21 f21 => ?_)
            have fr22 := wfR_st fr18 f21 (by rw [hk1_8]; decide)
            have hn23 := nn_eq (f21.2 p (rne hρp hk1_8 (by decide))) hn19
            have hO24 := (f21.2 p (rne hρp hk1_8 (by decide))).trans hO20
            refine hR (t_inc ?_)
            refine hR (?_ : R (_, _, _, _, _, _))
            exact ih39 _ _ hw21 fr22 hO24 hn23 (by omega) (by omega)
        exact lp39 400000000 _ _ hw4 fr5 hO7 hn6 (by omega) (by omega)
      iterate 6 refine hR (?_ : R (_, _, _, _, _, _))
      refine hR (t_add ?_)
      refine hR (c_obj hOp_7 (zcall_i 0 0 (Nat.le_of_ble_eq_true rfl) (Nat.le_of_ble_eq_true rfl) (c_recall _ p (l + 1) hw_7 hρp (by omega) _ fun w25 hw25 g25 => ?_)))
      have fr26 := wfR_tr fr_7 g25 (by decide)
      have hn27 := nn_eq (g25.2 p (by rw [hρp]; decide)) hnp_7
      have hO28 := (g25.2 p (by rw [hρp]; decide)).trans hOp_7
      refine (?_ : R (_, _, [], w25, 0, 0))
      refine hR (?_ : R (_, _, _, _, _, _))
      refine hR (c_get hO28 rfl ?_)
      refine hR (?_ : R (_, _, _, _, _, _))
      refine hR (c_ald hw25 (by rw [hk1_4]; rfl) (by omega) (by omega) (Nat.le_of_ble_eq_true rfl) fun v29 lv29 uv29 => ?_)
      refine hR (?_ : R (_, _, _, _, _, _))
      have lp39 : ∀ (N : Nat) (x : Int) (w_39 : zW), (CI ρ w_39) → (wfR [51, 75, 76] ρ w w_39) → (zix w_39 p = some (.inr (2, [va_rf y0_1, .int (Int32.ofInt x1_1), .int (Int32.ofInt x2_1), .int (Int32.ofInt x3_1), .ref (p + 1), .ref (p + 2), .ref (p + 3), .ref (p + 4), .ref (p + 5), .ref (p + 6)]))) → (nn w_39 p) → (0 ≤ x ∧ x ≤ 25750) → (25751 - x < N) → R (39, [some (.ref p), some (.int (Int32.ofInt a1)), some (.int (Int32.ofInt a2)), some (.int (Int32.ofInt l)), some (.int (Int32.ofInt a1)), some (.int (Int32.ofInt x))], [], w_39, 0, 0) := by
        intro N
        induction N with
        | zero => intros; omega
        | succ N ih39 =>
          intro x w_39 hw_39 fr_39 hOp_39 hnp_39 hf0_39 hN39
          iterate 2 refine hR (?_ : R (_, _, _, _, _, _))
          refine hR (c_get hOp_39 rfl ?_)
          iterate 2 refine hR (?_ : R (_, _, _, _, _, _))
          refine hR (t_add ?_)
          refine hR (c_ald hw_39 (by rw [hk1_4]; rfl) (by omega) (by omega) (Nat.le_of_ble_eq_true rfl) fun v30 lv30 uv30 => ?_)
          refine hR (j_ge (by omega) (by omega) (fun hc31 => ?_) (fun hc31 => ?_))
          · skip
            iterate 3 refine hR (?_ : R (_, _, _, _, _, _))
            refine hR (t_add ?_)
            refine hR (c_obj hOp_39 (zcall_i 0 0 (Nat.le_of_ble_eq_true rfl) (Nat.le_of_ble_eq_true rfl) (c_forget _ p (l + 1) hw_39 hρp (by omega) _ fun w32 hw32 g32 => ?_)))
            have fr33 := wfR_tr fr_39 g32 (by decide)
            have hn34 := nn_eq (g32.2 p (by rw [hρp]; decide)) hnp_39
            have hO35 := (g32.2 p (by rw [hρp]; decide)).trans hOp_39
            refine (?_ : R (_, _, [], w32, 0, 0))
            refine hR (t_inc ?_)
            refine hR (?_ : R (_, _, _, _, _, _))
            exact ih7 _ _ _ _ (by rfl) (by rfl) hw32 fr33 hO35 hn34 (by omega) (by omega)
          refine hR (?_ : R (_, _, _, _, _, _))
          refine hR (c_get hOp_39 rfl ?_)
          iterate 5 refine hR (?_ : R (_, _, _, _, _, _))
          refine hR (c_obj hOp_39 (zcall_i 0 0 (Nat.le_of_ble_eq_true rfl) (Nat.le_of_ble_eq_true rfl) (c_folded _ p l x a1 hw_39 hρp hnp_39 (by omega) (by omega) (by omega) _ fun v36 w37 hw37 g37 hp38 => ?_)))
          have fr39 := wfR_tr fr_39 g37 (by decide)
          have hn40 := nn_eq (g37.2 p (by rw [hρp]; decide)) hnp_39
          have hO41 := (g37.2 p (by rw [hρp]; decide)).trans hOp_39
          refine (?_ : R (_, _, (.int (Int32.ofInt v36)) :: (.int (Int32.ofInt x)) :: (.ref (p + 5)) :: [], w37, 0, 0))
          refine hR (c_astx hw37 (by rw [hk1_8]; rfl) ⟨by rw [hk1_8]; decide, by rw [hk1_8]; decide⟩ (by omega) (by omega) (Nat.le_of_ble_eq_true rfl) fun w42 hw42 f42 => ?_)
          have fr43 := wfR_st fr39 f42 (by rw [hk1_8]; decide)
          have hn44 := nn_eq (f42.2 p (rne hρp hk1_8 (by decide))) hn40
          have hO45 := (f42.2 p (rne hρp hk1_8 (by decide))).trans hO41
          refine hR (t_inc ?_)
          refine hR (?_ : R (_, _, _, _, _, _))
          exact ih39 _ _ hw42 fr43 hO45 hn44 (by omega) (by omega)
      exact lp39 400000000 _ _ hw25 fr26 hO28 hn27 (by omega) (by omega)
  exact lp7 400000000 _ _ _ _ (by rfl) (by rfl) hw fr0 hO1 hnp (by omega) (by omega)
theorem c_bestStart {ρ : Nat → Nat} {w : zW} (d : Nat) (p : Nat) (hw : CI ρ w) (hρp : ρ p = 70) (Q : zQ) (h : ∀ (v : Int), (-2147483648 ≤ v ∧ v ≤ 2147483647) → Q (some (.int (Int32.ofInt v))) w) : zCl zTab (d + 1) iX2_bestStart [.ref p] w 0 0 Q := by
  refine zCl_i (M := kX2_bestStart) rfl (Nat.le_of_ble_eq_true rfl) fun R hR => ?_
  have fr0 := wfR_rf [] ρ w
  refine hR (?_ : R (_, _, _, _, _, _))
  obtain ⟨y0_1, x1_1, x2_1, x3_1, hO1, hk1_0, hk1_1, hk1_2, hk1_3, hk1_4, hk1_5, hk1_6, hk1_7, hk1_8, hk1_9⟩ := CI_o70 hw hρp
  refine hR (c_get hO1 rfl ?_)
  refine hR (?_ : R (_, _, _, _, _, _))
  refine hR (c_ald hw (by rw [hk1_8]; rfl) (by omega) (by omega) (Nat.le_of_ble_eq_true rfl) fun v2 lv2 uv2 => ?_)
  exact hR (zret_i rfl (Nat.le_refl _) trivial (h _ (by omega)))
theorem c_sumOfEnds {ρ : Nat → Nat} {w : zW} (d : Nat) (p : Nat) (hw : CI ρ w) (hρp : ρ p = 70) (Q : zQ) (h : ∀ (v : Int64), Q (some (.long v)) w) : zCl zTab (d + 1) iX2_sumOfEnds [.ref p] w 0 0 Q := by
  refine zCl_i (M := kX2_sumOfEnds) rfl (Nat.le_of_ble_eq_true rfl) fun R hR => ?_
  have fr0 := wfR_rf [] ρ w
  iterate 3 refine hR (?_ : R (_, _, _, _, _, _))
  obtain ⟨y0_1, x1_1, x2_1, x3_1, hO1, hk1_0, hk1_1, hk1_2, hk1_3, hk1_4, hk1_5, hk1_6, hk1_7, hk1_8, hk1_9⟩ := CI_o70 hw hρp
  refine hR (c_get hO1 rfl ?_)
  refine hR (?_ : R (_, _, _, _, _, _))
  refine hR (c_get hO1 rfl ?_)
  refine hR (c_ald hw (by rw [hk1_4]; rfl) (by omega) (by omega) (Nat.le_of_ble_eq_true rfl) fun v2 lv2 uv2 => ?_)
  refine hR (?_ : R (_, _, _, _, _, _))
  have lp12 : ∀ (N : Nat) (sm : Int64) (x : Int), (0 ≤ x ∧ x ≤ 25750) → (25751 - x < N) → R (12, [some (.ref p), some (.long sm), none, some (.int (Int32.ofInt x))], [], w, 0, 0) := by
    intro N
    induction N with
    | zero => intros; omega
    | succ N ih12 =>
      intro sm x hf0_12 hN12
      iterate 2 refine hR (?_ : R (_, _, _, _, _, _))
      refine hR (c_get hO1 rfl ?_)
      refine hR (?_ : R (_, _, _, _, _, _))
      refine hR (c_get hO1 rfl ?_)
      refine hR (?_ : R (_, _, _, _, _, _))
      refine hR (t_add ?_)
      refine hR (c_ald hw (by rw [hk1_4]; rfl) (by omega) (by omega) (Nat.le_of_ble_eq_true rfl) fun v3 lv3 uv3 => ?_)
      refine hR (j_ge (by omega) (by omega) (fun hc4 => ?_) (fun hc4 => ?_))
      · skip
        refine hR (?_ : R (_, _, _, _, _, _))
        exact hR (zret_i rfl (Nat.le_refl _) trivial (h _))
      iterate 2 refine hR (?_ : R (_, _, _, _, _, _))
      refine hR (c_get hO1 rfl ?_)
      refine hR (?_ : R (_, _, _, _, _, _))
      refine hR (c_ald hw (by rw [hk1_7]; rfl) (by omega) (by omega) (Nat.le_of_ble_eq_true rfl) fun v5 lv5 uv5 => ?_)
      refine hR (t_xl fun w_6 => ?_)
      refine hR (?_ : R (_, _, _, _, _, _))
      refine hR (c_get hO1 rfl ?_)
      refine hR (?_ : R (_, _, _, _, _, _))
      refine hR (c_ald hw (by rw [hk1_8]; rfl) (by omega) (by omega) (Nat.le_of_ble_eq_true rfl) fun v7 lv7 uv7 => ?_)
      refine hR (t_xl fun w_8 => ?_)
      refine hR (t_xl fun w_9 => ?_)
      refine hR (t_xl fun w_10 => ?_)
      refine hR (?_ : R (_, _, _, _, _, _))
      refine hR (t_inc ?_)
      refine hR (?_ : R (_, _, _, _, _, _))
      exact ih12 _ _ (by omega) (by omega)
  exact lp12 400000000 _ _ (by omega) (by omega)
theorem c_rows {ρ : Nat → Nat} {w : zW} (d : Nat) (p : Nat) (hw : CI ρ w) (hρp : ρ p = 70) (Q : zQ) (h : ∀ (v : Int), (-2147483648 ≤ v ∧ v ≤ 2147483647) → Q (some (.int (Int32.ofInt v))) w) : zCl zTab (d + 1) iX2_rows [.ref p] w 0 0 Q := by
  refine zCl_i (M := kX2_rows) rfl (Nat.le_of_ble_eq_true rfl) fun R hR => ?_
  have fr0 := wfR_rf [] ρ w
  iterate 3 refine hR (?_ : R (_, _, _, _, _, _))
  obtain ⟨y0_1, x1_1, x2_1, x3_1, hO1, hk1_0, hk1_1, hk1_2, hk1_3, hk1_4, hk1_5, hk1_6, hk1_7, hk1_8, hk1_9⟩ := CI_o70 hw hρp
  refine hR (c_get hO1 rfl ?_)
  refine hR (?_ : R (_, _, _, _, _, _))
  refine hR (c_get hO1 rfl ?_)
  refine hR (c_ald hw (by rw [hk1_4]; rfl) (by omega) (by omega) (Nat.le_of_ble_eq_true rfl) fun v2 lv2 uv2 => ?_)
  refine hR (?_ : R (_, _, _, _, _, _))
  have lp12 : ∀ (N : Nat) (sm : Int) (x : Int), (-2147483648 ≤ sm ∧ sm ≤ 2147483647) → (0 ≤ x ∧ x ≤ 25750) → (25751 - x < N) → R (12, [some (.ref p), some (.int (Int32.ofInt sm)), some (.int (Int32.ofInt x))], [], w, 0, 0) := by
    intro N
    induction N with
    | zero => intros; omega
    | succ N ih12 =>
      intro sm x hf0_12 hf1_12 hN12
      iterate 2 refine hR (?_ : R (_, _, _, _, _, _))
      refine hR (c_get hO1 rfl ?_)
      refine hR (?_ : R (_, _, _, _, _, _))
      refine hR (c_get hO1 rfl ?_)
      refine hR (?_ : R (_, _, _, _, _, _))
      refine hR (t_add ?_)
      refine hR (c_ald hw (by rw [hk1_4]; rfl) (by omega) (by omega) (Nat.le_of_ble_eq_true rfl) fun v3 lv3 uv3 => ?_)
      refine hR (j_ge (by omega) (by omega) (fun hc4 => ?_) (fun hc4 => ?_))
      · skip
        refine hR (?_ : R (_, _, _, _, _, _))
        exact hR (zret_i rfl (Nat.le_refl _) trivial (h _ (by omega)))
      iterate 2 refine hR (?_ : R (_, _, _, _, _, _))
      refine hR (c_get hO1 rfl ?_)
      refine hR (?_ : R (_, _, _, _, _, _))
      refine hR (c_ald hw (by rw [hk1_7]; rfl) (by omega) (by omega) (Nat.le_of_ble_eq_true rfl) fun v5 lv5 uv5 => ?_)
      refine hR (t_o fun v6 rv6 => ?_)
      refine hR (?_ : R (_, _, _, _, _, _))
      refine hR (t_inc ?_)
      refine hR (?_ : R (_, _, _, _, _, _))
      exact ih12 _ _ (by omega) (by omega) (by omega)
  exact lp12 400000000 _ _ (by omega) (by omega) (by omega)
theorem c_rowsTo {ρ : Nat → Nat} {w : zW} (d : Nat) (p : Nat) (a1 : Int) (hw : CI ρ w) (hρp : ρ p = 70) (hr0 : -2147483648 ≤ a1 ∧ a1 ≤ 2147483647) (Q : zQ) (h : ∀ (v : Int), (-2147483648 ≤ v ∧ v ≤ 2147483647) → Q (some (.int (Int32.ofInt v))) w) : zCl zTab (d + 1) iX2_rowsTo [.ref p, .int (Int32.ofInt a1)] w 0 0 Q := by
  refine zCl_i (M := kX2_rowsTo) rfl (Nat.le_of_ble_eq_true rfl) fun R hR => ?_
  have fr0 := wfR_rf [] ρ w
  refine hR (?_ : R (_, _, _, _, _, _))
  obtain ⟨y0_1, x1_1, x2_1, x3_1, hO1, hk1_0, hk1_1, hk1_2, hk1_3, hk1_4, hk1_5, hk1_6, hk1_7, hk1_8, hk1_9⟩ := CI_o70 hw hρp
  refine hR (c_get hO1 rfl ?_)
  refine hR (?_ : R (_, _, _, _, _, _))
  refine hR (c_get hO1 rfl ?_)
  refine hR (c_ald hw (by rw [hk1_4]; rfl) (by omega) (by omega) (Nat.le_of_ble_eq_true rfl) fun v2 lv2 uv2 => ?_)
  refine hR (?_ : R (_, _, _, _, _, _))
  have lp10 : ∀ (N : Nat) (x : Int), (0 ≤ x ∧ x ≤ 25750) → (25751 - x < N) → R (10, [some (.ref p), some (.int (Int32.ofInt a1)), some (.int (Int32.ofInt x))], [], w, 0, 0) := by
    intro N
    induction N with
    | zero => intros; omega
    | succ N ih10 =>
      intro x hf0_10 hN10
      iterate 2 refine hR (?_ : R (_, _, _, _, _, _))
      refine hR (c_get hO1 rfl ?_)
      refine hR (?_ : R (_, _, _, _, _, _))
      refine hR (c_get hO1 rfl ?_)
      refine hR (?_ : R (_, _, _, _, _, _))
      refine hR (t_add ?_)
      refine hR (c_ald hw (by rw [hk1_4]; rfl) (by omega) (by omega) (Nat.le_of_ble_eq_true rfl) fun v3 lv3 uv3 => ?_)
      refine hR (j_ge (by omega) (by omega) (fun hc4 => ?_) (fun hc4 => ?_))
      · skip
        refine hR (?_ : R (_, _, _, _, _, _))
        exact hR (zret_i rfl (Nat.le_refl _) trivial (h _ (by omega)))
      refine hR (?_ : R (_, _, _, _, _, _))
      refine hR (c_get hO1 rfl ?_)
      refine hR (?_ : R (_, _, _, _, _, _))
      refine hR (c_ald hw (by rw [hk1_6]; rfl) (by omega) (by omega) (Nat.le_of_ble_eq_true rfl) fun v5 lv5 uv5 => ?_)
      refine hR (?_ : R (_, _, _, _, _, _))
      refine hR (j_ne (by omega) (by omega) (fun hc6 => ?_) (fun hc6 => ?_))
      · skip
        refine hR (t_inc ?_)
        refine hR (?_ : R (_, _, _, _, _, _))
        exact ih10 _ (by omega) (by omega)
      refine hR (?_ : R (_, _, _, _, _, _))
      refine hR (c_get hO1 rfl ?_)
      refine hR (?_ : R (_, _, _, _, _, _))
      refine hR (c_ald hw (by rw [hk1_7]; rfl) (by omega) (by omega) (Nat.le_of_ble_eq_true rfl) fun v7 lv7 uv7 => ?_)
      exact hR (zret_i rfl (Nat.le_refl _) trivial (h _ (by omega)))
  exact lp10 400000000 _ (by omega) (by omega)
theorem c_look {ρ : Nat → Nat} {w : zW} (d : Nat) (p : Nat) (hw : CI ρ w) (hρp : ρ p = 70) (Q : zQ) (h : ∀ (v : Int), (-2147483648 ≤ v ∧ v ≤ 2147483647) → Q (some (.int (Int32.ofInt v))) w) : zCl zTab (d + 2) iX2_look [.ref p] w 0 0 Q := by
  refine zCl_i (M := kX2_look) rfl (Nat.le_of_ble_eq_true rfl) fun R hR => ?_
  have fr0 := wfR_rf [] ρ w
  iterate 6 refine hR (?_ : R (_, _, _, _, _, _))
  have lp6 : ∀ (N : Nat) (be : Int) (le : Int) (l : Int) (o4_6 : Option Value) (o5_6 : Option Value), (zc2 o4_6 = false) → (zc2 o5_6 = false) → (-1 ≤ be ∧ be ≤ 9) → (-2147483648 ≤ le ∧ le ≤ 2147483647) → (0 ≤ l ∧ l ≤ 10) → (11 - l < N) → R (6, [some (.ref p), some (.int (Int32.ofInt be)), some (.int (Int32.ofInt le)), some (.int (Int32.ofInt l)), o4_6, o5_6], [], w, 0, 0) := by
    intro N
    induction N with
    | zero => intros; omega
    | succ N ih6 =>
      intro be le l o4_6 o5_6 hzo4_6 hzo5_6 hf0_6 hf1_6 hf2_6 hN6
      iterate 2 refine hR (?_ : R (_, _, _, _, _, _))
      obtain ⟨y0_1, x1_1, x2_1, x3_1, hO1, hk1_0, hk1_1, hk1_2, hk1_3, hk1_4, hk1_5, hk1_6, hk1_7, hk1_8, hk1_9⟩ := CI_o70 hw hρp
      refine hR (c_get hO1 rfl ?_)
      refine hR (j_gt (by omega) (by omega) (fun hc2 => ?_) (fun hc2 => ?_))
      · skip
        refine hR (?_ : R (_, _, _, _, _, _))
        exact hR (zret_i rfl (Nat.le_refl _) trivial (h _ (by omega)))
      iterate 3 refine hR (?_ : R (_, _, _, _, _, _))
      refine hR (c_get hO1 rfl ?_)
      refine hR (?_ : R (_, _, _, _, _, _))
      refine hR (c_ald hw (by rw [hk1_4]; rfl) (by omega) (by omega) (Nat.le_of_ble_eq_true rfl) fun v3 lv3 uv3 => ?_)
      refine hR (?_ : R (_, _, _, _, _, _))
      have lp25 : ∀ (N : Nat) (mo : Int) (x : Int), (-2147483648 ≤ mo ∧ mo ≤ 2147483647) → (0 ≤ x ∧ x ≤ 25750) → (25751 - x < N) → R (25, [some (.ref p), some (.int (Int32.ofInt be)), some (.int (Int32.ofInt le)), some (.int (Int32.ofInt l)), some (.int (Int32.ofInt mo)), some (.int (Int32.ofInt x))], [], w, 0, 0) := by
        intro N
        induction N with
        | zero => intros; omega
        | succ N ih25 =>
          intro mo x hf0_25 hf1_25 hN25
          iterate 2 refine hR (?_ : R (_, _, _, _, _, _))
          refine hR (c_get hO1 rfl ?_)
          iterate 2 refine hR (?_ : R (_, _, _, _, _, _))
          refine hR (t_add ?_)
          refine hR (c_ald hw (by rw [hk1_4]; rfl) (by omega) (by omega) (Nat.le_of_ble_eq_true rfl) fun v4 lv4 uv4 => ?_)
          refine hR (j_ge (by omega) (by omega) (fun hc5 => ?_) (fun hc5 => ?_))
          rotate_left
          · skip
            iterate 2 refine hR (?_ : R (_, _, _, _, _, _))
            refine hR (c_get hO1 rfl ?_)
            refine hR (?_ : R (_, _, _, _, _, _))
            refine hR (c_ald hw (by rw [hk1_7]; rfl) (by omega) (by omega) (Nat.le_of_ble_eq_true rfl) fun v8 lv8 uv8 => ?_)
            refine hR (?_ : R (_, _, _, _, _, _))
            refine hR (c_get hO1 rfl ?_)
            refine hR (?_ : R (_, _, _, _, _, _))
            refine hR (c_ald hw (by rw [hk1_8]; rfl) (by omega) (by omega) (Nat.le_of_ble_eq_true rfl) fun v9 lv9 uv9 => ?_)
            refine hR (t_o fun v10 rv10 => ?_)
            refine hR (t_o fun v11 rv11 => ?_)
            refine hR (?_ : R (_, _, _, _, _, _))
            refine hR (t_inc ?_)
            refine hR (?_ : R (_, _, _, _, _, _))
            exact ih25 _ _ (by omega) (by omega) (by omega)
          iterate 2 refine hR (?_ : R (_, _, _, _, _, _))
          refine hR (j_eq (by omega) (by omega) (fun hc6 => ?_) (fun hc6 => ?_))
          · skip
            iterate 4 refine hR (?_ : R (_, _, _, _, _, _))
            refine hR (t_inc ?_)
            refine hR (?_ : R (_, _, _, _, _, _))
            exact ih6 _ _ _ _ _ (by rfl) (by rfl) (by omega) (by omega) (by omega) (by omega)
          iterate 2 refine hR (?_ : R (_, _, _, _, _, _))
          refine hR (j_ge (by omega) (by omega) (fun hc7 => ?_) (fun hc7 => ?_))
          · skip
            refine hR (t_inc ?_)
            refine hR (?_ : R (_, _, _, _, _, _))
            exact ih6 _ _ _ _ _ (by rfl) (by rfl) (by omega) (by omega) (by omega) (by omega)
          iterate 4 refine hR (?_ : R (_, _, _, _, _, _))
          refine hR (t_inc ?_)
          refine hR (?_ : R (_, _, _, _, _, _))
          exact ih6 _ _ _ _ _ (by rfl) (by rfl) (by omega) (by omega) (by omega) (by omega)
      exact lp25 400000000 _ _ (by omega) (by omega) (by omega)
  exact lp6 400000000 _ _ _ _ _ (by rfl) (by rfl) (by omega) (by omega) (by omega) (by omega)
theorem c_isReaderAt {ρ : Nat → Nat} {w : zW} (d : Nat) (p : Nat) (a1 a2 : Int) (hw : CI ρ w) (hρp : ρ p = 70) (hnp : nn w p) (hr0 : 0 ≤ a1 ∧ a1 ≤ 9) (hr1 : 0 ≤ a2 ∧ a2 ≤ 4) (Q : zQ) (h : ∀ (v : Int) (w' : zW), CI ρ w' → wfR [51] ρ w w' → (v = 0 ∨ v = 1) → Q (some (.int (Int32.ofInt v))) w') : zCl zTab (d + 5) iX2_isReaderAt [.ref p, .int (Int32.ofInt a1), .int (Int32.ofInt a2)] w 0 0 Q := by
  refine zCl_i (M := kX2_isReaderAt) rfl (Nat.le_of_ble_eq_true rfl) fun R hR => ?_
  have fr0 := wfR_rf [51] ρ w
  refine hR (?_ : R (_, _, _, _, _, _))
  obtain ⟨y0_1, x1_1, x2_1, x3_1, hO1, hk1_0, hk1_1, hk1_2, hk1_3, hk1_4, hk1_5, hk1_6, hk1_7, hk1_8, hk1_9⟩ := CI_o70 hw hρp
  refine hR (c_get hO1 rfl ?_)
  refine hR (?_ : R (_, _, _, _, _, _))
  refine hR (c_ald hw (by rw [hk1_4]; rfl) (by omega) (by omega) (Nat.le_of_ble_eq_true rfl) fun v2 lv2 uv2 => ?_)
  refine hR (?_ : R (_, _, _, _, _, _))
  have lp7 : ∀ (N : Nat) (x : Int) (o4_7 : Option Value) (w_7 : zW), (zc2 o4_7 = false) → (CI ρ w_7) → (wfR [51] ρ w w_7) → (zix w_7 p = some (.inr (2, [va_rf y0_1, .int (Int32.ofInt x1_1), .int (Int32.ofInt x2_1), .int (Int32.ofInt x3_1), .ref (p + 1), .ref (p + 2), .ref (p + 3), .ref (p + 4), .ref (p + 5), .ref (p + 6)]))) → (nn w_7 p) → (0 ≤ x ∧ x ≤ 25750) → (25751 - x < N) → R (7, [some (.ref p), some (.int (Int32.ofInt a1)), some (.int (Int32.ofInt a2)), some (.int (Int32.ofInt x)), o4_7], [], w_7, 0, 0) := by
    intro N
    induction N with
    | zero => intros; omega
    | succ N ih7 =>
      intro x o4_7 w_7 hzo4_7 hw_7 fr_7 hOp_7 hnp_7 hf0_7 hN7
      iterate 2 refine hR (?_ : R (_, _, _, _, _, _))
      refine hR (c_get hOp_7 rfl ?_)
      iterate 2 refine hR (?_ : R (_, _, _, _, _, _))
      refine hR (t_add ?_)
      refine hR (c_ald hw_7 (by rw [hk1_4]; rfl) (by omega) (by omega) (Nat.le_of_ble_eq_true rfl) fun v3 lv3 uv3 => ?_)
      refine hR (j_ge (by omega) (by omega) (fun hc4 => ?_) (fun hc4 => ?_))
      · skip
        refine hR (?_ : R (_, _, _, _, _, _))
        exact hR (zret_i rfl (Nat.le_refl _) (zbo (by omega)) (h _ _ hw_7 fr_7 (by omega)))
      refine hR (?_ : R (_, _, _, _, _, _))
      refine hR (c_get hOp_7 rfl ?_)
      refine hR (?_ : R (_, _, _, _, _, _))
      refine hR (c_get hOp_7 rfl ?_)
      obtain ⟨z5, rfl⟩ := nn_some hnp_7 hOp_7
      have hz5 : ρ z5 = 50 := hk1_0 z5 rfl
      iterate 2 refine hR (?_ : R (_, _, _, _, _, _))
      refine hR (c_get hOp_7 rfl ?_)
      refine hR (?_ : R (_, _, _, _, _, _))
      refine hR (c_ald hw_7 (by rw [hk1_6]; rfl) (by omega) (by omega) (Nat.le_of_ble_eq_true rfl) fun v6 lv6 uv6 => ?_)
      obtain ⟨z0_10, z2_10, z3_10, hO10, hk10_0, hk10_1, hk10_2, hk10_3, hk10_4⟩ := CI_o50 hw_7 hz5
      refine hR (c_obj hO10 (zcall_i 0 0 (Nat.le_of_ble_eq_true rfl) (Nat.le_of_ble_eq_true rfl) (c_after _ z5 a2 v6 hw_7 hz5 (by omega) (by omega) _ fun v7 w8 hw8 g8 hp9 => ?_)))
      have fr11 := wfR_tr fr_7 g8 (by decide)
      have hn12 := nn_eq (g8.2 p (by rw [hρp]; decide)) hnp_7
      have hO13 := (g8.2 p (by rw [hρp]; decide)).trans hOp_7
      have hO14 := (g8.2 z5 (by rw [hz5]; decide)).trans hO10
      refine (?_ : R (_, _, (.int (Int32.ofInt v7)) :: (.ref (p + 6)) :: [], w8, 0, 0))
      refine hR (c_ald hw8 (by rw [hk1_9]; rfl) (by omega) (by omega) (Nat.le_of_ble_eq_true rfl) fun v15 lv15 uv15 => ?_)
      iterate 3 refine hR (?_ : R (_, _, _, _, _, _))
      refine hR (j_eq (by omega) (by omega) (fun hc16 => ?_) (fun hc16 => ?_))
      · skip
        refine hR (t_inc ?_)
        refine hR (?_ : R (_, _, _, _, _, _))
        exact ih7 _ _ _ (by rfl) hw8 fr11 hO13 hn12 (by omega) (by omega)
      refine hR (?_ : R (_, _, _, _, _, _))
      refine hR (c_get hO13 rfl ?_)
      refine hR (?_ : R (_, _, _, _, _, _))
      refine hR (c_ald hw8 (by rw [hk1_8]; rfl) (by omega) (by omega) (Nat.le_of_ble_eq_true rfl) fun v17 lv17 uv17 => ?_)
      refine hR (j_any ?_ ?_)
      rotate_left
      · skip
        refine hR (?_ : R (_, _, _, _, _, _))
        exact hR (zret_i rfl (Nat.le_refl _) (zbo (by omega)) (h _ _ hw8 fr11 (by omega)))
      refine hR (t_inc ?_)
      refine hR (?_ : R (_, _, _, _, _, _))
      exact ih7 _ _ _ (by rfl) hw8 fr11 hO13 hn12 (by omega) (by omega)
  exact lp7 400000000 _ _ _ (by rfl) hw fr0 hO1 hnp (by omega) (by omega)
theorem c_onlyReaderAt {ρ : Nat → Nat} {w : zW} (d : Nat) (p : Nat) (a1 : Int) (hw : CI ρ w) (hρp : ρ p = 70) (hnp : nn w p) (hr0 : 0 ≤ a1 ∧ a1 ≤ 8) (Q : zQ) (h : ∀ (v : Int) (w' : zW), CI ρ w' → wfR [51, 76] ρ w w' → (-2147483648 ≤ v ∧ v ≤ 2147483647) → Q (some (.int (Int32.ofInt v))) w') : zCl zTab (d + 6) iX2_onlyReaderAt [.ref p, .int (Int32.ofInt a1)] w 0 0 Q := by
  refine zCl_i (M := kX2_onlyReaderAt) rfl (Nat.le_of_ble_eq_true rfl) fun R hR => ?_
  have fr0 := wfR_rf [51, 76] ρ w
  iterate 5 refine hR (?_ : R (_, _, _, _, _, _))
  refine hR (t_add ?_)
  obtain ⟨y0_2, x1_2, x2_2, x3_2, hO2, hk2_0, hk2_1, hk2_2, hk2_3, hk2_4, hk2_5, hk2_6, hk2_7, hk2_8, hk2_9⟩ := CI_o70 hw hρp
  refine hR (c_obj hO2 (zcall_i 0 0 (Nat.le_of_ble_eq_true rfl) (Nat.le_of_ble_eq_true rfl) (c_recall _ p (a1 + 1) hw hρp (by omega) _ fun w1 hw1 g1 => ?_)))
  have fr3 := wfR_tr fr0 g1 (by decide)
  have hn4 := nn_eq (g1.2 p (by rw [hρp]; decide)) hnp
  have hO5 := (g1.2 p (by rw [hρp]; decide)).trans hO2
  refine (?_ : R (_, _, [], w1, 0, 0))
  iterate 2 refine hR (?_ : R (_, _, _, _, _, _))
  have lp11 : ∀ (N : Nat) (on : Int) (r : Int) (w_11 : zW), (CI ρ w_11) → (wfR [51, 76] ρ w w_11) → (zix w_11 p = some (.inr (2, [va_rf y0_2, .int (Int32.ofInt x1_2), .int (Int32.ofInt x2_2), .int (Int32.ofInt x3_2), .ref (p + 1), .ref (p + 2), .ref (p + 3), .ref (p + 4), .ref (p + 5), .ref (p + 6)]))) → (nn w_11 p) → (-1 ≤ on ∧ on ≤ 4) → (0 ≤ r ∧ r ≤ 5) → (6 - r < N) → R (11, [some (.ref p), some (.int (Int32.ofInt a1)), some (.int (Int32.ofInt on)), some (.int (Int32.ofInt r))], [], w_11, 0, 0) := by
    intro N
    induction N with
    | zero => intros; omega
    | succ N ih11 =>
      intro on r w_11 hw_11 fr_11 hOp_11 hnp_11 hf0_11 hf1_11 hN11
      iterate 2 refine hR (?_ : R (_, _, _, _, _, _))
      refine hR (c_get hOp_11 rfl ?_)
      obtain ⟨z6, rfl⟩ := nn_some hnp_11 hOp_11
      have hz6 : ρ z6 = 50 := hk2_0 z6 rfl
      obtain ⟨z0_7, z2_7, z3_7, hO7, hk7_0, hk7_1, hk7_2, hk7_3, hk7_4⟩ := CI_o50 hw_11 hz6
      refine hR (c_get hO7 rfl ?_)
      obtain ⟨x0_8, x1_8, x2_8, hO8, hk8_0, hk8_1, hk8_2, hk8_3, hk8_4, hk8_5, hk8_6⟩ := CI_o20 hw_11 hk7_0
      refine hR (c_get hO8 rfl ?_)
      refine hR (j_ge (by omega) (by omega) (fun hc9 => ?_) (fun hc9 => ?_))
      · skip
        iterate 3 refine hR (?_ : R (_, _, _, _, _, _))
        refine hR (t_add ?_)
        refine hR (c_obj hOp_11 (zcall_i 0 0 (Nat.le_of_ble_eq_true rfl) (Nat.le_of_ble_eq_true rfl) (c_forget _ p (a1 + 1) hw_11 hρp (by omega) _ fun w10 hw10 g10 => ?_)))
        have fr11 := wfR_tr fr_11 g10 (by decide)
        have hn12 := nn_eq (g10.2 p (by rw [hρp]; decide)) hnp_11
        have hO13 := (g10.2 p (by rw [hρp]; decide)).trans hOp_11
        have hO14 := (g10.2 z6 (by rw [hz6]; decide)).trans hO7
        have hO15 := (g10.2 z0_7 (by rw [hk7_0]; decide)).trans hO8
        refine (?_ : R (_, _, [], w10, 0, 0))
        refine hR (?_ : R (_, _, _, _, _, _))
        exact hR (zret_i rfl (Nat.le_refl _) trivial (h _ _ hw10 fr11 (by omega)))
      iterate 3 refine hR (?_ : R (_, _, _, _, _, _))
      refine hR (c_obj hOp_11 (zcall_i 0 0 (Nat.le_of_ble_eq_true rfl) (Nat.le_of_ble_eq_true rfl) (c_isReaderAt _ p a1 r hw_11 hρp hnp_11 (by omega) (by omega) _ fun v16 w17 hw17 g17 hp18 => ?_)))
      have fr19 := wfR_tr fr_11 g17 (by decide)
      have hn20 := nn_eq (g17.2 p (by rw [hρp]; decide)) hnp_11
      have hO21 := (g17.2 p (by rw [hρp]; decide)).trans hOp_11
      have hO22 := (g17.2 z6 (by rw [hz6]; decide)).trans hO7
      have hO23 := (g17.2 z0_7 (by rw [hk7_0]; decide)).trans hO8
      refine (?_ : R (_, _, (.int (Int32.ofInt v16)) :: [], w17, 0, 0))
      refine hR (k_eq (by omega) (fun hc24 => ?_) (fun hc24 => ?_))
      · skip
        refine hR (t_inc ?_)
        refine hR (?_ : R (_, _, _, _, _, _))
        exact ih11 _ _ _ hw17 fr19 hO21 hn20 (by omega) (by omega) (by omega)
      iterate 2 refine hR (?_ : R (_, _, _, _, _, _))
      refine hR (j_eq (by omega) (by omega) (fun hc25 => ?_) (fun hc25 => ?_))
      · skip
        iterate 2 refine hR (?_ : R (_, _, _, _, _, _))
        refine hR (t_inc ?_)
        refine hR (?_ : R (_, _, _, _, _, _))
        exact ih11 _ _ _ hw17 fr19 hO21 hn20 (by omega) (by omega) (by omega)
      iterate 3 refine hR (?_ : R (_, _, _, _, _, _))
      refine hR (t_add ?_)
      refine hR (c_obj hO21 (zcall_i 0 0 (Nat.le_of_ble_eq_true rfl) (Nat.le_of_ble_eq_true rfl) (c_forget _ p (a1 + 1) hw17 hρp (by omega) _ fun w26 hw26 g26 => ?_)))
      have fr27 := wfR_tr fr19 g26 (by decide)
      have hn28 := nn_eq (g26.2 p (by rw [hρp]; decide)) hn20
      have hO29 := (g26.2 p (by rw [hρp]; decide)).trans hO21
      have hO30 := (g26.2 z6 (by rw [hz6]; decide)).trans hO22
      have hO31 := (g26.2 z0_7 (by rw [hk7_0]; decide)).trans hO23
      refine (?_ : R (_, _, [], w26, 0, 0))
      refine hR (?_ : R (_, _, _, _, _, _))
      exact hR (zret_i rfl (Nat.le_refl _) trivial (h _ _ hw26 fr27 (by omega)))
  exact lp11 400000000 _ _ _ hw1 fr3 hO5 hn4 (by omega) (by omega) (by omega)
