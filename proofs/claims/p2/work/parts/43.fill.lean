theorem c_fillBehind {ρ : Nat → Nat} {w : zW} (d : Nat) (p : Nat) (a1 : Int) (s0 s1 : Int) (gs : Nat → Int32) (hw : CI ρ w) (hρp : ρ p = 70) (hnp : nn w p) (hr0 : 0 ≤ a1 ∧ a1 ≤ 8) (hr1 : zix w (p + 1) = some (.inl (1, 11, .inl gs))) (hr2 : (gs a1.toNat).toInt = s0) (hr3 : (gs (a1 + 1).toNat).toInt = s1) (hr4 : 0 ≤ s0 ∧ s0 ≤ s1 ∧ s1 ≤ 25750) (Q : zQ) (h : ∀ (v : Int) (w' : zW), CI ρ w' → wfR [51, 73, 74, 76] ρ w w' → (s1 ≤ v ∧ v ≤ 25750 ∧ v - s1 ≤ 5 * (s1 - s0)) → (v - s1 ≤ 5461) → Q (some (.int (Int32.ofInt v))) w') : zCl zTab (d + 5) iX2_fillBehind [.ref p, .int (Int32.ofInt a1)] w 0 0 Q := by
  refine zCl_i (M := kX2_fillBehind) rfl (Nat.le_of_ble_eq_true rfl) fun R hR => ?_
  have fr0 := wfR_rf [51, 73, 74, 76] ρ w
  refine hR (?_ : R (_, _, _, _, _, _))
  obtain ⟨y0_1, x1_1, x2_1, x3_1, hO1, hk1_0, hk1_1, hk1_2, hk1_3, hk1_4, hk1_5, hk1_6, hk1_7, hk1_8, hk1_9⟩ := CI_o70 hw hρp
  refine hR (c_get hO1 rfl ?_)
  iterate 2 refine hR (?_ : R (_, _, _, _, _, _))
  refine hR (t_add ?_)
  refine hR (c_aldE ((fr0.2 (p + 1) (by rw [hk1_4]; decide)).trans hr1) (by omega) (by omega) (Nat.le_of_ble_eq_true rfl) fun v2 e3 rv2 => ?_)
  rw [hr3] at e3
  have e3x := e3.symm
  subst e3x
  iterate 2 refine hR (?_ : R (_, _, _, _, _, _))
  refine hR (c_get hO1 rfl ?_)
  refine hR (?_ : R (_, _, _, _, _, _))
  refine hR (c_aldE ((fr0.2 (p + 1) (by rw [hk1_4]; decide)).trans hr1) (by omega) (by omega) (Nat.le_of_ble_eq_true rfl) fun v4 e5 rv4 => ?_)
  rw [hr2] at e5
  have e5x := e5.symm
  subst e5x
  refine hR (?_ : R (_, _, _, _, _, _))
  have lp16 : ∀ (N : Nat) (en : Int) (x : Int) (o4_16 : Option Value) (o5_16 : Option Value) (w_16 : zW), (zc2 o4_16 = false) → (zc2 o5_16 = false) → (CI ρ w_16) → (wfR [51, 73, 74, 76] ρ w w_16) → (zix w_16 p = some (.inr (2, [va_rf y0_1, .int (Int32.ofInt x1_1), .int (Int32.ofInt x2_1), .int (Int32.ofInt x3_1), .ref (p + 1), .ref (p + 2), .ref (p + 3), .ref (p + 4), .ref (p + 5), .ref (p + 6)]))) → (nn w_16 p) → (0 ≤ en ∧ en ≤ 25750) → (0 ≤ x ∧ x ≤ 25750) → (s0 ≤ x ∧ x ≤ s1 ∧ s1 ≤ en ∧ en ≤ s1 + 5 * (x - s0)) → (INJ w_16 p s1 en) → (25751 - x < N) → R (16, [some (.ref p), some (.int (Int32.ofInt a1)), some (.int (Int32.ofInt en)), some (.int (Int32.ofInt x)), o4_16, o5_16], [], w_16, 0, 0) := by
    intro N
    induction N with
    | zero => intros; omega
    | succ N ih16 =>
      intro en x o4_16 o5_16 w_16 hzo4_16 hzo5_16 hw_16 fr_16 hOp_16 hnp_16 hf0_16 hf1_16 hp0_16 hp1_16 hN16
      iterate 2 refine hR (?_ : R (_, _, _, _, _, _))
      refine hR (c_get hOp_16 rfl ?_)
      iterate 2 refine hR (?_ : R (_, _, _, _, _, _))
      refine hR (t_add ?_)
      refine hR (c_aldE ((fr_16.2 (p + 1) (by rw [hk1_4]; decide)).trans hr1) (by omega) (by omega) (Nat.le_of_ble_eq_true rfl) fun v6 e7 rv6 => ?_)
      rw [hr3] at e7
      have e7x := e7.symm
      subst e7x
      refine hR (j_ge (by omega) (by omega) (fun hc8 => ?_) (fun hc8 => ?_))
      · skip
        refine hR (?_ : R (_, _, _, _, _, _))
        exact hR (zret_i rfl (Nat.le_refl _) trivial (h _ _ hw_16 fr_16 (by omega) (INJ_le hw_16 hk1_6 (by omega) hp1_16)))
      iterate 2 refine hR (?_ : R (_, _, _, _, _, _))
      have lp31 : ∀ (N : Nat) (en2 : Int) (r : Int) (o5_31 : Option Value) (w_31 : zW), (zc2 o5_31 = false) → (CI ρ w_31) → (wfR [51, 73, 74, 76] ρ w w_31) → (zix w_31 p = some (.inr (2, [va_rf y0_1, .int (Int32.ofInt x1_1), .int (Int32.ofInt x2_1), .int (Int32.ofInt x3_1), .ref (p + 1), .ref (p + 2), .ref (p + 3), .ref (p + 4), .ref (p + 5), .ref (p + 6)]))) → (nn w_31 p) → (0 ≤ en2 ∧ en2 ≤ 25750) → (0 ≤ r ∧ r ≤ 5) → (s1 ≤ en2 ∧ en2 ≤ s1 + 5 * (x - s0) + r) → (INJ w_31 p s1 en2) → (6 - r < N) → R (31, [some (.ref p), some (.int (Int32.ofInt a1)), some (.int (Int32.ofInt en2)), some (.int (Int32.ofInt x)), some (.int (Int32.ofInt r)), o5_31], [], w_31, 0, 0) := by
        intro N
        induction N with
        | zero => intros; omega
        | succ N ih31 =>
          intro en2 r o5_31 w_31 hzo5_31 hw_31 fr_31 hOp_31 hnp_31 hf0_31 hf1_31 hp0_31 hp1_31 hN31
          iterate 2 refine hR (?_ : R (_, _, _, _, _, _))
          refine hR (c_get hOp_31 rfl ?_)
          obtain ⟨z9, rfl⟩ := nn_some hnp_31 hOp_31
          have hz9 : ρ z9 = 50 := hk1_0 z9 rfl
          obtain ⟨z0_10, z2_10, z3_10, hO10, hk10_0, hk10_1, hk10_2, hk10_3, hk10_4⟩ := CI_o50 hw_31 hz9
          refine hR (c_get hO10 rfl ?_)
          obtain ⟨x0_11, x1_11, x2_11, hO11, hk11_0, hk11_1, hk11_2, hk11_3, hk11_4, hk11_5, hk11_6⟩ := CI_o20 hw_31 hk10_0
          refine hR (c_get hO11 rfl ?_)
          refine hR (j_ge (by omega) (by omega) (fun hc12 => ?_) (fun hc12 => ?_))
          · skip
            refine hR (t_inc ?_)
            refine hR (?_ : R (_, _, _, _, _, _))
            exact ih16 _ _ _ _ _ (by rfl) hzo5_31 hw_31 fr_31 hOp_31 hnp_31 (by omega) (by omega) (by omega) hp1_31 (by omega)
          iterate 2 refine hR (?_ : R (_, _, _, _, _, _))
          refine hR (c_obj hOp_31 (zcall_i 0 0 (Nat.le_of_ble_eq_true rfl) (Nat.le_of_ble_eq_true rfl) (c_onesAt _ p a1 hw_31 hρp (by omega) _ fun v13 hp15 => ?_)))
          refine (?_ : R (_, _, (.int (Int32.ofInt v13)) :: [], w_31, 0, 0))
          refine hR (?_ : R (_, _, _, _, _, _))
          refine hR (zcall_i 0 0 (Nat.le_of_ble_eq_true rfl) (Nat.le_of_ble_eq_true rfl) (c_isIn _ _ v13 r _ fun v16 hp18 => ?_))
          refine (?_ : R (_, _, (.int (Int32.ofInt v16)) :: [], w_31, 0, 0))
          refine hR (k_ne (by omega) (fun hc19 => ?_) (fun hc19 => ?_))
          rotate_left
          · skip
            refine hR (?_ : R (_, _, _, _, _, _))
            refine hR (t_inc ?_)
            refine hR (?_ : R (_, _, _, _, _, _))
            exact ih31 _ _ _ _ hzo5_31 hw_31 fr_31 hOp_31 hnp_31 (by omega) (by omega) (by omega) hp1_31 (by omega)
          refine hR (?_ : R (_, _, _, _, _, _))
          refine hR (c_get hOp_31 rfl ?_)
          iterate 2 refine hR (?_ : R (_, _, _, _, _, _))
          refine hR (c_get hOp_31 rfl ?_)
          refine hR (?_ : R (_, _, _, _, _, _))
          refine hR (c_ald hw_31 (by rw [hk1_6]; rfl) (by omega) (by omega) (Nat.le_of_ble_eq_true rfl) fun v20 lv20 uv20 => ?_)
          refine hR (c_obj hO10 (zcall_i 0 0 (Nat.le_of_ble_eq_true rfl) (Nat.le_of_ble_eq_true rfl) (c_after _ z9 r v20 hw_31 hz9 (by omega) (by omega) _ fun v21 w22 hw22 g22 hp23 => ?_)))
          have fr24 := wfR_tr fr_31 g22 (by decide)
          have hn25 := nn_eq (g22.2 p (by rw [hρp]; decide)) hnp_31
          have hO26 := (g22.2 p (by rw [hρp]; decide)).trans hOp_31
          have hO27 := (g22.2 z9 (by rw [hz9]; decide)).trans hO10
          have hO28 := (g22.2 z0_10 (by rw [hk10_0]; decide)).trans hO11
          refine (?_ : R (_, _, (.int (Int32.ofInt v21)) :: [], w22, 0, 0))
          have J29 := INJ_eq (g22.2 (p + 3) (by rw [hk1_6]; decide)) (g22.2 (p + 6) (by rw [hk1_9]; decide)) hp1_31
          iterate 2 refine hR (?_ : R (_, _, _, _, _, _))
          refine hR (c_get hO26 rfl ?_)
          refine hR (?_ : R (_, _, _, _, _, _))
          obtain ⟨ge31, hge31, hBe31⟩ := CI_ar hw22 (q := p + 6) (by rw [hk1_9]; rfl)
          refine hR (c_aldE hge31 (by omega) (by omega) (Nat.le_of_ble_eq_true rfl) fun v30 e31 rv30 => ?_)
          have bv30 : (-1) ≤ v30 ∧ v30 ≤ 25749 := by rw [e31]; exact hBe31 _
          refine hR (?_ : R (_, _, _, _, _, _))
          refine hR (j_ne (by omega) (by omega) (fun hc32 => ?_) (fun hc32 => ?_))
          · skip
            refine hR (?_ : R (_, _, _, _, _, _))
            refine hR (c_get hO26 rfl ?_)
            refine hR (?_ : R (_, _, _, _, _, _))
            obtain ⟨ge34, hge34, hBe34⟩ := CI_ar hw22 (q := p + 6) (by rw [hk1_9]; rfl)
            refine hR (c_aldE hge34 (by omega) (by omega) (Nat.le_of_ble_eq_true rfl) fun v33 e34 rv33 => ?_)
            have bv33 : (-1) ≤ v33 ∧ v33 ≤ 25749 := by rw [e34]; exact hBe34 _
            refine hR (?_ : R (_, _, _, _, _, _))
            refine hR (j_eq (by omega) (by omega) (fun hc35 => ?_) (fun hc35 => ?_))
            · skip
              refine hR (t_inc ?_)
              refine hR (?_ : R (_, _, _, _, _, _))
              exact ih31 _ _ _ _ (by rfl) hw22 fr24 hO26 hn25 (by omega) (by omega) (by omega) J29 (by omega)
            refine hR (?_ : R (_, _, _, _, _, _))
            refine hR (c_get hO26 rfl ?_)
            refine hR (?_ : R (_, _, _, _, _, _))
            refine hR (c_get hO26 rfl ?_)
            refine hR (?_ : R (_, _, _, _, _, _))
            refine hR (c_aldE hge34 (by omega) (by omega) (Nat.le_of_ble_eq_true rfl) fun v37 e38 rv37 => ?_)
            obtain rfl : v37 = v33 := e38.trans e34.symm
            refine hR (?_ : R (_, _, _, _, _, _))
            refine hR (c_ald hw22 (by rw [hk1_7]; rfl) (by omega) (by omega) (Nat.le_of_ble_eq_true rfl) fun v39 lv39 uv39 => ?_)
            refine hR (?_ : R (_, _, _, _, _, _))
            refine hR (c_get hO26 rfl ?_)
            refine hR (?_ : R (_, _, _, _, _, _))
            refine hR (c_ald hw22 (by rw [hk1_7]; rfl) (by omega) (by omega) (Nat.le_of_ble_eq_true rfl) fun v40 lv40 uv40 => ?_)
            refine hR (t_o fun v41 rv41 => ?_)
            refine hR (c_astx hw22 (by rw [hk1_7]; rfl) ⟨by rw [hk1_7]; decide, by rw [hk1_7]; decide⟩ (by omega) (by omega) (Nat.le_of_ble_eq_true rfl) fun w42 hw42 f42 => ?_)
            have fr43 := wfR_st fr24 f42 (by rw [hk1_7]; decide)
            have hn44 := nn_eq (f42.2 p (rne hρp hk1_7 (by decide))) hn25
            have hO45 := (f42.2 p (rne hρp hk1_7 (by decide))).trans hO26
            have hO46 := (f42.2 z9 (rne hz9 hk1_7 (by decide))).trans hO27
            have hO47 := (f42.2 z0_10 (rne hk10_0 hk1_7 (by decide))).trans hO28
            have J48 := INJ_eq (f42.2 (p + 3) (by omega)) (f42.2 (p + 6) (by omega)) J29
            refine hR (t_inc ?_)
            refine hR (?_ : R (_, _, _, _, _, _))
            exact ih31 _ _ _ _ (by rfl) hw42 fr43 hO45 hn44 (by omega) (by omega) (by omega) J48 (by omega)
          iterate 3 refine hR (?_ : R (_, _, _, _, _, _))
          refine hR (t_add ?_)
          refine hR (?_ : R (_, _, _, _, _, _))
          refine hR (c_obj hO26 (zcall_i 0 0 (Nat.le_of_ble_eq_true rfl) (Nat.le_of_ble_eq_true rfl) (c_isWanted _ p (a1 + 1) v21 hw22 hρp (by omega) (by omega) _ fun v49 hp51 => ?_)))
          refine (?_ : R (_, _, (.int (Int32.ofInt v49)) :: [], w22, 0, 0))
          refine hR (k_eq (by omega) (fun hc52 => ?_) (fun hc52 => ?_))
          · skip
            refine hR (?_ : R (_, _, _, _, _, _))
            refine hR (c_get hO26 rfl ?_)
            refine hR (?_ : R (_, _, _, _, _, _))
            obtain ⟨ge54, hge54, hBe54⟩ := CI_ar hw22 (q := p + 6) (by rw [hk1_9]; rfl)
            refine hR (c_aldE hge54 (by omega) (by omega) (Nat.le_of_ble_eq_true rfl) fun v53 e54 rv53 => ?_)
            have bv53 : (-1) ≤ v53 ∧ v53 ≤ 25749 := by rw [e54]; exact hBe54 _
            refine hR (?_ : R (_, _, _, _, _, _))
            refine hR (j_eq (by omega) (by omega) (fun hc55 => ?_) (fun hc55 => ?_))
            · skip
              refine hR (t_inc ?_)
              refine hR (?_ : R (_, _, _, _, _, _))
              exact ih31 _ _ _ _ (by rfl) hw22 fr24 hO26 hn25 (by omega) (by omega) (by omega) J29 (by omega)
            refine hR (?_ : R (_, _, _, _, _, _))
            refine hR (c_get hO26 rfl ?_)
            refine hR (?_ : R (_, _, _, _, _, _))
            refine hR (c_get hO26 rfl ?_)
            refine hR (?_ : R (_, _, _, _, _, _))
            refine hR (c_aldE hge54 (by omega) (by omega) (Nat.le_of_ble_eq_true rfl) fun v57 e58 rv57 => ?_)
            obtain rfl : v57 = v53 := e58.trans e54.symm
            refine hR (?_ : R (_, _, _, _, _, _))
            refine hR (c_ald hw22 (by rw [hk1_7]; rfl) (by omega) (by omega) (Nat.le_of_ble_eq_true rfl) fun v59 lv59 uv59 => ?_)
            refine hR (?_ : R (_, _, _, _, _, _))
            refine hR (c_get hO26 rfl ?_)
            refine hR (?_ : R (_, _, _, _, _, _))
            refine hR (c_ald hw22 (by rw [hk1_7]; rfl) (by omega) (by omega) (Nat.le_of_ble_eq_true rfl) fun v60 lv60 uv60 => ?_)
            refine hR (t_o fun v61 rv61 => ?_)
            refine hR (c_astx hw22 (by rw [hk1_7]; rfl) ⟨by rw [hk1_7]; decide, by rw [hk1_7]; decide⟩ (by omega) (by omega) (Nat.le_of_ble_eq_true rfl) fun w62 hw62 f62 => ?_)
            have fr63 := wfR_st fr24 f62 (by rw [hk1_7]; decide)
            have hn64 := nn_eq (f62.2 p (rne hρp hk1_7 (by decide))) hn25
            have hO65 := (f62.2 p (rne hρp hk1_7 (by decide))).trans hO26
            have hO66 := (f62.2 z9 (rne hz9 hk1_7 (by decide))).trans hO27
            have hO67 := (f62.2 z0_10 (rne hk10_0 hk1_7 (by decide))).trans hO28
            have J68 := INJ_eq (f62.2 (p + 3) (by omega)) (f62.2 (p + 6) (by omega)) J29
            refine hR (t_inc ?_)
            refine hR (?_ : R (_, _, _, _, _, _))
            exact ih31 _ _ _ _ (by rfl) hw62 fr63 hO65 hn64 (by omega) (by omega) (by omega) J68 (by omega)
          refine hR (?_ : R (_, _, _, _, _, _))
          refine hR (t_c 25750 (by decide) ?_)
          refine hR (j_ge (by omega) (by omega) (fun hc69 => ?_) (fun hc69 => ?_))
          · skip
            refine hR (?_ : R (_, _, _, _, _, _))
            refine hR (c_get hO26 rfl ?_)
            refine hR (?_ : R (_, _, _, _, _, _))
            obtain ⟨ge71, hge71, hBe71⟩ := CI_ar hw22 (q := p + 6) (by rw [hk1_9]; rfl)
            refine hR (c_aldE hge71 (by omega) (by omega) (Nat.le_of_ble_eq_true rfl) fun v70 e71 rv70 => ?_)
            have bv70 : (-1) ≤ v70 ∧ v70 ≤ 25749 := by rw [e71]; exact hBe71 _
            refine hR (?_ : R (_, _, _, _, _, _))
            refine hR (j_eq (by omega) (by omega) (fun hc72 => ?_) (fun hc72 => ?_))
            · skip
              refine hR (t_inc ?_)
              refine hR (?_ : R (_, _, _, _, _, _))
              exact ih31 _ _ _ _ (by rfl) hw22 fr24 hO26 hn25 (by omega) (by omega) (by omega) J29 (by omega)
            refine hR (?_ : R (_, _, _, _, _, _))
            refine hR (c_get hO26 rfl ?_)
            refine hR (?_ : R (_, _, _, _, _, _))
            refine hR (c_get hO26 rfl ?_)
            refine hR (?_ : R (_, _, _, _, _, _))
            refine hR (c_aldE hge71 (by omega) (by omega) (Nat.le_of_ble_eq_true rfl) fun v74 e75 rv74 => ?_)
            obtain rfl : v74 = v70 := e75.trans e71.symm
            refine hR (?_ : R (_, _, _, _, _, _))
            refine hR (c_ald hw22 (by rw [hk1_7]; rfl) (by omega) (by omega) (Nat.le_of_ble_eq_true rfl) fun v76 lv76 uv76 => ?_)
            refine hR (?_ : R (_, _, _, _, _, _))
            refine hR (c_get hO26 rfl ?_)
            refine hR (?_ : R (_, _, _, _, _, _))
            refine hR (c_ald hw22 (by rw [hk1_7]; rfl) (by omega) (by omega) (Nat.le_of_ble_eq_true rfl) fun v77 lv77 uv77 => ?_)
            refine hR (t_o fun v78 rv78 => ?_)
            refine hR (c_astx hw22 (by rw [hk1_7]; rfl) ⟨by rw [hk1_7]; decide, by rw [hk1_7]; decide⟩ (by omega) (by omega) (Nat.le_of_ble_eq_true rfl) fun w79 hw79 f79 => ?_)
            have fr80 := wfR_st fr24 f79 (by rw [hk1_7]; decide)
            have hn81 := nn_eq (f79.2 p (rne hρp hk1_7 (by decide))) hn25
            have hO82 := (f79.2 p (rne hρp hk1_7 (by decide))).trans hO26
            have hO83 := (f79.2 z9 (rne hz9 hk1_7 (by decide))).trans hO27
            have hO84 := (f79.2 z0_10 (rne hk10_0 hk1_7 (by decide))).trans hO28
            have J85 := INJ_eq (f79.2 (p + 3) (by omega)) (f79.2 (p + 6) (by omega)) J29
            refine hR (t_inc ?_)
            refine hR (?_ : R (_, _, _, _, _, _))
            exact ih31 _ _ _ _ (by rfl) hw79 fr80 hO82 hn81 (by omega) (by omega) (by omega) J85 (by omega)
          refine hR (?_ : R (_, _, _, _, _, _))
          refine hR (c_get hO26 rfl ?_)
          iterate 2 refine hR (?_ : R (_, _, _, _, _, _))
          obtain ⟨ge87, hge87, hBe87⟩ := CI_ar hw22 (q := p + 6) (by rw [hk1_9]; rfl)
          refine hR (c_astE hw22 hge87 hBe87 (by rw [hk1_9]; rfl) ⟨by rw [hk1_9]; decide, by rw [hk1_9]; decide⟩ (by omega) (by omega) (by omega) (by omega) (Nat.le_of_ble_eq_true rfl) fun w86 hw86 f86 hs86 hb86 => ?_)
          have fr88 := wfR_st fr24 f86 (by rw [hk1_9]; decide)
          have hn89 := nn_eq (f86.2 p (rne hρp hk1_9 (by decide))) hn25
          have hO90 := (f86.2 p (rne hρp hk1_9 (by decide))).trans hO26
          have hO91 := (f86.2 z9 (rne hz9 hk1_9 (by decide))).trans hO27
          have hO92 := (f86.2 z0_10 (rne hk10_0 hk1_9 (by decide))).trans hO28
          refine hR (?_ : R (_, _, _, _, _, _))
          refine hR (c_get hO90 rfl ?_)
          iterate 2 refine hR (?_ : R (_, _, _, _, _, _))
          obtain ⟨ge94, hge94, hBe94⟩ := CI_ar hw86 (q := p + 3) (by rw [hk1_6]; rfl)
          refine hR (c_astE hw86 hge94 hBe94 (by rw [hk1_6]; rfl) ⟨by rw [hk1_6]; decide, by rw [hk1_6]; decide⟩ (by omega) (by omega) (by omega) (by omega) (Nat.le_of_ble_eq_true rfl) fun w93 hw93 f93 hs93 hb93 => ?_)
          have fr95 := wfR_st fr88 f93 (by rw [hk1_6]; decide)
          have hn96 := nn_eq (f93.2 p (rne hρp hk1_6 (by decide))) hn89
          have hO97 := (f93.2 p (rne hρp hk1_6 (by decide))).trans hO90
          have hO98 := (f93.2 z9 (rne hz9 hk1_6 (by decide))).trans hO91
          have hO99 := (f93.2 z0_10 (rne hk10_0 hk1_6 (by decide))).trans hO92
          refine hR (?_ : R (_, _, _, _, _, _))
          refine hR (c_get hO97 rfl ?_)
          iterate 2 refine hR (?_ : R (_, _, _, _, _, _))
          refine hR (c_astx hw93 (by rw [hk1_7]; rfl) ⟨by rw [hk1_7]; decide, by rw [hk1_7]; decide⟩ (by omega) (by omega) (Nat.le_of_ble_eq_true rfl) fun w100 hw100 f100 => ?_)
          have fr101 := wfR_st fr95 f100 (by rw [hk1_7]; decide)
          have hn102 := nn_eq (f100.2 p (rne hρp hk1_7 (by decide))) hn96
          have hO103 := (f100.2 p (rne hρp hk1_7 (by decide))).trans hO97
          have hO104 := (f100.2 z9 (rne hz9 hk1_7 (by decide))).trans hO98
          have hO105 := (f100.2 z0_10 (rne hk10_0 hk1_7 (by decide))).trans hO99
          have J106 := INJ_add J29 (by omega) (by omega) (by omega) (by omega) hge31 e31 (by omega) hge87 f86 hs86 hge94 f93 hs93 f100
          refine hR (t_inc ?_)
          refine hR (?_ : R (_, _, _, _, _, _))
          refine hR (c_get hO103 rfl ?_)
          refine hR (?_ : R (_, _, _, _, _, _))
          obtain ⟨ge108, hge108, hBe108⟩ := CI_ar hw100 (q := p + 6) (by rw [hk1_9]; rfl)
          refine hR (c_aldE hge108 (by omega) (by omega) (Nat.le_of_ble_eq_true rfl) fun v107 e108 rv107 => ?_)
          have bv107 : (-1) ≤ v107 ∧ v107 ≤ 25749 := by rw [e108]; exact hBe108 _
          refine hR (?_ : R (_, _, _, _, _, _))
          refine hR (j_eq (by omega) (by omega) (fun hc109 => ?_) (fun hc109 => ?_))
          · skip
            refine hR (t_inc ?_)
            refine hR (?_ : R (_, _, _, _, _, _))
            exact ih31 _ _ _ _ (by rfl) hw100 fr101 hO103 hn102 (by omega) (by omega) (by omega) J106 (by omega)
          refine hR (?_ : R (_, _, _, _, _, _))
          refine hR (c_get hO103 rfl ?_)
          refine hR (?_ : R (_, _, _, _, _, _))
          refine hR (c_get hO103 rfl ?_)
          refine hR (?_ : R (_, _, _, _, _, _))
          refine hR (c_aldE hge108 (by omega) (by omega) (Nat.le_of_ble_eq_true rfl) fun v111 e112 rv111 => ?_)
          obtain rfl : v111 = v107 := e112.trans e108.symm
          refine hR (?_ : R (_, _, _, _, _, _))
          refine hR (c_ald hw100 (by rw [hk1_7]; rfl) (by omega) (by omega) (Nat.le_of_ble_eq_true rfl) fun v113 lv113 uv113 => ?_)
          refine hR (?_ : R (_, _, _, _, _, _))
          refine hR (c_get hO103 rfl ?_)
          refine hR (?_ : R (_, _, _, _, _, _))
          refine hR (c_ald hw100 (by rw [hk1_7]; rfl) (by omega) (by omega) (Nat.le_of_ble_eq_true rfl) fun v114 lv114 uv114 => ?_)
          refine hR (t_o fun v115 rv115 => ?_)
          refine hR (c_astx hw100 (by rw [hk1_7]; rfl) ⟨by rw [hk1_7]; decide, by rw [hk1_7]; decide⟩ (by omega) (by omega) (Nat.le_of_ble_eq_true rfl) fun w116 hw116 f116 => ?_)
          have fr117 := wfR_st fr101 f116 (by rw [hk1_7]; decide)
          have hn118 := nn_eq (f116.2 p (rne hρp hk1_7 (by decide))) hn102
          have hO119 := (f116.2 p (rne hρp hk1_7 (by decide))).trans hO103
          have hO120 := (f116.2 z9 (rne hz9 hk1_7 (by decide))).trans hO104
          have hO121 := (f116.2 z0_10 (rne hk10_0 hk1_7 (by decide))).trans hO105
          have J122 := INJ_eq (f116.2 (p + 3) (by omega)) (f116.2 (p + 6) (by omega)) J106
          refine hR (t_inc ?_)
          refine hR (?_ : R (_, _, _, _, _, _))
          exact ih31 _ _ _ _ (by rfl) hw116 fr117 hO119 hn118 (by omega) (by omega) (by omega) J122 (by omega)
      exact lp31 400000000 _ _ _ _ hzo5_16 hw_16 fr_16 hOp_16 hnp_16 (by omega) (by omega) (by omega) hp1_16 (by omega)
  exact lp16 400000000 _ _ _ _ _ (by rfl) (by rfl) hw fr0 hO1 hnp (by omega) (by omega) (by omega) (INJ_0 hw hk1_6 hk1_9 s1) (by omega)
