/-! THE REFERENCE'S CIRCLES, BY PLACES. -/
theorem x_goDeepR (w : zW) (d : Nat) (a1 a2 : Int) (f0 f9 f10 f11 f12 f13 f15 f16 f17 f20 f21 f22 f23 f26 f28 f31 f32 f33 f38 f41 f44 : Int) (x14 : Int64) (g30 g33 g38 g39 : Nat → Int32) (F : Int → Int → Int) (hK0 : zix w 14 = some (.inr (11, [.int (Int32.ofInt f0), .ref 15, .ref 16, .ref 17, .ref 18, .ref 19, .ref 20, .ref 21, .ref 22, .int (Int32.ofInt f9), .int (Int32.ofInt f10), .int (Int32.ofInt f11), .int (Int32.ofInt f12), .int (Int32.ofInt f13), .long x14, .int (Int32.ofInt f15), .int (Int32.ofInt f16), .int (Int32.ofInt f17), .ref 23, .ref 24, .int (Int32.ofInt f20), .int (Int32.ofInt f21), .int (Int32.ofInt f22), .int (Int32.ofInt f23), .ref 25, .ref 26, .int (Int32.ofInt f26), .ref 27, .int (Int32.ofInt f28), .ref 28, .ref 29, .int (Int32.ofInt f31), .int (Int32.ofInt f32), .int (Int32.ofInt f33), .ref 30, .ref 31, .ref 32, .ref 33, .int (Int32.ofInt f38), .ref 34, .ref 35, .int (Int32.ofInt f41), .ref 36, .ref 37, .int (Int32.ofInt f44), .ref 38, .ref 39, .ref 40, .ref 41, .ref 42, .ref 43, .ref 44]))) (hK1 : zix w 30 = some (.inl (1, 27305, .inl g30))) (hK2 : zix w 33 = some (.inl (1, 5461, .inl g33))) (hK3 : zix w 38 = some (.inl (1, 5461, .inl g38))) (hK4 : zix w 39 = some (.inl (1, 5461, .inl g39))) (hr0 : 0 ≤ f23 ∧ f23 ≤ 5) (hr1 : 0 ≤ a1 ∧ a1 ≤ 5460) (hr2 : RMF g30 f23 F) (hr3 : GDA F f23 g39 g33 g38 a2 0) (hr4 : tBy g39 a1 = -1) (Q : zQ) (h : ∀ (v : Int) (T33 T38 T39 : Nat → Int32) (w' : zW), wfM (fun j => j ≠ 33 ∧ j ≠ 38 ∧ j ≠ 39) w w' → zix w' 33 = some (.inl (1, 5461, .inl T33)) → zix w' 38 = some (.inl (1, 5461, .inl T38)) → zix w' 39 = some (.inl (1, 5461, .inl T39)) → (GDA F f23 T39 T33 T38 v 0) → (KPD g39 T39) → (tBy T39 a1 ≠ -1) → Q (some (.int (Int32.ofInt v))) w') : zCl zTab (d + 1) iX12_goDeep [.ref 14, .int (Int32.ofInt a1), .int (Int32.ofInt a2)] w 0 0 Q := by
  refine zCl_i (M := kX12_goDeep) rfl (Nat.le_of_ble_eq_true rfl) fun R hR => ?_
  have fr0 : wfM (fun j => j ≠ 33 ∧ j ≠ 38 ∧ j ≠ 39) w w := wfM_rf _ w
  have hG := rm_ok hr2
  obtain ⟨mu0, hmu0⟩ := prd_x g39 a2
  have hgr := gda_r hr3
  have nX0 : FX (∀ j : Nat, (j ≠ 33 ∧ j ≠ 38 ∧ j ≠ 39) → j ≠ 38) := fun j hj => by omega
  have nX1 : FX (∀ j : Nat, (j ≠ 33 ∧ j ≠ 38 ∧ j ≠ 39) → j ≠ 39) := fun j hj => by omega
  have nX2 : FX (∀ j : Nat, (j ≠ 33 ∧ j ≠ 38 ∧ j ≠ 39) → j ≠ 33) := fun j hj => by omega
  iterate 5 refine hR (?_ : R (_, _, _, _, _, _))
  refine hR (c_get hK0 rfl ?_)
  iterate 2 refine hR (?_ : R (_, _, _, _, _, _))
  refine hR (x_ast hK3 (by omega) (by omega) (Nat.le_of_ble_eq_true rfl) fun w1 ff1 hC1 => ?_)
  have fr2 := wfM_st fr0 ff1 nX0
  have hC3 := (ff1.2 14 (by (try dsimp only); decide)).trans hK0
  have hC4 := (ff1.2 30 (by (try dsimp only); decide)).trans hK1
  have hC5 := (ff1.2 33 (by (try dsimp only); decide)).trans hK2
  have hC6 := (ff1.2 39 (by (try dsimp only); decide)).trans hK4
  refine hR (?_ : R (_, _, _, _, _, _))
  refine hR (c_get hC3 rfl ?_)
  iterate 2 refine hR (?_ : R (_, _, _, _, _, _))
  refine hR (x_ast hC6 (by omega) (by omega) (Nat.le_of_ble_eq_true rfl) fun w7 ff7 hC7 => ?_)
  have fr8 := wfM_st fr2 ff7 nX1
  have hC9 := (ff7.2 14 (by (try dsimp only); decide)).trans hC3
  have hC10 := (ff7.2 30 (by (try dsimp only); decide)).trans hC4
  have hC11 := (ff7.2 33 (by (try dsimp only); decide)).trans hC5
  have hC12 := (ff7.2 38 (by (try dsimp only); decide)).trans hC1
  have hG0 := gda_0 hG hr0.1 hr3 hr1 hr4
  have hP0 := prd_u (x := 0) hr1 (by exact ⟨by omega, by omega⟩) hmu0
  have hM0 := prd_b hr0 hG0 hP0
  have lp19 : ∀ (N : Nat) (dn : Int) (de : Int) (o5_19 : Option Value) (o6_19 : Option Value) (mu : Int) (O U T : Nat → Int32) (w_19 : zW), (zc2 o5_19 = false) → (zc2 o6_19 = false) → (wfM (fun j => j ≠ 33 ∧ j ≠ 38 ∧ j ≠ 39) w w_19) → (zix w_19 14 = some (.inr (11, [.int (Int32.ofInt f0), .ref 15, .ref 16, .ref 17, .ref 18, .ref 19, .ref 20, .ref 21, .ref 22, .int (Int32.ofInt f9), .int (Int32.ofInt f10), .int (Int32.ofInt f11), .int (Int32.ofInt f12), .int (Int32.ofInt f13), .long x14, .int (Int32.ofInt f15), .int (Int32.ofInt f16), .int (Int32.ofInt f17), .ref 23, .ref 24, .int (Int32.ofInt f20), .int (Int32.ofInt f21), .int (Int32.ofInt f22), .int (Int32.ofInt f23), .ref 25, .ref 26, .int (Int32.ofInt f26), .ref 27, .int (Int32.ofInt f28), .ref 28, .ref 29, .int (Int32.ofInt f31), .int (Int32.ofInt f32), .int (Int32.ofInt f33), .ref 30, .ref 31, .ref 32, .ref 33, .int (Int32.ofInt f38), .ref 34, .ref 35, .int (Int32.ofInt f41), .ref 36, .ref 37, .int (Int32.ofInt f44), .ref 38, .ref 39, .ref 40, .ref 41, .ref 42, .ref 43, .ref 44]))) → (zix w_19 30 = some (.inl (1, 27305, .inl g30))) → (zix w_19 33 = some (.inl (1, 5461, .inl O))) → (zix w_19 38 = some (.inl (1, 5461, .inl U))) → (zix w_19 39 = some (.inl (1, 5461, .inl T))) → (0 ≤ dn ∧ dn ≤ 5461) → (0 ≤ de ∧ de ≤ 5461) → (GDA F f23 T O U dn de) → (PRD T dn mu) → (0 ≤ mu ∧ mu ≤ 38227) → (KPD g39 T) → (tBy T a1 ≠ -1) → (38228 - mu < N) → R (19, [some (.ref 14), some (.int (Int32.ofInt a1)), some (.int (Int32.ofInt a2)), some (.int (Int32.ofInt dn)), some (.int (Int32.ofInt de)), o5_19, o6_19], [], w_19, 0, 0) := by
    intro N
    induction N with
    | zero => intros; omega
    | succ N ih19 =>
      intro dn de o5_19 o6_19 mu O U T w_19 hzo5_19 hzo6_19 fr_19 hC14_19 hC30_19 hC33_19 hC38_19 hC39_19 hf0_19 hf1_19 hp0_19 hp1_19 hp2_19 hp3_19 hp4_19 hN19
      refine hR (?_ : R (_, _, _, _, _, _))
      refine hR (k_le (by omega) (fun hc13 => ?_) (fun hc13 => ?_))
      · skip
        refine hR (?_ : R (_, _, _, _, _, _))
        exact hR (zret_i rfl (Nat.le_refl _) trivial (h _ _ _ _ _ fr_19 hC33_19 hC38_19 hC39_19 (gda_z hp0_19 (by omega)) hp3_19 hp4_19))
      have hgr2 := gda_r hp0_19
      have hw := gda_w hp0_19 (by omega)
      refine hR (?_ : R (_, _, _, _, _, _))
      refine hR (c_get hC14_19 rfl ?_)
      iterate 2 refine hR (?_ : R (_, _, _, _, _, _))
      refine hR (t_sub ?_)
      refine hR (c_aldE hC38_19 (by omega) (by omega) (Nat.le_of_ble_eq_true rfl) fun v14 ev14 rv14 => ?_)
      replace ev14 : v14 = tBy U (de - 1) := ev14
      subst ev14
      iterate 2 refine hR (?_ : R (_, _, _, _, _, _))
      refine hR (c_get hC14_19 rfl ?_)
      refine hR (?_ : R (_, _, _, _, _, _))
      refine hR (c_aldE hC39_19 (by omega) (by omega) (Nat.le_of_ble_eq_true rfl) fun v15 ev15 rv15 => ?_)
      replace ev15 : v15 = tBy T (tBy U (de - 1)) := ev15
      subst ev15
      refine hR (?_ : R (_, _, _, _, _, _))
      refine hR (c_get hC14_19 rfl ?_)
      refine hR (j_ne (by omega) (by omega) (fun hc16 => ?_) (fun hc16 => ?_))
      rotate_left
      · skip
        refine hR (?_ : R (_, _, _, _, _, _))
        refine hR (c_get hC14_19 rfl ?_)
        iterate 2 refine hR (?_ : R (_, _, _, _, _, _))
        refine hR (x_ast hC33_19 (by omega) (by omega) (Nat.le_of_ble_eq_true rfl) fun w41 ff41 hC41 => ?_)
        have fr42 := wfM_st fr_19 ff41 nX2
        have hC43 := (ff41.2 14 (by (try dsimp only); decide)).trans hC14_19
        have hC44 := (ff41.2 30 (by (try dsimp only); decide)).trans hC30_19
        have hC45 := (ff41.2 38 (by (try dsimp only); decide)).trans hC38_19
        have hC46 := (ff41.2 39 (by (try dsimp only); decide)).trans hC39_19
        have hGs := gda_f hG hp0_19 (by omega) rfl (by omega)
        have hPs := prd_f hp1_19
        have hMs := prd_b hr0 hGs hPs
        have hKs := hp3_19
        refine hR (t_inc ?_)
        refine hR (t_inc ?_)
        refine hR (?_ : R (_, _, _, _, _, _))
        have hKN : KPD T T := kpd_r
        refine hR (?_ : R (_, _, _, _, _, _))
        exact ih19 _ _ _ _ _ _ _ _ _ (by rfl) hzo6_19 fr42 hC43 hC44 hC41 hC45 hC46 (by omega) (by omega) hGs hPs hMs hKs (hKN a1 hr1 hp4_19) (by omega)
      refine hR (?_ : R (_, _, _, _, _, _))
      refine hR (c_get hC14_19 rfl ?_)
      refine hR (t_c 5461 (by decide) ?_)
      refine hR (?_ : R (_, _, _, _, _, _))
      refine hR (c_get hC14_19 rfl ?_)
      refine hR (?_ : R (_, _, _, _, _, _))
      refine hR (c_aldE hC39_19 (by omega) (by omega) (Nat.le_of_ble_eq_true rfl) fun v17 ev17 rv17 => ?_)
      replace ev17 : v17 = tBy T (tBy U (de - 1)) := ev17
      subst ev17
      refine hR (t_mul ?_)
      refine hR (?_ : R (_, _, _, _, _, _))
      refine hR (t_add ?_)
      refine hR (c_aldE hC30_19 (by omega) (by omega) (Nat.le_of_ble_eq_true rfl) fun v18 ev18 rv18 => ?_)
      replace ev18 : v18 = tBy g30 ((5461 * (tBy T (tBy U (de - 1)))) + (tBy U (de - 1))) := ev18
      have hf19 := rm_ld (r := (tBy T (tBy U (de - 1)))) (t := (tBy U (de - 1))) hr2 ev18 (by omega) (by omega) (by omega) (by omega)
      iterate 2 refine hR (?_ : R (_, _, _, _, _, _))
      refine hR (c_get hC14_19 rfl ?_)
      iterate 2 refine hR (?_ : R (_, _, _, _, _, _))
      refine hR (c_aldE hC39_19 (by omega) (by omega) (Nat.le_of_ble_eq_true rfl) fun v20 ev20 rv20 => ?_)
      replace ev20 : v20 = tBy T (tBy U (de - 1)) := ev20
      subst ev20
      refine hR (?_ : R (_, _, _, _, _, _))
      refine hR (t_add ?_)
      refine hR (x_ast hC39_19 (by omega) (by omega) (Nat.le_of_ble_eq_true rfl) fun w21 ff21 hC21 => ?_)
      have fr22 := wfM_st fr_19 ff21 nX1
      have hC23 := (ff21.2 14 (by (try dsimp only); decide)).trans hC14_19
      have hC24 := (ff21.2 30 (by (try dsimp only); decide)).trans hC30_19
      have hC25 := (ff21.2 33 (by (try dsimp only); decide)).trans hC33_19
      have hC26 := (ff21.2 38 (by (try dsimp only); decide)).trans hC38_19
      refine hR (?_ : R (_, _, _, _, _, _))
      refine hR (c_get hC23 rfl ?_)
      refine hR (?_ : R (_, _, _, _, _, _))
      refine hR (c_aldE hC21 (by omega) (by omega) (Nat.le_of_ble_eq_true rfl) fun v27 ev27 rv27 => ?_)
      replace ev27 : v27 = tBy (upd T (tBy U (de - 1) : Int).toNat (Int32.ofInt ((tBy T (tBy U (de - 1))) + 1))) v18 := ev27
      subst ev27
      refine hR (?_ : R (_, _, _, _, _, _))
      refine hR (j_ne (by omega) (by omega) (fun hc28 => ?_) (fun hc28 => ?_))
      · skip
        have hGs := gda_t hG hr0 hp0_19 (by omega) rfl (by omega) hf19.1 hf19.2 (by omega)
        have hPs := prd_u hw.1 (show r32 (tBy T (tBy U (de - 1)) + 1) from ⟨by omega, by omega⟩) hp1_19
        have hMs := prd_b hr0 hGs hPs
        have hKs := kpd_t hp3_19 (kpd_w hw.1.1 (show r32 (tBy T (tBy U (de - 1)) + 1) from ⟨by omega, by omega⟩) (by omega))
        have hKN : KPD T (upd T (tBy U (de - 1) : Int).toNat (Int32.ofInt ((tBy T (tBy U (de - 1))) + 1))) := (kpd_w hw.1.1 (show r32 (tBy T (tBy U (de - 1)) + 1) from ⟨by omega, by omega⟩) (by omega))
        refine hR (?_ : R (_, _, _, _, _, _))
        exact ih19 _ _ _ _ _ _ _ _ _ (by rfl) (by rfl) fr22 hC23 hC24 hC25 hC26 hC21 (by omega) (by omega) hGs hPs hMs hKs (hKN a1 hr1 hp4_19) (by omega)
      obtain ⟨hGs, hu1, hu2⟩ := gda_p hG hr0 hp0_19 (by omega) rfl (by omega) hf19.1 hf19.2 (by omega)
      have hgo := gda_o hp0_19 hu1 hf19.2
      have hPs := prd_u (x := 0) hf19.2 (show r32 0 from ⟨by omega, by omega⟩) (prd_u hw.1 (show r32 (tBy T (tBy U (de - 1)) + 1) from ⟨by omega, by omega⟩) hp1_19)
      have hMs := prd_b hr0 hGs hPs
      have hKs := kpd_t hp3_19 (kpd_t (kpd_w hw.1.1 (show r32 (tBy T (tBy U (de - 1)) + 1) from ⟨by omega, by omega⟩) (by omega)) (kpd_w (x := 0) hf19.2.1 (show r32 0 from ⟨by omega, by omega⟩) (by omega)))
      refine hR (?_ : R (_, _, _, _, _, _))
      refine hR (c_get hC23 rfl ?_)
      iterate 2 refine hR (?_ : R (_, _, _, _, _, _))
      refine hR (x_ast hC21 (by omega) (by omega) (Nat.le_of_ble_eq_true rfl) fun w29 ff29 hC29 => ?_)
      have fr30 := wfM_st fr22 ff29 nX1
      have hC31 := (ff29.2 14 (by (try dsimp only); decide)).trans hC23
      have hC32 := (ff29.2 30 (by (try dsimp only); decide)).trans hC24
      have hC33 := (ff29.2 33 (by (try dsimp only); decide)).trans hC25
      have hC34 := (ff29.2 38 (by (try dsimp only); decide)).trans hC26
      refine hR (?_ : R (_, _, _, _, _, _))
      refine hR (c_get hC31 rfl ?_)
      iterate 2 refine hR (?_ : R (_, _, _, _, _, _))
      refine hR (x_ast hC34 (by omega) (by omega) (Nat.le_of_ble_eq_true rfl) fun w35 ff35 hC35 => ?_)
      have fr36 := wfM_st fr30 ff35 nX0
      have hC37 := (ff35.2 14 (by (try dsimp only); decide)).trans hC31
      have hC38 := (ff35.2 30 (by (try dsimp only); decide)).trans hC32
      have hC39 := (ff35.2 33 (by (try dsimp only); decide)).trans hC33
      have hC40 := (ff35.2 39 (by (try dsimp only); decide)).trans hC29
      refine hR (t_inc ?_)
      have hKN : KPD T (upd (upd T (tBy U (de - 1) : Int).toNat (Int32.ofInt ((tBy T (tBy U (de - 1))) + 1))) (v18 : Int).toNat (Int32.ofInt 0)) := (kpd_t (kpd_w hw.1.1 (show r32 (tBy T (tBy U (de - 1)) + 1) from ⟨by omega, by omega⟩) (by omega)) (kpd_w (x := 0) hf19.2.1 (show r32 0 from ⟨by omega, by omega⟩) (by omega)))
      refine hR (?_ : R (_, _, _, _, _, _))
      exact ih19 _ _ _ _ _ _ _ _ _ (by rfl) (by rfl) fr36 hC37 hC38 hC39 hC35 hC40 (by omega) (by omega) hGs hPs hMs hKs (hKN a1 hr1 hp4_19) (by omega)
  exact lp19 400000000 _ _ _ _ _ _ _ _ _ (by rfl) (by rfl) fr8 hC9 hC10 hC11 hC12 hC7 (by omega) (by omega) hG0 hP0 hM0 (kpd_w hr1.1 (by exact ⟨by omega, by omega⟩) (by omega)) (kpd_x hr1.1 (by exact ⟨by omega, by omega⟩) (by omega)) (by omega)
theorem x_layBackR (w : zW) (d : Nat) (f0 f9 f10 f11 f12 f13 f15 f16 f17 f20 f21 f22 f23 f26 f28 f31 f32 f33 f38 f41 f44 : Int) (x14 : Int64) (g30 g39 g40 g41 g42 g43 : Nat → Int32) (F : Int → Int → Int) (hK0 : zix w 14 = some (.inr (11, [.int (Int32.ofInt f0), .ref 15, .ref 16, .ref 17, .ref 18, .ref 19, .ref 20, .ref 21, .ref 22, .int (Int32.ofInt f9), .int (Int32.ofInt f10), .int (Int32.ofInt f11), .int (Int32.ofInt f12), .int (Int32.ofInt f13), .long x14, .int (Int32.ofInt f15), .int (Int32.ofInt f16), .int (Int32.ofInt f17), .ref 23, .ref 24, .int (Int32.ofInt f20), .int (Int32.ofInt f21), .int (Int32.ofInt f22), .int (Int32.ofInt f23), .ref 25, .ref 26, .int (Int32.ofInt f26), .ref 27, .int (Int32.ofInt f28), .ref 28, .ref 29, .int (Int32.ofInt f31), .int (Int32.ofInt f32), .int (Int32.ofInt f33), .ref 30, .ref 31, .ref 32, .ref 33, .int (Int32.ofInt f38), .ref 34, .ref 35, .int (Int32.ofInt f41), .ref 36, .ref 37, .int (Int32.ofInt f44), .ref 38, .ref 39, .ref 40, .ref 41, .ref 42, .ref 43, .ref 44]))) (hK1 : zix w 30 = some (.inl (1, 27305, .inl g30))) (hK2 : zix w 39 = some (.inl (1, 5461, .inl g39))) (hK3 : zix w 40 = some (.inl (1, 5461, .inl g40))) (hK4 : zix w 41 = some (.inl (1, 5461, .inl g41))) (hK5 : zix w 42 = some (.inl (1, 5461, .inl g42))) (hK6 : zix w 43 = some (.inl (1, 27305, .inl g43))) (hr0 : 0 ≤ f23 ∧ f23 ≤ 5) (hr1 : RMF g30 f23 F) (Q : zQ) (h : ∀ (T39 T40 T41 T42 T43 : Nat → Int32) (w' : zW), wfM (fun j => j ≠ 39 ∧ j ≠ 40 ∧ j ≠ 41 ∧ j ≠ 42 ∧ j ≠ 43) w w' → zix w' 39 = some (.inl (1, 5461, .inl T39)) → zix w' 40 = some (.inl (1, 5461, .inl T40)) → zix w' 41 = some (.inl (1, 5461, .inl T41)) → zix w' 42 = some (.inl (1, 5461, .inl T42)) → zix w' 43 = some (.inl (1, 27305, .inl T43)) → (CZ1 T39) → (CZ1 T40) → (LST F T42 T43 (5461 * f23)) → Q (none) w') : zCl zTab (d + 1) iX12_layBack [.ref 14] w 0 0 Q := by
  refine zCl_i (M := kX12_layBack) rfl (Nat.le_of_ble_eq_true rfl) fun R hR => ?_
  have fr0 : wfM (fun j => j ≠ 39 ∧ j ≠ 40 ∧ j ≠ 41 ∧ j ≠ 42 ∧ j ≠ 43) w w := wfM_rf _ w
  have nX0 : FX (∀ j : Nat, (j ≠ 39 ∧ j ≠ 40 ∧ j ≠ 41 ∧ j ≠ 42 ∧ j ≠ 43) → j ≠ 43) := fun j hj => by omega
  have nX1 : FX (∀ j : Nat, (j ≠ 39 ∧ j ≠ 40 ∧ j ≠ 41 ∧ j ≠ 42 ∧ j ≠ 43) → j ≠ 42) := fun j hj => by omega
  have nX2 : FX (∀ j : Nat, (j ≠ 39 ∧ j ≠ 40 ∧ j ≠ 41 ∧ j ≠ 42 ∧ j ≠ 43) → j ≠ 40) := fun j hj => by omega
  have nX3 : FX (∀ j : Nat, (j ≠ 39 ∧ j ≠ 40 ∧ j ≠ 41 ∧ j ≠ 42 ∧ j ≠ 43) → j ≠ 39) := fun j hj => by omega
  have nX4 : FX (∀ j : Nat, (j ≠ 39 ∧ j ≠ 40 ∧ j ≠ 41 ∧ j ≠ 42 ∧ j ≠ 43) → j ≠ 41) := fun j hj => by omega
  iterate 2 refine hR (?_ : R (_, _, _, _, _, _))
  have lp2 : ∀ (N : Nat) (tt : Int) (A39 A40 A41 A42 : Nat → Int32) (w_2 : zW), (wfM (fun j => j ≠ 39 ∧ j ≠ 40 ∧ j ≠ 41 ∧ j ≠ 42 ∧ j ≠ 43) w w_2) → (zix w_2 14 = some (.inr (11, [.int (Int32.ofInt f0), .ref 15, .ref 16, .ref 17, .ref 18, .ref 19, .ref 20, .ref 21, .ref 22, .int (Int32.ofInt f9), .int (Int32.ofInt f10), .int (Int32.ofInt f11), .int (Int32.ofInt f12), .int (Int32.ofInt f13), .long x14, .int (Int32.ofInt f15), .int (Int32.ofInt f16), .int (Int32.ofInt f17), .ref 23, .ref 24, .int (Int32.ofInt f20), .int (Int32.ofInt f21), .int (Int32.ofInt f22), .int (Int32.ofInt f23), .ref 25, .ref 26, .int (Int32.ofInt f26), .ref 27, .int (Int32.ofInt f28), .ref 28, .ref 29, .int (Int32.ofInt f31), .int (Int32.ofInt f32), .int (Int32.ofInt f33), .ref 30, .ref 31, .ref 32, .ref 33, .int (Int32.ofInt f38), .ref 34, .ref 35, .int (Int32.ofInt f41), .ref 36, .ref 37, .int (Int32.ofInt f44), .ref 38, .ref 39, .ref 40, .ref 41, .ref 42, .ref 43, .ref 44]))) → (zix w_2 30 = some (.inl (1, 27305, .inl g30))) → (zix w_2 39 = some (.inl (1, 5461, .inl A39))) → (zix w_2 40 = some (.inl (1, 5461, .inl A40))) → (zix w_2 41 = some (.inl (1, 5461, .inl A41))) → (zix w_2 42 = some (.inl (1, 5461, .inl A42))) → (zix w_2 43 = some (.inl (1, 27305, .inl g43))) → (0 ≤ tt ∧ tt ≤ 5461) → (∀ x : Int, 0 ≤ x → x < tt → tBy A39 x = -1) → (∀ x : Int, 0 ≤ x → x < tt → tBy A40 x = -1) → (∀ x : Int, 0 ≤ x → x < tt → tBy A42 x = -1) → (5462 - tt < N) → R (2, [some (.ref 14), some (.int (Int32.ofInt tt))], [], w_2, 0, 0) := by
    intro N
    induction N with
    | zero => intros; omega
    | succ N ih2 =>
      intro tt A39 A40 A41 A42 w_2 fr_2 hC14_2 hC30_2 hC39_2 hC40_2 hC41_2 hC42_2 hC43_2 hf0_2 hp0_2 hp1_2 hp2_2 hN2
      refine hR (?_ : R (_, _, _, _, _, _))
      refine hR (t_c 5461 (by decide) ?_)
      refine hR (j_ge (by omega) (by omega) (fun hc1 => ?_) (fun hc1 => ?_))
      rotate_left
      · skip
        refine hR (?_ : R (_, _, _, _, _, _))
        refine hR (c_get hC14_2 rfl ?_)
        iterate 2 refine hR (?_ : R (_, _, _, _, _, _))
        refine hR (x_ast hC42_2 (by omega) (by omega) (Nat.le_of_ble_eq_true rfl) fun w24 ff24 hC24 => ?_)
        have fr25 := wfM_st fr_2 ff24 nX1
        have hC26 := (ff24.2 14 (by (try dsimp only); decide)).trans hC14_2
        have hC27 := (ff24.2 30 (by (try dsimp only); decide)).trans hC30_2
        have hC28 := (ff24.2 39 (by (try dsimp only); decide)).trans hC39_2
        have hC29 := (ff24.2 40 (by (try dsimp only); decide)).trans hC40_2
        have hC30 := (ff24.2 41 (by (try dsimp only); decide)).trans hC41_2
        have hC31 := (ff24.2 43 (by (try dsimp only); decide)).trans hC43_2
        refine hR (?_ : R (_, _, _, _, _, _))
        refine hR (c_get hC26 rfl ?_)
        iterate 2 refine hR (?_ : R (_, _, _, _, _, _))
        refine hR (x_ast hC29 (by omega) (by omega) (Nat.le_of_ble_eq_true rfl) fun w32 ff32 hC32 => ?_)
        have fr33 := wfM_st fr25 ff32 nX2
        have hC34 := (ff32.2 14 (by (try dsimp only); decide)).trans hC26
        have hC35 := (ff32.2 30 (by (try dsimp only); decide)).trans hC27
        have hC36 := (ff32.2 39 (by (try dsimp only); decide)).trans hC28
        have hC37 := (ff32.2 41 (by (try dsimp only); decide)).trans hC30
        have hC38 := (ff32.2 42 (by (try dsimp only); decide)).trans hC24
        have hC39 := (ff32.2 43 (by (try dsimp only); decide)).trans hC31
        refine hR (?_ : R (_, _, _, _, _, _))
        refine hR (c_get hC34 rfl ?_)
        iterate 2 refine hR (?_ : R (_, _, _, _, _, _))
        refine hR (x_ast hC36 (by omega) (by omega) (Nat.le_of_ble_eq_true rfl) fun w40 ff40 hC40 => ?_)
        have fr41 := wfM_st fr33 ff40 nX3
        have hC42 := (ff40.2 14 (by (try dsimp only); decide)).trans hC34
        have hC43 := (ff40.2 30 (by (try dsimp only); decide)).trans hC35
        have hC44 := (ff40.2 40 (by (try dsimp only); decide)).trans hC32
        have hC45 := (ff40.2 41 (by (try dsimp only); decide)).trans hC37
        have hC46 := (ff40.2 42 (by (try dsimp only); decide)).trans hC38
        have hC47 := (ff40.2 43 (by (try dsimp only); decide)).trans hC39
        refine hR (?_ : R (_, _, _, _, _, _))
        refine hR (c_get hC42 rfl ?_)
        iterate 2 refine hR (?_ : R (_, _, _, _, _, _))
        refine hR (x_ast hC45 (by omega) (by omega) (Nat.le_of_ble_eq_true rfl) fun w48 ff48 hC48 => ?_)
        have fr49 := wfM_st fr41 ff48 nX4
        have hC50 := (ff48.2 14 (by (try dsimp only); decide)).trans hC42
        have hC51 := (ff48.2 30 (by (try dsimp only); decide)).trans hC43
        have hC52 := (ff48.2 39 (by (try dsimp only); decide)).trans hC40
        have hC53 := (ff48.2 40 (by (try dsimp only); decide)).trans hC44
        have hC54 := (ff48.2 42 (by (try dsimp only); decide)).trans hC46
        have hC55 := (ff48.2 43 (by (try dsimp only); decide)).trans hC47
        refine hR (t_inc ?_)
        refine hR (?_ : R (_, _, _, _, _, _))
        exact ih2 _ _ _ _ _ _ fr49 hC50 hC51 hC52 hC53 hC48 hC54 hC55 (by omega) (fun x x0 x1 => by rw [zupI (by exact ⟨by omega, by omega⟩) (by omega) x0]; by_cases c1 : x = tt; (· rw [if_pos c1]); rw [if_neg c1]; exact hp0_2 x x0 (by omega)) (fun x x0 x1 => by rw [zupI (by exact ⟨by omega, by omega⟩) (by omega) x0]; by_cases c1 : x = tt; (· rw [if_pos c1]); rw [if_neg c1]; exact hp1_2 x x0 (by omega)) (fun x x0 x1 => by rw [zupI (by exact ⟨by omega, by omega⟩) (by omega) x0]; by_cases c1 : x = tt; (· rw [if_pos c1]); rw [if_neg c1]; exact hp2_2 x x0 (by omega)) (by omega)
      iterate 2 refine hR (?_ : R (_, _, _, _, _, _))
      have lp45 : ∀ (N : Nat) (kk : Int) (V42 V43 : Nat → Int32) (w_45 : zW), (wfM (fun j => j ≠ 39 ∧ j ≠ 40 ∧ j ≠ 41 ∧ j ≠ 42 ∧ j ≠ 43) w w_45) → (zix w_45 14 = some (.inr (11, [.int (Int32.ofInt f0), .ref 15, .ref 16, .ref 17, .ref 18, .ref 19, .ref 20, .ref 21, .ref 22, .int (Int32.ofInt f9), .int (Int32.ofInt f10), .int (Int32.ofInt f11), .int (Int32.ofInt f12), .int (Int32.ofInt f13), .long x14, .int (Int32.ofInt f15), .int (Int32.ofInt f16), .int (Int32.ofInt f17), .ref 23, .ref 24, .int (Int32.ofInt f20), .int (Int32.ofInt f21), .int (Int32.ofInt f22), .int (Int32.ofInt f23), .ref 25, .ref 26, .int (Int32.ofInt f26), .ref 27, .int (Int32.ofInt f28), .ref 28, .ref 29, .int (Int32.ofInt f31), .int (Int32.ofInt f32), .int (Int32.ofInt f33), .ref 30, .ref 31, .ref 32, .ref 33, .int (Int32.ofInt f38), .ref 34, .ref 35, .int (Int32.ofInt f41), .ref 36, .ref 37, .int (Int32.ofInt f44), .ref 38, .ref 39, .ref 40, .ref 41, .ref 42, .ref 43, .ref 44]))) → (zix w_45 30 = some (.inl (1, 27305, .inl g30))) → (zix w_45 39 = some (.inl (1, 5461, .inl A39))) → (zix w_45 40 = some (.inl (1, 5461, .inl A40))) → (zix w_45 41 = some (.inl (1, 5461, .inl A41))) → (zix w_45 42 = some (.inl (1, 5461, .inl V42))) → (zix w_45 43 = some (.inl (1, 27305, .inl V43))) → (0 ≤ kk ∧ kk ≤ 27305) → (LST F V42 V43 kk) → (kk ≤ 5461 * f23) → (27306 - kk < N) → R (45, [some (.ref 14), some (.int (Int32.ofInt kk))], [], w_45, 0, 0) := by
        intro N
        induction N with
        | zero => intros; omega
        | succ N ih45 =>
          intro kk V42 V43 w_45 fr_45 hC14_45 hC30_45 hC39_45 hC40_45 hC41_45 hC42_45 hC43_45 hf0_45 hp0_45 hp1_45 hN45
          refine hR (?_ : R (_, _, _, _, _, _))
          refine hR (t_c 5461 (by decide) ?_)
          refine hR (?_ : R (_, _, _, _, _, _))
          refine hR (c_get hC14_45 rfl ?_)
          refine hR (t_mul ?_)
          refine hR (j_ge (by omega) (by omega) (fun hc2 => ?_) (fun hc2 => ?_))
          · skip
            exact hR (zret_i rfl (Nat.le_refl _) rfl (h _ _ _ _ _ _ fr_45 hC39_45 hC40_45 hC41_45 hC42_45 hC43_45 (fun x x0 x1 => hp0_2 x x0 (by omega)) (fun x x0 x1 => hp1_2 x x0 (by omega)) (lst_e hp0_45 (by omega))))
          refine hR (?_ : R (_, _, _, _, _, _))
          refine hR (c_get hC14_45 rfl ?_)
          iterate 2 refine hR (?_ : R (_, _, _, _, _, _))
          refine hR (c_get hC14_45 rfl ?_)
          refine hR (?_ : R (_, _, _, _, _, _))
          refine hR (c_get hC14_45 rfl ?_)
          refine hR (?_ : R (_, _, _, _, _, _))
          refine hR (c_aldE hC30_45 (by omega) (by omega) (Nat.le_of_ble_eq_true rfl) fun v3 ev3 rv3 => ?_)
          replace ev3 : v3 = tBy g30 kk := ev3
          have hf4 := rm_ll (k := kk) hr1 ev3 (by omega) (by omega)
          refine hR (c_aldE hC42_45 (by omega) (by omega) (Nat.le_of_ble_eq_true rfl) fun v5 ev5 rv5 => ?_)
          replace ev5 : v5 = tBy V42 v3 := ev5
          subst ev5
          have hlb := lst_b hp0_45 hf4.2
          refine hR (x_ast hC43_45 (by omega) (by omega) (Nat.le_of_ble_eq_true rfl) fun w6 ff6 hC6 => ?_)
          have fr7 := wfM_st fr_45 ff6 nX0
          have hC8 := (ff6.2 14 (by (try dsimp only); decide)).trans hC14_45
          have hC9 := (ff6.2 30 (by (try dsimp only); decide)).trans hC30_45
          have hC10 := (ff6.2 39 (by (try dsimp only); decide)).trans hC39_45
          have hC11 := (ff6.2 40 (by (try dsimp only); decide)).trans hC40_45
          have hC12 := (ff6.2 41 (by (try dsimp only); decide)).trans hC41_45
          have hC13 := (ff6.2 42 (by (try dsimp only); decide)).trans hC42_45
          refine hR (?_ : R (_, _, _, _, _, _))
          refine hR (c_get hC8 rfl ?_)
          refine hR (?_ : R (_, _, _, _, _, _))
          refine hR (c_get hC8 rfl ?_)
          refine hR (?_ : R (_, _, _, _, _, _))
          refine hR (c_aldE hC9 (by omega) (by omega) (Nat.le_of_ble_eq_true rfl) fun v14 ev14 rv14 => ?_)
          replace ev14 : v14 = tBy g30 kk := ev14
          have hf15 := rm_ll (k := kk) hr1 ev14 (by omega) (by omega)
          refine hR (?_ : R (_, _, _, _, _, _))
          refine hR (x_ast hC13 (by omega) (by omega) (Nat.le_of_ble_eq_true rfl) fun w16 ff16 hC16 => ?_)
          have fr17 := wfM_st fr7 ff16 nX1
          have hC18 := (ff16.2 14 (by (try dsimp only); decide)).trans hC8
          have hC19 := (ff16.2 30 (by (try dsimp only); decide)).trans hC9
          have hC20 := (ff16.2 39 (by (try dsimp only); decide)).trans hC10
          have hC21 := (ff16.2 40 (by (try dsimp only); decide)).trans hC11
          have hC22 := (ff16.2 41 (by (try dsimp only); decide)).trans hC12
          have hC23 := (ff16.2 43 (by (try dsimp only); decide)).trans hC6
          refine hR (t_inc ?_)
          refine hR (?_ : R (_, _, _, _, _, _))
          exact ih45 _ _ _ _ fr17 hC18 hC19 hC20 hC21 hC22 hC16 hC23 (by omega) (lst_s hp0_45 (by omega) hf4.1 hf4.2 hf15.1) (by omega) (by omega)
      exact lp45 400000000 _ _ _ _ fr_2 hC14_2 hC30_2 hC39_2 hC40_2 hC41_2 hC42_2 hC43_2 (by omega) (lst_0 (fun x x0 x1 => hp2_2 x x0 (by omega))) (by omega) (by omega)
  exact lp2 400000000 _ _ _ _ _ _ fr0 hK0 hK1 hK2 hK3 hK4 hK5 hK6 (by omega) (fun x x0 x1 => by omega) (fun x x0 x1 => by omega) (fun x x0 x1 => by omega) (by omega)
theorem x_goBackR (w : zW) (d : Nat) (a1 a2 : Int) (f0 f9 f10 f11 f12 f13 f15 f16 f17 f20 f21 f22 f23 f26 f28 f31 f32 f33 f38 f41 f44 : Int) (x14 : Int64) (g38 g40 g41 g42 g43 : Nat → Int32) (F : Int → Int → Int) (hK0 : zix w 14 = some (.inr (11, [.int (Int32.ofInt f0), .ref 15, .ref 16, .ref 17, .ref 18, .ref 19, .ref 20, .ref 21, .ref 22, .int (Int32.ofInt f9), .int (Int32.ofInt f10), .int (Int32.ofInt f11), .int (Int32.ofInt f12), .int (Int32.ofInt f13), .long x14, .int (Int32.ofInt f15), .int (Int32.ofInt f16), .int (Int32.ofInt f17), .ref 23, .ref 24, .int (Int32.ofInt f20), .int (Int32.ofInt f21), .int (Int32.ofInt f22), .int (Int32.ofInt f23), .ref 25, .ref 26, .int (Int32.ofInt f26), .ref 27, .int (Int32.ofInt f28), .ref 28, .ref 29, .int (Int32.ofInt f31), .int (Int32.ofInt f32), .int (Int32.ofInt f33), .ref 30, .ref 31, .ref 32, .ref 33, .int (Int32.ofInt f38), .ref 34, .ref 35, .int (Int32.ofInt f41), .ref 36, .ref 37, .int (Int32.ofInt f44), .ref 38, .ref 39, .ref 40, .ref 41, .ref 42, .ref 43, .ref 44]))) (hK1 : zix w 38 = some (.inl (1, 5461, .inl g38))) (hK2 : zix w 40 = some (.inl (1, 5461, .inl g40))) (hK3 : zix w 41 = some (.inl (1, 5461, .inl g41))) (hK4 : zix w 42 = some (.inl (1, 5461, .inl g42))) (hK5 : zix w 43 = some (.inl (1, 27305, .inl g43))) (hr0 : 0 ≤ f23 ∧ f23 ≤ 5) (hr1 : FOK F f23) (hr2 : 0 ≤ a1 ∧ a1 ≤ 5460) (hr3 : 0 ≤ a2 ∧ a2 ≤ 5460) (hr4 : tBy g40 a1 = -1) (hr5 : LST F g42 g43 (5461 * f23)) (hr6 : FCX F f23 (tBy g40) (tBy g41) a2) (hr7 : GMX F f23 g40 a1) (Q : zQ) (h : ∀ (T38 T40 T41 : Nat → Int32) (w' : zW), wfM (fun j => j ≠ 38 ∧ j ≠ 40 ∧ j ≠ 41) w w' → zix w' 38 = some (.inl (1, 5461, .inl T38)) → zix w' 40 = some (.inl (1, 5461, .inl T40)) → zix w' 41 = some (.inl (1, 5461, .inl T41)) → (FCX F f23 (tBy T40) (tBy T41) (a2 + 1)) → (KPD g40 T40) → (tBy T40 a1 ≠ -1) → Q (none) w') : zCl zTab (d + 1) iX12_goBack [.ref 14, .int (Int32.ofInt a1), .int (Int32.ofInt a2)] w 0 0 Q := by
  refine zCl_i (M := kX12_goBack) rfl (Nat.le_of_ble_eq_true rfl) fun R hR => ?_
  have fr0 : wfM (fun j => j ≠ 38 ∧ j ≠ 40 ∧ j ≠ 41) w w := wfM_rf _ w
  have nX0 : FX (∀ j : Nat, (j ≠ 38 ∧ j ≠ 40 ∧ j ≠ 41) → j ≠ 38) := fun j hj => by omega
  have nX1 : FX (∀ j : Nat, (j ≠ 38 ∧ j ≠ 40 ∧ j ≠ 41) → j ≠ 40) := fun j hj => by omega
  have nX2 : FX (∀ j : Nat, (j ≠ 38 ∧ j ≠ 40 ∧ j ≠ 41) → j ≠ 41) := fun j hj => by omega
  iterate 3 refine hR (?_ : R (_, _, _, _, _, _))
  refine hR (c_get hK0 rfl ?_)
  iterate 2 refine hR (?_ : R (_, _, _, _, _, _))
  refine hR (x_ast hK1 (by omega) (by omega) (Nat.le_of_ble_eq_true rfl) fun w1 ff1 hC1 => ?_)
  have fr2 := wfM_st fr0 ff1 nX0
  have hC3 := (ff1.2 14 (by (try dsimp only); decide)).trans hK0
  have hC4 := (ff1.2 40 (by (try dsimp only); decide)).trans hK2
  have hC5 := (ff1.2 41 (by (try dsimp only); decide)).trans hK3
  have hC6 := (ff1.2 42 (by (try dsimp only); decide)).trans hK4
  have hC7 := (ff1.2 43 (by (try dsimp only); decide)).trans hK5
  refine hR (?_ : R (_, _, _, _, _, _))
  refine hR (c_get hC3 rfl ?_)
  iterate 2 refine hR (?_ : R (_, _, _, _, _, _))
  refine hR (x_ast hC4 (by omega) (by omega) (Nat.le_of_ble_eq_true rfl) fun w8 ff8 hC8 => ?_)
  have fr9 := wfM_st fr2 ff8 nX1
  have hC10 := (ff8.2 14 (by (try dsimp only); decide)).trans hC3
  have hC11 := (ff8.2 38 (by (try dsimp only); decide)).trans hC1
  have hC12 := (ff8.2 41 (by (try dsimp only); decide)).trans hC5
  have hC13 := (ff8.2 42 (by (try dsimp only); decide)).trans hC6
  have hC14 := (ff8.2 43 (by (try dsimp only); decide)).trans hC7
  iterate 2 refine hR (?_ : R (_, _, _, _, _, _))
  have lp19 : ∀ (N : Nat) (en : Int) (kk : Int) (o5_19 : Option Value) (o6_19 : Option Value) (U C : Nat → Int32) (w_19 : zW), (zc2 o5_19 = false) → (zc2 o6_19 = false) → (wfM (fun j => j ≠ 38 ∧ j ≠ 40 ∧ j ≠ 41) w w_19) → (zix w_19 14 = some (.inr (11, [.int (Int32.ofInt f0), .ref 15, .ref 16, .ref 17, .ref 18, .ref 19, .ref 20, .ref 21, .ref 22, .int (Int32.ofInt f9), .int (Int32.ofInt f10), .int (Int32.ofInt f11), .int (Int32.ofInt f12), .int (Int32.ofInt f13), .long x14, .int (Int32.ofInt f15), .int (Int32.ofInt f16), .int (Int32.ofInt f17), .ref 23, .ref 24, .int (Int32.ofInt f20), .int (Int32.ofInt f21), .int (Int32.ofInt f22), .int (Int32.ofInt f23), .ref 25, .ref 26, .int (Int32.ofInt f26), .ref 27, .int (Int32.ofInt f28), .ref 28, .ref 29, .int (Int32.ofInt f31), .int (Int32.ofInt f32), .int (Int32.ofInt f33), .ref 30, .ref 31, .ref 32, .ref 33, .int (Int32.ofInt f38), .ref 34, .ref 35, .int (Int32.ofInt f41), .ref 36, .ref 37, .int (Int32.ofInt f44), .ref 38, .ref 39, .ref 40, .ref 41, .ref 42, .ref 43, .ref 44]))) → (zix w_19 38 = some (.inl (1, 5461, .inl U))) → (zix w_19 40 = some (.inl (1, 5461, .inl C))) → (zix w_19 41 = some (.inl (1, 5461, .inl g41))) → (zix w_19 42 = some (.inl (1, 5461, .inl g42))) → (zix w_19 43 = some (.inl (1, 27305, .inl g43))) → (1 ≤ en ∧ en ≤ 5461) → (0 ≤ kk ∧ kk ≤ 5461) → (GBA F f23 g40 C U a2 a1 en kk) → (5462 - kk < N) → R (19, [some (.ref 14), some (.int (Int32.ofInt a1)), some (.int (Int32.ofInt a2)), some (.int (Int32.ofInt en)), some (.int (Int32.ofInt kk)), o5_19, o6_19], [], w_19, 0, 0) := by
    intro N
    induction N with
    | zero => intros; omega
    | succ N ih19 =>
      intro en kk o5_19 o6_19 U C w_19 hzo5_19 hzo6_19 fr_19 hC14_19 hC38_19 hC40_19 hC41_19 hC42_19 hC43_19 hf0_19 hf1_19 hp0_19 hN19
      iterate 2 refine hR (?_ : R (_, _, _, _, _, _))
      refine hR (j_ge (by omega) (by omega) (fun hc15 => ?_) (fun hc15 => ?_))
      · skip
        have hgr4 := gba_r hp0_19
        refine hR (?_ : R (_, _, _, _, _, _))
        refine hR (c_get hC14_19 rfl ?_)
        iterate 2 refine hR (?_ : R (_, _, _, _, _, _))
        refine hR (x_ast hC41_19 (by omega) (by omega) (Nat.le_of_ble_eq_true rfl) fun w16 ff16 hC16 => ?_)
        have fr17 := wfM_st fr_19 ff16 nX2
        have hC18 := (ff16.2 14 (by (try dsimp only); decide)).trans hC14_19
        have hC19 := (ff16.2 38 (by (try dsimp only); decide)).trans hC38_19
        have hC20 := (ff16.2 40 (by (try dsimp only); decide)).trans hC40_19
        have hC21 := (ff16.2 42 (by (try dsimp only); decide)).trans hC42_19
        have hC22 := (ff16.2 43 (by (try dsimp only); decide)).trans hC43_19
        obtain ⟨hz1, hz2, hz3⟩ := gba_e hr1 hp0_19 (by omega) hr2 hr6 hr7 hr4 hr3
        exact hR (zret_i rfl (Nat.le_refl _) rfl (h _ _ _ _ fr17 hC19 hC20 hC16 hz1 hz2 hz3))
      have hgr := gba_r hp0_19
      have hgu := gba_u hp0_19 (by omega)
      refine hR (?_ : R (_, _, _, _, _, _))
      refine hR (c_get hC14_19 rfl ?_)
      refine hR (?_ : R (_, _, _, _, _, _))
      refine hR (c_get hC14_19 rfl ?_)
      refine hR (?_ : R (_, _, _, _, _, _))
      refine hR (c_aldE hC38_19 (by omega) (by omega) (Nat.le_of_ble_eq_true rfl) fun v23 ev23 rv23 => ?_)
      replace ev23 : v23 = tBy U kk := ev23
      subst ev23
      refine hR (c_aldE hC42_19 (by omega) (by omega) (Nat.le_of_ble_eq_true rfl) fun v24 ev24 rv24 => ?_)
      replace ev24 : v24 = tBy g42 (tBy U kk) := ev24
      subst ev24
      have hlb := lbw_0 (C := C) hr5 hgu
      have hlr := lbw_r hlb
      refine hR (?_ : R (_, _, _, _, _, _))
      have lp39 : ∀ (N : Nat) (en2 : Int) (ee : Int) (o6_39 : Option Value) (U2 C2 : Nat → Int32) (w_39 : zW), (zc2 o6_39 = false) → (wfM (fun j => j ≠ 38 ∧ j ≠ 40 ∧ j ≠ 41) w w_39) → (zix w_39 14 = some (.inr (11, [.int (Int32.ofInt f0), .ref 15, .ref 16, .ref 17, .ref 18, .ref 19, .ref 20, .ref 21, .ref 22, .int (Int32.ofInt f9), .int (Int32.ofInt f10), .int (Int32.ofInt f11), .int (Int32.ofInt f12), .int (Int32.ofInt f13), .long x14, .int (Int32.ofInt f15), .int (Int32.ofInt f16), .int (Int32.ofInt f17), .ref 23, .ref 24, .int (Int32.ofInt f20), .int (Int32.ofInt f21), .int (Int32.ofInt f22), .int (Int32.ofInt f23), .ref 25, .ref 26, .int (Int32.ofInt f26), .ref 27, .int (Int32.ofInt f28), .ref 28, .ref 29, .int (Int32.ofInt f31), .int (Int32.ofInt f32), .int (Int32.ofInt f33), .ref 30, .ref 31, .ref 32, .ref 33, .int (Int32.ofInt f38), .ref 34, .ref 35, .int (Int32.ofInt f41), .ref 36, .ref 37, .int (Int32.ofInt f44), .ref 38, .ref 39, .ref 40, .ref 41, .ref 42, .ref 43, .ref 44]))) → (zix w_39 38 = some (.inl (1, 5461, .inl U2))) → (zix w_39 40 = some (.inl (1, 5461, .inl C2))) → (zix w_39 41 = some (.inl (1, 5461, .inl g41))) → (zix w_39 42 = some (.inl (1, 5461, .inl g42))) → (zix w_39 43 = some (.inl (1, 27305, .inl g43))) → (1 ≤ en2 ∧ en2 ≤ 5461) → (-1 ≤ ee ∧ ee ≤ 27304) → (GBA F f23 g40 C2 U2 a2 a1 en2 kk) → (LBW F f23 C2 (tBy U2 kk) ee) → (kk < en2) → (ee + 2 < N) → R (39, [some (.ref 14), some (.int (Int32.ofInt a1)), some (.int (Int32.ofInt a2)), some (.int (Int32.ofInt en2)), some (.int (Int32.ofInt kk)), some (.int (Int32.ofInt ee)), o6_39], [], w_39, 0, 0) := by
        intro N
        induction N with
        | zero => intros; omega
        | succ N ih39 =>
          intro en2 ee o6_39 U2 C2 w_39 hzo6_39 fr_39 hC14_39 hC38_39 hC40_39 hC41_39 hC42_39 hC43_39 hf0_39 hf1_39 hp0_39 hp1_39 hp2_39 hN39
          iterate 2 refine hR (?_ : R (_, _, _, _, _, _))
          refine hR (j_eq (by omega) (by omega) (fun hc25 => ?_) (fun hc25 => ?_))
          · skip
            refine hR (t_inc ?_)
            refine hR (?_ : R (_, _, _, _, _, _))
            exact ih19 _ _ _ _ _ _ _ (by rfl) hzo6_39 fr_39 hC14_39 hC38_39 hC40_39 hC41_39 hC42_39 hC43_39 (by omega) (by omega) (gba_k hp0_39 (by omega) hp1_39 (by omega)) (by omega)
          have hlw := lbw_r hp1_39
          have hgr3 := gba_r hp0_39
          refine hR (?_ : R (_, _, _, _, _, _))
          refine hR (t_c 5461 (by decide) ?_)
          refine hR (t_rem (by omega) (by omega) (by omega) (by omega) ?_)
          iterate 2 refine hR (?_ : R (_, _, _, _, _, _))
          refine hR (c_get hC14_39 rfl ?_)
          refine hR (?_ : R (_, _, _, _, _, _))
          refine hR (c_aldE hC40_39 (by omega) (by omega) (Nat.le_of_ble_eq_true rfl) fun v26 ev26 rv26 => ?_)
          replace ev26 : v26 = tBy C2 (ee % 5461) := ev26
          subst ev26
          refine hR (?_ : R (_, _, _, _, _, _))
          refine hR (j_ne (by omega) (by omega) (fun hc27 => ?_) (fun hc27 => ?_))
          · skip
            refine hR (?_ : R (_, _, _, _, _, _))
            refine hR (c_get hC14_39 rfl ?_)
            refine hR (?_ : R (_, _, _, _, _, _))
            refine hR (c_aldE hC43_39 (by omega) (by omega) (Nat.le_of_ble_eq_true rfl) fun v28 ev28 rv28 => ?_)
            replace ev28 : v28 = tBy g43 ee := ev28
            subst ev28
            have hnx := lbw_n hr5 hp1_39 (by omega)
            iterate 2 refine hR (?_ : R (_, _, _, _, _, _))
            exact ih39 _ _ _ _ _ _ (by rfl) fr_39 hC14_39 hC38_39 hC40_39 hC41_39 hC42_39 hC43_39 (by omega) (by omega) hp0_39 (lbw_s hr5 hp1_39 (by omega) (by omega)) (by omega) (by omega)
          have hgf := gba_f hp0_39 (show 0 ≤ ee by omega) (by omega)
          refine hR (?_ : R (_, _, _, _, _, _))
          refine hR (c_get hC14_39 rfl ?_)
          iterate 2 refine hR (?_ : R (_, _, _, _, _, _))
          refine hR (x_ast hC40_39 (by omega) (by omega) (Nat.le_of_ble_eq_true rfl) fun w29 ff29 hC29 => ?_)
          have fr30 := wfM_st fr_39 ff29 nX1
          have hC31 := (ff29.2 14 (by (try dsimp only); decide)).trans hC14_39
          have hC32 := (ff29.2 38 (by (try dsimp only); decide)).trans hC38_39
          have hC33 := (ff29.2 41 (by (try dsimp only); decide)).trans hC41_39
          have hC34 := (ff29.2 42 (by (try dsimp only); decide)).trans hC42_39
          have hC35 := (ff29.2 43 (by (try dsimp only); decide)).trans hC43_39
          refine hR (?_ : R (_, _, _, _, _, _))
          refine hR (c_get hC31 rfl ?_)
          iterate 2 refine hR (?_ : R (_, _, _, _, _, _))
          refine hR (x_ast hC32 (by omega) (by omega) (Nat.le_of_ble_eq_true rfl) fun w36 ff36 hC36 => ?_)
          have fr37 := wfM_st fr30 ff36 nX0
          have hC38 := (ff36.2 14 (by (try dsimp only); decide)).trans hC31
          have hC39 := (ff36.2 40 (by (try dsimp only); decide)).trans hC29
          have hC40 := (ff36.2 41 (by (try dsimp only); decide)).trans hC33
          have hC41 := (ff36.2 42 (by (try dsimp only); decide)).trans hC34
          have hC42 := (ff36.2 43 (by (try dsimp only); decide)).trans hC35
          refine hR (t_inc ?_)
          refine hR (?_ : R (_, _, _, _, _, _))
          refine hR (c_get hC38 rfl ?_)
          refine hR (?_ : R (_, _, _, _, _, _))
          refine hR (c_aldE hC42 (by omega) (by omega) (Nat.le_of_ble_eq_true rfl) fun v43 ev43 rv43 => ?_)
          replace ev43 : v43 = tBy g43 ee := ev43
          subst ev43
          have hnx := lbw_n hr5 hp1_39 (by omega)
          iterate 2 refine hR (?_ : R (_, _, _, _, _, _))
          exact ih39 _ _ _ _ _ _ (by rfl) fr37 hC38 hC36 hC39 hC40 hC41 hC42 (by omega) (by omega) (gba_s hp0_39 (by omega) hr3 hp1_39 (by omega) (by omega)) (lbw_p hr5 hp1_39 (by omega) (by omega) hr3) (by omega) (by omega)
      exact lp39 400000000 _ _ _ _ _ _ hzo6_19 fr_19 hC14_19 hC38_19 hC40_19 hC41_19 hC42_19 hC43_19 (by omega) (by omega) hp0_19 hlb (by omega) (by omega)
  exact lp19 400000000 _ _ _ _ _ _ _ (by rfl) (by rfl) fr9 hC10 hC11 hC8 hC12 hC13 hC14 (by omega) (by omega) (gba_0 hr2 hr4 hr3) (by omega)
theorem x_findCirclesR (w : zW) (d : Nat) (f0 f9 f10 f11 f12 f13 f15 f16 f17 f20 f21 f22 f23 f26 f28 f31 f32 f33 f38 f41 f44 : Int) (x14 : Int64) (g30 g33 g38 g39 g40 g41 g42 g43 : Nat → Int32) (F : Int → Int → Int) (hK0 : zix w 14 = some (.inr (11, [.int (Int32.ofInt f0), .ref 15, .ref 16, .ref 17, .ref 18, .ref 19, .ref 20, .ref 21, .ref 22, .int (Int32.ofInt f9), .int (Int32.ofInt f10), .int (Int32.ofInt f11), .int (Int32.ofInt f12), .int (Int32.ofInt f13), .long x14, .int (Int32.ofInt f15), .int (Int32.ofInt f16), .int (Int32.ofInt f17), .ref 23, .ref 24, .int (Int32.ofInt f20), .int (Int32.ofInt f21), .int (Int32.ofInt f22), .int (Int32.ofInt f23), .ref 25, .ref 26, .int (Int32.ofInt f26), .ref 27, .int (Int32.ofInt f28), .ref 28, .ref 29, .int (Int32.ofInt f31), .int (Int32.ofInt f32), .int (Int32.ofInt f33), .ref 30, .ref 31, .ref 32, .ref 33, .int (Int32.ofInt f38), .ref 34, .ref 35, .int (Int32.ofInt f41), .ref 36, .ref 37, .int (Int32.ofInt f44), .ref 38, .ref 39, .ref 40, .ref 41, .ref 42, .ref 43, .ref 44]))) (hK1 : zix w 30 = some (.inl (1, 27305, .inl g30))) (hK2 : zix w 33 = some (.inl (1, 5461, .inl g33))) (hK3 : zix w 38 = some (.inl (1, 5461, .inl g38))) (hK4 : zix w 39 = some (.inl (1, 5461, .inl g39))) (hK5 : zix w 40 = some (.inl (1, 5461, .inl g40))) (hK6 : zix w 41 = some (.inl (1, 5461, .inl g41))) (hK7 : zix w 42 = some (.inl (1, 5461, .inl g42))) (hK8 : zix w 43 = some (.inl (1, 27305, .inl g43))) (hr0 : 0 ≤ f23 ∧ f23 ≤ 5) (hr1 : RMF g30 f23 F) (Q : zQ) (h : ∀ (v : Int) (T33 T38 T39 T40 T41 T42 T43 : Nat → Int32) (w' : zW), wfM (fun j => j ≠ 33 ∧ j ≠ 38 ∧ j ≠ 39 ∧ j ≠ 40 ∧ j ≠ 41 ∧ j ≠ 42 ∧ j ≠ 43) w w' → zix w' 33 = some (.inl (1, 5461, .inl T33)) → zix w' 38 = some (.inl (1, 5461, .inl T38)) → zix w' 39 = some (.inl (1, 5461, .inl T39)) → zix w' 40 = some (.inl (1, 5461, .inl T40)) → zix w' 41 = some (.inl (1, 5461, .inl T41)) → zix w' 42 = some (.inl (1, 5461, .inl T42)) → zix w' 43 = some (.inl (1, 27305, .inl T43)) → (CIRR F f23 v T40 T41) → (0 ≤ v ∧ v ≤ 5461) → Q (some (.int (Int32.ofInt v))) w') : zCl zTab (d + 2) iX12_findCircles [.ref 14] w 0 0 Q := by
  refine zCl_i (M := kX12_findCircles) rfl (Nat.le_of_ble_eq_true rfl) fun R hR => ?_
  have fr0 : wfM (fun j => j ≠ 33 ∧ j ≠ 38 ∧ j ≠ 39 ∧ j ≠ 40 ∧ j ≠ 41 ∧ j ≠ 42 ∧ j ≠ 43) w w := wfM_rf _ w
  have nX0 : FX (∀ j : Nat, (j ≠ 33 ∧ j ≠ 38 ∧ j ≠ 39 ∧ j ≠ 40 ∧ j ≠ 41 ∧ j ≠ 42 ∧ j ≠ 43) → (j ≠ 39 ∧ j ≠ 40 ∧ j ≠ 41 ∧ j ≠ 42 ∧ j ≠ 43)) := fun j hj => by omega
  have nX1 : FX (∀ j : Nat, (j ≠ 33 ∧ j ≠ 38 ∧ j ≠ 39 ∧ j ≠ 40 ∧ j ≠ 41 ∧ j ≠ 42 ∧ j ≠ 43) → (j ≠ 38 ∧ j ≠ 40 ∧ j ≠ 41)) := fun j hj => by omega
  have nX2 : FX (∀ j : Nat, (j ≠ 33 ∧ j ≠ 38 ∧ j ≠ 39 ∧ j ≠ 40 ∧ j ≠ 41 ∧ j ≠ 42 ∧ j ≠ 43) → (j ≠ 33 ∧ j ≠ 38 ∧ j ≠ 39)) := fun j hj => by omega
  refine hR (?_ : R (_, _, _, _, _, _))
  refine hR (c_obj hK0 (zcall_i 0 0 (Nat.le_of_ble_eq_true rfl) (Nat.le_of_ble_eq_true rfl) (x_layBackR _ _ _ _ _ _ _ _ _ _ _ _ _ _ _ _ _ _ _ _ _ _ _ _ _ _ _ _ _ _ _ hK0 hK1 hK4 hK5 hK6 hK7 hK8 (by omega) hr1 _ fun T39_1 T40_2 T41_3 T42_4 T43_5 w6 gg7 hC8 hC9 hC10 hC11 hC12 hp13 hp14 hp15 => ?_)))
  have fr16 := wfM_tr fr0 gg7 nX0
  have hC17 := (gg7.2 14 (by (try dsimp only); decide)).trans hK0
  have hC18 := (gg7.2 30 (by (try dsimp only); decide)).trans hK1
  have hC19 := (gg7.2 33 (by (try dsimp only); decide)).trans hK2
  have hC20 := (gg7.2 38 (by (try dsimp only); decide)).trans hK3
  refine (?_ : R (_, _, [], w6, 0, 0))
  have hlay0 := hp13
  have hlay1 := hp14
  have hlay2 := hp15
  iterate 4 refine hR (?_ : R (_, _, _, _, _, _))
  have lp8 : ∀ (N : Nat) (dn : Int) (tt : Int) (O U T : Nat → Int32) (w_8 : zW), (wfM (fun j => j ≠ 33 ∧ j ≠ 38 ∧ j ≠ 39 ∧ j ≠ 40 ∧ j ≠ 41 ∧ j ≠ 42 ∧ j ≠ 43) w w_8) → (zix w_8 14 = some (.inr (11, [.int (Int32.ofInt f0), .ref 15, .ref 16, .ref 17, .ref 18, .ref 19, .ref 20, .ref 21, .ref 22, .int (Int32.ofInt f9), .int (Int32.ofInt f10), .int (Int32.ofInt f11), .int (Int32.ofInt f12), .int (Int32.ofInt f13), .long x14, .int (Int32.ofInt f15), .int (Int32.ofInt f16), .int (Int32.ofInt f17), .ref 23, .ref 24, .int (Int32.ofInt f20), .int (Int32.ofInt f21), .int (Int32.ofInt f22), .int (Int32.ofInt f23), .ref 25, .ref 26, .int (Int32.ofInt f26), .ref 27, .int (Int32.ofInt f28), .ref 28, .ref 29, .int (Int32.ofInt f31), .int (Int32.ofInt f32), .int (Int32.ofInt f33), .ref 30, .ref 31, .ref 32, .ref 33, .int (Int32.ofInt f38), .ref 34, .ref 35, .int (Int32.ofInt f41), .ref 36, .ref 37, .int (Int32.ofInt f44), .ref 38, .ref 39, .ref 40, .ref 41, .ref 42, .ref 43, .ref 44]))) → (zix w_8 30 = some (.inl (1, 27305, .inl g30))) → (zix w_8 33 = some (.inl (1, 5461, .inl O))) → (zix w_8 38 = some (.inl (1, 5461, .inl U))) → (zix w_8 39 = some (.inl (1, 5461, .inl T))) → (zix w_8 40 = some (.inl (1, 5461, .inl T40_2))) → (zix w_8 41 = some (.inl (1, 5461, .inl T41_3))) → (zix w_8 42 = some (.inl (1, 5461, .inl T42_4))) → (zix w_8 43 = some (.inl (1, 27305, .inl T43_5))) → (0 ≤ dn ∧ dn ≤ 5461) → (0 ≤ tt ∧ tt ≤ 5461) → (GDA F f23 T O U dn 0) → (∀ x : Int, 0 ≤ x → x < tt → tBy T x ≠ -1) → (5462 - tt < N) → R (8, [some (.ref 14), some (.int (Int32.ofInt dn)), some (.int (Int32.ofInt tt)), none], [], w_8, 0, 0) := by
    intro N
    induction N with
    | zero => intros; omega
    | succ N ih8 =>
      intro dn tt O U T w_8 fr_8 hC14_8 hC30_8 hC33_8 hC38_8 hC39_8 hC40_8 hC41_8 hC42_8 hC43_8 hf0_8 hf1_8 hp0_8 hp1_8 hN8
      refine hR (?_ : R (_, _, _, _, _, _))
      refine hR (t_c 5461 (by decide) ?_)
      refine hR (j_ge (by omega) (by omega) (fun hc21 => ?_) (fun hc21 => ?_))
      rotate_left
      · skip
        refine hR (?_ : R (_, _, _, _, _, _))
        refine hR (c_get hC14_8 rfl ?_)
        refine hR (?_ : R (_, _, _, _, _, _))
        refine hR (c_aldE hC39_8 (by omega) (by omega) (Nat.le_of_ble_eq_true rfl) fun v45 ev45 rv45 => ?_)
        replace ev45 : v45 = tBy T tt := ev45
        subst ev45
        refine hR (?_ : R (_, _, _, _, _, _))
        refine hR (j_ne (by omega) (by omega) (fun hc46 => ?_) (fun hc46 => ?_))
        · skip
          iterate 2 refine hR (?_ : R (_, _, _, _, _, _))
          refine hR (t_inc ?_)
          refine hR (?_ : R (_, _, _, _, _, _))
          exact ih8 _ _ _ _ _ _ fr_8 hC14_8 hC30_8 hC33_8 hC38_8 hC39_8 hC40_8 hC41_8 hC42_8 hC43_8 (by omega) (by omega) hp0_8 (fun x x0 x1 => by by_cases c : x = tt; (· rw [c]; omega); exact hp1_8 x x0 (by omega)) (by omega)
        iterate 3 refine hR (?_ : R (_, _, _, _, _, _))
        refine hR (c_obj hC14_8 (zcall_i 0 0 (Nat.le_of_ble_eq_true rfl) (Nat.le_of_ble_eq_true rfl) (x_goDeepR _ _ _ _ _ _ _ _ _ _ _ _ _ _ _ _ _ _ _ _ _ _ _ _ _ _ _ _ _ _ _ hC14_8 hC30_8 hC33_8 hC38_8 hC39_8 (by omega) (by omega) hr1 hp0_8 (by omega) _ fun v47 T33_48 T38_49 T39_50 w51 gg52 hC53 hC54 hC55 hp56 hp57 hp58 => ?_)))
        have fr59 := wfM_tr fr_8 gg52 nX2
        have hC60 := (gg52.2 14 (by (try dsimp only); decide)).trans hC14_8
        have hC61 := (gg52.2 30 (by (try dsimp only); decide)).trans hC30_8
        have hC62 := (gg52.2 40 (by (try dsimp only); decide)).trans hC40_8
        have hC63 := (gg52.2 41 (by (try dsimp only); decide)).trans hC41_8
        have hC64 := (gg52.2 42 (by (try dsimp only); decide)).trans hC42_8
        have hC65 := (gg52.2 43 (by (try dsimp only); decide)).trans hC43_8
        refine (?_ : R (_, _, .int (Int32.ofInt v47) :: [], w51, 0, 0))
        have hgv := gda_r hp56
        iterate 2 refine hR (?_ : R (_, _, _, _, _, _))
        refine hR (t_inc ?_)
        refine hR (?_ : R (_, _, _, _, _, _))
        exact ih8 _ _ _ _ _ _ fr59 hC60 hC61 hC53 hC54 hC55 hC62 hC63 hC64 hC65 (by omega) (by omega) hp56 (fun x x0 x1 => by by_cases c : x = tt; (· rw [c]; exact hp58); exact hp57 x ⟨by omega, by omega⟩ (hp1_8 x x0 (by omega))) (by omega)
      have hall : ∀ x : Int, rgT x → tBy T x ≠ -1 := fun x hx => hp1_8 x hx.1 (by have := hx.2; omega)
      have hdn := gda_all hp0_8 hall
      iterate 2 refine hR (?_ : R (_, _, _, _, _, _))
      refine hR (t_c 5460 (by decide) ?_)
      refine hR (?_ : R (_, _, _, _, _, _))
      have lp48 : ∀ (N : Nat) (mn : Int) (kk : Int) (U2 C S : Nat → Int32) (w_48 : zW), (wfM (fun j => j ≠ 33 ∧ j ≠ 38 ∧ j ≠ 39 ∧ j ≠ 40 ∧ j ≠ 41 ∧ j ≠ 42 ∧ j ≠ 43) w w_48) → (zix w_48 14 = some (.inr (11, [.int (Int32.ofInt f0), .ref 15, .ref 16, .ref 17, .ref 18, .ref 19, .ref 20, .ref 21, .ref 22, .int (Int32.ofInt f9), .int (Int32.ofInt f10), .int (Int32.ofInt f11), .int (Int32.ofInt f12), .int (Int32.ofInt f13), .long x14, .int (Int32.ofInt f15), .int (Int32.ofInt f16), .int (Int32.ofInt f17), .ref 23, .ref 24, .int (Int32.ofInt f20), .int (Int32.ofInt f21), .int (Int32.ofInt f22), .int (Int32.ofInt f23), .ref 25, .ref 26, .int (Int32.ofInt f26), .ref 27, .int (Int32.ofInt f28), .ref 28, .ref 29, .int (Int32.ofInt f31), .int (Int32.ofInt f32), .int (Int32.ofInt f33), .ref 30, .ref 31, .ref 32, .ref 33, .int (Int32.ofInt f38), .ref 34, .ref 35, .int (Int32.ofInt f41), .ref 36, .ref 37, .int (Int32.ofInt f44), .ref 38, .ref 39, .ref 40, .ref 41, .ref 42, .ref 43, .ref 44]))) → (zix w_48 30 = some (.inl (1, 27305, .inl g30))) → (zix w_48 33 = some (.inl (1, 5461, .inl O))) → (zix w_48 38 = some (.inl (1, 5461, .inl U2))) → (zix w_48 39 = some (.inl (1, 5461, .inl T))) → (zix w_48 40 = some (.inl (1, 5461, .inl C))) → (zix w_48 41 = some (.inl (1, 5461, .inl S))) → (zix w_48 42 = some (.inl (1, 5461, .inl T42_4))) → (zix w_48 43 = some (.inl (1, 27305, .inl T43_5))) → (0 ≤ mn ∧ mn ≤ 5461) → (-1 ≤ kk ∧ kk ≤ 5460) → (FCX F f23 (tBy C) (tBy S) mn) → (∀ j : Int, kk < j → j < dn → tBy C (tBy O j) ≠ -1) → (kk + 2 < N) → R (48, [some (.ref 14), some (.int (Int32.ofInt dn)), some (.int (Int32.ofInt mn)), some (.int (Int32.ofInt kk))], [], w_48, 0, 0) := by
        intro N
        induction N with
        | zero => intros; omega
        | succ N ih48 =>
          intro mn kk U2 C S w_48 fr_48 hC14_48 hC30_48 hC33_48 hC38_48 hC39_48 hC40_48 hC41_48 hC42_48 hC43_48 hf0_48 hf1_48 hp0_48 hp1_48 hN48
          refine hR (?_ : R (_, _, _, _, _, _))
          refine hR (k_lt (by omega) (fun hc22 => ?_) (fun hc22 => ?_))
          · skip
            refine hR (?_ : R (_, _, _, _, _, _))
            exact hR (zret_i rfl (Nat.le_refl _) trivial (h _ _ _ _ _ _ _ _ _ fr_48 hC33_48 hC38_48 hC39_48 hC40_48 hC41_48 hC42_48 hC43_48 (fc_e hp0_48 hp0_8 hall (by omega) hp1_48) (by omega)))
          refine hR (?_ : R (_, _, _, _, _, _))
          refine hR (c_get hC14_48 rfl ?_)
          refine hR (?_ : R (_, _, _, _, _, _))
          refine hR (c_get hC14_48 rfl ?_)
          refine hR (?_ : R (_, _, _, _, _, _))
          refine hR (c_aldE hC33_48 (by omega) (by omega) (Nat.le_of_ble_eq_true rfl) fun v23 ev23 rv23 => ?_)
          replace ev23 : v23 = tBy O kk := ev23
          subst ev23
          have hok := gda_ok hp0_8 (i := kk) (by omega) (by omega)
          refine hR (c_aldE hC40_48 (by omega) (by omega) (Nat.le_of_ble_eq_true rfl) fun v24 ev24 rv24 => ?_)
          replace ev24 : v24 = tBy C (tBy O kk) := ev24
          subst ev24
          refine hR (?_ : R (_, _, _, _, _, _))
          refine hR (j_ne (by omega) (by omega) (fun hc25 => ?_) (fun hc25 => ?_))
          · skip
            refine hR (t_inc ?_)
            refine hR (?_ : R (_, _, _, _, _, _))
            exact ih48 _ _ _ _ _ _ fr_48 hC14_48 hC30_48 hC33_48 hC38_48 hC39_48 hC40_48 hC41_48 hC42_48 hC43_48 (by omega) (by omega) hp0_48 (fun j j0 j1 => by by_cases c : j = kk; (· rw [c]; omega); exact hp1_48 j (by omega) j1) (by omega)
          have hcb := fcx_b hp0_48 hok (by omega)
          iterate 2 refine hR (?_ : R (_, _, _, _, _, _))
          refine hR (c_get hC14_48 rfl ?_)
          refine hR (?_ : R (_, _, _, _, _, _))
          refine hR (c_aldE hC33_48 (by omega) (by omega) (Nat.le_of_ble_eq_true rfl) fun v26 ev26 rv26 => ?_)
          replace ev26 : v26 = tBy O kk := ev26
          subst ev26
          refine hR (?_ : R (_, _, _, _, _, _))
          refine hR (c_obj hC14_48 (zcall_i 0 0 (Nat.le_of_ble_eq_true rfl) (Nat.le_of_ble_eq_true rfl) (x_goBackR _ _ _ _ _ _ _ _ _ _ _ _ _ _ _ _ _ _ _ _ _ _ _ _ _ _ _ _ _ _ _ _ hC14_48 hC38_48 hC40_48 hC41_48 hC42_48 hC43_48 (by omega) (rm_ok hr1) (by omega) (by omega) (by omega) hlay2 hp0_48 (gd_mx (rm_ok hr1) hp0_8 hall hp0_48 (by omega) hp1_48) _ fun T38_27 T40_28 T41_29 w30 gg31 hC32 hC33 hC34 hp35 hp36 hp37 => ?_)))
          have fr38 := wfM_tr fr_48 gg31 nX1
          have hC39 := (gg31.2 14 (by (try dsimp only); decide)).trans hC14_48
          have hC40 := (gg31.2 30 (by (try dsimp only); decide)).trans hC30_48
          have hC41 := (gg31.2 33 (by (try dsimp only); decide)).trans hC33_48
          have hC42 := (gg31.2 39 (by (try dsimp only); decide)).trans hC39_48
          have hC43 := (gg31.2 42 (by (try dsimp only); decide)).trans hC42_48
          have hC44 := (gg31.2 43 (by (try dsimp only); decide)).trans hC43_48
          refine (?_ : R (_, _, [], w30, 0, 0))
          refine hR (t_inc ?_)
          refine hR (t_inc ?_)
          refine hR (?_ : R (_, _, _, _, _, _))
          exact ih48 _ _ _ _ _ _ fr38 hC39 hC40 hC41 hC32 hC42 hC33 hC34 hC43 hC44 (by omega) (by omega) hp35 (fun j j0 j1 => by by_cases c : j = kk; (· rw [c]; exact hp37); exact hp36 _ (gda_ok hp0_8 (by omega) j1) (hp1_48 j (by omega) j1)) (by omega)
      exact lp48 400000000 _ _ _ _ _ _ fr_8 hC14_8 hC30_8 hC33_8 hC38_8 hC39_8 hC40_8 hC41_8 hC42_8 hC43_8 (by omega) (by omega) (fcx_0 (fun x hx => hlay1 x hx.1 (by have := hx.2; omega))) (fun j j0 j1 => by omega) (by omega)
  exact lp8 400000000 _ _ _ _ _ _ fr16 hC17 hC18 hC19 hC20 hC8 hC9 hC10 hC11 hC12 (by omega) (by omega) (gda_i (fun x x0 x1 => hlay0 x x0 x1) (by omega)) (fun x x0 x1 => by omega) (by omega)
theorem x_circlesR (w : zW) (d : Nat) (a1 a2 : Int) (f0 f9 f10 f11 f12 f13 f15 f16 f17 f20 f21 f22 f23 f26 f28 f31 f32 f33 f38 f41 f44 : Int) (x14 : Int64) (g19 g20 g25 g30 g33 g38 g39 g40 g41 g42 g43 : Nat → Int32) (hK0 : zix w 14 = some (.inr (11, [.int (Int32.ofInt f0), .ref 15, .ref 16, .ref 17, .ref 18, .ref 19, .ref 20, .ref 21, .ref 22, .int (Int32.ofInt f9), .int (Int32.ofInt f10), .int (Int32.ofInt f11), .int (Int32.ofInt f12), .int (Int32.ofInt f13), .long x14, .int (Int32.ofInt f15), .int (Int32.ofInt f16), .int (Int32.ofInt f17), .ref 23, .ref 24, .int (Int32.ofInt f20), .int (Int32.ofInt f21), .int (Int32.ofInt f22), .int (Int32.ofInt f23), .ref 25, .ref 26, .int (Int32.ofInt f26), .ref 27, .int (Int32.ofInt f28), .ref 28, .ref 29, .int (Int32.ofInt f31), .int (Int32.ofInt f32), .int (Int32.ofInt f33), .ref 30, .ref 31, .ref 32, .ref 33, .int (Int32.ofInt f38), .ref 34, .ref 35, .int (Int32.ofInt f41), .ref 36, .ref 37, .int (Int32.ofInt f44), .ref 38, .ref 39, .ref 40, .ref 41, .ref 42, .ref 43, .ref 44]))) (hK1 : zix w 19 = some (.inl (1, 12, .inl g19))) (hK2 : zix w 20 = some (.inl (1, 408, .inl g20))) (hK3 : zix w 25 = some (.inl (1, 7, .inl g25))) (hK4 : zix w 30 = some (.inl (1, 27305, .inl g30))) (hK5 : zix w 33 = some (.inl (1, 5461, .inl g33))) (hK6 : zix w 38 = some (.inl (1, 5461, .inl g38))) (hK7 : zix w 39 = some (.inl (1, 5461, .inl g39))) (hK8 : zix w 40 = some (.inl (1, 5461, .inl g40))) (hK9 : zix w 41 = some (.inl (1, 5461, .inl g41))) (hK10 : zix w 42 = some (.inl (1, 5461, .inl g42))) (hK11 : zix w 43 = some (.inl (1, 27305, .inl g43))) (hr0 : (-2147483648 ≤ a1 ∧ a1 ≤ 2147483647) ∧ (-2147483648 ≤ a2 ∧ a2 ≤ 2147483647)) (hr1 : ∀ i : Int, 0 ≤ i → i ≤ 2 → 0 ≤ tBy g19 i ∧ tBy g19 i ≤ 2) (hr2 : bkOK g20) (hr3 : (-1 ≤ f21 ∧ f21 ≤ 1) ∧ RMD g30 g20 f21) (Q : zQ) (h : ∀ (v : Int) (y20 y21 y22 y23 y26 : Int) (T25 T30 T33 T38 T39 T40 T41 T42 T43 : Nat → Int32) (w' : zW), wfM (fun j => j ≠ 14 ∧ j ≠ 25 ∧ j ≠ 30 ∧ j ≠ 33 ∧ j ≠ 38 ∧ j ≠ 39 ∧ j ≠ 40 ∧ j ≠ 41 ∧ j ≠ 42 ∧ j ≠ 43) w w' → zix w' 14 = some (.inr (11, [.int (Int32.ofInt 0), .ref 15, .ref 16, .ref 17, .ref 18, .ref 19, .ref 20, .ref 21, .ref 22, .int (Int32.ofInt f9), .int (Int32.ofInt f10), .int (Int32.ofInt f11), .int (Int32.ofInt f12), .int (Int32.ofInt f13), .long x14, .int (Int32.ofInt f15), .int (Int32.ofInt f16), .int (Int32.ofInt f17), .ref 23, .ref 24, .int (Int32.ofInt y20), .int (Int32.ofInt y21), .int (Int32.ofInt y22), .int (Int32.ofInt y23), .ref 25, .ref 26, .int (Int32.ofInt y26), .ref 27, .int (Int32.ofInt f28), .ref 28, .ref 29, .int (Int32.ofInt f31), .int (Int32.ofInt f32), .int (Int32.ofInt f33), .ref 30, .ref 31, .ref 32, .ref 33, .int (Int32.ofInt f38), .ref 34, .ref 35, .int (Int32.ofInt f41), .ref 36, .ref 37, .int (Int32.ofInt f44), .ref 38, .ref 39, .ref 40, .ref 41, .ref 42, .ref 43, .ref 44])) → zix w' 25 = some (.inl (1, 7, .inl T25)) → zix w' 30 = some (.inl (1, 27305, .inl T30)) → zix w' 33 = some (.inl (1, 5461, .inl T33)) → zix w' 38 = some (.inl (1, 5461, .inl T38)) → zix w' 39 = some (.inl (1, 5461, .inl T39)) → zix w' 40 = some (.inl (1, 5461, .inl T40)) → zix w' 41 = some (.inl (1, 5461, .inl T41)) → zix w' 42 = some (.inl (1, 5461, .inl T42)) → zix w' 43 = some (.inl (1, 27305, .inl T43)) → (((a1 < 0 ∨ tBy g19 0 ≤ a1) ∧ v = -1) ∨ ((0 ≤ a1 ∧ a1 < tBy g19 0) ∧ v = cirV (rF g20 (51 * a1)) (tBy g20 (51 * a1 + 1)) a2)) → Q (some (.int (Int32.ofInt v))) w') : zCl zTab (d + 7) iX12_circles [.ref 14, .int (Int32.ofInt a1), .int (Int32.ofInt a2)] w 0 0 Q := by
  refine zCl_i (M := kX12_circles) rfl (Nat.le_of_ble_eq_true rfl) fun R hR => ?_
  have fr0 : wfM (fun j => j ≠ 14 ∧ j ≠ 25 ∧ j ≠ 30 ∧ j ≠ 33 ∧ j ≠ 38 ∧ j ≠ 39 ∧ j ≠ 40 ∧ j ≠ 41 ∧ j ≠ 42 ∧ j ≠ 43) w w := wfM_rf _ w
  have h190 := hr1 0 (by omega) (by omega)
  have nX0 : FX (∀ j : Nat, (j ≠ 14 ∧ j ≠ 25 ∧ j ≠ 30 ∧ j ≠ 33 ∧ j ≠ 38 ∧ j ≠ 39 ∧ j ≠ 40 ∧ j ≠ 41 ∧ j ≠ 42 ∧ j ≠ 43) → j ≠ 14) := fun j hj => by omega
  have nX1 : FX (∀ j : Nat, (j ≠ 14 ∧ j ≠ 25 ∧ j ≠ 30 ∧ j ≠ 33 ∧ j ≠ 38 ∧ j ≠ 39 ∧ j ≠ 40 ∧ j ≠ 41 ∧ j ≠ 42 ∧ j ≠ 43) → (j ≠ 14 ∧ j ≠ 25 ∧ j ≠ 30)) := fun j hj => by omega
  have nX2 : FX (∀ j : Nat, (j ≠ 14 ∧ j ≠ 25 ∧ j ≠ 30 ∧ j ≠ 33 ∧ j ≠ 38 ∧ j ≠ 39 ∧ j ≠ 40 ∧ j ≠ 41 ∧ j ≠ 42 ∧ j ≠ 43) → (j ≠ 33 ∧ j ≠ 38 ∧ j ≠ 39 ∧ j ≠ 40 ∧ j ≠ 41 ∧ j ≠ 42 ∧ j ≠ 43)) := fun j hj => by omega
  iterate 2 refine hR (?_ : R (_, _, _, _, _, _))
  refine hR (c_put hK0 rfl rfl fun w1 ff1 hC1 => ?_)
  have fr2 := wfM_st fr0 ff1 nX0
  have hC3 := (ff1.2 19 (by (try dsimp only); decide)).trans hK1
  have hC4 := (ff1.2 20 (by (try dsimp only); decide)).trans hK2
  have hC5 := (ff1.2 25 (by (try dsimp only); decide)).trans hK3
  have hC6 := (ff1.2 30 (by (try dsimp only); decide)).trans hK4
  have hC7 := (ff1.2 33 (by (try dsimp only); decide)).trans hK5
  have hC8 := (ff1.2 38 (by (try dsimp only); decide)).trans hK6
  have hC9 := (ff1.2 39 (by (try dsimp only); decide)).trans hK7
  have hC10 := (ff1.2 40 (by (try dsimp only); decide)).trans hK8
  have hC11 := (ff1.2 41 (by (try dsimp only); decide)).trans hK9
  have hC12 := (ff1.2 42 (by (try dsimp only); decide)).trans hK10
  have hC13 := (ff1.2 43 (by (try dsimp only); decide)).trans hK11
  replace hC1 : zix w1 14 = some (.inr (11, [.int (Int32.ofInt 0), .ref 15, .ref 16, .ref 17, .ref 18, .ref 19, .ref 20, .ref 21, .ref 22, .int (Int32.ofInt f9), .int (Int32.ofInt f10), .int (Int32.ofInt f11), .int (Int32.ofInt f12), .int (Int32.ofInt f13), .long x14, .int (Int32.ofInt f15), .int (Int32.ofInt f16), .int (Int32.ofInt f17), .ref 23, .ref 24, .int (Int32.ofInt f20), .int (Int32.ofInt f21), .int (Int32.ofInt f22), .int (Int32.ofInt f23), .ref 25, .ref 26, .int (Int32.ofInt f26), .ref 27, .int (Int32.ofInt f28), .ref 28, .ref 29, .int (Int32.ofInt f31), .int (Int32.ofInt f32), .int (Int32.ofInt f33), .ref 30, .ref 31, .ref 32, .ref 33, .int (Int32.ofInt f38), .ref 34, .ref 35, .int (Int32.ofInt f41), .ref 36, .ref 37, .int (Int32.ofInt f44), .ref 38, .ref 39, .ref 40, .ref 41, .ref 42, .ref 43, .ref 44])) := hC1
  refine hR (?_ : R (_, _, _, _, _, _))
  refine hR (t_c (-2) (by decide) ?_)
  refine hR (t_c 5460 (by decide) ?_)
  refine hR (zcall_i 0 0 (Nat.le_of_ble_eq_true rfl) (Nat.le_of_ble_eq_true rfl) (m_in _ a2 ((-2)) 5460 _ (by omega) (by omega) (by omega) _ fun v14 hp15 => ?_))
  refine (?_ : R (_, _, .int (Int32.ofInt v14) :: [], w1, 0, 0))
  refine hR (k_eq (by omega) (fun hc16 => ?_) (fun hc16 => ?_))
  · skip
    refine hR (?_ : R (_, _, _, _, _, _))
    exact hR (zret_i rfl (Nat.le_refl _) trivial (h _ _ _ _ _ _ _ _ _ _ _ _ _ _ _ _ fr2 hC1 hC5 hC6 hC7 hC8 hC9 hC10 hC11 hC12 hC13 (w_bad (show (a1 < 0 ∨ tBy g19 0 ≤ a1) ∨ (0 ≤ a1 ∧ a1 < tBy g19 0) by omega) (cir_n (by omega)))))
  iterate 2 refine hR (?_ : R (_, _, _, _, _, _))
  refine hR (c_obj hC1 (zcall_i 0 0 (Nat.le_of_ble_eq_true rfl) (Nat.le_of_ble_eq_true rfl) (x_handAllR _ _ _ _ _ _ _ _ _ _ _ _ _ _ _ _ _ _ _ _ _ _ _ _ _ _ _ _ _ hC1 hC3 hC4 hC5 hC6 (by omega) hr1 hr2 hr3 _ fun v17 y20_18 y21_19 y22_20 y23_21 y26_22 T25_23 T30_24 w25 gg26 hC27 hC28 hC29 hp30 => ?_)))
  have fr31 := wfM_tr fr2 gg26 nX1
  have hC32 := (gg26.2 19 (by (try dsimp only); decide)).trans hC3
  have hC33 := (gg26.2 20 (by (try dsimp only); decide)).trans hC4
  have hC34 := (gg26.2 33 (by (try dsimp only); decide)).trans hC7
  have hC35 := (gg26.2 38 (by (try dsimp only); decide)).trans hC8
  have hC36 := (gg26.2 39 (by (try dsimp only); decide)).trans hC9
  have hC37 := (gg26.2 40 (by (try dsimp only); decide)).trans hC10
  have hC38 := (gg26.2 41 (by (try dsimp only); decide)).trans hC11
  have hC39 := (gg26.2 42 (by (try dsimp only); decide)).trans hC12
  have hC40 := (gg26.2 43 (by (try dsimp only); decide)).trans hC13
  refine (?_ : R (_, _, .int (Int32.ofInt v17) :: [], w25, 0, 0))
  refine hR (k_ne (by omega) (fun hc41 => ?_) (fun hc41 => ?_))
  rotate_left
  · skip
    refine hR (?_ : R (_, _, _, _, _, _))
    exact hR (zret_i rfl (Nat.le_refl _) trivial (h _ _ _ _ _ _ _ _ _ _ _ _ _ _ _ _ fr31 hC27 hC28 hC29 hC34 hC35 hC36 hC37 hC38 hC39 hC40 (Or.inl ⟨by omega, rfl⟩)))
  have ht : (0 ≤ a1 ∧ a1 < tBy g19 0 ∧ a1 ≤ 1) ∧ a1 = y20_18 ∧ y22_20 = tBy g20 (51 * a1 + 0) ∧ y23_21 = tBy g20 (51 * a1 + 1) := by omega
  obtain ⟨ht1, ht2, ht3, ht4⟩ := ht
  subst ht2
  have hb1 := bk_b1 hr2 a1 (by omega) (by omega)
  have hF : RMF T30_24 y23_21 (rF g20 (51 * a1)) := by rcases hp30 with ⟨-, -, -, -, -, -, -, -, q⟩ | q; (· exact q); exfalso; omega
  refine hR (?_ : R (_, _, _, _, _, _))
  refine hR (c_obj hC27 (zcall_i 0 0 (Nat.le_of_ble_eq_true rfl) (Nat.le_of_ble_eq_true rfl) (x_findCirclesR _ _ _ _ _ _ _ _ _ _ _ _ _ _ _ _ _ _ _ _ _ _ _ _ _ _ _ _ _ _ _ _ _ hC27 hC29 hC34 hC35 hC36 hC37 hC38 hC39 hC40 (by omega) hF _ fun v42 T33_43 T38_44 T39_45 T40_46 T41_47 T42_48 T43_49 w50 gg51 hC52 hC53 hC54 hC55 hC56 hC57 hC58 hp59 hp60 => ?_)))
  have fr61 := wfM_tr fr31 gg51 nX2
  have hC62 := (gg51.2 14 (by (try dsimp only); decide)).trans hC27
  have hC63 := (gg51.2 19 (by (try dsimp only); decide)).trans hC32
  have hC64 := (gg51.2 20 (by (try dsimp only); decide)).trans hC33
  have hC65 := (gg51.2 25 (by (try dsimp only); decide)).trans hC28
  have hC66 := (gg51.2 30 (by (try dsimp only); decide)).trans hC29
  refine (?_ : R (_, _, .int (Int32.ofInt v42) :: [], w50, 0, 0))
  have hC := hp59
  have hCb := hp60
  iterate 3 refine hR (?_ : R (_, _, _, _, _, _))
  refine hR (j_ne (by omega) (by omega) (fun hc67 => ?_) (fun hc67 => ?_))
  rotate_left
  · skip
    refine hR (?_ : R (_, _, _, _, _, _))
    exact hR (zret_i rfl (Nat.le_refl _) trivial (h _ _ _ _ _ _ _ _ _ _ _ _ _ _ _ _ fr61 hC62 hC65 hC66 hC52 hC53 hC54 hC55 hC56 hC57 hC58 (Or.inr ⟨by omega, (by rw [← ht4]; exact hC.1.trans (cir_1 (by omega)).symm)⟩)))
  iterate 4 refine hR (?_ : R (_, _, _, _, _, _))
  have lp45 : ∀ (N : Nat) (mo : Int) (kk : Int), (0 ≤ mo ∧ mo ≤ 5461) → (0 ≤ kk ∧ kk ≤ 5461) → (LMX T41_47 kk mo) → (kk ≤ v42) → (5462 - kk < N) → R (45, [some (.ref 14), some (.int (Int32.ofInt a1)), some (.int (Int32.ofInt a2)), some (.int (Int32.ofInt v42)), some (.int (Int32.ofInt mo)), some (.int (Int32.ofInt kk))], [], w50, 0, 0) := by
    intro N
    induction N with
    | zero => intros; omega
    | succ N ih45 =>
      intro mo kk hf0_45 hf1_45 hp0_45 hp1_45 hN45
      iterate 2 refine hR (?_ : R (_, _, _, _, _, _))
      refine hR (j_ge (by omega) (by omega) (fun hc68 => ?_) (fun hc68 => ?_))
      rotate_left
      · skip
        iterate 2 refine hR (?_ : R (_, _, _, _, _, _))
        refine hR (c_get hC62 rfl ?_)
        refine hR (?_ : R (_, _, _, _, _, _))
        refine hR (c_aldE hC56 (by omega) (by omega) (Nat.le_of_ble_eq_true rfl) fun v72 ev72 rv72 => ?_)
        replace ev72 : v72 = tBy T41_47 kk := ev72
        subst ev72
        have hcb := cirr_b hC (k := kk) (by omega) (by omega)
        refine hR (zcall_i 0 0 (Nat.le_of_ble_eq_true rfl) (Nat.le_of_ble_eq_true rfl) (m_greater _ mo (tBy T41_47 kk) _ (by omega) (by omega) _ fun v73 hp74 => ?_))
        refine (?_ : R (_, _, .int (Int32.ofInt v73) :: [], w50, 0, 0))
        refine hR (?_ : R (_, _, _, _, _, _))
        refine hR (t_inc ?_)
        refine hR (?_ : R (_, _, _, _, _, _))
        exact ih45 _ _ (by omega) (by omega) (lmx_s hp0_45 (by omega) hp74) (by omega) (by omega)
      refine hR (?_ : R (_, _, _, _, _, _))
      refine hR (t_c (-2) (by decide) ?_)
      refine hR (j_ne (by omega) (by omega) (fun hc69 => ?_) (fun hc69 => ?_))
      rotate_left
      · skip
        iterate 2 refine hR (?_ : R (_, _, _, _, _, _))
        exact hR (zret_i rfl (Nat.le_refl _) trivial (h _ _ _ _ _ _ _ _ _ _ _ _ _ _ _ _ fr61 hC62 hC65 hC66 hC52 hC53 hC54 hC55 hC56 hC57 hC58 (Or.inr ⟨by omega, (by rw [← ht4]; exact (lmx_e hp0_45 hC (by omega)).trans (cir_2 (by omega)).symm)⟩)))
      refine hR (?_ : R (_, _, _, _, _, _))
      refine hR (c_get hC62 rfl ?_)
      refine hR (?_ : R (_, _, _, _, _, _))
      refine hR (c_get hC62 rfl ?_)
      refine hR (?_ : R (_, _, _, _, _, _))
      refine hR (c_aldE hC55 (by omega) (by omega) (Nat.le_of_ble_eq_true rfl) fun v70 ev70 rv70 => ?_)
      replace ev70 : v70 = tBy T40_46 a2 := ev70
      subst ev70
      have hcx := hC.2.1 a2 ⟨by omega, by omega⟩
      have hcy := hcx.1
      refine hR (c_aldE hC56 (by omega) (by omega) (Nat.le_of_ble_eq_true rfl) fun v71 ev71 rv71 => ?_)
      replace ev71 : v71 = tBy T41_47 (tBy T40_46 a2) := ev71
      subst ev71
      exact hR (zret_i rfl (Nat.le_refl _) trivial (h _ _ _ _ _ _ _ _ _ _ _ _ _ _ _ _ fr61 hC62 hC65 hC66 hC52 hC53 hC54 hC55 hC56 hC57 hC58 (Or.inr ⟨by omega, (by rw [← ht4]; exact (hC.2.1 a2 ⟨by omega, by omega⟩).2.trans (cir_t (by omega)).symm)⟩)))
  exact lp45 400000000 _ _ (by omega) (by omega) lmx_0 (by omega) (by omega)
