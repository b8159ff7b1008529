/-! THE REFERENCE: feed, end, exactly. -/
theorem x_fourR (w : zW) (d : Nat) (a1 : Int) (f0 f9 f10 f11 f12 f13 f15 f16 f17 f20 f21 f22 f23 f26 f28 f31 f32 f33 f38 f41 f44 : Int) (x14 : Int64) (g15 g16 : Nat → Int32) (hK0 : zix w 14 = some (.inr (11, [.int (Int32.ofInt f0), .ref 15, .ref 16, .ref 17, .ref 18, .ref 19, .ref 20, .ref 21, .ref 22, .int (Int32.ofInt f9), .int (Int32.ofInt f10), .int (Int32.ofInt f11), .int (Int32.ofInt f12), .int (Int32.ofInt f13), .long x14, .int (Int32.ofInt f15), .int (Int32.ofInt f16), .int (Int32.ofInt f17), .ref 23, .ref 24, .int (Int32.ofInt f20), .int (Int32.ofInt f21), .int (Int32.ofInt f22), .int (Int32.ofInt f23), .ref 25, .ref 26, .int (Int32.ofInt f26), .ref 27, .int (Int32.ofInt f28), .ref 28, .ref 29, .int (Int32.ofInt f31), .int (Int32.ofInt f32), .int (Int32.ofInt f33), .ref 30, .ref 31, .ref 32, .ref 33, .int (Int32.ofInt f38), .ref 34, .ref 35, .int (Int32.ofInt f41), .ref 36, .ref 37, .int (Int32.ofInt f44), .ref 38, .ref 39, .ref 40, .ref 41, .ref 42, .ref 43, .ref 44]))) (hK1 : zix w 15 = some (.inl (0, 2400, .inl g15))) (hK2 : zix w 16 = some (.inl (1, 4, .inl g16))) (hr0 : 0 ≤ tBy g16 0 ∧ tBy g16 0 ≤ 596) (hr1 : (-2147483648 ≤ a1 ∧ a1 ≤ 2147483647)) (Q : zQ) (h : ∀ (k15 k16 : Nat → Int32) (w' : zW), wfM (fun j => j ≠ 15 ∧ j ≠ 16) w w' → zix w' 15 = some (.inl (0, 2400, .inl k15)) → zix w' 16 = some (.inl (1, 4, .inl k16)) → (k15 = pbF g15 (tBy g16 0) a1 4) → (tBy k16 0 = tBy g16 0 + 4) → (∀ j : Nat, j ≠ 0 → k16 j = g16 j) → Q (none) w') : zCl zTab (d + 1) iX12_four [.ref 14, .int (Int32.ofInt a1)] w 0 0 Q := by
  refine zCl_i (M := kX12_four) rfl (Nat.le_of_ble_eq_true rfl) fun R hR => ?_
  have loop : ∀ (N j : Nat) (sh : Int) (v : zW) (q16 : Nat → Int32), j ≤ 4 → sh = 24 - 8 * (j : Int) → wfM (fun j => j ≠ 15 ∧ j ≠ 16) w v → zix v 15 = some (.inl (0, 2400, .inl (pbF g15 (tBy g16 0) a1 j))) → zix v 16 = some (.inl (1, 4, .inl q16)) → tBy q16 0 = tBy g16 0 + (j : Int) → (∀ j : Nat, j ≠ 0 → q16 j = g16 j) → 5 - j < N → R (3, [some (.ref 14), some (.int (Int32.ofInt a1)), some (.int (Int32.ofInt sh))], [], v, 0, 0) := by
    intro N
    induction N with
    | zero => intros; omega
    | succ N ih =>
      intro j sh v q16 hj hs fr h15 h16 hq hne hN
      have hk := (fr.2 14 (by omega)).trans hK0
      refine hR (?_ : R (_, _, _, _, _, _))
      refine hR (k_lt (by omega) (fun hc => ?_) (fun hc => ?_))
      · obtain rfl : j = 4 := by omega
        exact hR (zret_i rfl (Nat.le_refl _) rfl (h _ q16 v fr h15 h16 rfl hq hne))
      · refine hR (?_ : R (_, _, _, _, _, _))
        refine hR (c_get hk rfl ?_)
        refine hR (?_ : R (_, _, _, _, _, _))
        refine hR (c_get hk rfl ?_)
        refine hR (?_ : R (_, _, _, _, _, _))
        refine hR (c_aldE h16 (by omega) (by omega) (Nat.le_of_ble_eq_true rfl) fun v1 e1 r1 => ?_)
        replace e1 : v1 = tBy q16 0 := e1
        iterate 2 refine hR (?_ : R (_, _, _, _, _, _))
        refine hR (t_c _ (x_shr (e := a1) (s := sh) (by omega) (by omega)) ?_)
        refine hR (t_c _ (x_i2b _) ?_)
        refine hR (x_bst h15 (by omega) (by omega) (Nat.le_of_ble_eq_true rfl) fun w1 f1 hg1 => ?_)
        rw [byt8_i (byt8_r _)] at hg1
        have hg1' : zix w1 15 = some (.inl (0, 2400, .inl (pbF g15 (tBy g16 0) a1 (j + 1)))) := by
          rw [hg1, e1, hq, hs]
          rfl
        have hk1 := (f1.2 14 (by decide)).trans hk
        have h161 := (f1.2 16 (by decide)).trans h16
        refine hR (?_ : R (_, _, _, _, _, _))
        refine hR (c_get hk1 rfl ?_)
        iterate 2 refine hR (?_ : R (_, _, _, _, _, _))
        refine hR (c_aldE h161 (by omega) (by omega) (Nat.le_of_ble_eq_true rfl) fun v2 e2 r2 => ?_)
        replace e2 : v2 = tBy q16 0 := e2
        refine hR (?_ : R (_, _, _, _, _, _))
        refine hR (t_add ?_)
        refine hR (x_ast h161 (by omega) (by omega) (Nat.le_of_ble_eq_true rfl) fun w2 f2 h162 => ?_)
        refine hR (t_inc ?_)
        refine hR (?_ : R (_, _, _, _, _, _))
        exact ih (j + 1) (sh + (-8)) w2 _ (by omega) (by omega) (wfM_st (wfM_st fr f1 (fun j hj => hj.1)) f2 (fun j hj => hj.2)) ((f2.2 15 (by decide)).trans hg1') h162 (by rw [zup (by omega), if_pos rfl]; omega) (fun i hi => (pk_un hi).trans (hne i hi)) (by omega)
  refine hR (t_c 24 (by decide) ?_)
  refine hR (?_ : R (_, _, _, _, _, _))
  exact loop 100 0 24 w g16 (by omega) (by omega) (wfM_rf _ w) hK1 hK2 (by omega) (fun _ _ => rfl) (by omega)
theorem x_feedR (w : zW) (d : Nat) (a1 a2 a3 a4 a5 : Int) (f0 f9 f10 f11 f12 f13 f15 f16 f17 f20 f21 f22 f23 f26 f28 f31 f32 f33 f38 f41 f44 : Int) (x14 : Int64) (g15 g16 : Nat → Int32) (hK0 : zix w 14 = some (.inr (11, [.int (Int32.ofInt f0), .ref 15, .ref 16, .ref 17, .ref 18, .ref 19, .ref 20, .ref 21, .ref 22, .int (Int32.ofInt f9), .int (Int32.ofInt f10), .int (Int32.ofInt f11), .int (Int32.ofInt f12), .int (Int32.ofInt f13), .long x14, .int (Int32.ofInt f15), .int (Int32.ofInt f16), .int (Int32.ofInt f17), .ref 23, .ref 24, .int (Int32.ofInt f20), .int (Int32.ofInt f21), .int (Int32.ofInt f22), .int (Int32.ofInt f23), .ref 25, .ref 26, .int (Int32.ofInt f26), .ref 27, .int (Int32.ofInt f28), .ref 28, .ref 29, .int (Int32.ofInt f31), .int (Int32.ofInt f32), .int (Int32.ofInt f33), .ref 30, .ref 31, .ref 32, .ref 33, .int (Int32.ofInt f38), .ref 34, .ref 35, .int (Int32.ofInt f41), .ref 36, .ref 37, .int (Int32.ofInt f44), .ref 38, .ref 39, .ref 40, .ref 41, .ref 42, .ref 43, .ref 44]))) (hK1 : zix w 15 = some (.inl (0, 2400, .inl g15))) (hK2 : zix w 16 = some (.inl (1, 4, .inl g16))) (hr0 : 0 ≤ tBy g16 0 ∧ tBy g16 0 ≤ 600) (hr1 : (-2147483648 ≤ a1 ∧ a1 ≤ 2147483647) ∧ (-2147483648 ≤ a2 ∧ a2 ≤ 2147483647) ∧ (-2147483648 ≤ a3 ∧ a3 ≤ 2147483647) ∧ (-2147483648 ≤ a4 ∧ a4 ≤ 2147483647) ∧ (-2147483648 ≤ a5 ∧ a5 ≤ 2147483647)) (Q : zQ) (h : ∀ (v : Int) (k15 k16 : Nat → Int32) (w' : zW), wfM (fun j => j ≠ 14 ∧ j ≠ 15 ∧ j ≠ 16) w w' → zix w' 14 = some (.inr (11, [.int (Int32.ofInt 0), .ref 15, .ref 16, .ref 17, .ref 18, .ref 19, .ref 20, .ref 21, .ref 22, .int (Int32.ofInt f9), .int (Int32.ofInt f10), .int (Int32.ofInt f11), .int (Int32.ofInt f12), .int (Int32.ofInt f13), .long x14, .int (Int32.ofInt f15), .int (Int32.ofInt f16), .int (Int32.ofInt f17), .ref 23, .ref 24, .int (Int32.ofInt f20), .int (Int32.ofInt f21), .int (Int32.ofInt f22), .int (Int32.ofInt f23), .ref 25, .ref 26, .int (Int32.ofInt f26), .ref 27, .int (Int32.ofInt f28), .ref 28, .ref 29, .int (Int32.ofInt f31), .int (Int32.ofInt f32), .int (Int32.ofInt f33), .ref 30, .ref 31, .ref 32, .ref 33, .int (Int32.ofInt f38), .ref 34, .ref 35, .int (Int32.ofInt f41), .ref 36, .ref 37, .int (Int32.ofInt f44), .ref 38, .ref 39, .ref 40, .ref 41, .ref 42, .ref 43, .ref 44])) → zix w' 15 = some (.inl (0, 2400, .inl k15)) → zix w' 16 = some (.inl (1, 4, .inl k16)) → ((v = -1 ∧ 580 < tBy g16 0 ∧ k15 = g15 ∧ k16 = g16) ∨ (v = tBy g16 0 + 20 ∧ tBy g16 0 ≤ 580 ∧ k15 = fdF g15 (tBy g16 0) a1 a2 a3 a4 a5 ∧ tBy k16 0 = v ∧ ∀ j : Nat, j ≠ 0 → k16 j = g16 j)) → Q (some (.int (Int32.ofInt v))) w') : zCl zTab (d + 2) iX12_feed [.ref 14, .int (Int32.ofInt a1), .int (Int32.ofInt a2), .int (Int32.ofInt a3), .int (Int32.ofInt a4), .int (Int32.ofInt a5)] w 0 0 Q := by
  refine zCl_i (M := kX12_feed) rfl (Nat.le_of_ble_eq_true rfl) fun R hR => ?_
  have fr0 : wfM (fun j => j ≠ 14 ∧ j ≠ 15 ∧ j ≠ 16) w w := wfM_rf _ w
  have nX0 : FX (∀ j : Nat, (j ≠ 14 ∧ j ≠ 15 ∧ j ≠ 16) → j ≠ 14) := fun j hj => by omega
  have nX1 : FX (∀ j : Nat, (j ≠ 14 ∧ j ≠ 15 ∧ j ≠ 16) → (j ≠ 15 ∧ j ≠ 16)) := fun j hj => by omega
  iterate 2 refine hR (?_ : R (_, _, _, _, _, _))
  refine hR (c_put hK0 rfl rfl fun w1 ff1 hC1 => ?_)
  have fr2 := wfM_st fr0 ff1 nX0
  have hC3 := (ff1.2 15 (by (try dsimp only); decide)).trans hK1
  have hC4 := (ff1.2 16 (by (try dsimp only); decide)).trans hK2
  replace hC1 : zix w1 14 = some (.inr (11, [.int (Int32.ofInt 0), .ref 15, .ref 16, .ref 17, .ref 18, .ref 19, .ref 20, .ref 21, .ref 22, .int (Int32.ofInt f9), .int (Int32.ofInt f10), .int (Int32.ofInt f11), .int (Int32.ofInt f12), .int (Int32.ofInt f13), .long x14, .int (Int32.ofInt f15), .int (Int32.ofInt f16), .int (Int32.ofInt f17), .ref 23, .ref 24, .int (Int32.ofInt f20), .int (Int32.ofInt f21), .int (Int32.ofInt f22), .int (Int32.ofInt f23), .ref 25, .ref 26, .int (Int32.ofInt f26), .ref 27, .int (Int32.ofInt f28), .ref 28, .ref 29, .int (Int32.ofInt f31), .int (Int32.ofInt f32), .int (Int32.ofInt f33), .ref 30, .ref 31, .ref 32, .ref 33, .int (Int32.ofInt f38), .ref 34, .ref 35, .int (Int32.ofInt f41), .ref 36, .ref 37, .int (Int32.ofInt f44), .ref 38, .ref 39, .ref 40, .ref 41, .ref 42, .ref 43, .ref 44])) := hC1
  refine hR (?_ : R (_, _, _, _, _, _))
  refine hR (c_get hC1 rfl ?_)
  refine hR (?_ : R (_, _, _, _, _, _))
  refine hR (c_aldE hC4 (by omega) (by omega) (Nat.le_of_ble_eq_true rfl) fun v5 ev5 rv5 => ?_)
  replace ev5 : v5 = tBy g16 0 := ev5
  subst ev5
  refine hR (t_c 20 (by decide) ?_)
  refine hR (t_add ?_)
  refine hR (t_c 600 (by decide) ?_)
  refine hR (j_le (by omega) (by omega) (fun hc6 => ?_) (fun hc6 => ?_))
  rotate_left
  · skip
    refine hR (?_ : R (_, _, _, _, _, _))
    exact hR (zret_i rfl (Nat.le_refl _) trivial (h _ _ _ _ fr2 hC1 hC3 hC4 (Or.inl ⟨rfl, by omega, rfl, rfl⟩)))
  iterate 2 refine hR (?_ : R (_, _, _, _, _, _))
  refine hR (c_obj hC1 (zcall_i 0 0 (Nat.le_of_ble_eq_true rfl) (Nat.le_of_ble_eq_true rfl) (x_fourR _ _ _ _ _ _ _ _ _ _ _ _ _ _ _ _ _ _ _ _ _ _ _ _ _ _ _ hC1 hC3 hC4 (by omega) (by omega) _ fun k15_7 k16_8 w9 gg10 hC11 hC12 hp13 hp14 hp15 => ?_)))
  have fr16 := wfM_tr fr2 gg10 nX1
  have hC17 := (gg10.2 14 (by (try dsimp only); decide)).trans hC1
  refine (?_ : R (_, _, [], w9, 0, 0))
  iterate 2 refine hR (?_ : R (_, _, _, _, _, _))
  refine hR (c_obj hC17 (zcall_i 0 0 (Nat.le_of_ble_eq_true rfl) (Nat.le_of_ble_eq_true rfl) (x_fourR _ _ _ _ _ _ _ _ _ _ _ _ _ _ _ _ _ _ _ _ _ _ _ _ _ _ _ hC17 hC11 hC12 (by omega) (by omega) _ fun k15_18 k16_19 w20 gg21 hC22 hC23 hp24 hp25 hp26 => ?_)))
  have fr27 := wfM_tr fr16 gg21 nX1
  have hC28 := (gg21.2 14 (by (try dsimp only); decide)).trans hC17
  refine (?_ : R (_, _, [], w20, 0, 0))
  iterate 2 refine hR (?_ : R (_, _, _, _, _, _))
  refine hR (c_obj hC28 (zcall_i 0 0 (Nat.le_of_ble_eq_true rfl) (Nat.le_of_ble_eq_true rfl) (x_fourR _ _ _ _ _ _ _ _ _ _ _ _ _ _ _ _ _ _ _ _ _ _ _ _ _ _ _ hC28 hC22 hC23 (by omega) (by omega) _ fun k15_29 k16_30 w31 gg32 hC33 hC34 hp35 hp36 hp37 => ?_)))
  have fr38 := wfM_tr fr27 gg32 nX1
  have hC39 := (gg32.2 14 (by (try dsimp only); decide)).trans hC28
  refine (?_ : R (_, _, [], w31, 0, 0))
  iterate 2 refine hR (?_ : R (_, _, _, _, _, _))
  refine hR (c_obj hC39 (zcall_i 0 0 (Nat.le_of_ble_eq_true rfl) (Nat.le_of_ble_eq_true rfl) (x_fourR _ _ _ _ _ _ _ _ _ _ _ _ _ _ _ _ _ _ _ _ _ _ _ _ _ _ _ hC39 hC33 hC34 (by omega) (by omega) _ fun k15_40 k16_41 w42 gg43 hC44 hC45 hp46 hp47 hp48 => ?_)))
  have fr49 := wfM_tr fr38 gg43 nX1
  have hC50 := (gg43.2 14 (by (try dsimp only); decide)).trans hC39
  refine (?_ : R (_, _, [], w42, 0, 0))
  iterate 2 refine hR (?_ : R (_, _, _, _, _, _))
  refine hR (c_obj hC50 (zcall_i 0 0 (Nat.le_of_ble_eq_true rfl) (Nat.le_of_ble_eq_true rfl) (x_fourR _ _ _ _ _ _ _ _ _ _ _ _ _ _ _ _ _ _ _ _ _ _ _ _ _ _ _ hC50 hC44 hC45 (by omega) (by omega) _ fun k15_51 k16_52 w53 gg54 hC55 hC56 hp57 hp58 hp59 => ?_)))
  have fr60 := wfM_tr fr49 gg54 nX1
  have hC61 := (gg54.2 14 (by (try dsimp only); decide)).trans hC50
  refine (?_ : R (_, _, [], w53, 0, 0))
  refine hR (?_ : R (_, _, _, _, _, _))
  refine hR (c_get hC61 rfl ?_)
  refine hR (?_ : R (_, _, _, _, _, _))
  refine hR (c_aldE hC56 (by omega) (by omega) (Nat.le_of_ble_eq_true rfl) fun v62 ev62 rv62 => ?_)
  replace ev62 : v62 = tBy k16_52 0 := ev62
  subst ev62
  exact hR (zret_i rfl (Nat.le_refl _) trivial (h _ _ _ _ fr60 hC61 hC55 hC56 (Or.inr ⟨by omega, by omega, by rw [hp57, hp47, hp36, hp25, hp14, hp46, hp36, hp25, hp14, hp35, hp25, hp14, hp24, hp14, hp13]; rfl, by omega, fun j hj => (hp59 j hj).trans ((hp48 j hj).trans ((hp37 j hj).trans ((hp26 j hj).trans ((hp15 j hj)))))⟩)))
theorem x_endR (w : zW) (d : Nat) (a1 : Int) (f0 f9 f10 f11 f12 f13 f15 f16 f17 f20 f21 f22 f23 f26 f28 f31 f32 f33 f38 f41 f44 : Int) (x14 : Int64) (g16 : Nat → Int32) (hK0 : zix w 14 = some (.inr (11, [.int (Int32.ofInt f0), .ref 15, .ref 16, .ref 17, .ref 18, .ref 19, .ref 20, .ref 21, .ref 22, .int (Int32.ofInt f9), .int (Int32.ofInt f10), .int (Int32.ofInt f11), .int (Int32.ofInt f12), .int (Int32.ofInt f13), .long x14, .int (Int32.ofInt f15), .int (Int32.ofInt f16), .int (Int32.ofInt f17), .ref 23, .ref 24, .int (Int32.ofInt f20), .int (Int32.ofInt f21), .int (Int32.ofInt f22), .int (Int32.ofInt f23), .ref 25, .ref 26, .int (Int32.ofInt f26), .ref 27, .int (Int32.ofInt f28), .ref 28, .ref 29, .int (Int32.ofInt f31), .int (Int32.ofInt f32), .int (Int32.ofInt f33), .ref 30, .ref 31, .ref 32, .ref 33, .int (Int32.ofInt f38), .ref 34, .ref 35, .int (Int32.ofInt f41), .ref 36, .ref 37, .int (Int32.ofInt f44), .ref 38, .ref 39, .ref 40, .ref 41, .ref 42, .ref 43, .ref 44]))) (hK1 : zix w 16 = some (.inl (1, 4, .inl g16))) (hr0 : 0 ≤ tBy g16 0 ∧ tBy g16 0 ≤ 600) (hr1 : (-2147483648 ≤ a1 ∧ a1 ≤ 2147483647)) (Q : zQ) (h : ∀ (v : Int) (k16 : Nat → Int32) (w' : zW), wfM (fun j => j ≠ 14 ∧ j ≠ 16) w w' → zix w' 14 = some (.inr (11, [.int (Int32.ofInt 0), .ref 15, .ref 16, .ref 17, .ref 18, .ref 19, .ref 20, .ref 21, .ref 22, .int (Int32.ofInt f9), .int (Int32.ofInt f10), .int (Int32.ofInt f11), .int (Int32.ofInt f12), .int (Int32.ofInt f13), .long x14, .int (Int32.ofInt f15), .int (Int32.ofInt f16), .int (Int32.ofInt f17), .ref 23, .ref 24, .int (Int32.ofInt f20), .int (Int32.ofInt f21), .int (Int32.ofInt f22), .int (Int32.ofInt f23), .ref 25, .ref 26, .int (Int32.ofInt f26), .ref 27, .int (Int32.ofInt f28), .ref 28, .ref 29, .int (Int32.ofInt f31), .int (Int32.ofInt f32), .int (Int32.ofInt f33), .ref 30, .ref 31, .ref 32, .ref 33, .int (Int32.ofInt f38), .ref 34, .ref 35, .int (Int32.ofInt f41), .ref 36, .ref 37, .int (Int32.ofInt f44), .ref 38, .ref 39, .ref 40, .ref 41, .ref 42, .ref 43, .ref 44])) → zix w' 16 = some (.inl (1, 4, .inl k16)) → ((v = -1 ∧ (a1 < 0 ∨ tBy g16 0 < a1) ∧ k16 = g16) ∨ (v = a1 ∧ 0 ≤ a1 ∧ a1 ≤ tBy g16 0 ∧ tBy k16 0 = a1 ∧ ∀ j : Nat, j ≠ 0 → k16 j = g16 j)) → Q (some (.int (Int32.ofInt v))) w') : zCl zTab (d + 2) iX12_end [.ref 14, .int (Int32.ofInt a1)] w 0 0 Q := by
  refine zCl_i (M := kX12_end) rfl (Nat.le_of_ble_eq_true rfl) fun R hR => ?_
  have fr0 : wfM (fun j => j ≠ 14 ∧ j ≠ 16) w w := wfM_rf _ w
  have nX0 : FX (∀ j : Nat, (j ≠ 14 ∧ j ≠ 16) → j ≠ 14) := fun j hj => by omega
  have nX1 : FX (∀ j : Nat, (j ≠ 14 ∧ j ≠ 16) → j ≠ 16) := fun j hj => by omega
  iterate 2 refine hR (?_ : R (_, _, _, _, _, _))
  refine hR (c_put hK0 rfl rfl fun w1 ff1 hC1 => ?_)
  have fr2 := wfM_st fr0 ff1 nX0
  have hC3 := (ff1.2 16 (by (try dsimp only); decide)).trans hK1
  replace hC1 : zix w1 14 = some (.inr (11, [.int (Int32.ofInt 0), .ref 15, .ref 16, .ref 17, .ref 18, .ref 19, .ref 20, .ref 21, .ref 22, .int (Int32.ofInt f9), .int (Int32.ofInt f10), .int (Int32.ofInt f11), .int (Int32.ofInt f12), .int (Int32.ofInt f13), .long x14, .int (Int32.ofInt f15), .int (Int32.ofInt f16), .int (Int32.ofInt f17), .ref 23, .ref 24, .int (Int32.ofInt f20), .int (Int32.ofInt f21), .int (Int32.ofInt f22), .int (Int32.ofInt f23), .ref 25, .ref 26, .int (Int32.ofInt f26), .ref 27, .int (Int32.ofInt f28), .ref 28, .ref 29, .int (Int32.ofInt f31), .int (Int32.ofInt f32), .int (Int32.ofInt f33), .ref 30, .ref 31, .ref 32, .ref 33, .int (Int32.ofInt f38), .ref 34, .ref 35, .int (Int32.ofInt f41), .ref 36, .ref 37, .int (Int32.ofInt f44), .ref 38, .ref 39, .ref 40, .ref 41, .ref 42, .ref 43, .ref 44])) := hC1
  iterate 3 refine hR (?_ : R (_, _, _, _, _, _))
  refine hR (c_get hC1 rfl ?_)
  refine hR (?_ : R (_, _, _, _, _, _))
  refine hR (c_aldE hC3 (by omega) (by omega) (Nat.le_of_ble_eq_true rfl) fun v4 ev4 rv4 => ?_)
  replace ev4 : v4 = tBy g16 0 := ev4
  subst ev4
  refine hR (zcall_i 0 0 (Nat.le_of_ble_eq_true rfl) (Nat.le_of_ble_eq_true rfl) (m_in _ a1 0 (tBy g16 0) _ (by omega) (by omega) (by omega) _ fun v5 hp6 => ?_))
  refine (?_ : R (_, _, .int (Int32.ofInt v5) :: [], w1, 0, 0))
  refine hR (k_ne (by omega) (fun hc7 => ?_) (fun hc7 => ?_))
  rotate_left
  · skip
    refine hR (?_ : R (_, _, _, _, _, _))
    exact hR (zret_i rfl (Nat.le_refl _) trivial (h _ _ _ fr2 hC1 hC3 (Or.inl ⟨rfl, by omega, rfl⟩)))
  refine hR (?_ : R (_, _, _, _, _, _))
  refine hR (c_get hC1 rfl ?_)
  iterate 2 refine hR (?_ : R (_, _, _, _, _, _))
  refine hR (x_ast hC3 (by omega) (by omega) (Nat.le_of_ble_eq_true rfl) fun w8 ff8 hC8 => ?_)
  have fr9 := wfM_st fr2 ff8 nX1
  have hC10 := (ff8.2 14 (by (try dsimp only); decide)).trans hC1
  refine hR (?_ : R (_, _, _, _, _, _))
  exact hR (zret_i rfl (Nat.le_refl _) trivial (h _ _ _ fr9 hC10 hC8 (Or.inr ⟨rfl, by omega, by omega, by rw [zup (by omega), if_pos rfl], fun j hj => pk_un hj⟩)))
