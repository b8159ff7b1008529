/-! THE REFERENCE'S LEVELS, BY PLACES. -/
theorem all_hh {n r : Int} (hn : 0 ≤ n ∧ n ≤ 5) (r0 : 0 ≤ r) (r1 : r < n) : hHas (bShl 1 n - 1) r = 1 := by
  have h : decide (hHas (bShl 1 n - 1) r = 1) = true := (all_h hn r0 r1).trans rfl
  exact of_decide_eq_true h
theorem bk_x0 {g : Nat → Int32} {a : Int} (h : bkOK g) (a0 : 0 ≤ a) (a1 : a ≤ 1) : 0 ≤ tBy g (51 * a) ∧ tBy g (51 * a) ≤ 5460 := by
  have hb := (h a.toNat (by omega)).1
  unfold tBy
  rw [show (51 * a).toNat = 51 * a.toNat + 0 by omega]
  exact hb
theorem x_everybodyR (w : zW) (d : Nat) (f0 f9 f10 f11 f12 f13 f15 f16 f17 f20 f21 f22 f23 f26 f28 f31 f32 f33 f38 f41 f44 : Int) (x14 : Int64) (hK0 : zix w 14 = some (.inr (11, [.int (Int32.ofInt f0), .ref 15, .ref 16, .ref 17, .ref 18, .ref 19, .ref 20, .ref 21, .ref 22, .int (Int32.ofInt f9), .int (Int32.ofInt f10), .int (Int32.ofInt f11), .int (Int32.ofInt f12), .int (Int32.ofInt f13), .long x14, .int (Int32.ofInt f15), .int (Int32.ofInt f16), .int (Int32.ofInt f17), .ref 23, .ref 24, .int (Int32.ofInt f20), .int (Int32.ofInt f21), .int (Int32.ofInt f22), .int (Int32.ofInt f23), .ref 25, .ref 26, .int (Int32.ofInt f26), .ref 27, .int (Int32.ofInt f28), .ref 28, .ref 29, .int (Int32.ofInt f31), .int (Int32.ofInt f32), .int (Int32.ofInt f33), .ref 30, .ref 31, .ref 32, .ref 33, .int (Int32.ofInt f38), .ref 34, .ref 35, .int (Int32.ofInt f41), .ref 36, .ref 37, .int (Int32.ofInt f44), .ref 38, .ref 39, .ref 40, .ref 41, .ref 42, .ref 43, .ref 44]))) (hr0 : 0 ≤ f23 ∧ f23 ≤ 5) (Q : zQ) (h : ∀ (v : Int), (v = bShl 1 f23 - 1) → Q (some (.int (Int32.ofInt v))) w) : zCl zTab (d + 1) iX12_everybody [.ref 14] w 0 0 Q := by
  refine zCl_i (M := kX12_everybody) rfl (Nat.le_of_ble_eq_true rfl) fun R hR => ?_
  have hsb := shl_b hr0
  iterate 2 refine hR (?_ : R (_, _, _, _, _, _))
  refine hR (c_get hK0 rfl ?_)
  refine hR (t_c (bShl 1 f23) (zoi _).symm ?_)
  have hbt1 : r32 (bShl 1 f23) := zrg _
  refine hR (?_ : R (_, _, _, _, _, _))
  refine hR (t_sub ?_)
  exact hR (zret_i rfl (Nat.le_refl _) trivial (h _ rfl))
theorem x_layDriftsR (w : zW) (d : Nat) (f0 f9 f10 f11 f12 f13 f15 f16 f17 f20 f21 f22 f23 f26 f28 f31 f32 f33 f38 f41 f44 : Int) (x14 : Int64) (g25 g26 g27 g35 : Nat → Int32) (hK0 : zix w 14 = some (.inr (11, [.int (Int32.ofInt f0), .ref 15, .ref 16, .ref 17, .ref 18, .ref 19, .ref 20, .ref 21, .ref 22, .int (Int32.ofInt f9), .int (Int32.ofInt f10), .int (Int32.ofInt f11), .int (Int32.ofInt f12), .int (Int32.ofInt f13), .long x14, .int (Int32.ofInt f15), .int (Int32.ofInt f16), .int (Int32.ofInt f17), .ref 23, .ref 24, .int (Int32.ofInt f20), .int (Int32.ofInt f21), .int (Int32.ofInt f22), .int (Int32.ofInt f23), .ref 25, .ref 26, .int (Int32.ofInt f26), .ref 27, .int (Int32.ofInt f28), .ref 28, .ref 29, .int (Int32.ofInt f31), .int (Int32.ofInt f32), .int (Int32.ofInt f33), .ref 30, .ref 31, .ref 32, .ref 33, .int (Int32.ofInt f38), .ref 34, .ref 35, .int (Int32.ofInt f41), .ref 36, .ref 37, .int (Int32.ofInt f44), .ref 38, .ref 39, .ref 40, .ref 41, .ref 42, .ref 43, .ref 44]))) (hK1 : zix w 25 = some (.inl (1, 7, .inl g25))) (hK2 : zix w 26 = some (.inl (1, 7, .inl g26))) (hK3 : zix w 27 = some (.inl (1, 49, .inl g27))) (hK4 : zix w 35 = some (.inl (1, 54610, .inl g35))) (hr0 : 0 ≤ f22 ∧ f22 ≤ 5460) (Q : zQ) (h : ∀ (T25 T26 T27 T35 : Nat → Int32) (w' : zW), wfM (fun j => j ≠ 25 ∧ j ≠ 26 ∧ j ≠ 27 ∧ j ≠ 35) w w' → zix w' 25 = some (.inl (1, 7, .inl T25)) → zix w' 26 = some (.inl (1, 7, .inl T26)) → zix w' 27 = some (.inl (1, 49, .inl T27)) → zix w' 35 = some (.inl (1, 54610, .inl T35)) → (∀ t : Int, 0 ≤ t → t ≤ 5460 → tBy T35 t = dft t f22) → Q (none) w') : zCl zTab (d + 5) iX12_layDrifts [.ref 14] w 0 0 Q := by
  refine zCl_i (M := kX12_layDrifts) rfl (Nat.le_of_ble_eq_true rfl) fun R hR => ?_
  have fr0 : wfM (fun j => j ≠ 25 ∧ j ≠ 26 ∧ j ≠ 27 ∧ j ≠ 35) w w := wfM_rf _ w
  have nX0 : FX (∀ j : Nat, (j ≠ 25 ∧ j ≠ 26 ∧ j ≠ 27 ∧ j ≠ 35) → (j ≠ 25 ∧ j ≠ 26 ∧ j ≠ 27)) := fun j hj => by omega
  have nX1 : FX (∀ j : Nat, (j ≠ 25 ∧ j ≠ 26 ∧ j ≠ 27 ∧ j ≠ 35) → j ≠ 35) := fun j hj => by omega
  iterate 2 refine hR (?_ : R (_, _, _, _, _, _))
  have lp2 : ∀ (N : Nat) (tt : Int) (U25 U26 U27 U : Nat → Int32) (w_2 : zW), (wfM (fun j => j ≠ 25 ∧ j ≠ 26 ∧ j ≠ 27 ∧ j ≠ 35) w w_2) → (zix w_2 14 = some (.inr (11, [.int (Int32.ofInt f0), .ref 15, .ref 16, .ref 17, .ref 18, .ref 19, .ref 20, .ref 21, .ref 22, .int (Int32.ofInt f9), .int (Int32.ofInt f10), .int (Int32.ofInt f11), .int (Int32.ofInt f12), .int (Int32.ofInt f13), .long x14, .int (Int32.ofInt f15), .int (Int32.ofInt f16), .int (Int32.ofInt f17), .ref 23, .ref 24, .int (Int32.ofInt f20), .int (Int32.ofInt f21), .int (Int32.ofInt f22), .int (Int32.ofInt f23), .ref 25, .ref 26, .int (Int32.ofInt f26), .ref 27, .int (Int32.ofInt f28), .ref 28, .ref 29, .int (Int32.ofInt f31), .int (Int32.ofInt f32), .int (Int32.ofInt f33), .ref 30, .ref 31, .ref 32, .ref 33, .int (Int32.ofInt f38), .ref 34, .ref 35, .int (Int32.ofInt f41), .ref 36, .ref 37, .int (Int32.ofInt f44), .ref 38, .ref 39, .ref 40, .ref 41, .ref 42, .ref 43, .ref 44]))) → (zix w_2 25 = some (.inl (1, 7, .inl U25))) → (zix w_2 26 = some (.inl (1, 7, .inl U26))) → (zix w_2 27 = some (.inl (1, 49, .inl U27))) → (zix w_2 35 = some (.inl (1, 54610, .inl U))) → (0 ≤ tt ∧ tt ≤ 5461) → (∀ t : Int, 0 ≤ t → t < tt → tBy U t = dft t f22) → (5462 - tt < N) → R (2, [some (.ref 14), some (.int (Int32.ofInt tt))], [], w_2, 0, 0) := by
    intro N
    induction N with
    | zero => intros; omega
    | succ N ih2 =>
      intro tt U25 U26 U27 U w_2 fr_2 hC14_2 hC25_2 hC26_2 hC27_2 hC35_2 hf0_2 hp0_2 hN2
      refine hR (?_ : R (_, _, _, _, _, _))
      refine hR (t_c 5461 (by decide) ?_)
      refine hR (j_ge (by omega) (by omega) (fun hc1 => ?_) (fun hc1 => ?_))
      · skip
        exact hR (zret_i rfl (Nat.le_refl _) rfl (h _ _ _ _ _ fr_2 hC25_2 hC26_2 hC27_2 hC35_2 (fun t t0 t1 => hp0_2 t t0 (by omega))))
      refine hR (?_ : R (_, _, _, _, _, _))
      refine hR (c_get hC14_2 rfl ?_)
      iterate 4 refine hR (?_ : R (_, _, _, _, _, _))
      refine hR (c_get hC14_2 rfl ?_)
      refine hR (c_obj hC14_2 (zcall_i 0 0 (Nat.le_of_ble_eq_true rfl) (Nat.le_of_ble_eq_true rfl) (x_apartR _ _ _ _ _ _ _ _ _ _ _ _ _ _ _ _ _ _ _ _ _ _ _ _ _ _ _ _ _ hC14_2 hC25_2 hC26_2 hC27_2 (by omega) (by omega) _ fun v2 T25_3 T26_4 T27_5 w6 gg7 hC8 hC9 hC10 hp11 => ?_)))
      have fr12 := wfM_tr fr_2 gg7 nX0
      have hC13 := (gg7.2 14 (by (try dsimp only); decide)).trans hC14_2
      have hC14 := (gg7.2 35 (by (try dsimp only); decide)).trans hC35_2
      subst hp11
      refine (?_ : R (_, _, .int (Int32.ofInt (dft tt f22)) :: .int (Int32.ofInt tt) :: .ref 35 :: [], w6, 0, 0))
      have hda := dft_r (a := tt) (b := f22)
      refine hR (x_ast hC14 (by omega) (by omega) (Nat.le_of_ble_eq_true rfl) fun w15 ff15 hC15 => ?_)
      have fr16 := wfM_st fr12 ff15 nX1
      have hC17 := (ff15.2 14 (by (try dsimp only); decide)).trans hC13
      have hC18 := (ff15.2 25 (by (try dsimp only); decide)).trans hC8
      have hC19 := (ff15.2 26 (by (try dsimp only); decide)).trans hC9
      have hC20 := (ff15.2 27 (by (try dsimp only); decide)).trans hC10
      refine hR (t_inc ?_)
      refine hR (?_ : R (_, _, _, _, _, _))
      exact ih2 _ _ _ _ _ _ fr16 hC17 hC18 hC19 hC20 hC15 (by omega) (fun t t0 t1 => by rw [zupI (by exact ⟨by omega, by omega⟩) (by omega) t0]; by_cases c : t = tt; (· rw [if_pos c, c]); rw [if_neg c]; exact hp0_2 t t0 (by omega)) (by omega)
  exact lp2 400000000 _ _ _ _ _ _ fr0 hK0 hK1 hK2 hK3 hK4 (by omega) (fun t t0 t1 => by omega) (by omega)
theorem x_bestR (w : zW) (d : Nat) (a1 a2 a3 : Int) (f0 f9 f10 f11 f12 f13 f15 f16 f17 f20 f21 f22 f23 f26 f28 f31 f32 f33 f38 f41 f44 : Int) (x14 : Int64) (g30 g35 : Nat → Int32) (F : Int → Int → Int) (hK0 : zix w 14 = some (.inr (11, [.int (Int32.ofInt f0), .ref 15, .ref 16, .ref 17, .ref 18, .ref 19, .ref 20, .ref 21, .ref 22, .int (Int32.ofInt f9), .int (Int32.ofInt f10), .int (Int32.ofInt f11), .int (Int32.ofInt f12), .int (Int32.ofInt f13), .long x14, .int (Int32.ofInt f15), .int (Int32.ofInt f16), .int (Int32.ofInt f17), .ref 23, .ref 24, .int (Int32.ofInt f20), .int (Int32.ofInt f21), .int (Int32.ofInt f22), .int (Int32.ofInt f23), .ref 25, .ref 26, .int (Int32.ofInt f26), .ref 27, .int (Int32.ofInt f28), .ref 28, .ref 29, .int (Int32.ofInt f31), .int (Int32.ofInt f32), .int (Int32.ofInt f33), .ref 30, .ref 31, .ref 32, .ref 33, .int (Int32.ofInt f38), .ref 34, .ref 35, .int (Int32.ofInt f41), .ref 36, .ref 37, .int (Int32.ofInt f44), .ref 38, .ref 39, .ref 40, .ref 41, .ref 42, .ref 43, .ref 44]))) (hK1 : zix w 30 = some (.inl (1, 27305, .inl g30))) (hK2 : zix w 35 = some (.inl (1, 54610, .inl g35))) (hr0 : 1 ≤ a1 ∧ a1 ≤ 9) (hr1 : 0 ≤ a2 ∧ a2 ≤ 31) (hr2 : 0 ≤ a3 ∧ a3 ≤ 1) (hr3 : 0 ≤ f23 ∧ f23 ≤ 5) (hr4 : 1 ≤ f23) (hr5 : RMF g30 f23 F) (hr6 : ∀ t : Int, 0 ≤ t → t ≤ 5460 → 0 ≤ tBy g35 (5461 * (a1 - 1) + t) ∧ tBy g35 (5461 * (a1 - 1) + t) ≤ 12) (hr7 : ∀ r : Int, 0 ≤ r → r < f23 → hHas a2 r = 1) (Q : zQ) (h : ∀ (T35 : Nat → Int32) (w' : zW), wfM (fun j => j ≠ 35) w w' → zix w' 35 = some (.inl (1, 54610, .inl T35)) → (∀ t : Int, 0 ≤ t → t ≤ 5460 → tBy T35 (5461 * a1 + t) = fdV a3 (fun r => tBy g35 (5461 * (a1 - 1) + F r t)) f23) → (∀ i : Int, 0 ≤ i → i < 5461 * a1 → tBy T35 i = tBy g35 i) → Q (none) w') : zCl zTab (d + 2) iX12_best [.ref 14, .int (Int32.ofInt a1), .int (Int32.ofInt a2), .int (Int32.ofInt a3)] w 0 0 Q := by
  refine zCl_i (M := kX12_best) rfl (Nat.le_of_ble_eq_true rfl) fun R hR => ?_
  have fr0 : wfM (fun j => j ≠ 35) w w := wfM_rf _ w
  have hFO := rm_ok hr5
  have nX0 : FX (∀ j : Nat, (j ≠ 35) → j ≠ 35) := fun j hj => by omega
  iterate 2 refine hR (?_ : R (_, _, _, _, _, _))
  have lp3 : ∀ (N : Nat) (tt : Int) (o5_3 : Option Value) (o6_3 : Option Value) (o7_3 : Option Value) (T : Nat → Int32) (w_3 : zW), (zc2 o5_3 = false) → (zc2 o6_3 = false) → (zc2 o7_3 = false) → (wfM (fun j => j ≠ 35) w w_3) → (zix w_3 14 = some (.inr (11, [.int (Int32.ofInt f0), .ref 15, .ref 16, .ref 17, .ref 18, .ref 19, .ref 20, .ref 21, .ref 22, .int (Int32.ofInt f9), .int (Int32.ofInt f10), .int (Int32.ofInt f11), .int (Int32.ofInt f12), .int (Int32.ofInt f13), .long x14, .int (Int32.ofInt f15), .int (Int32.ofInt f16), .int (Int32.ofInt f17), .ref 23, .ref 24, .int (Int32.ofInt f20), .int (Int32.ofInt f21), .int (Int32.ofInt f22), .int (Int32.ofInt f23), .ref 25, .ref 26, .int (Int32.ofInt f26), .ref 27, .int (Int32.ofInt f28), .ref 28, .ref 29, .int (Int32.ofInt f31), .int (Int32.ofInt f32), .int (Int32.ofInt f33), .ref 30, .ref 31, .ref 32, .ref 33, .int (Int32.ofInt f38), .ref 34, .ref 35, .int (Int32.ofInt f41), .ref 36, .ref 37, .int (Int32.ofInt f44), .ref 38, .ref 39, .ref 40, .ref 41, .ref 42, .ref 43, .ref 44]))) → (zix w_3 30 = some (.inl (1, 27305, .inl g30))) → (zix w_3 35 = some (.inl (1, 54610, .inl T))) → (0 ≤ tt ∧ tt ≤ 5461) → (∀ t : Int, 0 ≤ t → t < tt → tBy T (5461 * a1 + t) = fdV a3 (fun r => tBy g35 (5461 * (a1 - 1) + F r t)) f23) → (∀ i : Int, 0 ≤ i → i < 5461 * a1 → tBy T i = tBy g35 i) → (5462 - tt < N) → R (3, [some (.ref 14), some (.int (Int32.ofInt a1)), some (.int (Int32.ofInt a2)), some (.int (Int32.ofInt a3)), some (.int (Int32.ofInt tt)), o5_3, o6_3, o7_3], [], w_3, 0, 0) := by
    intro N
    induction N with
    | zero => intros; omega
    | succ N ih3 =>
      intro tt o5_3 o6_3 o7_3 T w_3 hzo5_3 hzo6_3 hzo7_3 fr_3 hC14_3 hC30_3 hC35_3 hf0_3 hp0_3 hp1_3 hN3
      refine hR (?_ : R (_, _, _, _, _, _))
      refine hR (t_c 5461 (by decide) ?_)
      refine hR (j_ge (by omega) (by omega) (fun hc1 => ?_) (fun hc1 => ?_))
      · skip
        exact hR (zret_i rfl (Nat.le_refl _) rfl (h _ _ fr_3 hC35_3 (fun t t0 t1 => hp0_3 t t0 (by omega)) hp1_3))
      refine hR (?_ : R (_, _, _, _, _, _))
      refine hR (k_eq (by omega) (fun hc2 => ?_) (fun hc2 => ?_))
      rotate_left
      · skip
        iterate 5 refine hR (?_ : R (_, _, _, _, _, _))
        have lp27 : ∀ (N : Nat) (bv : Int) (rr : Int) (o7_27 : Option Value), (zc2 o7_27 = false) → (-1 ≤ bv ∧ bv ≤ 1000000) → (0 ≤ rr ∧ rr ≤ 5) → (BSQ a3 (fun r => tBy g35 (5461 * (a1 - 1) + F r tt)) rr bv) → (rr ≤ f23) → (6 - rr < N) → R (27, [some (.ref 14), some (.int (Int32.ofInt a1)), some (.int (Int32.ofInt a2)), some (.int (Int32.ofInt a3)), some (.int (Int32.ofInt tt)), some (.int (Int32.ofInt bv)), some (.int (Int32.ofInt rr)), o7_27], [], w_3, 0, 0) := by
          intro N
          induction N with
          | zero => intros; omega
          | succ N ih27 =>
            intro bv rr o7_27 hzo7_27 hf0_27 hf1_27 hp0_27 hp1_27 hN27
            iterate 2 refine hR (?_ : R (_, _, _, _, _, _))
            refine hR (c_get hC14_3 rfl ?_)
            refine hR (j_ge (by omega) (by omega) (fun hc19 => ?_) (fun hc19 => ?_))
            · skip
              have hbe := bs_e hp0_27 (by omega) hr4 (by omega) (fun x x0 x1 => by have hm := hFO x tt x0 x1 (by omega) (by omega); exact (hr6 (F x tt) hm.1 hm.2).1)
              refine hR (?_ : R (_, _, _, _, _, _))
              refine hR (c_get hC14_3 rfl ?_)
              refine hR (t_c 5461 (by decide) ?_)
              refine hR (?_ : R (_, _, _, _, _, _))
              refine hR (t_mul ?_)
              refine hR (?_ : R (_, _, _, _, _, _))
              refine hR (t_add ?_)
              refine hR (?_ : R (_, _, _, _, _, _))
              refine hR (x_ast hC35_3 (by omega) (by omega) (Nat.le_of_ble_eq_true rfl) fun w20 ff20 hC20 => ?_)
              have fr21 := wfM_st fr_3 ff20 nX0
              have hC22 := (ff20.2 14 (by (try dsimp only); decide)).trans hC14_3
              have hC23 := (ff20.2 30 (by (try dsimp only); decide)).trans hC30_3
              refine hR (t_inc ?_)
              refine hR (?_ : R (_, _, _, _, _, _))
              exact ih3 _ _ _ _ _ _ (by rfl) (by rfl) hzo7_27 fr21 hC22 hC23 hC20 (by omega) (fun t t0 t1 => by rw [zupI (by exact ⟨by omega, by omega⟩) (by omega) (by omega)]; by_cases c : t = tt; (· rw [if_pos (by omega), c]; exact hbe); rw [if_neg (by omega)]; exact hp0_3 t t0 (by omega)) (fun i i0 i1 => by rw [zupI (by exact ⟨by omega, by omega⟩) (by omega) i0, if_neg (by omega)]; exact hp1_3 i i0 i1) (by omega)
            refine hR (?_ : R (_, _, _, _, _, _))
            refine hR (c_get hC14_3 rfl ?_)
            refine hR (t_c 5461 (by decide) ?_)
            iterate 2 refine hR (?_ : R (_, _, _, _, _, _))
            refine hR (t_sub ?_)
            refine hR (t_mul ?_)
            refine hR (?_ : R (_, _, _, _, _, _))
            refine hR (c_get hC14_3 rfl ?_)
            refine hR (t_c 5461 (by decide) ?_)
            refine hR (?_ : R (_, _, _, _, _, _))
            refine hR (t_mul ?_)
            refine hR (?_ : R (_, _, _, _, _, _))
            refine hR (t_add ?_)
            refine hR (c_aldE hC30_3 (by omega) (by omega) (Nat.le_of_ble_eq_true rfl) fun v24 ev24 rv24 => ?_)
            replace ev24 : v24 = tBy g30 ((5461 * rr) + tt) := ev24
            have hf25 := rm_ld (r := rr) (t := tt) hr5 ev24 (by omega) (by omega) (by omega) (by omega)
            have hl35 := hp1_3 (5461 * (a1 - 1) + v24) (by omega) (by omega)
            have hlr := hr6 v24 (by omega) (by omega)
            refine hR (t_add ?_)
            refine hR (c_aldE hC35_3 (by omega) (by omega) (Nat.le_of_ble_eq_true rfl) fun v26 ev26 rv26 => ?_)
            replace ev26 : v26 = tBy T ((5461 * (a1 - 1)) + v24) := ev26
            subst ev26
            iterate 3 refine hR (?_ : R (_, _, _, _, _, _))
            refine hR (zcall_i 0 0 (Nat.le_of_ble_eq_true rfl) (Nat.le_of_ble_eq_true rfl) (x_hasR _ _ _ _ _ fun v27 hp28 => ?_))
            refine (?_ : R (_, _, .int (Int32.ofInt v27) :: [], w_3, 0, 0))
            have hhs := hr7 rr (by omega) (by omega)
            refine hR (k_ne (by omega) (fun hc29 => ?_) (fun hc29 => ?_))
            rotate_left
            · skip
              iterate 3 refine hR (?_ : R (_, _, _, _, _, _))
              refine hR (t_inc ?_)
              refine hR (?_ : R (_, _, _, _, _, _))
              exact ih27 _ _ _ (by rfl) (by omega) (by omega) (bs_s hp0_27 (by omega) (by omega) (fun x x0 x1 => by have hm := hFO x tt x0 (by omega) (by omega) (by omega); have h9 := hr6 (F x tt) hm.1 hm.2; omega) (u := tBy g35 (5461 * (a1 - 1) + v24)) (by rw [hf25.1]) (by omega)) (by omega) (by omega)
            refine hR (?_ : R (_, _, _, _, _, _))
            refine hR (k_eq (by omega) (fun hc30 => ?_) (fun hc30 => ?_))
            · skip
              iterate 2 refine hR (?_ : R (_, _, _, _, _, _))
              refine hR (zcall_i 0 0 (Nat.le_of_ble_eq_true rfl) (Nat.le_of_ble_eq_true rfl) (m_lesser _ bv (tBy T ((5461 * (a1 - 1)) + v24)) _ (by omega) (by omega) _ fun v31 hp32 => ?_))
              refine (?_ : R (_, _, .int (Int32.ofInt v31) :: [], w_3, 0, 0))
              refine hR (?_ : R (_, _, _, _, _, _))
              refine hR (t_inc ?_)
              refine hR (?_ : R (_, _, _, _, _, _))
              exact ih27 _ _ _ (by rfl) (by omega) (by omega) (bs_s hp0_27 (by omega) (by omega) (fun x x0 x1 => by have hm := hFO x tt x0 (by omega) (by omega) (by omega); have h9 := hr6 (F x tt) hm.1 hm.2; omega) (u := tBy g35 (5461 * (a1 - 1) + v24)) (by rw [hf25.1]) (by omega)) (by omega) (by omega)
            iterate 2 refine hR (?_ : R (_, _, _, _, _, _))
            refine hR (zcall_i 0 0 (Nat.le_of_ble_eq_true rfl) (Nat.le_of_ble_eq_true rfl) (m_greater _ bv (tBy T ((5461 * (a1 - 1)) + v24)) _ (by omega) (by omega) _ fun v33 hp34 => ?_))
            refine (?_ : R (_, _, .int (Int32.ofInt v33) :: [], w_3, 0, 0))
            iterate 2 refine hR (?_ : R (_, _, _, _, _, _))
            refine hR (t_inc ?_)
            refine hR (?_ : R (_, _, _, _, _, _))
            exact ih27 _ _ _ (by rfl) (by omega) (by omega) (bs_s hp0_27 (by omega) (by omega) (fun x x0 x1 => by have hm := hFO x tt x0 (by omega) (by omega) (by omega); have h9 := hr6 (F x tt) hm.1 hm.2; omega) (u := tBy g35 (5461 * (a1 - 1) + v24)) (by rw [hf25.1]) (by omega)) (by omega) (by omega)
        exact lp27 400000000 _ _ _ hzo7_3 (by omega) (by omega) (Or.inl ⟨rfl, by omega⟩) (by omega) (by omega)
      refine hR (t_c 1000000 (by decide) ?_)
      iterate 3 refine hR (?_ : R (_, _, _, _, _, _))
      have lp27 : ∀ (N : Nat) (bv : Int) (rr : Int) (o7_27 : Option Value), (zc2 o7_27 = false) → (-1 ≤ bv ∧ bv ≤ 1000000) → (0 ≤ rr ∧ rr ≤ 5) → (BSQ a3 (fun r => tBy g35 (5461 * (a1 - 1) + F r tt)) rr bv) → (rr ≤ f23) → (6 - rr < N) → R (27, [some (.ref 14), some (.int (Int32.ofInt a1)), some (.int (Int32.ofInt a2)), some (.int (Int32.ofInt a3)), some (.int (Int32.ofInt tt)), some (.int (Int32.ofInt bv)), some (.int (Int32.ofInt rr)), o7_27], [], w_3, 0, 0) := by
        intro N
        induction N with
        | zero => intros; omega
        | succ N ih27 =>
          intro bv rr o7_27 hzo7_27 hf0_27 hf1_27 hp0_27 hp1_27 hN27
          iterate 2 refine hR (?_ : R (_, _, _, _, _, _))
          refine hR (c_get hC14_3 rfl ?_)
          refine hR (j_ge (by omega) (by omega) (fun hc3 => ?_) (fun hc3 => ?_))
          · skip
            have hbe := bs_e hp0_27 (by omega) hr4 (by omega) (fun x x0 x1 => by have hm := hFO x tt x0 x1 (by omega) (by omega); exact (hr6 (F x tt) hm.1 hm.2).1)
            refine hR (?_ : R (_, _, _, _, _, _))
            refine hR (c_get hC14_3 rfl ?_)
            refine hR (t_c 5461 (by decide) ?_)
            refine hR (?_ : R (_, _, _, _, _, _))
            refine hR (t_mul ?_)
            refine hR (?_ : R (_, _, _, _, _, _))
            refine hR (t_add ?_)
            refine hR (?_ : R (_, _, _, _, _, _))
            refine hR (x_ast hC35_3 (by omega) (by omega) (Nat.le_of_ble_eq_true rfl) fun w4 ff4 hC4 => ?_)
            have fr5 := wfM_st fr_3 ff4 nX0
            have hC6 := (ff4.2 14 (by (try dsimp only); decide)).trans hC14_3
            have hC7 := (ff4.2 30 (by (try dsimp only); decide)).trans hC30_3
            refine hR (t_inc ?_)
            refine hR (?_ : R (_, _, _, _, _, _))
            exact ih3 _ _ _ _ _ _ (by rfl) (by rfl) hzo7_27 fr5 hC6 hC7 hC4 (by omega) (fun t t0 t1 => by rw [zupI (by exact ⟨by omega, by omega⟩) (by omega) (by omega)]; by_cases c : t = tt; (· rw [if_pos (by omega), c]; exact hbe); rw [if_neg (by omega)]; exact hp0_3 t t0 (by omega)) (fun i i0 i1 => by rw [zupI (by exact ⟨by omega, by omega⟩) (by omega) i0, if_neg (by omega)]; exact hp1_3 i i0 i1) (by omega)
          refine hR (?_ : R (_, _, _, _, _, _))
          refine hR (c_get hC14_3 rfl ?_)
          refine hR (t_c 5461 (by decide) ?_)
          iterate 2 refine hR (?_ : R (_, _, _, _, _, _))
          refine hR (t_sub ?_)
          refine hR (t_mul ?_)
          refine hR (?_ : R (_, _, _, _, _, _))
          refine hR (c_get hC14_3 rfl ?_)
          refine hR (t_c 5461 (by decide) ?_)
          refine hR (?_ : R (_, _, _, _, _, _))
          refine hR (t_mul ?_)
          refine hR (?_ : R (_, _, _, _, _, _))
          refine hR (t_add ?_)
          refine hR (c_aldE hC30_3 (by omega) (by omega) (Nat.le_of_ble_eq_true rfl) fun v8 ev8 rv8 => ?_)
          replace ev8 : v8 = tBy g30 ((5461 * rr) + tt) := ev8
          have hf9 := rm_ld (r := rr) (t := tt) hr5 ev8 (by omega) (by omega) (by omega) (by omega)
          have hl35 := hp1_3 (5461 * (a1 - 1) + v8) (by omega) (by omega)
          have hlr := hr6 v8 (by omega) (by omega)
          refine hR (t_add ?_)
          refine hR (c_aldE hC35_3 (by omega) (by omega) (Nat.le_of_ble_eq_true rfl) fun v10 ev10 rv10 => ?_)
          replace ev10 : v10 = tBy T ((5461 * (a1 - 1)) + v8) := ev10
          subst ev10
          iterate 3 refine hR (?_ : R (_, _, _, _, _, _))
          refine hR (zcall_i 0 0 (Nat.le_of_ble_eq_true rfl) (Nat.le_of_ble_eq_true rfl) (x_hasR _ _ _ _ _ fun v11 hp12 => ?_))
          refine (?_ : R (_, _, .int (Int32.ofInt v11) :: [], w_3, 0, 0))
          have hhs := hr7 rr (by omega) (by omega)
          refine hR (k_ne (by omega) (fun hc13 => ?_) (fun hc13 => ?_))
          rotate_left
          · skip
            iterate 3 refine hR (?_ : R (_, _, _, _, _, _))
            refine hR (t_inc ?_)
            refine hR (?_ : R (_, _, _, _, _, _))
            exact ih27 _ _ _ (by rfl) (by omega) (by omega) (bs_s hp0_27 (by omega) (by omega) (fun x x0 x1 => by have hm := hFO x tt x0 (by omega) (by omega) (by omega); have h9 := hr6 (F x tt) hm.1 hm.2; omega) (u := tBy g35 (5461 * (a1 - 1) + v8)) (by rw [hf9.1]) (by omega)) (by omega) (by omega)
          refine hR (?_ : R (_, _, _, _, _, _))
          refine hR (k_eq (by omega) (fun hc14 => ?_) (fun hc14 => ?_))
          · skip
            iterate 2 refine hR (?_ : R (_, _, _, _, _, _))
            refine hR (zcall_i 0 0 (Nat.le_of_ble_eq_true rfl) (Nat.le_of_ble_eq_true rfl) (m_lesser _ bv (tBy T ((5461 * (a1 - 1)) + v8)) _ (by omega) (by omega) _ fun v15 hp16 => ?_))
            refine (?_ : R (_, _, .int (Int32.ofInt v15) :: [], w_3, 0, 0))
            refine hR (?_ : R (_, _, _, _, _, _))
            refine hR (t_inc ?_)
            refine hR (?_ : R (_, _, _, _, _, _))
            exact ih27 _ _ _ (by rfl) (by omega) (by omega) (bs_s hp0_27 (by omega) (by omega) (fun x x0 x1 => by have hm := hFO x tt x0 (by omega) (by omega) (by omega); have h9 := hr6 (F x tt) hm.1 hm.2; omega) (u := tBy g35 (5461 * (a1 - 1) + v8)) (by rw [hf9.1]) (by omega)) (by omega) (by omega)
          iterate 2 refine hR (?_ : R (_, _, _, _, _, _))
          refine hR (zcall_i 0 0 (Nat.le_of_ble_eq_true rfl) (Nat.le_of_ble_eq_true rfl) (m_greater _ bv (tBy T ((5461 * (a1 - 1)) + v8)) _ (by omega) (by omega) _ fun v17 hp18 => ?_))
          refine (?_ : R (_, _, .int (Int32.ofInt v17) :: [], w_3, 0, 0))
          iterate 2 refine hR (?_ : R (_, _, _, _, _, _))
          refine hR (t_inc ?_)
          refine hR (?_ : R (_, _, _, _, _, _))
          exact ih27 _ _ _ (by rfl) (by omega) (by omega) (bs_s hp0_27 (by omega) (by omega) (fun x x0 x1 => by have hm := hFO x tt x0 (by omega) (by omega) (by omega); have h9 := hr6 (F x tt) hm.1 hm.2; omega) (u := tBy g35 (5461 * (a1 - 1) + v8)) (by rw [hf9.1]) (by omega)) (by omega) (by omega)
      exact lp27 400000000 _ _ _ hzo7_3 (by omega) (by omega) (Or.inl ⟨rfl, by omega⟩) (by omega) (by omega)
  exact lp3 400000000 _ _ _ _ _ _ (by rfl) (by rfl) (by rfl) fr0 hK0 hK1 hK2 (by omega) (fun t t0 t1 => by omega) (fun i i0 i1 => rfl) (by omega)
theorem x_rotaAtR (w : zW) (d : Nat) (a1 a2 : Int) (f0 f9 f10 f11 f12 f13 f15 f16 f17 f20 f21 f22 f23 f26 f28 f31 f32 f33 f38 f41 f44 : Int) (x14 : Int64) (g30 g35 : Nat → Int32) (F : Int → Int → Int) (V : Nat → Int → Int) (hK0 : zix w 14 = some (.inr (11, [.int (Int32.ofInt f0), .ref 15, .ref 16, .ref 17, .ref 18, .ref 19, .ref 20, .ref 21, .ref 22, .int (Int32.ofInt f9), .int (Int32.ofInt f10), .int (Int32.ofInt f11), .int (Int32.ofInt f12), .int (Int32.ofInt f13), .long x14, .int (Int32.ofInt f15), .int (Int32.ofInt f16), .int (Int32.ofInt f17), .ref 23, .ref 24, .int (Int32.ofInt f20), .int (Int32.ofInt f21), .int (Int32.ofInt f22), .int (Int32.ofInt f23), .ref 25, .ref 26, .int (Int32.ofInt f26), .ref 27, .int (Int32.ofInt f28), .ref 28, .ref 29, .int (Int32.ofInt f31), .int (Int32.ofInt f32), .int (Int32.ofInt f33), .ref 30, .ref 31, .ref 32, .ref 33, .int (Int32.ofInt f38), .ref 34, .ref 35, .int (Int32.ofInt f41), .ref 36, .ref 37, .int (Int32.ofInt f44), .ref 38, .ref 39, .ref 40, .ref 41, .ref 42, .ref 43, .ref 44]))) (hK1 : zix w 30 = some (.inl (1, 27305, .inl g30))) (hK2 : zix w 35 = some (.inl (1, 54610, .inl g35))) (hr0 : 0 ≤ a1 ∧ a1 ≤ 9) (hr1 : 0 ≤ a2 ∧ a2 < a1) (hr2 : (0 ≤ f23 ∧ f23 ≤ 5) ∧ 0 ≤ f22 ∧ f22 ≤ 5460) (hr3 : RMF g30 f23 F) (hr4 : LTQ V g35 (a1 + 1)) (hr5 : ∀ lv t : Int, 0 ≤ lv → lv < a1 → 0 ≤ t → t ≤ 5460 → crF V F f23 a1 lv t ≠ -1) (Q : zQ) (h : ∀ (v : Int), (v = (crF V F f23 a1 a2 (cpF V F f23 a1 f22 (a2).toNat))) → Q (some (.int (Int32.ofInt v))) w) : zCl zTab (d + 1) iX12_rotaAt [.ref 14, .int (Int32.ofInt a1), .int (Int32.ofInt a2)] w 0 0 Q := by
  refine zCl_i (M := kX12_rotaAt) rfl (Nat.le_of_ble_eq_true rfl) fun R hR => ?_
  refine hR (?_ : R (_, _, _, _, _, _))
  refine hR (c_get hK0 rfl ?_)
  iterate 5 refine hR (?_ : R (_, _, _, _, _, _))
  have lp11 : ∀ (N : Nat) (at_ : Int) (la0 : Int) (ii : Int), (0 ≤ at_ ∧ at_ ≤ 5460) → (-1 ≤ la0 ∧ la0 ≤ 4) → (0 ≤ ii ∧ ii ≤ 9) → (at_ = cpF V F f23 a1 f22 ii.toNat) → (ii ≤ a2 + 1) → (0 < ii → la0 = (crF V F f23 a1 (ii - 1) (cpF V F f23 a1 f22 (ii - 1).toNat))) → (10 - ii < N) → R (11, [some (.ref 14), some (.int (Int32.ofInt a1)), some (.int (Int32.ofInt a2)), some (.int (Int32.ofInt at_)), some (.int (Int32.ofInt la0)), some (.int (Int32.ofInt ii))], [], w, 0, 0) := by
    intro N
    induction N with
    | zero => intros; omega
    | succ N ih11 =>
      intro at_ la0 ii hf0_11 hf1_11 hf2_11 hp0_11 hp1_11 hp2_11 hN11
      iterate 2 refine hR (?_ : R (_, _, _, _, _, _))
      refine hR (j_gt (by omega) (by omega) (fun hc1 => ?_) (fun hc1 => ?_))
      · skip
        refine hR (?_ : R (_, _, _, _, _, _))
        exact hR (zret_i rfl (Nat.le_refl _) trivial (h _ (by have h := hp2_11 (by omega); rw [show ii - 1 = a2 by omega] at h; exact h)))
      iterate 2 refine hR (?_ : R (_, _, _, _, _, _))
      have lp20 : ∀ (N : Nat) (la : Int), (0 ≤ la ∧ la ≤ 5) → (fstP (crP V F a1 ii at_) la.toNat = -1) → (6 - la < N) → R (20, [some (.ref 14), some (.int (Int32.ofInt a1)), some (.int (Int32.ofInt a2)), some (.int (Int32.ofInt at_)), some (.int (Int32.ofInt la)), some (.int (Int32.ofInt ii))], [], w, 0, 0) := by
        intro N
        induction N with
        | zero => intros; omega
        | succ N ih20 =>
          intro la hf0_20 hp0_20 hN20
          have hlt := fs_lt (n := f23) (by omega) (by omega) hp0_20 (hr5 ii at_ (by omega) (by omega) (by omega) (by omega))
          refine hR (?_ : R (_, _, _, _, _, _))
          refine hR (c_get hK0 rfl ?_)
          refine hR (t_c 5461 (by decide) ?_)
          iterate 2 refine hR (?_ : R (_, _, _, _, _, _))
          refine hR (t_sub ?_)
          refine hR (?_ : R (_, _, _, _, _, _))
          refine hR (t_sub ?_)
          refine hR (t_mul ?_)
          refine hR (?_ : R (_, _, _, _, _, _))
          refine hR (c_get hK0 rfl ?_)
          refine hR (t_c 5461 (by decide) ?_)
          refine hR (?_ : R (_, _, _, _, _, _))
          refine hR (t_mul ?_)
          refine hR (?_ : R (_, _, _, _, _, _))
          refine hR (t_add ?_)
          refine hR (c_aldE hK1 (by omega) (by omega) (Nat.le_of_ble_eq_true rfl) fun v2 ev2 rv2 => ?_)
          replace ev2 : v2 = tBy g30 ((5461 * la) + at_) := ev2
          have hf3 := rm_ld (r := la) (t := at_) hr3 ev2 (by omega) (by omega) (by omega) (by omega)
          have hla := hr4 (a1 - ii - 1) v2 (by omega) (by omega) (by omega) (by omega)
          refine hR (t_add ?_)
          refine hR (c_aldE hK2 (by omega) (by omega) (Nat.le_of_ble_eq_true rfl) fun v4 ev4 rv4 => ?_)
          replace ev4 : v4 = tBy g35 ((5461 * ((a1 - ii) - 1)) + v2) := ev4
          subst ev4
          refine hR (?_ : R (_, _, _, _, _, _))
          refine hR (c_get hK0 rfl ?_)
          refine hR (t_c 5461 (by decide) ?_)
          iterate 2 refine hR (?_ : R (_, _, _, _, _, _))
          refine hR (t_sub ?_)
          refine hR (t_mul ?_)
          refine hR (?_ : R (_, _, _, _, _, _))
          refine hR (t_add ?_)
          refine hR (c_aldE hK2 (by omega) (by omega) (Nat.le_of_ble_eq_true rfl) fun v5 ev5 rv5 => ?_)
          replace ev5 : v5 = tBy g35 ((5461 * (a1 - ii)) + at_) := ev5
          subst ev5
          have hlb := hr4 (a1 - ii) at_ (by omega) (by omega) (by omega) (by omega)
          refine hR (j_eq (by omega) (by omega) (fun hc6 => ?_) (fun hc6 => ?_))
          rotate_left
          · skip
            refine hR (t_inc ?_)
            refine hR (?_ : R (_, _, _, _, _, _))
            exact ih20 _ (by omega) (fs_n (by omega) hp0_20 (crp_f hf3.1 hla hlb (by omega) (by omega))) (by omega)
          refine hR (?_ : R (_, _, _, _, _, _))
          refine hR (c_get hK0 rfl ?_)
          refine hR (t_c 5461 (by decide) ?_)
          refine hR (?_ : R (_, _, _, _, _, _))
          refine hR (t_mul ?_)
          refine hR (?_ : R (_, _, _, _, _, _))
          refine hR (t_add ?_)
          refine hR (c_aldE hK1 (by omega) (by omega) (Nat.le_of_ble_eq_true rfl) fun v7 ev7 rv7 => ?_)
          replace ev7 : v7 = tBy g30 ((5461 * la) + at_) := ev7
          have hf8 := rm_ld (r := la) (t := at_) hr3 ev7 (by omega) (by omega) (by omega) (by omega)
          have hcr : la = crF V F f23 a1 ii at_ := fs_g (by omega) (by omega) hp0_20 (crp_t hf3.1 hla hlb (by omega) (by omega))
          have hcr2 := hcr
          rw [hp0_11] at hcr2
          refine hR (?_ : R (_, _, _, _, _, _))
          refine hR (t_inc ?_)
          refine hR (?_ : R (_, _, _, _, _, _))
          exact ih11 _ _ _ (by omega) (by omega) (by omega) (by rw [cp_s (by omega), ← hp0_11, ← hcr]; exact hf8.1) (by omega) (fun _ => by rw [show ii + 1 - 1 = ii by omega]; exact hcr2) (by omega)
      exact lp20 400000000 _ (by omega) rfl (by omega)
  exact lp11 400000000 _ _ _ (by omega) (by omega) (by omega) rfl (by omega) (fun z => by omega) (by omega)
theorem x_rotaR (w : zW) (d : Nat) (a1 a2 a3 : Int) (f0 f9 f10 f11 f12 f13 f15 f16 f17 f20 f21 f22 f23 f26 f28 f31 f32 f33 f38 f41 f44 : Int) (x14 : Int64) (g19 g20 g25 g30 g26 g27 g35 : Nat → Int32) (hK0 : zix w 14 = some (.inr (11, [.int (Int32.ofInt f0), .ref 15, .ref 16, .ref 17, .ref 18, .ref 19, .ref 20, .ref 21, .ref 22, .int (Int32.ofInt f9), .int (Int32.ofInt f10), .int (Int32.ofInt f11), .int (Int32.ofInt f12), .int (Int32.ofInt f13), .long x14, .int (Int32.ofInt f15), .int (Int32.ofInt f16), .int (Int32.ofInt f17), .ref 23, .ref 24, .int (Int32.ofInt f20), .int (Int32.ofInt f21), .int (Int32.ofInt f22), .int (Int32.ofInt f23), .ref 25, .ref 26, .int (Int32.ofInt f26), .ref 27, .int (Int32.ofInt f28), .ref 28, .ref 29, .int (Int32.ofInt f31), .int (Int32.ofInt f32), .int (Int32.ofInt f33), .ref 30, .ref 31, .ref 32, .ref 33, .int (Int32.ofInt f38), .ref 34, .ref 35, .int (Int32.ofInt f41), .ref 36, .ref 37, .int (Int32.ofInt f44), .ref 38, .ref 39, .ref 40, .ref 41, .ref 42, .ref 43, .ref 44]))) (hK1 : zix w 19 = some (.inl (1, 12, .inl g19))) (hK2 : zix w 20 = some (.inl (1, 408, .inl g20))) (hK3 : zix w 25 = some (.inl (1, 7, .inl g25))) (hK4 : zix w 30 = some (.inl (1, 27305, .inl g30))) (hK5 : zix w 26 = some (.inl (1, 7, .inl g26))) (hK6 : zix w 27 = some (.inl (1, 49, .inl g27))) (hK7 : zix w 35 = some (.inl (1, 54610, .inl g35))) (hr0 : (-2147483648 ≤ a1 ∧ a1 ≤ 2147483647) ∧ (-2147483648 ≤ a2 ∧ a2 ≤ 2147483647) ∧ (-2147483648 ≤ a3 ∧ a3 ≤ 2147483647)) (hr1 : ∀ i : Int, 0 ≤ i → i ≤ 2 → 0 ≤ tBy g19 i ∧ tBy g19 i ≤ 2) (hr2 : bkOK g20) (hr3 : (-1 ≤ f21 ∧ f21 ≤ 1) ∧ RMD g30 g20 f21) (Q : zQ) (h : ∀ (v : Int) (y20 y21 y22 y23 y26 : Int) (T25 T30 T26 T27 T35 : Nat → Int32) (w' : zW), wfM (fun j => j ≠ 14 ∧ j ≠ 25 ∧ j ≠ 30 ∧ j ≠ 26 ∧ j ≠ 27 ∧ j ≠ 35) w w' → zix w' 14 = some (.inr (11, [.int (Int32.ofInt 0), .ref 15, .ref 16, .ref 17, .ref 18, .ref 19, .ref 20, .ref 21, .ref 22, .int (Int32.ofInt f9), .int (Int32.ofInt f10), .int (Int32.ofInt f11), .int (Int32.ofInt f12), .int (Int32.ofInt f13), .long x14, .int (Int32.ofInt f15), .int (Int32.ofInt f16), .int (Int32.ofInt f17), .ref 23, .ref 24, .int (Int32.ofInt y20), .int (Int32.ofInt y21), .int (Int32.ofInt y22), .int (Int32.ofInt y23), .ref 25, .ref 26, .int (Int32.ofInt y26), .ref 27, .int (Int32.ofInt f28), .ref 28, .ref 29, .int (Int32.ofInt f31), .int (Int32.ofInt f32), .int (Int32.ofInt f33), .ref 30, .ref 31, .ref 32, .ref 33, .int (Int32.ofInt f38), .ref 34, .ref 35, .int (Int32.ofInt f41), .ref 36, .ref 37, .int (Int32.ofInt f44), .ref 38, .ref 39, .ref 40, .ref 41, .ref 42, .ref 43, .ref 44])) → zix w' 25 = some (.inl (1, 7, .inl T25)) → zix w' 30 = some (.inl (1, 27305, .inl T30)) → zix w' 26 = some (.inl (1, 7, .inl T26)) → zix w' 27 = some (.inl (1, 49, .inl T27)) → zix w' 35 = some (.inl (1, 54610, .inl T35)) → (((a1 < 0 ∨ tBy g19 0 ≤ a1) ∧ v = -1) ∨ ((0 ≤ a1 ∧ a1 < tBy g19 0) ∧ v = rotV (rF g20 (51 * a1)) (tBy g20 (51 * a1)) (tBy g20 (51 * a1 + 1)) a2 a3)) → Q (some (.int (Int32.ofInt v))) w') : zCl zTab (d + 6) iX12_rota [.ref 14, .int (Int32.ofInt a1), .int (Int32.ofInt a2), .int (Int32.ofInt a3)] w 0 0 Q := by
  refine zCl_i (M := kX12_rota) rfl (Nat.le_of_ble_eq_true rfl) fun R hR => ?_
  have fr0 : wfM (fun j => j ≠ 14 ∧ j ≠ 25 ∧ j ≠ 30 ∧ j ≠ 26 ∧ j ≠ 27 ∧ j ≠ 35) w w := wfM_rf _ w
  have h190 := hr1 0 (by omega) (by omega)
  have nX0 : FX (∀ j : Nat, (j ≠ 14 ∧ j ≠ 25 ∧ j ≠ 30 ∧ j ≠ 26 ∧ j ≠ 27 ∧ j ≠ 35) → j ≠ 14) := fun j hj => by omega
  have nX1 : FX (∀ j : Nat, (j ≠ 14 ∧ j ≠ 25 ∧ j ≠ 30 ∧ j ≠ 26 ∧ j ≠ 27 ∧ j ≠ 35) → (j ≠ 14)) := fun j hj => by omega
  have nX2 : FX (∀ j : Nat, (j ≠ 14 ∧ j ≠ 25 ∧ j ≠ 30 ∧ j ≠ 26 ∧ j ≠ 27 ∧ j ≠ 35) → (j ≠ 14 ∧ j ≠ 25 ∧ j ≠ 30)) := fun j hj => by omega
  have nX3 : FX (∀ j : Nat, (j ≠ 14 ∧ j ≠ 25 ∧ j ≠ 30 ∧ j ≠ 26 ∧ j ≠ 27 ∧ j ≠ 35) → (j ≠ 25 ∧ j ≠ 26 ∧ j ≠ 27 ∧ j ≠ 35)) := fun j hj => by omega
  have nX4 : FX (∀ j : Nat, (j ≠ 14 ∧ j ≠ 25 ∧ j ≠ 30 ∧ j ≠ 26 ∧ j ≠ 27 ∧ j ≠ 35) → (j ≠ 35)) := fun j hj => by omega
  iterate 2 refine hR (?_ : R (_, _, _, _, _, _))
  refine hR (c_put hK0 rfl rfl fun w1 ff1 hC1 => ?_)
  have fr2 := wfM_st fr0 ff1 nX0
  have hC3 := (ff1.2 19 (by (try dsimp only); decide)).trans hK1
  have hC4 := (ff1.2 20 (by (try dsimp only); decide)).trans hK2
  have hC5 := (ff1.2 25 (by (try dsimp only); decide)).trans hK3
  have hC6 := (ff1.2 30 (by (try dsimp only); decide)).trans hK4
  have hC7 := (ff1.2 26 (by (try dsimp only); decide)).trans hK5
  have hC8 := (ff1.2 27 (by (try dsimp only); decide)).trans hK6
  have hC9 := (ff1.2 35 (by (try dsimp only); decide)).trans hK7
  replace hC1 : zix w1 14 = some (.inr (11, [.int (Int32.ofInt 0), .ref 15, .ref 16, .ref 17, .ref 18, .ref 19, .ref 20, .ref 21, .ref 22, .int (Int32.ofInt f9), .int (Int32.ofInt f10), .int (Int32.ofInt f11), .int (Int32.ofInt f12), .int (Int32.ofInt f13), .long x14, .int (Int32.ofInt f15), .int (Int32.ofInt f16), .int (Int32.ofInt f17), .ref 23, .ref 24, .int (Int32.ofInt f20), .int (Int32.ofInt f21), .int (Int32.ofInt f22), .int (Int32.ofInt f23), .ref 25, .ref 26, .int (Int32.ofInt f26), .ref 27, .int (Int32.ofInt f28), .ref 28, .ref 29, .int (Int32.ofInt f31), .int (Int32.ofInt f32), .int (Int32.ofInt f33), .ref 30, .ref 31, .ref 32, .ref 33, .int (Int32.ofInt f38), .ref 34, .ref 35, .int (Int32.ofInt f41), .ref 36, .ref 37, .int (Int32.ofInt f44), .ref 38, .ref 39, .ref 40, .ref 41, .ref 42, .ref 43, .ref 44])) := hC1
  iterate 2 refine hR (?_ : R (_, _, _, _, _, _))
  refine hR (t_c 9 (by decide) ?_)
  refine hR (zcall_i 0 0 (Nat.le_of_ble_eq_true rfl) (Nat.le_of_ble_eq_true rfl) (m_in _ a2 0 9 _ (by omega) (by omega) (by omega) _ fun v10 hp11 => ?_))
  refine (?_ : R (_, _, .int (Int32.ofInt v10) :: [], w1, 0, 0))
  refine hR (k_eq (by omega) (fun hc12 => ?_) (fun hc12 => ?_))
  · skip
    refine hR (?_ : R (_, _, _, _, _, _))
    exact hR (zret_i rfl (Nat.le_refl _) trivial (h _ _ _ _ _ _ _ _ _ _ _ _ fr2 hC1 hC5 hC6 hC7 hC8 hC9 (w_bad (show (a1 < 0 ∨ tBy g19 0 ≤ a1) ∨ (0 ≤ a1 ∧ a1 < tBy g19 0) by omega) (rot_n (by omega)))))
  iterate 2 refine hR (?_ : R (_, _, _, _, _, _))
  refine hR (c_obj hC1 (zcall_i 0 0 (Nat.le_of_ble_eq_true rfl) (Nat.le_of_ble_eq_true rfl) (x_handR _ _ _ _ _ _ _ _ _ _ _ _ _ _ _ _ _ _ _ _ _ _ _ _ _ _ _ hC1 hC3 hC4 (by omega) hr1 _ fun v13 y20_14 y22_15 y23_16 w17 gg18 hC19 hp20 => ?_)))
  have fr21 := wfM_tr fr2 gg18 nX1
  have hC22 := (gg18.2 19 (by (try dsimp only); decide)).trans hC3
  have hC23 := (gg18.2 20 (by (try dsimp only); decide)).trans hC4
  have hC24 := (gg18.2 25 (by (try dsimp only); decide)).trans hC5
  have hC25 := (gg18.2 30 (by (try dsimp only); decide)).trans hC6
  have hC26 := (gg18.2 26 (by (try dsimp only); decide)).trans hC7
  have hC27 := (gg18.2 27 (by (try dsimp only); decide)).trans hC8
  have hC28 := (gg18.2 35 (by (try dsimp only); decide)).trans hC9
  refine (?_ : R (_, _, .int (Int32.ofInt v13) :: [], w17, 0, 0))
  refine hR (k_eq (by omega) (fun hc29 => ?_) (fun hc29 => ?_))
  · skip
    refine hR (?_ : R (_, _, _, _, _, _))
    exact hR (zret_i rfl (Nat.le_refl _) trivial (h _ _ _ _ _ _ _ _ _ _ _ _ fr21 hC19 hC24 hC25 hC26 hC27 hC28 (Or.inl ⟨by omega, rfl⟩)))
  have ht : (0 ≤ a1 ∧ a1 < tBy g19 0 ∧ a1 ≤ 1) ∧ a1 = y20_14 ∧ y22_15 = tBy g20 (51 * a1 + 0) ∧ y23_16 = tBy g20 (51 * a1 + 1) := by omega
  obtain ⟨ht1, ht2, ht3, ht4⟩ := ht
  subst ht2
  have hb1 := bk_b1 hr2 a1 (by omega) (by omega)
  rw [Int.add_zero] at ht3
  have hbr : 0 ≤ y22_15 ∧ y22_15 ≤ 5460 := by rw [ht3]; exact bk_x0 hr2 ht1.1 ht1.2.2
  refine hR (?_ : R (_, _, _, _, _, _))
  refine hR (c_get hC19 rfl ?_)
  refine hR (k_ne (by omega) (fun hc30 => ?_) (fun hc30 => ?_))
  · skip
    iterate 3 refine hR (?_ : R (_, _, _, _, _, _))
    refine hR (zcall_i 0 0 (Nat.le_of_ble_eq_true rfl) (Nat.le_of_ble_eq_true rfl) (m_in _ a3 0 1 _ (by omega) (by omega) (by omega) _ fun v31 hp32 => ?_))
    refine (?_ : R (_, _, .int (Int32.ofInt v31) :: [], w17, 0, 0))
    refine hR (k_ne (by omega) (fun hc33 => ?_) (fun hc33 => ?_))
    · skip
      refine hR (?_ : R (_, _, _, _, _, _))
      refine hR (c_obj hC19 (zcall_i 0 0 (Nat.le_of_ble_eq_true rfl) (Nat.le_of_ble_eq_true rfl) (x_layMadeR _ _ _ _ _ _ _ _ _ _ _ _ _ _ _ _ _ _ _ _ _ _ _ _ _ _ _ hC19 hC23 hC24 hC25 hr2 (by omega) ⟨ht4, by omega, by omega⟩ hr3 _ fun y26_34 T25_35 T30_36 w37 gg38 hC39 hC40 hC41 hp42 => ?_)))
      have fr43 := wfM_tr fr21 gg38 nX2
      have hC44 := (gg38.2 19 (by (try dsimp only); decide)).trans hC22
      have hC45 := (gg38.2 20 (by (try dsimp only); decide)).trans hC23
      have hC46 := (gg38.2 26 (by (try dsimp only); decide)).trans hC26
      have hC47 := (gg38.2 27 (by (try dsimp only); decide)).trans hC27
      have hC48 := (gg38.2 35 (by (try dsimp only); decide)).trans hC28
      refine (?_ : R (_, _, [], w37, 0, 0))
      have hF := hp42
      refine hR (?_ : R (_, _, _, _, _, _))
      refine hR (c_obj hC39 (zcall_i 0 0 (Nat.le_of_ble_eq_true rfl) (Nat.le_of_ble_eq_true rfl) (x_layDriftsR _ _ _ _ _ _ _ _ _ _ _ _ _ _ _ _ _ _ _ _ _ _ _ _ _ _ _ _ hC39 hC40 hC46 hC47 hC48 (by omega) _ fun T25_49 T26_50 T27_51 T35_52 w53 gg54 hC55 hC56 hC57 hC58 hp59 => ?_)))
      have fr60 := wfM_tr fr43 gg54 nX3
      have hC61 := (gg54.2 14 (by (try dsimp only); decide)).trans hC39
      have hC62 := (gg54.2 19 (by (try dsimp only); decide)).trans hC44
      have hC63 := (gg54.2 20 (by (try dsimp only); decide)).trans hC45
      have hC64 := (gg54.2 30 (by (try dsimp only); decide)).trans hC41
      refine (?_ : R (_, _, [], w53, 0, 0))
      have hld := hp59
      obtain ⟨hw, hw1, hw0⟩ : ∃ hw : Int, (a3 = 1 → hw = 1) ∧ (a3 ≠ 1 → hw = 0) := by
        by_cases c : a3 = 1
        · exact ⟨1, fun _ => rfl, fun z => absurd c z⟩
        · exact ⟨0, fun z => absurd z c, fun _ => rfl⟩
      have hFO := rm_ok hF
      iterate 2 refine hR (?_ : R (_, _, _, _, _, _))
      have lp69 : ∀ (N : Nat) (kk : Int) (T : Nat → Int32) (w_69 : zW), (wfM (fun j => j ≠ 14 ∧ j ≠ 25 ∧ j ≠ 30 ∧ j ≠ 26 ∧ j ≠ 27 ∧ j ≠ 35) w w_69) → (zix w_69 14 = some (.inr (11, [.int (Int32.ofInt 0), .ref 15, .ref 16, .ref 17, .ref 18, .ref 19, .ref 20, .ref 21, .ref 22, .int (Int32.ofInt f9), .int (Int32.ofInt f10), .int (Int32.ofInt f11), .int (Int32.ofInt f12), .int (Int32.ofInt f13), .long x14, .int (Int32.ofInt f15), .int (Int32.ofInt f16), .int (Int32.ofInt f17), .ref 23, .ref 24, .int (Int32.ofInt a1), .int (Int32.ofInt a1), .int (Int32.ofInt y22_15), .int (Int32.ofInt y23_16), .ref 25, .ref 26, .int (Int32.ofInt y26_34), .ref 27, .int (Int32.ofInt f28), .ref 28, .ref 29, .int (Int32.ofInt f31), .int (Int32.ofInt f32), .int (Int32.ofInt f33), .ref 30, .ref 31, .ref 32, .ref 33, .int (Int32.ofInt f38), .ref 34, .ref 35, .int (Int32.ofInt f41), .ref 36, .ref 37, .int (Int32.ofInt f44), .ref 38, .ref 39, .ref 40, .ref 41, .ref 42, .ref 43, .ref 44]))) → (zix w_69 19 = some (.inl (1, 12, .inl g19))) → (zix w_69 20 = some (.inl (1, 408, .inl g20))) → (zix w_69 25 = some (.inl (1, 7, .inl T25_49))) → (zix w_69 30 = some (.inl (1, 27305, .inl T30_36))) → (zix w_69 26 = some (.inl (1, 7, .inl T26_50))) → (zix w_69 27 = some (.inl (1, 49, .inl T27_51))) → (zix w_69 35 = some (.inl (1, 54610, .inl T))) → (1 ≤ kk ∧ kk ≤ 10) → (LTQ (vaF hw (rF g20 (51 * a1)) y23_16 (fun t => dft t y22_15)) T kk) → (kk ≤ a2 + 1) → (11 - kk < N) → R (69, [some (.ref 14), some (.int (Int32.ofInt a1)), some (.int (Int32.ofInt a2)), some (.int (Int32.ofInt a3)), some (.int (Int32.ofInt kk))], [], w_69, 0, 0) := by
        intro N
        induction N with
        | zero => intros; omega
        | succ N ih69 =>
          intro kk T w_69 fr_69 hC14_69 hC19_69 hC20_69 hC25_69 hC30_69 hC26_69 hC27_69 hC35_69 hf0_69 hp0_69 hp1_69 hN69
          iterate 2 refine hR (?_ : R (_, _, _, _, _, _))
          refine hR (j_gt (by omega) (by omega) (fun hc65 => ?_) (fun hc65 => ?_))
          · skip
            iterate 2 refine hR (?_ : R (_, _, _, _, _, _))
            refine hR (j_ge (by omega) (by omega) (fun hc66 => ?_) (fun hc66 => ?_))
            · skip
              iterate 3 refine hR (?_ : R (_, _, _, _, _, _))
              refine hR (t_c 10 (by decide) ?_)
              refine hR (t_sub ?_)
              refine hR (c_obj hC14_69 (zcall_i 0 0 (Nat.le_of_ble_eq_true rfl) (Nat.le_of_ble_eq_true rfl) (x_rotaAtR _ _ _ _ _ _ _ _ _ _ _ _ _ _ _ _ _ _ _ _ _ _ _ _ _ _ _ _ _ _ hC14_69 hC30_69 hC35_69 (by omega) (by omega) (by omega) hF (by have h9 := hp0_69; rw [show kk = a2 + 1 by omega] at h9; exact h9) (fun lv t l0 l1 t0 t1 => by rw [show hw = 0 by omega]; exact cr_ex hFO ⟨by omega, by omega⟩ (by decide) (dft_b _) l0 l1 t0 t1) _ fun v67 hp68 => ?_)))
              refine (?_ : R (_, _, .int (Int32.ofInt v67) :: [], w_69, 0, 0))
              exact hR (zret_i rfl (Nat.le_refl _) trivial (h _ _ _ _ _ _ _ _ _ _ _ _ fr_69 hC14_69 hC25_69 hC30_69 hC26_69 hC27_69 hC35_69 (Or.inr ⟨by omega, (by rw [← ht3, ← ht4]; exact hp68.trans (by rw [rot_k (by omega) (fun _ => by omega) (by omega), hw0 (by omega)]))⟩)))
            have hke : kk = a2 + 1 := by omega
            refine hR (?_ : R (_, _, _, _, _, _))
            refine hR (c_get hC14_69 rfl ?_)
            refine hR (t_c 5461 (by decide) ?_)
            refine hR (?_ : R (_, _, _, _, _, _))
            refine hR (t_mul ?_)
            refine hR (?_ : R (_, _, _, _, _, _))
            refine hR (c_get hC14_69 rfl ?_)
            refine hR (t_add ?_)
            refine hR (c_aldE hC35_69 (by omega) (by omega) (Nat.le_of_ble_eq_true rfl) fun v69 ev69 rv69 => ?_)
            replace ev69 : v69 = tBy T ((5461 * a2) + y22_15) := ev69
            subst ev69
            refine hR (?_ : R (_, _, _, _, _, _))
            exact hR (zret_i rfl (Nat.le_refl _) trivial (h _ _ _ _ _ _ _ _ _ _ _ _ fr_69 hC14_69 hC25_69 hC30_69 hC26_69 hC27_69 hC35_69 (Or.inr ⟨by omega, (by rw [← ht3, ← ht4, rot_y (by omega) (fun _ => by omega) (by omega), show a3 = hw by omega]; exact hp0_69 a2 y22_15 (by omega) (by omega) (by omega) (by omega))⟩)))
          iterate 3 refine hR (?_ : R (_, _, _, _, _, _))
          refine hR (c_obj hC14_69 (zcall_i 0 0 (Nat.le_of_ble_eq_true rfl) (Nat.le_of_ble_eq_true rfl) (x_everybodyR _ _ _ _ _ _ _ _ _ _ _ _ _ _ _ _ _ _ _ _ _ _ _ _ hC14_69 (by omega) _ fun v70 hp71 => ?_)))
          subst hp71
          refine (?_ : R (_, _, .int (Int32.ofInt (bShl 1 y23_16 - 1)) :: .int (Int32.ofInt kk) :: .ref 14 :: [], w_69, 0, 0))
          have hsb := shl_b (n := y23_16) (by omega)
          iterate 2 refine hR (?_ : R (_, _, _, _, _, _))
          refine hR (j_ne (by omega) (by omega) (fun hc72 => ?_) (fun hc72 => ?_))
          · skip
            refine hR (?_ : R (_, _, _, _, _, _))
            refine hR (c_obj hC14_69 (zcall_i 0 0 (Nat.le_of_ble_eq_true rfl) (Nat.le_of_ble_eq_true rfl) (x_bestR _ _ _ _ _ _ _ _ _ _ _ _ _ _ _ _ _ _ _ _ _ _ _ _ _ _ _ _ _ _ hC14_69 hC30_69 hC35_69 (by omega) (by omega) (by omega) (by omega) (by omega) hF (fun t t0 t1 => by rw [hp0_69 (kk - 1) t (by omega) (by omega) t0 t1]; exact va_b hFO (by omega) (by decide) (dft_b _) (by omega) _ t t0 t1) (fun r r0 r1 => all_hh (by omega) r0 r1) _ fun T35_73 w74 gg75 hC76 hp77 hp78 => ?_)))
            have fr79 := wfM_tr fr_69 gg75 nX4
            have hC80 := (gg75.2 14 (by (try dsimp only); decide)).trans hC14_69
            have hC81 := (gg75.2 19 (by (try dsimp only); decide)).trans hC19_69
            have hC82 := (gg75.2 20 (by (try dsimp only); decide)).trans hC20_69
            have hC83 := (gg75.2 25 (by (try dsimp only); decide)).trans hC25_69
            have hC84 := (gg75.2 30 (by (try dsimp only); decide)).trans hC30_69
            have hC85 := (gg75.2 26 (by (try dsimp only); decide)).trans hC26_69
            have hC86 := (gg75.2 27 (by (try dsimp only); decide)).trans hC27_69
            refine (?_ : R (_, _, [], w74, 0, 0))
            have hwe : hw = 0 := by omega
            have hlt2 := ltq_s hFO (by omega) hp0_69 (by omega) (by rw [hwe]; exact hp77) hp78
            refine hR (t_inc ?_)
            refine hR (?_ : R (_, _, _, _, _, _))
            exact ih69 _ _ _ fr79 hC80 hC81 hC82 hC83 hC84 hC85 hC86 hC76 (by omega) hlt2 (by omega) (by omega)
          iterate 2 refine hR (?_ : R (_, _, _, _, _, _))
          refine hR (c_obj hC14_69 (zcall_i 0 0 (Nat.le_of_ble_eq_true rfl) (Nat.le_of_ble_eq_true rfl) (x_bestR _ _ _ _ _ _ _ _ _ _ _ _ _ _ _ _ _ _ _ _ _ _ _ _ _ _ _ _ _ _ hC14_69 hC30_69 hC35_69 (by omega) (by omega) (by omega) (by omega) (by omega) hF (fun t t0 t1 => by rw [hp0_69 (kk - 1) t (by omega) (by omega) t0 t1]; exact va_b hFO (by omega) (by decide) (dft_b _) (by omega) _ t t0 t1) (fun r r0 r1 => all_hh (by omega) r0 r1) _ fun T35_87 w88 gg89 hC90 hp91 hp92 => ?_)))
          have fr93 := wfM_tr fr_69 gg89 nX4
          have hC94 := (gg89.2 14 (by (try dsimp only); decide)).trans hC14_69
          have hC95 := (gg89.2 19 (by (try dsimp only); decide)).trans hC19_69
          have hC96 := (gg89.2 20 (by (try dsimp only); decide)).trans hC20_69
          have hC97 := (gg89.2 25 (by (try dsimp only); decide)).trans hC25_69
          have hC98 := (gg89.2 30 (by (try dsimp only); decide)).trans hC30_69
          have hC99 := (gg89.2 26 (by (try dsimp only); decide)).trans hC26_69
          have hC100 := (gg89.2 27 (by (try dsimp only); decide)).trans hC27_69
          refine (?_ : R (_, _, [], w88, 0, 0))
          have hwe : hw = 1 := by omega
          have hlt2 := ltq_s hFO (by omega) hp0_69 (by omega) (by rw [hwe]; exact hp91) hp92
          refine hR (t_inc ?_)
          refine hR (?_ : R (_, _, _, _, _, _))
          exact ih69 _ _ _ fr93 hC94 hC95 hC96 hC97 hC98 hC99 hC100 hC90 (by omega) hlt2 (by omega) (by omega)
      exact lp69 400000000 _ _ _ fr60 hC61 hC62 hC63 hC55 hC64 hC56 hC57 hC58 (by omega) (lt_1 hld) (by omega) (by omega)
    refine hR (?_ : R (_, _, _, _, _, _))
    refine hR (t_c 10 (by decide) ?_)
    refine hR (t_c 9 (by decide) ?_)
    refine hR (?_ : R (_, _, _, _, _, _))
    refine hR (t_add ?_)
    refine hR (zcall_i 0 0 (Nat.le_of_ble_eq_true rfl) (Nat.le_of_ble_eq_true rfl) (m_in _ a3 10 (9 + a2) _ (by omega) (by omega) (by omega) _ fun v101 hp102 => ?_))
    refine (?_ : R (_, _, .int (Int32.ofInt v101) :: [], w17, 0, 0))
    refine hR (k_ne (by omega) (fun hc103 => ?_) (fun hc103 => ?_))
    rotate_left
    · skip
      refine hR (?_ : R (_, _, _, _, _, _))
      exact hR (zret_i rfl (Nat.le_refl _) trivial (h _ _ _ _ _ _ _ _ _ _ _ _ fr21 hC19 hC24 hC25 hC26 hC27 hC28 (Or.inr ⟨by omega, (by rw [← ht4]; exact (rot_n (by omega)).symm)⟩)))
    refine hR (?_ : R (_, _, _, _, _, _))
    refine hR (c_obj hC19 (zcall_i 0 0 (Nat.le_of_ble_eq_true rfl) (Nat.le_of_ble_eq_true rfl) (x_layMadeR _ _ _ _ _ _ _ _ _ _ _ _ _ _ _ _ _ _ _ _ _ _ _ _ _ _ _ hC19 hC23 hC24 hC25 hr2 (by omega) ⟨ht4, by omega, by omega⟩ hr3 _ fun y26_104 T25_105 T30_106 w107 gg108 hC109 hC110 hC111 hp112 => ?_)))
    have fr113 := wfM_tr fr21 gg108 nX2
    have hC114 := (gg108.2 19 (by (try dsimp only); decide)).trans hC22
    have hC115 := (gg108.2 20 (by (try dsimp only); decide)).trans hC23
    have hC116 := (gg108.2 26 (by (try dsimp only); decide)).trans hC26
    have hC117 := (gg108.2 27 (by (try dsimp only); decide)).trans hC27
    have hC118 := (gg108.2 35 (by (try dsimp only); decide)).trans hC28
    refine (?_ : R (_, _, [], w107, 0, 0))
    have hF := hp112
    refine hR (?_ : R (_, _, _, _, _, _))
    refine hR (c_obj hC109 (zcall_i 0 0 (Nat.le_of_ble_eq_true rfl) (Nat.le_of_ble_eq_true rfl) (x_layDriftsR _ _ _ _ _ _ _ _ _ _ _ _ _ _ _ _ _ _ _ _ _ _ _ _ _ _ _ _ hC109 hC110 hC116 hC117 hC118 (by omega) _ fun T25_119 T26_120 T27_121 T35_122 w123 gg124 hC125 hC126 hC127 hC128 hp129 => ?_)))
    have fr130 := wfM_tr fr113 gg124 nX3
    have hC131 := (gg124.2 14 (by (try dsimp only); decide)).trans hC109
    have hC132 := (gg124.2 19 (by (try dsimp only); decide)).trans hC114
    have hC133 := (gg124.2 20 (by (try dsimp only); decide)).trans hC115
    have hC134 := (gg124.2 30 (by (try dsimp only); decide)).trans hC111
    refine (?_ : R (_, _, [], w123, 0, 0))
    have hld := hp129
    obtain ⟨hw, hw1, hw0⟩ : ∃ hw : Int, (a3 = 1 → hw = 1) ∧ (a3 ≠ 1 → hw = 0) := by
      by_cases c : a3 = 1
      · exact ⟨1, fun _ => rfl, fun z => absurd c z⟩
      · exact ⟨0, fun z => absurd z c, fun _ => rfl⟩
    have hFO := rm_ok hF
    iterate 2 refine hR (?_ : R (_, _, _, _, _, _))
    have lp69 : ∀ (N : Nat) (kk : Int) (T : Nat → Int32) (w_69 : zW), (wfM (fun j => j ≠ 14 ∧ j ≠ 25 ∧ j ≠ 30 ∧ j ≠ 26 ∧ j ≠ 27 ∧ j ≠ 35) w w_69) → (zix w_69 14 = some (.inr (11, [.int (Int32.ofInt 0), .ref 15, .ref 16, .ref 17, .ref 18, .ref 19, .ref 20, .ref 21, .ref 22, .int (Int32.ofInt f9), .int (Int32.ofInt f10), .int (Int32.ofInt f11), .int (Int32.ofInt f12), .int (Int32.ofInt f13), .long x14, .int (Int32.ofInt f15), .int (Int32.ofInt f16), .int (Int32.ofInt f17), .ref 23, .ref 24, .int (Int32.ofInt a1), .int (Int32.ofInt a1), .int (Int32.ofInt y22_15), .int (Int32.ofInt y23_16), .ref 25, .ref 26, .int (Int32.ofInt y26_104), .ref 27, .int (Int32.ofInt f28), .ref 28, .ref 29, .int (Int32.ofInt f31), .int (Int32.ofInt f32), .int (Int32.ofInt f33), .ref 30, .ref 31, .ref 32, .ref 33, .int (Int32.ofInt f38), .ref 34, .ref 35, .int (Int32.ofInt f41), .ref 36, .ref 37, .int (Int32.ofInt f44), .ref 38, .ref 39, .ref 40, .ref 41, .ref 42, .ref 43, .ref 44]))) → (zix w_69 19 = some (.inl (1, 12, .inl g19))) → (zix w_69 20 = some (.inl (1, 408, .inl g20))) → (zix w_69 25 = some (.inl (1, 7, .inl T25_119))) → (zix w_69 30 = some (.inl (1, 27305, .inl T30_106))) → (zix w_69 26 = some (.inl (1, 7, .inl T26_120))) → (zix w_69 27 = some (.inl (1, 49, .inl T27_121))) → (zix w_69 35 = some (.inl (1, 54610, .inl T))) → (1 ≤ kk ∧ kk ≤ 10) → (LTQ (vaF hw (rF g20 (51 * a1)) y23_16 (fun t => dft t y22_15)) T kk) → (kk ≤ a2 + 1) → (11 - kk < N) → R (69, [some (.ref 14), some (.int (Int32.ofInt a1)), some (.int (Int32.ofInt a2)), some (.int (Int32.ofInt a3)), some (.int (Int32.ofInt kk))], [], w_69, 0, 0) := by
      intro N
      induction N with
      | zero => intros; omega
      | succ N ih69 =>
        intro kk T w_69 fr_69 hC14_69 hC19_69 hC20_69 hC25_69 hC30_69 hC26_69 hC27_69 hC35_69 hf0_69 hp0_69 hp1_69 hN69
        iterate 2 refine hR (?_ : R (_, _, _, _, _, _))
        refine hR (j_gt (by omega) (by omega) (fun hc135 => ?_) (fun hc135 => ?_))
        · skip
          iterate 2 refine hR (?_ : R (_, _, _, _, _, _))
          refine hR (j_ge (by omega) (by omega) (fun hc136 => ?_) (fun hc136 => ?_))
          · skip
            iterate 3 refine hR (?_ : R (_, _, _, _, _, _))
            refine hR (t_c 10 (by decide) ?_)
            refine hR (t_sub ?_)
            refine hR (c_obj hC14_69 (zcall_i 0 0 (Nat.le_of_ble_eq_true rfl) (Nat.le_of_ble_eq_true rfl) (x_rotaAtR _ _ _ _ _ _ _ _ _ _ _ _ _ _ _ _ _ _ _ _ _ _ _ _ _ _ _ _ _ _ hC14_69 hC30_69 hC35_69 (by omega) (by omega) (by omega) hF (by have h9 := hp0_69; rw [show kk = a2 + 1 by omega] at h9; exact h9) (fun lv t l0 l1 t0 t1 => by rw [show hw = 0 by omega]; exact cr_ex hFO ⟨by omega, by omega⟩ (by decide) (dft_b _) l0 l1 t0 t1) _ fun v137 hp138 => ?_)))
            refine (?_ : R (_, _, .int (Int32.ofInt v137) :: [], w_69, 0, 0))
            exact hR (zret_i rfl (Nat.le_refl _) trivial (h _ _ _ _ _ _ _ _ _ _ _ _ fr_69 hC14_69 hC25_69 hC30_69 hC26_69 hC27_69 hC35_69 (Or.inr ⟨by omega, (by rw [← ht3, ← ht4]; exact hp138.trans (by rw [rot_k (by omega) (fun _ => by omega) (by omega), hw0 (by omega)]))⟩)))
          have hke : kk = a2 + 1 := by omega
          refine hR (?_ : R (_, _, _, _, _, _))
          refine hR (c_get hC14_69 rfl ?_)
          refine hR (t_c 5461 (by decide) ?_)
          refine hR (?_ : R (_, _, _, _, _, _))
          refine hR (t_mul ?_)
          refine hR (?_ : R (_, _, _, _, _, _))
          refine hR (c_get hC14_69 rfl ?_)
          refine hR (t_add ?_)
          refine hR (c_aldE hC35_69 (by omega) (by omega) (Nat.le_of_ble_eq_true rfl) fun v139 ev139 rv139 => ?_)
          replace ev139 : v139 = tBy T ((5461 * a2) + y22_15) := ev139
          subst ev139
          refine hR (?_ : R (_, _, _, _, _, _))
          exact hR (zret_i rfl (Nat.le_refl _) trivial (h _ _ _ _ _ _ _ _ _ _ _ _ fr_69 hC14_69 hC25_69 hC30_69 hC26_69 hC27_69 hC35_69 (Or.inr ⟨by omega, (by rw [← ht3, ← ht4, rot_y (by omega) (fun _ => by omega) (by omega), show a3 = hw by omega]; exact hp0_69 a2 y22_15 (by omega) (by omega) (by omega) (by omega))⟩)))
        iterate 3 refine hR (?_ : R (_, _, _, _, _, _))
        refine hR (c_obj hC14_69 (zcall_i 0 0 (Nat.le_of_ble_eq_true rfl) (Nat.le_of_ble_eq_true rfl) (x_everybodyR _ _ _ _ _ _ _ _ _ _ _ _ _ _ _ _ _ _ _ _ _ _ _ _ hC14_69 (by omega) _ fun v140 hp141 => ?_)))
        subst hp141
        refine (?_ : R (_, _, .int (Int32.ofInt (bShl 1 y23_16 - 1)) :: .int (Int32.ofInt kk) :: .ref 14 :: [], w_69, 0, 0))
        have hsb := shl_b (n := y23_16) (by omega)
        iterate 2 refine hR (?_ : R (_, _, _, _, _, _))
        refine hR (j_ne (by omega) (by omega) (fun hc142 => ?_) (fun hc142 => ?_))
        · skip
          refine hR (?_ : R (_, _, _, _, _, _))
          refine hR (c_obj hC14_69 (zcall_i 0 0 (Nat.le_of_ble_eq_true rfl) (Nat.le_of_ble_eq_true rfl) (x_bestR _ _ _ _ _ _ _ _ _ _ _ _ _ _ _ _ _ _ _ _ _ _ _ _ _ _ _ _ _ _ hC14_69 hC30_69 hC35_69 (by omega) (by omega) (by omega) (by omega) (by omega) hF (fun t t0 t1 => by rw [hp0_69 (kk - 1) t (by omega) (by omega) t0 t1]; exact va_b hFO (by omega) (by decide) (dft_b _) (by omega) _ t t0 t1) (fun r r0 r1 => all_hh (by omega) r0 r1) _ fun T35_143 w144 gg145 hC146 hp147 hp148 => ?_)))
          have fr149 := wfM_tr fr_69 gg145 nX4
          have hC150 := (gg145.2 14 (by (try dsimp only); decide)).trans hC14_69
          have hC151 := (gg145.2 19 (by (try dsimp only); decide)).trans hC19_69
          have hC152 := (gg145.2 20 (by (try dsimp only); decide)).trans hC20_69
          have hC153 := (gg145.2 25 (by (try dsimp only); decide)).trans hC25_69
          have hC154 := (gg145.2 30 (by (try dsimp only); decide)).trans hC30_69
          have hC155 := (gg145.2 26 (by (try dsimp only); decide)).trans hC26_69
          have hC156 := (gg145.2 27 (by (try dsimp only); decide)).trans hC27_69
          refine (?_ : R (_, _, [], w144, 0, 0))
          have hwe : hw = 0 := by omega
          have hlt2 := ltq_s hFO (by omega) hp0_69 (by omega) (by rw [hwe]; exact hp147) hp148
          refine hR (t_inc ?_)
          refine hR (?_ : R (_, _, _, _, _, _))
          exact ih69 _ _ _ fr149 hC150 hC151 hC152 hC153 hC154 hC155 hC156 hC146 (by omega) hlt2 (by omega) (by omega)
        iterate 2 refine hR (?_ : R (_, _, _, _, _, _))
        refine hR (c_obj hC14_69 (zcall_i 0 0 (Nat.le_of_ble_eq_true rfl) (Nat.le_of_ble_eq_true rfl) (x_bestR _ _ _ _ _ _ _ _ _ _ _ _ _ _ _ _ _ _ _ _ _ _ _ _ _ _ _ _ _ _ hC14_69 hC30_69 hC35_69 (by omega) (by omega) (by omega) (by omega) (by omega) hF (fun t t0 t1 => by rw [hp0_69 (kk - 1) t (by omega) (by omega) t0 t1]; exact va_b hFO (by omega) (by decide) (dft_b _) (by omega) _ t t0 t1) (fun r r0 r1 => all_hh (by omega) r0 r1) _ fun T35_157 w158 gg159 hC160 hp161 hp162 => ?_)))
        have fr163 := wfM_tr fr_69 gg159 nX4
        have hC164 := (gg159.2 14 (by (try dsimp only); decide)).trans hC14_69
        have hC165 := (gg159.2 19 (by (try dsimp only); decide)).trans hC19_69
        have hC166 := (gg159.2 20 (by (try dsimp only); decide)).trans hC20_69
        have hC167 := (gg159.2 25 (by (try dsimp only); decide)).trans hC25_69
        have hC168 := (gg159.2 30 (by (try dsimp only); decide)).trans hC30_69
        have hC169 := (gg159.2 26 (by (try dsimp only); decide)).trans hC26_69
        have hC170 := (gg159.2 27 (by (try dsimp only); decide)).trans hC27_69
        refine (?_ : R (_, _, [], w158, 0, 0))
        have hwe : hw = 1 := by omega
        have hlt2 := ltq_s hFO (by omega) hp0_69 (by omega) (by rw [hwe]; exact hp161) hp162
        refine hR (t_inc ?_)
        refine hR (?_ : R (_, _, _, _, _, _))
        exact ih69 _ _ _ fr163 hC164 hC165 hC166 hC167 hC168 hC169 hC170 hC160 (by omega) hlt2 (by omega) (by omega)
    exact lp69 400000000 _ _ _ fr130 hC131 hC132 hC133 hC125 hC134 hC126 hC127 hC128 (by omega) (lt_1 hld) (by omega) (by omega)
  refine hR (?_ : R (_, _, _, _, _, _))
  refine hR (k_gt (by omega) (fun hc171 => ?_) (fun hc171 => ?_))
  · skip
    refine hR (?_ : R (_, _, _, _, _, _))
    exact hR (zret_i rfl (Nat.le_refl _) trivial (h _ _ _ _ _ _ _ _ _ _ _ _ fr21 hC19 hC24 hC25 hC26 hC27 hC28 (Or.inr ⟨by omega, (by rw [← ht4]; exact (rot_n (by omega)).symm)⟩)))
  iterate 3 refine hR (?_ : R (_, _, _, _, _, _))
  refine hR (zcall_i 0 0 (Nat.le_of_ble_eq_true rfl) (Nat.le_of_ble_eq_true rfl) (m_in _ a3 0 1 _ (by omega) (by omega) (by omega) _ fun v172 hp173 => ?_))
  refine (?_ : R (_, _, .int (Int32.ofInt v172) :: [], w17, 0, 0))
  refine hR (k_ne (by omega) (fun hc174 => ?_) (fun hc174 => ?_))
  · skip
    refine hR (?_ : R (_, _, _, _, _, _))
    refine hR (c_obj hC19 (zcall_i 0 0 (Nat.le_of_ble_eq_true rfl) (Nat.le_of_ble_eq_true rfl) (x_layMadeR _ _ _ _ _ _ _ _ _ _ _ _ _ _ _ _ _ _ _ _ _ _ _ _ _ _ _ hC19 hC23 hC24 hC25 hr2 (by omega) ⟨ht4, by omega, by omega⟩ hr3 _ fun y26_175 T25_176 T30_177 w178 gg179 hC180 hC181 hC182 hp183 => ?_)))
    have fr184 := wfM_tr fr21 gg179 nX2
    have hC185 := (gg179.2 19 (by (try dsimp only); decide)).trans hC22
    have hC186 := (gg179.2 20 (by (try dsimp only); decide)).trans hC23
    have hC187 := (gg179.2 26 (by (try dsimp only); decide)).trans hC26
    have hC188 := (gg179.2 27 (by (try dsimp only); decide)).trans hC27
    have hC189 := (gg179.2 35 (by (try dsimp only); decide)).trans hC28
    refine (?_ : R (_, _, [], w178, 0, 0))
    have hF := hp183
    refine hR (?_ : R (_, _, _, _, _, _))
    refine hR (c_obj hC180 (zcall_i 0 0 (Nat.le_of_ble_eq_true rfl) (Nat.le_of_ble_eq_true rfl) (x_layDriftsR _ _ _ _ _ _ _ _ _ _ _ _ _ _ _ _ _ _ _ _ _ _ _ _ _ _ _ _ hC180 hC181 hC187 hC188 hC189 (by omega) _ fun T25_190 T26_191 T27_192 T35_193 w194 gg195 hC196 hC197 hC198 hC199 hp200 => ?_)))
    have fr201 := wfM_tr fr184 gg195 nX3
    have hC202 := (gg195.2 14 (by (try dsimp only); decide)).trans hC180
    have hC203 := (gg195.2 19 (by (try dsimp only); decide)).trans hC185
    have hC204 := (gg195.2 20 (by (try dsimp only); decide)).trans hC186
    have hC205 := (gg195.2 30 (by (try dsimp only); decide)).trans hC182
    refine (?_ : R (_, _, [], w194, 0, 0))
    have hld := hp200
    obtain ⟨hw, hw1, hw0⟩ : ∃ hw : Int, (a3 = 1 → hw = 1) ∧ (a3 ≠ 1 → hw = 0) := by
      by_cases c : a3 = 1
      · exact ⟨1, fun _ => rfl, fun z => absurd c z⟩
      · exact ⟨0, fun z => absurd z c, fun _ => rfl⟩
    have hFO := rm_ok hF
    iterate 2 refine hR (?_ : R (_, _, _, _, _, _))
    have lp69 : ∀ (N : Nat) (kk : Int) (T : Nat → Int32) (w_69 : zW), (wfM (fun j => j ≠ 14 ∧ j ≠ 25 ∧ j ≠ 30 ∧ j ≠ 26 ∧ j ≠ 27 ∧ j ≠ 35) w w_69) → (zix w_69 14 = some (.inr (11, [.int (Int32.ofInt 0), .ref 15, .ref 16, .ref 17, .ref 18, .ref 19, .ref 20, .ref 21, .ref 22, .int (Int32.ofInt f9), .int (Int32.ofInt f10), .int (Int32.ofInt f11), .int (Int32.ofInt f12), .int (Int32.ofInt f13), .long x14, .int (Int32.ofInt f15), .int (Int32.ofInt f16), .int (Int32.ofInt f17), .ref 23, .ref 24, .int (Int32.ofInt a1), .int (Int32.ofInt a1), .int (Int32.ofInt y22_15), .int (Int32.ofInt y23_16), .ref 25, .ref 26, .int (Int32.ofInt y26_175), .ref 27, .int (Int32.ofInt f28), .ref 28, .ref 29, .int (Int32.ofInt f31), .int (Int32.ofInt f32), .int (Int32.ofInt f33), .ref 30, .ref 31, .ref 32, .ref 33, .int (Int32.ofInt f38), .ref 34, .ref 35, .int (Int32.ofInt f41), .ref 36, .ref 37, .int (Int32.ofInt f44), .ref 38, .ref 39, .ref 40, .ref 41, .ref 42, .ref 43, .ref 44]))) → (zix w_69 19 = some (.inl (1, 12, .inl g19))) → (zix w_69 20 = some (.inl (1, 408, .inl g20))) → (zix w_69 25 = some (.inl (1, 7, .inl T25_190))) → (zix w_69 30 = some (.inl (1, 27305, .inl T30_177))) → (zix w_69 26 = some (.inl (1, 7, .inl T26_191))) → (zix w_69 27 = some (.inl (1, 49, .inl T27_192))) → (zix w_69 35 = some (.inl (1, 54610, .inl T))) → (1 ≤ kk ∧ kk ≤ 10) → (LTQ (vaF hw (rF g20 (51 * a1)) y23_16 (fun t => dft t y22_15)) T kk) → (kk ≤ a2 + 1) → (11 - kk < N) → R (69, [some (.ref 14), some (.int (Int32.ofInt a1)), some (.int (Int32.ofInt a2)), some (.int (Int32.ofInt a3)), some (.int (Int32.ofInt kk))], [], w_69, 0, 0) := by
      intro N
      induction N with
      | zero => intros; omega
      | succ N ih69 =>
        intro kk T w_69 fr_69 hC14_69 hC19_69 hC20_69 hC25_69 hC30_69 hC26_69 hC27_69 hC35_69 hf0_69 hp0_69 hp1_69 hN69
        iterate 2 refine hR (?_ : R (_, _, _, _, _, _))
        refine hR (j_gt (by omega) (by omega) (fun hc206 => ?_) (fun hc206 => ?_))
        · skip
          iterate 2 refine hR (?_ : R (_, _, _, _, _, _))
          refine hR (j_ge (by omega) (by omega) (fun hc207 => ?_) (fun hc207 => ?_))
          · skip
            iterate 3 refine hR (?_ : R (_, _, _, _, _, _))
            refine hR (t_c 10 (by decide) ?_)
            refine hR (t_sub ?_)
            refine hR (c_obj hC14_69 (zcall_i 0 0 (Nat.le_of_ble_eq_true rfl) (Nat.le_of_ble_eq_true rfl) (x_rotaAtR _ _ _ _ _ _ _ _ _ _ _ _ _ _ _ _ _ _ _ _ _ _ _ _ _ _ _ _ _ _ hC14_69 hC30_69 hC35_69 (by omega) (by omega) (by omega) hF (by have h9 := hp0_69; rw [show kk = a2 + 1 by omega] at h9; exact h9) (fun lv t l0 l1 t0 t1 => by rw [show hw = 0 by omega]; exact cr_ex hFO ⟨by omega, by omega⟩ (by decide) (dft_b _) l0 l1 t0 t1) _ fun v208 hp209 => ?_)))
            refine (?_ : R (_, _, .int (Int32.ofInt v208) :: [], w_69, 0, 0))
            exact hR (zret_i rfl (Nat.le_refl _) trivial (h _ _ _ _ _ _ _ _ _ _ _ _ fr_69 hC14_69 hC25_69 hC30_69 hC26_69 hC27_69 hC35_69 (Or.inr ⟨by omega, (by rw [← ht3, ← ht4]; exact hp209.trans (by rw [rot_k (by omega) (fun _ => by omega) (by omega), hw0 (by omega)]))⟩)))
          have hke : kk = a2 + 1 := by omega
          refine hR (?_ : R (_, _, _, _, _, _))
          refine hR (c_get hC14_69 rfl ?_)
          refine hR (t_c 5461 (by decide) ?_)
          refine hR (?_ : R (_, _, _, _, _, _))
          refine hR (t_mul ?_)
          refine hR (?_ : R (_, _, _, _, _, _))
          refine hR (c_get hC14_69 rfl ?_)
          refine hR (t_add ?_)
          refine hR (c_aldE hC35_69 (by omega) (by omega) (Nat.le_of_ble_eq_true rfl) fun v210 ev210 rv210 => ?_)
          replace ev210 : v210 = tBy T ((5461 * a2) + y22_15) := ev210
          subst ev210
          refine hR (?_ : R (_, _, _, _, _, _))
          exact hR (zret_i rfl (Nat.le_refl _) trivial (h _ _ _ _ _ _ _ _ _ _ _ _ fr_69 hC14_69 hC25_69 hC30_69 hC26_69 hC27_69 hC35_69 (Or.inr ⟨by omega, (by rw [← ht3, ← ht4, rot_y (by omega) (fun _ => by omega) (by omega), show a3 = hw by omega]; exact hp0_69 a2 y22_15 (by omega) (by omega) (by omega) (by omega))⟩)))
        iterate 3 refine hR (?_ : R (_, _, _, _, _, _))
        refine hR (c_obj hC14_69 (zcall_i 0 0 (Nat.le_of_ble_eq_true rfl) (Nat.le_of_ble_eq_true rfl) (x_everybodyR _ _ _ _ _ _ _ _ _ _ _ _ _ _ _ _ _ _ _ _ _ _ _ _ hC14_69 (by omega) _ fun v211 hp212 => ?_)))
        subst hp212
        refine (?_ : R (_, _, .int (Int32.ofInt (bShl 1 y23_16 - 1)) :: .int (Int32.ofInt kk) :: .ref 14 :: [], w_69, 0, 0))
        have hsb := shl_b (n := y23_16) (by omega)
        iterate 2 refine hR (?_ : R (_, _, _, _, _, _))
        refine hR (j_ne (by omega) (by omega) (fun hc213 => ?_) (fun hc213 => ?_))
        · skip
          refine hR (?_ : R (_, _, _, _, _, _))
          refine hR (c_obj hC14_69 (zcall_i 0 0 (Nat.le_of_ble_eq_true rfl) (Nat.le_of_ble_eq_true rfl) (x_bestR _ _ _ _ _ _ _ _ _ _ _ _ _ _ _ _ _ _ _ _ _ _ _ _ _ _ _ _ _ _ hC14_69 hC30_69 hC35_69 (by omega) (by omega) (by omega) (by omega) (by omega) hF (fun t t0 t1 => by rw [hp0_69 (kk - 1) t (by omega) (by omega) t0 t1]; exact va_b hFO (by omega) (by decide) (dft_b _) (by omega) _ t t0 t1) (fun r r0 r1 => all_hh (by omega) r0 r1) _ fun T35_214 w215 gg216 hC217 hp218 hp219 => ?_)))
          have fr220 := wfM_tr fr_69 gg216 nX4
          have hC221 := (gg216.2 14 (by (try dsimp only); decide)).trans hC14_69
          have hC222 := (gg216.2 19 (by (try dsimp only); decide)).trans hC19_69
          have hC223 := (gg216.2 20 (by (try dsimp only); decide)).trans hC20_69
          have hC224 := (gg216.2 25 (by (try dsimp only); decide)).trans hC25_69
          have hC225 := (gg216.2 30 (by (try dsimp only); decide)).trans hC30_69
          have hC226 := (gg216.2 26 (by (try dsimp only); decide)).trans hC26_69
          have hC227 := (gg216.2 27 (by (try dsimp only); decide)).trans hC27_69
          refine (?_ : R (_, _, [], w215, 0, 0))
          have hwe : hw = 0 := by omega
          have hlt2 := ltq_s hFO (by omega) hp0_69 (by omega) (by rw [hwe]; exact hp218) hp219
          refine hR (t_inc ?_)
          refine hR (?_ : R (_, _, _, _, _, _))
          exact ih69 _ _ _ fr220 hC221 hC222 hC223 hC224 hC225 hC226 hC227 hC217 (by omega) hlt2 (by omega) (by omega)
        iterate 2 refine hR (?_ : R (_, _, _, _, _, _))
        refine hR (c_obj hC14_69 (zcall_i 0 0 (Nat.le_of_ble_eq_true rfl) (Nat.le_of_ble_eq_true rfl) (x_bestR _ _ _ _ _ _ _ _ _ _ _ _ _ _ _ _ _ _ _ _ _ _ _ _ _ _ _ _ _ _ hC14_69 hC30_69 hC35_69 (by omega) (by omega) (by omega) (by omega) (by omega) hF (fun t t0 t1 => by rw [hp0_69 (kk - 1) t (by omega) (by omega) t0 t1]; exact va_b hFO (by omega) (by decide) (dft_b _) (by omega) _ t t0 t1) (fun r r0 r1 => all_hh (by omega) r0 r1) _ fun T35_228 w229 gg230 hC231 hp232 hp233 => ?_)))
        have fr234 := wfM_tr fr_69 gg230 nX4
        have hC235 := (gg230.2 14 (by (try dsimp only); decide)).trans hC14_69
        have hC236 := (gg230.2 19 (by (try dsimp only); decide)).trans hC19_69
        have hC237 := (gg230.2 20 (by (try dsimp only); decide)).trans hC20_69
        have hC238 := (gg230.2 25 (by (try dsimp only); decide)).trans hC25_69
        have hC239 := (gg230.2 30 (by (try dsimp only); decide)).trans hC30_69
        have hC240 := (gg230.2 26 (by (try dsimp only); decide)).trans hC26_69
        have hC241 := (gg230.2 27 (by (try dsimp only); decide)).trans hC27_69
        refine (?_ : R (_, _, [], w229, 0, 0))
        have hwe : hw = 1 := by omega
        have hlt2 := ltq_s hFO (by omega) hp0_69 (by omega) (by rw [hwe]; exact hp232) hp233
        refine hR (t_inc ?_)
        refine hR (?_ : R (_, _, _, _, _, _))
        exact ih69 _ _ _ fr234 hC235 hC236 hC237 hC238 hC239 hC240 hC241 hC231 (by omega) hlt2 (by omega) (by omega)
    exact lp69 400000000 _ _ _ fr201 hC202 hC203 hC204 hC196 hC205 hC197 hC198 hC199 (by omega) (lt_1 hld) (by omega) (by omega)
  refine hR (?_ : R (_, _, _, _, _, _))
  refine hR (t_c 10 (by decide) ?_)
  refine hR (t_c 9 (by decide) ?_)
  refine hR (?_ : R (_, _, _, _, _, _))
  refine hR (t_add ?_)
  refine hR (zcall_i 0 0 (Nat.le_of_ble_eq_true rfl) (Nat.le_of_ble_eq_true rfl) (m_in _ a3 10 (9 + a2) _ (by omega) (by omega) (by omega) _ fun v242 hp243 => ?_))
  refine (?_ : R (_, _, .int (Int32.ofInt v242) :: [], w17, 0, 0))
  refine hR (k_ne (by omega) (fun hc244 => ?_) (fun hc244 => ?_))
  rotate_left
  · skip
    refine hR (?_ : R (_, _, _, _, _, _))
    exact hR (zret_i rfl (Nat.le_refl _) trivial (h _ _ _ _ _ _ _ _ _ _ _ _ fr21 hC19 hC24 hC25 hC26 hC27 hC28 (Or.inr ⟨by omega, (by rw [← ht4]; exact (rot_n (by omega)).symm)⟩)))
  refine hR (?_ : R (_, _, _, _, _, _))
  refine hR (c_obj hC19 (zcall_i 0 0 (Nat.le_of_ble_eq_true rfl) (Nat.le_of_ble_eq_true rfl) (x_layMadeR _ _ _ _ _ _ _ _ _ _ _ _ _ _ _ _ _ _ _ _ _ _ _ _ _ _ _ hC19 hC23 hC24 hC25 hr2 (by omega) ⟨ht4, by omega, by omega⟩ hr3 _ fun y26_245 T25_246 T30_247 w248 gg249 hC250 hC251 hC252 hp253 => ?_)))
  have fr254 := wfM_tr fr21 gg249 nX2
  have hC255 := (gg249.2 19 (by (try dsimp only); decide)).trans hC22
  have hC256 := (gg249.2 20 (by (try dsimp only); decide)).trans hC23
  have hC257 := (gg249.2 26 (by (try dsimp only); decide)).trans hC26
  have hC258 := (gg249.2 27 (by (try dsimp only); decide)).trans hC27
  have hC259 := (gg249.2 35 (by (try dsimp only); decide)).trans hC28
  refine (?_ : R (_, _, [], w248, 0, 0))
  have hF := hp253
  refine hR (?_ : R (_, _, _, _, _, _))
  refine hR (c_obj hC250 (zcall_i 0 0 (Nat.le_of_ble_eq_true rfl) (Nat.le_of_ble_eq_true rfl) (x_layDriftsR _ _ _ _ _ _ _ _ _ _ _ _ _ _ _ _ _ _ _ _ _ _ _ _ _ _ _ _ hC250 hC251 hC257 hC258 hC259 (by omega) _ fun T25_260 T26_261 T27_262 T35_263 w264 gg265 hC266 hC267 hC268 hC269 hp270 => ?_)))
  have fr271 := wfM_tr fr254 gg265 nX3
  have hC272 := (gg265.2 14 (by (try dsimp only); decide)).trans hC250
  have hC273 := (gg265.2 19 (by (try dsimp only); decide)).trans hC255
  have hC274 := (gg265.2 20 (by (try dsimp only); decide)).trans hC256
  have hC275 := (gg265.2 30 (by (try dsimp only); decide)).trans hC252
  refine (?_ : R (_, _, [], w264, 0, 0))
  have hld := hp270
  obtain ⟨hw, hw1, hw0⟩ : ∃ hw : Int, (a3 = 1 → hw = 1) ∧ (a3 ≠ 1 → hw = 0) := by
    by_cases c : a3 = 1
    · exact ⟨1, fun _ => rfl, fun z => absurd c z⟩
    · exact ⟨0, fun z => absurd z c, fun _ => rfl⟩
  have hFO := rm_ok hF
  iterate 2 refine hR (?_ : R (_, _, _, _, _, _))
  have lp69 : ∀ (N : Nat) (kk : Int) (T : Nat → Int32) (w_69 : zW), (wfM (fun j => j ≠ 14 ∧ j ≠ 25 ∧ j ≠ 30 ∧ j ≠ 26 ∧ j ≠ 27 ∧ j ≠ 35) w w_69) → (zix w_69 14 = some (.inr (11, [.int (Int32.ofInt 0), .ref 15, .ref 16, .ref 17, .ref 18, .ref 19, .ref 20, .ref 21, .ref 22, .int (Int32.ofInt f9), .int (Int32.ofInt f10), .int (Int32.ofInt f11), .int (Int32.ofInt f12), .int (Int32.ofInt f13), .long x14, .int (Int32.ofInt f15), .int (Int32.ofInt f16), .int (Int32.ofInt f17), .ref 23, .ref 24, .int (Int32.ofInt a1), .int (Int32.ofInt a1), .int (Int32.ofInt y22_15), .int (Int32.ofInt y23_16), .ref 25, .ref 26, .int (Int32.ofInt y26_245), .ref 27, .int (Int32.ofInt f28), .ref 28, .ref 29, .int (Int32.ofInt f31), .int (Int32.ofInt f32), .int (Int32.ofInt f33), .ref 30, .ref 31, .ref 32, .ref 33, .int (Int32.ofInt f38), .ref 34, .ref 35, .int (Int32.ofInt f41), .ref 36, .ref 37, .int (Int32.ofInt f44), .ref 38, .ref 39, .ref 40, .ref 41, .ref 42, .ref 43, .ref 44]))) → (zix w_69 19 = some (.inl (1, 12, .inl g19))) → (zix w_69 20 = some (.inl (1, 408, .inl g20))) → (zix w_69 25 = some (.inl (1, 7, .inl T25_260))) → (zix w_69 30 = some (.inl (1, 27305, .inl T30_247))) → (zix w_69 26 = some (.inl (1, 7, .inl T26_261))) → (zix w_69 27 = some (.inl (1, 49, .inl T27_262))) → (zix w_69 35 = some (.inl (1, 54610, .inl T))) → (1 ≤ kk ∧ kk ≤ 10) → (LTQ (vaF hw (rF g20 (51 * a1)) y23_16 (fun t => dft t y22_15)) T kk) → (kk ≤ a2 + 1) → (11 - kk < N) → R (69, [some (.ref 14), some (.int (Int32.ofInt a1)), some (.int (Int32.ofInt a2)), some (.int (Int32.ofInt a3)), some (.int (Int32.ofInt kk))], [], w_69, 0, 0) := by
    intro N
    induction N with
    | zero => intros; omega
    | succ N ih69 =>
      intro kk T w_69 fr_69 hC14_69 hC19_69 hC20_69 hC25_69 hC30_69 hC26_69 hC27_69 hC35_69 hf0_69 hp0_69 hp1_69 hN69
      iterate 2 refine hR (?_ : R (_, _, _, _, _, _))
      refine hR (j_gt (by omega) (by omega) (fun hc276 => ?_) (fun hc276 => ?_))
      · skip
        iterate 2 refine hR (?_ : R (_, _, _, _, _, _))
        refine hR (j_ge (by omega) (by omega) (fun hc277 => ?_) (fun hc277 => ?_))
        · skip
          iterate 3 refine hR (?_ : R (_, _, _, _, _, _))
          refine hR (t_c 10 (by decide) ?_)
          refine hR (t_sub ?_)
          refine hR (c_obj hC14_69 (zcall_i 0 0 (Nat.le_of_ble_eq_true rfl) (Nat.le_of_ble_eq_true rfl) (x_rotaAtR _ _ _ _ _ _ _ _ _ _ _ _ _ _ _ _ _ _ _ _ _ _ _ _ _ _ _ _ _ _ hC14_69 hC30_69 hC35_69 (by omega) (by omega) (by omega) hF (by have h9 := hp0_69; rw [show kk = a2 + 1 by omega] at h9; exact h9) (fun lv t l0 l1 t0 t1 => by rw [show hw = 0 by omega]; exact cr_ex hFO ⟨by omega, by omega⟩ (by decide) (dft_b _) l0 l1 t0 t1) _ fun v278 hp279 => ?_)))
          refine (?_ : R (_, _, .int (Int32.ofInt v278) :: [], w_69, 0, 0))
          exact hR (zret_i rfl (Nat.le_refl _) trivial (h _ _ _ _ _ _ _ _ _ _ _ _ fr_69 hC14_69 hC25_69 hC30_69 hC26_69 hC27_69 hC35_69 (Or.inr ⟨by omega, (by rw [← ht3, ← ht4]; exact hp279.trans (by rw [rot_k (by omega) (fun _ => by omega) (by omega), hw0 (by omega)]))⟩)))
        have hke : kk = a2 + 1 := by omega
        refine hR (?_ : R (_, _, _, _, _, _))
        refine hR (c_get hC14_69 rfl ?_)
        refine hR (t_c 5461 (by decide) ?_)
        refine hR (?_ : R (_, _, _, _, _, _))
        refine hR (t_mul ?_)
        refine hR (?_ : R (_, _, _, _, _, _))
        refine hR (c_get hC14_69 rfl ?_)
        refine hR (t_add ?_)
        refine hR (c_aldE hC35_69 (by omega) (by omega) (Nat.le_of_ble_eq_true rfl) fun v280 ev280 rv280 => ?_)
        replace ev280 : v280 = tBy T ((5461 * a2) + y22_15) := ev280
        subst ev280
        refine hR (?_ : R (_, _, _, _, _, _))
        exact hR (zret_i rfl (Nat.le_refl _) trivial (h _ _ _ _ _ _ _ _ _ _ _ _ fr_69 hC14_69 hC25_69 hC30_69 hC26_69 hC27_69 hC35_69 (Or.inr ⟨by omega, (by rw [← ht3, ← ht4, rot_y (by omega) (fun _ => by omega) (by omega), show a3 = hw by omega]; exact hp0_69 a2 y22_15 (by omega) (by omega) (by omega) (by omega))⟩)))
      iterate 3 refine hR (?_ : R (_, _, _, _, _, _))
      refine hR (c_obj hC14_69 (zcall_i 0 0 (Nat.le_of_ble_eq_true rfl) (Nat.le_of_ble_eq_true rfl) (x_everybodyR _ _ _ _ _ _ _ _ _ _ _ _ _ _ _ _ _ _ _ _ _ _ _ _ hC14_69 (by omega) _ fun v281 hp282 => ?_)))
      subst hp282
      refine (?_ : R (_, _, .int (Int32.ofInt (bShl 1 y23_16 - 1)) :: .int (Int32.ofInt kk) :: .ref 14 :: [], w_69, 0, 0))
      have hsb := shl_b (n := y23_16) (by omega)
      iterate 2 refine hR (?_ : R (_, _, _, _, _, _))
      refine hR (j_ne (by omega) (by omega) (fun hc283 => ?_) (fun hc283 => ?_))
      · skip
        refine hR (?_ : R (_, _, _, _, _, _))
        refine hR (c_obj hC14_69 (zcall_i 0 0 (Nat.le_of_ble_eq_true rfl) (Nat.le_of_ble_eq_true rfl) (x_bestR _ _ _ _ _ _ _ _ _ _ _ _ _ _ _ _ _ _ _ _ _ _ _ _ _ _ _ _ _ _ hC14_69 hC30_69 hC35_69 (by omega) (by omega) (by omega) (by omega) (by omega) hF (fun t t0 t1 => by rw [hp0_69 (kk - 1) t (by omega) (by omega) t0 t1]; exact va_b hFO (by omega) (by decide) (dft_b _) (by omega) _ t t0 t1) (fun r r0 r1 => all_hh (by omega) r0 r1) _ fun T35_284 w285 gg286 hC287 hp288 hp289 => ?_)))
        have fr290 := wfM_tr fr_69 gg286 nX4
        have hC291 := (gg286.2 14 (by (try dsimp only); decide)).trans hC14_69
        have hC292 := (gg286.2 19 (by (try dsimp only); decide)).trans hC19_69
        have hC293 := (gg286.2 20 (by (try dsimp only); decide)).trans hC20_69
        have hC294 := (gg286.2 25 (by (try dsimp only); decide)).trans hC25_69
        have hC295 := (gg286.2 30 (by (try dsimp only); decide)).trans hC30_69
        have hC296 := (gg286.2 26 (by (try dsimp only); decide)).trans hC26_69
        have hC297 := (gg286.2 27 (by (try dsimp only); decide)).trans hC27_69
        refine (?_ : R (_, _, [], w285, 0, 0))
        have hwe : hw = 0 := by omega
        have hlt2 := ltq_s hFO (by omega) hp0_69 (by omega) (by rw [hwe]; exact hp288) hp289
        refine hR (t_inc ?_)
        refine hR (?_ : R (_, _, _, _, _, _))
        exact ih69 _ _ _ fr290 hC291 hC292 hC293 hC294 hC295 hC296 hC297 hC287 (by omega) hlt2 (by omega) (by omega)
      iterate 2 refine hR (?_ : R (_, _, _, _, _, _))
      refine hR (c_obj hC14_69 (zcall_i 0 0 (Nat.le_of_ble_eq_true rfl) (Nat.le_of_ble_eq_true rfl) (x_bestR _ _ _ _ _ _ _ _ _ _ _ _ _ _ _ _ _ _ _ _ _ _ _ _ _ _ _ _ _ _ hC14_69 hC30_69 hC35_69 (by omega) (by omega) (by omega) (by omega) (by omega) hF (fun t t0 t1 => by rw [hp0_69 (kk - 1) t (by omega) (by omega) t0 t1]; exact va_b hFO (by omega) (by decide) (dft_b _) (by omega) _ t t0 t1) (fun r r0 r1 => all_hh (by omega) r0 r1) _ fun T35_298 w299 gg300 hC301 hp302 hp303 => ?_)))
      have fr304 := wfM_tr fr_69 gg300 nX4
      have hC305 := (gg300.2 14 (by (try dsimp only); decide)).trans hC14_69
      have hC306 := (gg300.2 19 (by (try dsimp only); decide)).trans hC19_69
      have hC307 := (gg300.2 20 (by (try dsimp only); decide)).trans hC20_69
      have hC308 := (gg300.2 25 (by (try dsimp only); decide)).trans hC25_69
      have hC309 := (gg300.2 30 (by (try dsimp only); decide)).trans hC30_69
      have hC310 := (gg300.2 26 (by (try dsimp only); decide)).trans hC26_69
      have hC311 := (gg300.2 27 (by (try dsimp only); decide)).trans hC27_69
      refine (?_ : R (_, _, [], w299, 0, 0))
      have hwe : hw = 1 := by omega
      have hlt2 := ltq_s hFO (by omega) hp0_69 (by omega) (by rw [hwe]; exact hp302) hp303
      refine hR (t_inc ?_)
      refine hR (?_ : R (_, _, _, _, _, _))
      exact ih69 _ _ _ fr304 hC305 hC306 hC307 hC308 hC309 hC310 hC311 hC301 (by omega) hlt2 (by omega) (by omega)
  exact lp69 400000000 _ _ _ fr271 hC272 hC273 hC274 hC266 hC275 hC267 hC268 hC269 (by omega) (lt_1 hld) (by omega) (by omega)
