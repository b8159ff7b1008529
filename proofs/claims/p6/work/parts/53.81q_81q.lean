/-! APART, by places. -/
def edI (a b i k : Int) : Int := ((eD (tW a.toNat) (tW b.toNat) i.toNat k.toNat : Nat) : Int)
theorem edI_0 {a b k : Int} (h : 0 ≤ k) : edI a b 0 k = k := by
  unfold edI
  rw [show (0 : Int).toNat = 0 from rfl, eD_0]
  omega
theorem edI_z {a b i : Int} (h : 0 ≤ i) : edI a b i 0 = i := by
  unfold edI
  rw [show (0 : Int).toNat = 0 from rfl, eD_z]
  omega
theorem edI_r {a b i k : Int} (h0 : 0 ≤ i) (h1 : i ≤ 6) (h2 : 0 ≤ k) (h3 : k ≤ 6) : 0 ≤ edI a b i k ∧ edI a b i k ≤ 12 := by
  have := eD_le (tW a.toNat) (tW b.toNat) i.toNat k.toNat
  unfold edI
  omega
theorem edI_s {a b i k x : Int} (h0 : 0 < i) (h1 : 0 < k) (hx : (((tW a.toNat (i - 1).toNat : Nat) : Int) = ((tW b.toNat (k - 1).toNat : Nat) : Int) ∧ x = 0) ∨ (((tW a.toNat (i - 1).toNat : Nat) : Int) ≠ ((tW b.toNat (k - 1).toNat : Nat) : Int) ∧ x = 1)) : edI a b i k ≤ edI a b (i - 1) (k - 1) + x ∧ edI a b i k ≤ 1 + edI a b (i - 1) k ∧ edI a b i k ≤ 1 + edI a b i (k - 1) ∧ (edI a b i k = edI a b (i - 1) (k - 1) + x ∨ edI a b i k = 1 + edI a b (i - 1) k ∨ edI a b i k = 1 + edI a b i (k - 1)) := by
  unfold edI
  obtain ⟨i', hi⟩ : ∃ i', i.toNat = i' + 1 := ⟨i.toNat - 1, by omega⟩
  obtain ⟨k', hk⟩ : ∃ k', k.toNat = k' + 1 := ⟨k.toNat - 1, by omega⟩
  rw [show (i - 1).toNat = i' by omega, show (k - 1).toNat = k' by omega] at *
  have e := eD_s (tW a.toNat) (tW b.toNat) i' k'
  have hd : x = ((ed1 (tW a.toNat i') (tW b.toNat k') : Nat) : Int) := by
    rcases hx with ⟨z, hz⟩ | ⟨z, hz⟩
    · rw [hz, show ed1 (tW a.toNat i') (tW b.toNat k') = 0 from if_pos (by omega)]
      rfl
    · rw [hz, show ed1 (tW a.toNat i') (tW b.toNat k') = 1 from if_neg (by omega)]
      rfl
  rw [hi, hk, hd, e]
  omega
theorem twI {a i : Int} (h0 : 0 ≤ i) (h1 : i < (tLen a.toNat : Int)) {x : Int} (h : x = ((dg (tB a.toNat) (tLen a.toNat - 1 - i.toNat) : Nat) : Int)) : x = ((tW a.toNat i.toNat : Nat) : Int) := by
  rw [h]
  unfold dg
  rw [tB_w _ _ (by omega)]
theorem rbf_of {g20 : Nat → Int32} {f : Int} (hg : bkOK g20) (h0 : 0 ≤ f) (h1 : f ≤ 1) : RBF (rBY g20 (51 * f)) f (tBy g20 (51 * f + 0)) (tBy g20 (51 * f + 1)) g20 := by
  have e0 := bk_of0 (f := f) (v := tBy g20 (51 * f + 0)) hg h0 (by omega) (by unfold tBy; exact congrArg (fun j => (g20 j).toInt) (by omega))
  have e1 := bk_of1 (f := f) (v := tBy g20 (51 * f + 1)) hg h0 (by omega) (by unfold tBy; exact congrArg (fun j => (g20 j).toInt) (by omega))
  exact ⟨hg, ⟨h0, h1⟩, e0, e1, fun r t r0 r1 t0 t1 => ⟨rfl, rBY_r hg h0 h1 r0 r1 t0 t1⟩⟩
def yK (T : Nat → Int32) (y c i : Int) : Int := tBy T (121 * y + 1 + 3 * i + c)
def YRQ (g19 g21 : Nat → Int32) : Prop := ∀ y : Int, 0 ≤ y → y < tBy g19 1 → (0 ≤ tBy g21 (121 * y) ∧ tBy g21 (121 * y) ≤ 40) ∧ ∀ i : Int, 0 ≤ i → i < tBy g21 (121 * y) → DOK (yK g21 y 0 i) (yK g21 y 1 i) (yK g21 y 2 i)
theorem x_hasR (w : zW) (d : Nat) (a1 a2 : Int)   (Q : zQ) (h : ∀ (v : Int), ((hHas a1 a2 = 1 ∧ v = 1) ∨ (hHas a1 a2 ≠ 1 ∧ v = 0)) → Q (some (.int (Int32.ofInt v))) w) : zCl zTab (d + 1) iX12_has [.int (Int32.ofInt a1), .int (Int32.ofInt a2)] w 0 0 Q := by
  refine zCl_i (M := kX12_has) rfl (Nat.le_of_ble_eq_true rfl) fun R hR => ?_
  iterate 2 refine hR (?_ : R (_, _, _, _, _, _))
  refine hR (t_c (bShr a1 a2) (zoi _).symm ?_)
  have hbt1 : r32 (bShr a1 a2) := zrg _
  refine hR (?_ : R (_, _, _, _, _, _))
  refine hR (t_c (bAnd (bShr a1 a2) 1) (zoi _).symm ?_)
  have hbt2 : r32 (bAnd (bShr a1 a2) 1) := zrg _
  refine hR (?_ : R (_, _, _, _, _, _))
  refine hR (j_ne (by omega) (by omega) (fun hc3 => ?_) (fun hc3 => ?_))
  · skip
    refine hR (?_ : R (_, _, _, _, _, _))
    exact hR (zret_i rfl (Nat.le_refl _) (zbo (by omega)) (h _ (by unfold hHas; omega)))
  iterate 2 refine hR (?_ : R (_, _, _, _, _, _))
  exact hR (zret_i rfl (Nat.le_refl _) (zbo (by omega)) (h _ (by unfold hHas; omega)))
theorem x_beginR (w : zW) (d : Nat) (f0 f9 f10 f11 f12 f13 f15 f16 f17 f20 f21 f22 f23 f26 f28 f31 f32 f33 f38 f41 f44 : Int) (x14 : Int64) (g28 g29 : Nat → Int32) (hK0 : zix w 14 = some (.inr (11, [.int (Int32.ofInt f0), .ref 15, .ref 16, .ref 17, .ref 18, .ref 19, .ref 20, .ref 21, .ref 22, .int (Int32.ofInt f9), .int (Int32.ofInt f10), .int (Int32.ofInt f11), .int (Int32.ofInt f12), .int (Int32.ofInt f13), .long x14, .int (Int32.ofInt f15), .int (Int32.ofInt f16), .int (Int32.ofInt f17), .ref 23, .ref 24, .int (Int32.ofInt f20), .int (Int32.ofInt f21), .int (Int32.ofInt f22), .int (Int32.ofInt f23), .ref 25, .ref 26, .int (Int32.ofInt f26), .ref 27, .int (Int32.ofInt f28), .ref 28, .ref 29, .int (Int32.ofInt f31), .int (Int32.ofInt f32), .int (Int32.ofInt f33), .ref 30, .ref 31, .ref 32, .ref 33, .int (Int32.ofInt f38), .ref 34, .ref 35, .int (Int32.ofInt f41), .ref 36, .ref 37, .int (Int32.ofInt f44), .ref 38, .ref 39, .ref 40, .ref 41, .ref 42, .ref 43, .ref 44]))) (hK1 : zix w 28 = some (.inl (1, 4, .inl g28))) (hK2 : zix w 29 = some (.inl (1, 5, .inl g29))) (hr0 : 0 ≤ f22 ∧ f22 ≤ 5460) (Q : zQ) (h : ∀ (Tc Tt : Nat → Int32) (w' : zW), wfM (fun j => j ≠ 14 ∧ j ≠ 28 ∧ j ≠ 29) w w' → zix w' 14 = some (.inr (11, [.int (Int32.ofInt f0), .ref 15, .ref 16, .ref 17, .ref 18, .ref 19, .ref 20, .ref 21, .ref 22, .int (Int32.ofInt f9), .int (Int32.ofInt f10), .int (Int32.ofInt f11), .int (Int32.ofInt f12), .int (Int32.ofInt f13), .long x14, .int (Int32.ofInt f15), .int (Int32.ofInt f16), .int (Int32.ofInt f17), .ref 23, .ref 24, .int (Int32.ofInt f20), .int (Int32.ofInt f21), .int (Int32.ofInt f22), .int (Int32.ofInt f23), .ref 25, .ref 26, .int (Int32.ofInt f26), .ref 27, .int (Int32.ofInt f28), .ref 28, .ref 29, .int (Int32.ofInt 0), .int (Int32.ofInt 0), .int (Int32.ofInt 0), .ref 30, .ref 31, .ref 32, .ref 33, .int (Int32.ofInt f38), .ref 34, .ref 35, .int (Int32.ofInt f41), .ref 36, .ref 37, .int (Int32.ofInt f44), .ref 38, .ref 39, .ref 40, .ref 41, .ref 42, .ref 43, .ref 44])) → zix w' 28 = some (.inl (1, 4, .inl Tc)) → zix w' 29 = some (.inl (1, 5, .inl Tt)) → (CSR 0 (cs0 f22) 0 0 0 Tc Tt) → Q (none) w') : zCl zTab (d + 1) iX12_begin [.ref 14] w 0 0 Q := by
  refine zCl_i (M := kX12_begin) rfl (Nat.le_of_ble_eq_true rfl) fun R hR => ?_
  have fr0 : wfM (fun j => j ≠ 14 ∧ j ≠ 28 ∧ j ≠ 29) w w := wfM_rf _ w
  have nX0 : FX (∀ j : Nat, (j ≠ 14 ∧ j ≠ 28 ∧ j ≠ 29) → j ≠ 14) := fun j hj => by omega
  have nX1 : FX (∀ j : Nat, (j ≠ 14 ∧ j ≠ 28 ∧ j ≠ 29) → j ≠ 29) := fun j hj => by omega
  have nX2 : FX (∀ j : Nat, (j ≠ 14 ∧ j ≠ 28 ∧ j ≠ 29) → j ≠ 28) := fun j hj => by omega
  iterate 2 refine hR (?_ : R (_, _, _, _, _, _))
  have lp2 : ∀ (N : Nat) (kk : Int) (T1 : Nat → Int32) (w_2 : zW), (wfM (fun j => j ≠ 14 ∧ j ≠ 28 ∧ j ≠ 29) w w_2) → (zix w_2 14 = some (.inr (11, [.int (Int32.ofInt f0), .ref 15, .ref 16, .ref 17, .ref 18, .ref 19, .ref 20, .ref 21, .ref 22, .int (Int32.ofInt f9), .int (Int32.ofInt f10), .int (Int32.ofInt f11), .int (Int32.ofInt f12), .int (Int32.ofInt f13), .long x14, .int (Int32.ofInt f15), .int (Int32.ofInt f16), .int (Int32.ofInt f17), .ref 23, .ref 24, .int (Int32.ofInt f20), .int (Int32.ofInt f21), .int (Int32.ofInt f22), .int (Int32.ofInt f23), .ref 25, .ref 26, .int (Int32.ofInt f26), .ref 27, .int (Int32.ofInt f28), .ref 28, .ref 29, .int (Int32.ofInt f31), .int (Int32.ofInt f32), .int (Int32.ofInt f33), .ref 30, .ref 31, .ref 32, .ref 33, .int (Int32.ofInt f38), .ref 34, .ref 35, .int (Int32.ofInt f41), .ref 36, .ref 37, .int (Int32.ofInt f44), .ref 38, .ref 39, .ref 40, .ref 41, .ref 42, .ref 43, .ref 44]))) → (zix w_2 28 = some (.inl (1, 4, .inl T1))) → (zix w_2 29 = some (.inl (1, 5, .inl g29))) → (0 ≤ kk ∧ kk ≤ 4) → (∀ i : Int, 0 ≤ i → i < kk → tBy T1 i = f22) → (5 - kk < N) → R (2, [some (.ref 14), some (.int (Int32.ofInt kk))], [], w_2, 0, 0) := by
    intro N
    induction N with
    | zero => intros; omega
    | succ N ih2 =>
      intro kk T1 w_2 fr_2 hC14_2 hC28_2 hC29_2 hf0_2 hp0_2 hN2
      iterate 2 refine hR (?_ : R (_, _, _, _, _, _))
      refine hR (j_ge (by omega) (by omega) (fun hc1 => ?_) (fun hc1 => ?_))
      rotate_left
      · skip
        refine hR (?_ : R (_, _, _, _, _, _))
        refine hR (c_get hC14_2 rfl ?_)
        iterate 2 refine hR (?_ : R (_, _, _, _, _, _))
        refine hR (c_get hC14_2 rfl ?_)
        refine hR (x_ast hC28_2 (by omega) (by omega) (Nat.le_of_ble_eq_true rfl) fun w19 ff19 hC19 => ?_)
        have fr20 := wfM_st fr_2 ff19 nX2
        have hC21 := (ff19.2 14 (by (try dsimp only); decide)).trans hC14_2
        have hC22 := (ff19.2 29 (by (try dsimp only); decide)).trans hC29_2
        refine hR (t_inc ?_)
        refine hR (?_ : R (_, _, _, _, _, _))
        exact ih2 _ _ _ fr20 hC21 hC19 hC22 (by omega) (fun i i0 i1 => by rw [zupI (by exact ⟨by omega, by omega⟩) (by omega) i0]; by_cases c1 : i = kk; (· rw [if_pos c1]); rw [if_neg c1]; exact hp0_2 i i0 (by omega)) (by omega)
      iterate 2 refine hR (?_ : R (_, _, _, _, _, _))
      have lp25 : ∀ (N : Nat) (k2 : Int) (T2 : Nat → Int32) (w_25 : zW), (wfM (fun j => j ≠ 14 ∧ j ≠ 28 ∧ j ≠ 29) w w_25) → (zix w_25 14 = some (.inr (11, [.int (Int32.ofInt f0), .ref 15, .ref 16, .ref 17, .ref 18, .ref 19, .ref 20, .ref 21, .ref 22, .int (Int32.ofInt f9), .int (Int32.ofInt f10), .int (Int32.ofInt f11), .int (Int32.ofInt f12), .int (Int32.ofInt f13), .long x14, .int (Int32.ofInt f15), .int (Int32.ofInt f16), .int (Int32.ofInt f17), .ref 23, .ref 24, .int (Int32.ofInt f20), .int (Int32.ofInt f21), .int (Int32.ofInt f22), .int (Int32.ofInt f23), .ref 25, .ref 26, .int (Int32.ofInt f26), .ref 27, .int (Int32.ofInt f28), .ref 28, .ref 29, .int (Int32.ofInt f31), .int (Int32.ofInt f32), .int (Int32.ofInt f33), .ref 30, .ref 31, .ref 32, .ref 33, .int (Int32.ofInt f38), .ref 34, .ref 35, .int (Int32.ofInt f41), .ref 36, .ref 37, .int (Int32.ofInt f44), .ref 38, .ref 39, .ref 40, .ref 41, .ref 42, .ref 43, .ref 44]))) → (zix w_25 28 = some (.inl (1, 4, .inl T1))) → (zix w_25 29 = some (.inl (1, 5, .inl T2))) → (0 ≤ k2 ∧ k2 ≤ 5) → (∀ i : Int, 0 ≤ i → i < k2 → tBy T2 i = 0) → (6 - k2 < N) → R (25, [some (.ref 14), some (.int (Int32.ofInt k2))], [], w_25, 0, 0) := by
        intro N
        induction N with
        | zero => intros; omega
        | succ N ih25 =>
          intro k2 T2 w_25 fr_25 hC14_25 hC28_25 hC29_25 hf0_25 hp0_25 hN25
          iterate 2 refine hR (?_ : R (_, _, _, _, _, _))
          refine hR (j_ge (by omega) (by omega) (fun hc2 => ?_) (fun hc2 => ?_))
          rotate_left
          · skip
            refine hR (?_ : R (_, _, _, _, _, _))
            refine hR (c_get hC14_25 rfl ?_)
            iterate 2 refine hR (?_ : R (_, _, _, _, _, _))
            refine hR (x_ast hC29_25 (by omega) (by omega) (Nat.le_of_ble_eq_true rfl) fun w15 ff15 hC15 => ?_)
            have fr16 := wfM_st fr_25 ff15 nX1
            have hC17 := (ff15.2 14 (by (try dsimp only); decide)).trans hC14_25
            have hC18 := (ff15.2 28 (by (try dsimp only); decide)).trans hC28_25
            refine hR (t_inc ?_)
            refine hR (?_ : R (_, _, _, _, _, _))
            exact ih25 _ _ _ fr16 hC17 hC18 hC15 (by omega) (fun i i0 i1 => by rw [zupI (by exact ⟨by omega, by omega⟩) (by omega) i0]; by_cases c1 : i = k2; (· rw [if_pos c1]); rw [if_neg c1]; exact hp0_25 i i0 (by omega)) (by omega)
          iterate 2 refine hR (?_ : R (_, _, _, _, _, _))
          refine hR (c_put hC14_25 rfl rfl fun w3 ff3 hC3 => ?_)
          have fr4 := wfM_st fr_25 ff3 nX0
          have hC5 := (ff3.2 28 (by (try dsimp only); decide)).trans hC28_25
          have hC6 := (ff3.2 29 (by (try dsimp only); decide)).trans hC29_25
          replace hC3 : zix w3 14 = some (.inr (11, [.int (Int32.ofInt f0), .ref 15, .ref 16, .ref 17, .ref 18, .ref 19, .ref 20, .ref 21, .ref 22, .int (Int32.ofInt f9), .int (Int32.ofInt f10), .int (Int32.ofInt f11), .int (Int32.ofInt f12), .int (Int32.ofInt f13), .long x14, .int (Int32.ofInt f15), .int (Int32.ofInt f16), .int (Int32.ofInt f17), .ref 23, .ref 24, .int (Int32.ofInt f20), .int (Int32.ofInt f21), .int (Int32.ofInt f22), .int (Int32.ofInt f23), .ref 25, .ref 26, .int (Int32.ofInt f26), .ref 27, .int (Int32.ofInt f28), .ref 28, .ref 29, .int (Int32.ofInt 0), .int (Int32.ofInt f32), .int (Int32.ofInt f33), .ref 30, .ref 31, .ref 32, .ref 33, .int (Int32.ofInt f38), .ref 34, .ref 35, .int (Int32.ofInt f41), .ref 36, .ref 37, .int (Int32.ofInt f44), .ref 38, .ref 39, .ref 40, .ref 41, .ref 42, .ref 43, .ref 44])) := hC3
          iterate 2 refine hR (?_ : R (_, _, _, _, _, _))
          refine hR (c_put hC3 rfl rfl fun w7 ff7 hC7 => ?_)
          have fr8 := wfM_st fr4 ff7 nX0
          have hC9 := (ff7.2 28 (by (try dsimp only); decide)).trans hC5
          have hC10 := (ff7.2 29 (by (try dsimp only); decide)).trans hC6
          replace hC7 : zix w7 14 = some (.inr (11, [.int (Int32.ofInt f0), .ref 15, .ref 16, .ref 17, .ref 18, .ref 19, .ref 20, .ref 21, .ref 22, .int (Int32.ofInt f9), .int (Int32.ofInt f10), .int (Int32.ofInt f11), .int (Int32.ofInt f12), .int (Int32.ofInt f13), .long x14, .int (Int32.ofInt f15), .int (Int32.ofInt f16), .int (Int32.ofInt f17), .ref 23, .ref 24, .int (Int32.ofInt f20), .int (Int32.ofInt f21), .int (Int32.ofInt f22), .int (Int32.ofInt f23), .ref 25, .ref 26, .int (Int32.ofInt f26), .ref 27, .int (Int32.ofInt f28), .ref 28, .ref 29, .int (Int32.ofInt 0), .int (Int32.ofInt 0), .int (Int32.ofInt f33), .ref 30, .ref 31, .ref 32, .ref 33, .int (Int32.ofInt f38), .ref 34, .ref 35, .int (Int32.ofInt f41), .ref 36, .ref 37, .int (Int32.ofInt f44), .ref 38, .ref 39, .ref 40, .ref 41, .ref 42, .ref 43, .ref 44])) := hC7
          iterate 2 refine hR (?_ : R (_, _, _, _, _, _))
          refine hR (c_put hC7 rfl rfl fun w11 ff11 hC11 => ?_)
          have fr12 := wfM_st fr8 ff11 nX0
          have hC13 := (ff11.2 28 (by (try dsimp only); decide)).trans hC9
          have hC14 := (ff11.2 29 (by (try dsimp only); decide)).trans hC10
          replace hC11 : zix w11 14 = some (.inr (11, [.int (Int32.ofInt f0), .ref 15, .ref 16, .ref 17, .ref 18, .ref 19, .ref 20, .ref 21, .ref 22, .int (Int32.ofInt f9), .int (Int32.ofInt f10), .int (Int32.ofInt f11), .int (Int32.ofInt f12), .int (Int32.ofInt f13), .long x14, .int (Int32.ofInt f15), .int (Int32.ofInt f16), .int (Int32.ofInt f17), .ref 23, .ref 24, .int (Int32.ofInt f20), .int (Int32.ofInt f21), .int (Int32.ofInt f22), .int (Int32.ofInt f23), .ref 25, .ref 26, .int (Int32.ofInt f26), .ref 27, .int (Int32.ofInt f28), .ref 28, .ref 29, .int (Int32.ofInt 0), .int (Int32.ofInt 0), .int (Int32.ofInt 0), .ref 30, .ref 31, .ref 32, .ref 33, .int (Int32.ofInt f38), .ref 34, .ref 35, .int (Int32.ofInt f41), .ref 36, .ref 37, .int (Int32.ofInt f44), .ref 38, .ref 39, .ref 40, .ref 41, .ref 42, .ref 43, .ref 44])) := hC11
          exact hR (zret_i rfl (Nat.le_refl _) rfl (h _ _ _ fr12 hC11 hC13 hC14 (cs_0 hr0 (fun i i0 i1 => hp0_2 i i0 (by omega)) (fun i i0 i1 => hp0_25 i i0 (by omega)))))
      exact lp25 400000000 _ _ _ fr_2 hC14_2 hC28_2 hC29_2 (by omega) (fun i i0 i1 => by omega) (by omega)
  exact lp2 400000000 _ _ _ fr0 hK0 hK1 hK2 (by omega) (fun i i0 i1 => by omega) (by omega)
theorem x_readsR (w : zW) (d : Nat) (a1 a2 : Int) (f0 f9 f10 f11 f12 f13 f15 f16 f17 f20 f21 f22 f23 f26 f28 f31 f32 f33 f38 f41 f44 : Int) (x14 : Int64) (g20 g25 g28 g29 : Nat → Int32) (F : Int → Int → Int) (s : CS) (m : Int) (hK0 : zix w 14 = some (.inr (11, [.int (Int32.ofInt f0), .ref 15, .ref 16, .ref 17, .ref 18, .ref 19, .ref 20, .ref 21, .ref 22, .int (Int32.ofInt f9), .int (Int32.ofInt f10), .int (Int32.ofInt f11), .int (Int32.ofInt f12), .int (Int32.ofInt f13), .long x14, .int (Int32.ofInt f15), .int (Int32.ofInt f16), .int (Int32.ofInt f17), .ref 23, .ref 24, .int (Int32.ofInt f20), .int (Int32.ofInt f21), .int (Int32.ofInt f22), .int (Int32.ofInt f23), .ref 25, .ref 26, .int (Int32.ofInt f26), .ref 27, .int (Int32.ofInt f28), .ref 28, .ref 29, .int (Int32.ofInt f31), .int (Int32.ofInt f32), .int (Int32.ofInt f33), .ref 30, .ref 31, .ref 32, .ref 33, .int (Int32.ofInt f38), .ref 34, .ref 35, .int (Int32.ofInt f41), .ref 36, .ref 37, .int (Int32.ofInt f44), .ref 38, .ref 39, .ref 40, .ref 41, .ref 42, .ref 43, .ref 44]))) (hK1 : zix w 20 = some (.inl (1, 408, .inl g20))) (hK2 : zix w 25 = some (.inl (1, 7, .inl g25))) (hK3 : zix w 28 = some (.inl (1, 4, .inl g28))) (hK4 : zix w 29 = some (.inl (1, 5, .inl g29))) (hr0 : RBF F f20 f22 f23 g20) (hr1 : CSR m s f31 f32 f33 g28 g29) (hr2 : 0 ≤ a1 ∧ a1 ≤ 3) (hr3 : (-2147483648 ≤ a2 ∧ a2 ≤ 2147483647)) (hr4 : m ≤ 1000000) (Q : zQ) (h : ∀ (v : Int) (y26 y33 : Int) (T25 Tc Tt : Nat → Int32) (w' : zW), wfM (fun j => j ≠ 14 ∧ j ≠ 25 ∧ j ≠ 28 ∧ j ≠ 29) w w' → zix w' 14 = some (.inr (11, [.int (Int32.ofInt f0), .ref 15, .ref 16, .ref 17, .ref 18, .ref 19, .ref 20, .ref 21, .ref 22, .int (Int32.ofInt f9), .int (Int32.ofInt f10), .int (Int32.ofInt f11), .int (Int32.ofInt f12), .int (Int32.ofInt f13), .long x14, .int (Int32.ofInt f15), .int (Int32.ofInt f16), .int (Int32.ofInt f17), .ref 23, .ref 24, .int (Int32.ofInt f20), .int (Int32.ofInt f21), .int (Int32.ofInt f22), .int (Int32.ofInt f23), .ref 25, .ref 26, .int (Int32.ofInt y26), .ref 27, .int (Int32.ofInt f28), .ref 28, .ref 29, .int (Int32.ofInt f31), .int (Int32.ofInt f32), .int (Int32.ofInt y33), .ref 30, .ref 31, .ref 32, .ref 33, .int (Int32.ofInt f38), .ref 34, .ref 35, .int (Int32.ofInt f41), .ref 36, .ref 37, .int (Int32.ofInt f44), .ref 38, .ref 39, .ref 40, .ref 41, .ref 42, .ref 43, .ref 44])) → zix w' 25 = some (.inl (1, 7, .inl T25)) → zix w' 28 = some (.inl (1, 4, .inl Tc)) → zix w' 29 = some (.inl (1, 5, .inl Tt)) → (v = dsB f23 0 a1 a2 s) → (CSR (m + 1) (dsS F f22 f23 0 a1 a2 s) f31 f32 y33 Tc Tt) → Q (some (.int (Int32.ofInt v))) w') : zCl zTab (d + 5) iX12_reads [.ref 14, .int (Int32.ofInt a1), .int (Int32.ofInt a2)] w 0 0 Q := by
  refine zCl_i (M := kX12_reads) rfl (Nat.le_of_ble_eq_true rfl) fun R hR => ?_
  have fr0 : wfM (fun j => j ≠ 14 ∧ j ≠ 25 ∧ j ≠ 28 ∧ j ≠ 29) w w := wfM_rf _ w
  obtain ⟨hBK, hf20, hf22, hf23, hFF⟩ := id hr0
  have hcr := csr_r hr1
  have hcc := csr_c hr1 (i := a1) (by omega) (by omega)
  have hh := h_f hcr.2.2.1 hcr.2.2.2 (c := a1) (by omega) (by omega)
  have nX0 : FX (∀ j : Nat, (j ≠ 14 ∧ j ≠ 25 ∧ j ≠ 28 ∧ j ≠ 29) → (j ≠ 14 ∧ j ≠ 25)) := fun j hj => by omega
  have nX1 : FX (∀ j : Nat, (j ≠ 14 ∧ j ≠ 25 ∧ j ≠ 28 ∧ j ≠ 29) → j ≠ 28) := fun j hj => by omega
  have nX2 : FX (∀ j : Nat, (j ≠ 14 ∧ j ≠ 25 ∧ j ≠ 28 ∧ j ≠ 29) → j ≠ 14) := fun j hj => by omega
  have nX3 : FX (∀ j : Nat, (j ≠ 14 ∧ j ≠ 25 ∧ j ≠ 28 ∧ j ≠ 29) → j ≠ 29) := fun j hj => by omega
  iterate 2 refine hR (?_ : R (_, _, _, _, _, _))
  refine hR (c_obj hK0 (zcall_i 0 0 (Nat.le_of_ble_eq_true rfl) (Nat.le_of_ble_eq_true rfl) (x_isReaderR _ _ _ _ _ _ _ _ _ _ _ _ _ _ _ _ _ _ _ _ _ _ _ _ _ hK0 (by omega) (by omega) _ fun v1 hp2 => ?_)))
  refine (?_ : R (_, _, .int (Int32.ofInt v1) :: [], w, 0, 0))
  refine hR (k_ne (by omega) (fun hc3 => ?_) (fun hc3 => ?_))
  rotate_left
  · skip
    refine hR (?_ : R (_, _, _, _, _, _))
    exact hR (zret_i rfl (Nat.le_refl _) (zbo (by omega)) (h _ _ _ _ _ _ _ fr0 hK0 hK2 hK3 hK4 (cs_r0 (F := F) (base := f22) hr1 (by omega)).1 (cs_r0 hr1 (by omega)).2))
  have hct := csr_t hr1 (i := a2) (by omega) (by omega)
  refine hR (?_ : R (_, _, _, _, _, _))
  refine hR (c_get hK0 rfl ?_)
  iterate 2 refine hR (?_ : R (_, _, _, _, _, _))
  refine hR (c_get hK0 rfl ?_)
  refine hR (?_ : R (_, _, _, _, _, _))
  refine hR (zcall_i 0 0 (Nat.le_of_ble_eq_true rfl) (Nat.le_of_ble_eq_true rfl) (x_hasR _ _ _ _ _ fun v4 hp5 => ?_))
  refine (?_ : R (_, _, .int (Int32.ofInt v4) :: .int (Int32.ofInt a1) :: .ref 28 :: [], w, 0, 0))
  refine hR (k_eq (by omega) (fun hc6 => ?_) (fun hc6 => ?_))
  rotate_left
  · skip
    refine hR (?_ : R (_, _, _, _, _, _))
    refine hR (c_get hK0 rfl ?_)
    refine hR (?_ : R (_, _, _, _, _, _))
    refine hR (c_aldE hK3 (by omega) (by omega) (Nat.le_of_ble_eq_true rfl) fun v42 ev42 rv42 => ?_)
    replace ev42 : v42 = tBy g28 a1 := ev42
    subst ev42
    refine hR (?_ : R (_, _, _, _, _, _))
    refine hR (x_ast hK3 (by omega) (by omega) (Nat.le_of_ble_eq_true rfl) fun w43 ff43 hC43 => ?_)
    have fr44 := wfM_st fr0 ff43 nX1
    have hC45 := (ff43.2 14 (by (try dsimp only); decide)).trans hK0
    have hC46 := (ff43.2 20 (by (try dsimp only); decide)).trans hK1
    have hC47 := (ff43.2 25 (by (try dsimp only); decide)).trans hK2
    have hC48 := (ff43.2 29 (by (try dsimp only); decide)).trans hK4
    iterate 2 refine hR (?_ : R (_, _, _, _, _, _))
    refine hR (c_get hC45 rfl ?_)
    iterate 2 refine hR (?_ : R (_, _, _, _, _, _))
    refine hR (t_c (bShl 1 a1) (zoi _).symm ?_)
    have hbt49 : r32 (bShl 1 a1) := zrg _
    refine hR (?_ : R (_, _, _, _, _, _))
    refine hR (t_c (bXor (bShl 1 a1) ((-1))) (zoi _).symm ?_)
    have hbt50 : r32 (bXor (bShl 1 a1) ((-1))) := zrg _
    refine hR (t_c (bAnd f33 (bXor (bShl 1 a1) ((-1)))) (zoi _).symm ?_)
    have hbt51 : r32 (bAnd f33 (bXor (bShl 1 a1) ((-1)))) := zrg _
    refine hR (c_put hC45 rfl rfl fun w52 ff52 hC52 => ?_)
    have fr53 := wfM_st fr44 ff52 nX2
    have hC54 := (ff52.2 20 (by (try dsimp only); decide)).trans hC46
    have hC55 := (ff52.2 25 (by (try dsimp only); decide)).trans hC47
    have hC56 := (ff52.2 28 (by (try dsimp only); decide)).trans hC43
    have hC57 := (ff52.2 29 (by (try dsimp only); decide)).trans hC48
    replace hC52 : zix w52 14 = some (.inr (11, [.int (Int32.ofInt f0), .ref 15, .ref 16, .ref 17, .ref 18, .ref 19, .ref 20, .ref 21, .ref 22, .int (Int32.ofInt f9), .int (Int32.ofInt f10), .int (Int32.ofInt f11), .int (Int32.ofInt f12), .int (Int32.ofInt f13), .long x14, .int (Int32.ofInt f15), .int (Int32.ofInt f16), .int (Int32.ofInt f17), .ref 23, .ref 24, .int (Int32.ofInt f20), .int (Int32.ofInt f21), .int (Int32.ofInt f22), .int (Int32.ofInt f23), .ref 25, .ref 26, .int (Int32.ofInt f26), .ref 27, .int (Int32.ofInt f28), .ref 28, .ref 29, .int (Int32.ofInt f31), .int (Int32.ofInt f32), .int (Int32.ofInt (bAnd f33 (bXor (bShl 1 a1) ((-1))))), .ref 30, .ref 31, .ref 32, .ref 33, .int (Int32.ofInt f38), .ref 34, .ref 35, .int (Int32.ofInt f41), .ref 36, .ref 37, .int (Int32.ofInt f44), .ref 38, .ref 39, .ref 40, .ref 41, .ref 42, .ref 43, .ref 44])) := hC52
    refine hR (?_ : R (_, _, _, _, _, _))
    refine hR (c_get hC52 rfl ?_)
    iterate 2 refine hR (?_ : R (_, _, _, _, _, _))
    refine hR (c_aldE hC57 (by omega) (by omega) (Nat.le_of_ble_eq_true rfl) fun v58 ev58 rv58 => ?_)
    replace ev58 : v58 = tBy g29 a2 := ev58
    subst ev58
    refine hR (?_ : R (_, _, _, _, _, _))
    refine hR (t_add ?_)
    refine hR (x_ast hC57 (by omega) (by omega) (Nat.le_of_ble_eq_true rfl) fun w59 ff59 hC59 => ?_)
    have fr60 := wfM_st fr53 ff59 nX3
    have hC61 := (ff59.2 14 (by (try dsimp only); decide)).trans hC52
    have hC62 := (ff59.2 20 (by (try dsimp only); decide)).trans hC54
    have hC63 := (ff59.2 25 (by (try dsimp only); decide)).trans hC55
    have hC64 := (ff59.2 28 (by (try dsimp only); decide)).trans hC56
    refine hR (?_ : R (_, _, _, _, _, _))
    exact hR (zret_i rfl (Nat.le_refl _) (zbo (by omega)) (h _ _ _ _ _ _ _ fr60 hC61 hC63 hC64 hC59 (ds_1 (by omega)) (cs_rd (F := F) (base := f22) (o := a1) (u := a2) hr1 (by omega) (by omega) (by have := hFF a2 (tBy g28 a1) (by omega) (by omega) (by omega) (by omega); omega) rfl (fun i i0 i1 => by rw [zupI (tBy_r _ _) (by omega) i0]; by_cases c1 : i = a1; (· rw [if_pos c1, if_neg (fun z => by omega), c1]); rw [if_neg c1, if_neg (fun z => by omega)]) (fun i i0 i1 => zupI (by exact ⟨by omega, by omega⟩) (by omega) i0) (by omega)).2))
  have hFx := hFF a2 (tBy g28 a1) (by omega) (by omega) (by omega) (by omega)
  iterate 2 refine hR (?_ : R (_, _, _, _, _, _))
  refine hR (c_get hK0 rfl ?_)
  refine hR (?_ : R (_, _, _, _, _, _))
  refine hR (c_aldE hK3 (by omega) (by omega) (Nat.le_of_ble_eq_true rfl) fun v7 ev7 rv7 => ?_)
  replace ev7 : v7 = tBy g28 a1 := ev7
  subst ev7
  refine hR (?_ : R (_, _, _, _, _, _))
  refine hR (c_obj hK0 (zcall_i 0 0 (Nat.le_of_ble_eq_true rfl) (Nat.le_of_ble_eq_true rfl) (x_readByR _ _ _ _ _ _ _ _ _ _ _ _ _ _ _ _ _ _ _ _ _ _ _ _ _ _ _ _ hK0 hK1 hK2 (by omega) hBK (by omega) (by omega) _ fun v8 y26_9 T'_10 w11 gg12 hC13 hC14 hp15 => ?_)))
  have fr16 := wfM_tr fr0 gg12 nX0
  have hC17 := (gg12.2 20 (by (try dsimp only); decide)).trans hK1
  have hC18 := (gg12.2 28 (by (try dsimp only); decide)).trans hK3
  have hC19 := (gg12.2 29 (by (try dsimp only); decide)).trans hK4
  subst hp15
  refine (?_ : R (_, _, .int (Int32.ofInt (rBY g20 (51 * f20) a2 (tBy g28 a1))) :: .int (Int32.ofInt a1) :: .ref 28 :: [], w11, 0, 0))
  refine hR (x_ast hC18 (by omega) (by omega) (Nat.le_of_ble_eq_true rfl) fun w20 ff20 hC20 => ?_)
  have fr21 := wfM_st fr16 ff20 nX1
  have hC22 := (ff20.2 14 (by (try dsimp only); decide)).trans hC13
  have hC23 := (ff20.2 20 (by (try dsimp only); decide)).trans hC17
  have hC24 := (ff20.2 25 (by (try dsimp only); decide)).trans hC14
  have hC25 := (ff20.2 29 (by (try dsimp only); decide)).trans hC19
  iterate 2 refine hR (?_ : R (_, _, _, _, _, _))
  refine hR (c_get hC22 rfl ?_)
  iterate 2 refine hR (?_ : R (_, _, _, _, _, _))
  refine hR (t_c (bShl 1 a1) (zoi _).symm ?_)
  have hbt26 : r32 (bShl 1 a1) := zrg _
  refine hR (?_ : R (_, _, _, _, _, _))
  refine hR (t_c (bXor (bShl 1 a1) ((-1))) (zoi _).symm ?_)
  have hbt27 : r32 (bXor (bShl 1 a1) ((-1))) := zrg _
  refine hR (t_c (bAnd f33 (bXor (bShl 1 a1) ((-1)))) (zoi _).symm ?_)
  have hbt28 : r32 (bAnd f33 (bXor (bShl 1 a1) ((-1)))) := zrg _
  refine hR (c_put hC22 rfl rfl fun w29 ff29 hC29 => ?_)
  have fr30 := wfM_st fr21 ff29 nX2
  have hC31 := (ff29.2 20 (by (try dsimp only); decide)).trans hC23
  have hC32 := (ff29.2 25 (by (try dsimp only); decide)).trans hC24
  have hC33 := (ff29.2 28 (by (try dsimp only); decide)).trans hC20
  have hC34 := (ff29.2 29 (by (try dsimp only); decide)).trans hC25
  replace hC29 : zix w29 14 = some (.inr (11, [.int (Int32.ofInt f0), .ref 15, .ref 16, .ref 17, .ref 18, .ref 19, .ref 20, .ref 21, .ref 22, .int (Int32.ofInt f9), .int (Int32.ofInt f10), .int (Int32.ofInt f11), .int (Int32.ofInt f12), .int (Int32.ofInt f13), .long x14, .int (Int32.ofInt f15), .int (Int32.ofInt f16), .int (Int32.ofInt f17), .ref 23, .ref 24, .int (Int32.ofInt f20), .int (Int32.ofInt f21), .int (Int32.ofInt f22), .int (Int32.ofInt f23), .ref 25, .ref 26, .int (Int32.ofInt y26_9), .ref 27, .int (Int32.ofInt f28), .ref 28, .ref 29, .int (Int32.ofInt f31), .int (Int32.ofInt f32), .int (Int32.ofInt (bAnd f33 (bXor (bShl 1 a1) ((-1))))), .ref 30, .ref 31, .ref 32, .ref 33, .int (Int32.ofInt f38), .ref 34, .ref 35, .int (Int32.ofInt f41), .ref 36, .ref 37, .int (Int32.ofInt f44), .ref 38, .ref 39, .ref 40, .ref 41, .ref 42, .ref 43, .ref 44])) := hC29
  refine hR (?_ : R (_, _, _, _, _, _))
  refine hR (c_get hC29 rfl ?_)
  iterate 2 refine hR (?_ : R (_, _, _, _, _, _))
  refine hR (c_aldE hC34 (by omega) (by omega) (Nat.le_of_ble_eq_true rfl) fun v35 ev35 rv35 => ?_)
  replace ev35 : v35 = tBy g29 a2 := ev35
  subst ev35
  refine hR (?_ : R (_, _, _, _, _, _))
  refine hR (t_add ?_)
  refine hR (x_ast hC34 (by omega) (by omega) (Nat.le_of_ble_eq_true rfl) fun w36 ff36 hC36 => ?_)
  have fr37 := wfM_st fr30 ff36 nX3
  have hC38 := (ff36.2 14 (by (try dsimp only); decide)).trans hC29
  have hC39 := (ff36.2 20 (by (try dsimp only); decide)).trans hC31
  have hC40 := (ff36.2 25 (by (try dsimp only); decide)).trans hC32
  have hC41 := (ff36.2 28 (by (try dsimp only); decide)).trans hC33
  refine hR (?_ : R (_, _, _, _, _, _))
  exact hR (zret_i rfl (Nat.le_refl _) (zbo (by omega)) (h _ _ _ _ _ _ _ fr37 hC38 hC40 hC41 hC36 (ds_1 (by omega)) (cs_rd (F := F) (base := f22) (o := a1) (u := a2) hr1 (by omega) (by omega) (by have := hFF a2 (tBy g28 a1) (by omega) (by omega) (by omega) (by omega); omega) rfl (fun i i0 i1 => by rw [zupI (by exact ⟨by omega, by omega⟩) (by omega) i0]; by_cases c1 : i = a1; (· rw [if_pos c1, if_pos ⟨by omega, c1⟩]; exact hFx.1); rw [if_neg c1, if_neg (fun z => c1 z.2)]) (fun i i0 i1 => zupI (by exact ⟨by omega, by omega⟩) (by omega) i0) (by omega)).2))
theorem x_hushesR (w : zW) (d : Nat) (a1 : Int) (f0 f9 f10 f11 f12 f13 f15 f16 f17 f20 f21 f22 f23 f26 f28 f31 f32 f33 f38 f41 f44 : Int) (x14 : Int64) (hK0 : zix w 14 = some (.inr (11, [.int (Int32.ofInt f0), .ref 15, .ref 16, .ref 17, .ref 18, .ref 19, .ref 20, .ref 21, .ref 22, .int (Int32.ofInt f9), .int (Int32.ofInt f10), .int (Int32.ofInt f11), .int (Int32.ofInt f12), .int (Int32.ofInt f13), .long x14, .int (Int32.ofInt f15), .int (Int32.ofInt f16), .int (Int32.ofInt f17), .ref 23, .ref 24, .int (Int32.ofInt f20), .int (Int32.ofInt f21), .int (Int32.ofInt f22), .int (Int32.ofInt f23), .ref 25, .ref 26, .int (Int32.ofInt f26), .ref 27, .int (Int32.ofInt f28), .ref 28, .ref 29, .int (Int32.ofInt f31), .int (Int32.ofInt f32), .int (Int32.ofInt f33), .ref 30, .ref 31, .ref 32, .ref 33, .int (Int32.ofInt f38), .ref 34, .ref 35, .int (Int32.ofInt f41), .ref 36, .ref 37, .int (Int32.ofInt f44), .ref 38, .ref 39, .ref 40, .ref 41, .ref 42, .ref 43, .ref 44]))) (hr0 : 0 ≤ a1 ∧ a1 ≤ 3) (hr1 : 0 ≤ f33 ∧ f33 ≤ 15) (Q : zQ) (h : ∀ (v : Int) (y33 : Int) (w' : zW), wfM (fun j => j ≠ 14) w w' → zix w' 14 = some (.inr (11, [.int (Int32.ofInt f0), .ref 15, .ref 16, .ref 17, .ref 18, .ref 19, .ref 20, .ref 21, .ref 22, .int (Int32.ofInt f9), .int (Int32.ofInt f10), .int (Int32.ofInt f11), .int (Int32.ofInt f12), .int (Int32.ofInt f13), .long x14, .int (Int32.ofInt f15), .int (Int32.ofInt f16), .int (Int32.ofInt f17), .ref 23, .ref 24, .int (Int32.ofInt f20), .int (Int32.ofInt f21), .int (Int32.ofInt f22), .int (Int32.ofInt f23), .ref 25, .ref 26, .int (Int32.ofInt f26), .ref 27, .int (Int32.ofInt f28), .ref 28, .ref 29, .int (Int32.ofInt f31), .int (Int32.ofInt f32), .int (Int32.ofInt y33), .ref 30, .ref 31, .ref 32, .ref 33, .int (Int32.ofInt f38), .ref 34, .ref 35, .int (Int32.ofInt f41), .ref 36, .ref 37, .int (Int32.ofInt f44), .ref 38, .ref 39, .ref 40, .ref 41, .ref 42, .ref 43, .ref 44])) → (v = if hHas f33 a1 = 0 then 1 else 0) → (y33 = hSet f33 a1) → Q (some (.int (Int32.ofInt v))) w') : zCl zTab (d + 2) iX12_hushes [.ref 14, .int (Int32.ofInt a1)] w 0 0 Q := by
  refine zCl_i (M := kX12_hushes) rfl (Nat.le_of_ble_eq_true rfl) fun R hR => ?_
  have fr0 : wfM (fun j => j ≠ 14) w w := wfM_rf _ w
  have hh := h_f hr1.1 hr1.2 hr0.1 hr0.2
  have nX0 : FX (∀ j : Nat, (j ≠ 14) → j ≠ 14) := fun j hj => by omega
  refine hR (?_ : R (_, _, _, _, _, _))
  refine hR (c_get hK0 rfl ?_)
  refine hR (?_ : R (_, _, _, _, _, _))
  refine hR (zcall_i 0 0 (Nat.le_of_ble_eq_true rfl) (Nat.le_of_ble_eq_true rfl) (x_hasR _ _ _ _ _ fun v1 hp2 => ?_))
  refine (?_ : R (_, _, .int (Int32.ofInt v1) :: [], w, 0, 0))
  refine hR (k_ne (by omega) (fun hc3 => ?_) (fun hc3 => ?_))
  · skip
    iterate 4 refine hR (?_ : R (_, _, _, _, _, _))
    refine hR (c_get hK0 rfl ?_)
    iterate 2 refine hR (?_ : R (_, _, _, _, _, _))
    refine hR (t_c (bShl 1 a1) (zoi _).symm ?_)
    have hbt4 : r32 (bShl 1 a1) := zrg _
    refine hR (t_c (bOr f33 (bShl 1 a1)) (zoi _).symm ?_)
    have hbt5 : r32 (bOr f33 (bShl 1 a1)) := zrg _
    refine hR (c_put hK0 rfl rfl fun w6 ff6 hC6 => ?_)
    have fr7 := wfM_st fr0 ff6 nX0
    replace hC6 : zix w6 14 = some (.inr (11, [.int (Int32.ofInt f0), .ref 15, .ref 16, .ref 17, .ref 18, .ref 19, .ref 20, .ref 21, .ref 22, .int (Int32.ofInt f9), .int (Int32.ofInt f10), .int (Int32.ofInt f11), .int (Int32.ofInt f12), .int (Int32.ofInt f13), .long x14, .int (Int32.ofInt f15), .int (Int32.ofInt f16), .int (Int32.ofInt f17), .ref 23, .ref 24, .int (Int32.ofInt f20), .int (Int32.ofInt f21), .int (Int32.ofInt f22), .int (Int32.ofInt f23), .ref 25, .ref 26, .int (Int32.ofInt f26), .ref 27, .int (Int32.ofInt f28), .ref 28, .ref 29, .int (Int32.ofInt f31), .int (Int32.ofInt f32), .int (Int32.ofInt (bOr f33 (bShl 1 a1))), .ref 30, .ref 31, .ref 32, .ref 33, .int (Int32.ofInt f38), .ref 34, .ref 35, .int (Int32.ofInt f41), .ref 36, .ref 37, .int (Int32.ofInt f44), .ref 38, .ref 39, .ref 40, .ref 41, .ref 42, .ref 43, .ref 44])) := hC6
    refine hR (?_ : R (_, _, _, _, _, _))
    exact hR (zret_i rfl (Nat.le_refl _) (zbo (by omega)) (h _ _ _ fr7 hC6 (by first | (rw [if_pos (by omega)]) | (rw [if_neg (by omega)])) rfl))
  iterate 5 refine hR (?_ : R (_, _, _, _, _, _))
  refine hR (c_get hK0 rfl ?_)
  iterate 2 refine hR (?_ : R (_, _, _, _, _, _))
  refine hR (t_c (bShl 1 a1) (zoi _).symm ?_)
  have hbt8 : r32 (bShl 1 a1) := zrg _
  refine hR (t_c (bOr f33 (bShl 1 a1)) (zoi _).symm ?_)
  have hbt9 : r32 (bOr f33 (bShl 1 a1)) := zrg _
  refine hR (c_put hK0 rfl rfl fun w10 ff10 hC10 => ?_)
  have fr11 := wfM_st fr0 ff10 nX0
  replace hC10 : zix w10 14 = some (.inr (11, [.int (Int32.ofInt f0), .ref 15, .ref 16, .ref 17, .ref 18, .ref 19, .ref 20, .ref 21, .ref 22, .int (Int32.ofInt f9), .int (Int32.ofInt f10), .int (Int32.ofInt f11), .int (Int32.ofInt f12), .int (Int32.ofInt f13), .long x14, .int (Int32.ofInt f15), .int (Int32.ofInt f16), .int (Int32.ofInt f17), .ref 23, .ref 24, .int (Int32.ofInt f20), .int (Int32.ofInt f21), .int (Int32.ofInt f22), .int (Int32.ofInt f23), .ref 25, .ref 26, .int (Int32.ofInt f26), .ref 27, .int (Int32.ofInt f28), .ref 28, .ref 29, .int (Int32.ofInt f31), .int (Int32.ofInt f32), .int (Int32.ofInt (bOr f33 (bShl 1 a1))), .ref 30, .ref 31, .ref 32, .ref 33, .int (Int32.ofInt f38), .ref 34, .ref 35, .int (Int32.ofInt f41), .ref 36, .ref 37, .int (Int32.ofInt f44), .ref 38, .ref 39, .ref 40, .ref 41, .ref 42, .ref 43, .ref 44])) := hC10
  refine hR (?_ : R (_, _, _, _, _, _))
  exact hR (zret_i rfl (Nat.le_refl _) (zbo (by omega)) (h _ _ _ fr11 hC10 (by first | (rw [if_pos (by omega)]) | (rw [if_neg (by omega)])) rfl))
theorem x_goesOnR (w : zW) (d : Nat) (f0 f9 f10 f11 f12 f13 f15 f16 f17 f20 f21 f22 f23 f26 f28 f31 f32 f33 f38 f41 f44 : Int) (x14 : Int64) (hK0 : zix w 14 = some (.inr (11, [.int (Int32.ofInt f0), .ref 15, .ref 16, .ref 17, .ref 18, .ref 19, .ref 20, .ref 21, .ref 22, .int (Int32.ofInt f9), .int (Int32.ofInt f10), .int (Int32.ofInt f11), .int (Int32.ofInt f12), .int (Int32.ofInt f13), .long x14, .int (Int32.ofInt f15), .int (Int32.ofInt f16), .int (Int32.ofInt f17), .ref 23, .ref 24, .int (Int32.ofInt f20), .int (Int32.ofInt f21), .int (Int32.ofInt f22), .int (Int32.ofInt f23), .ref 25, .ref 26, .int (Int32.ofInt f26), .ref 27, .int (Int32.ofInt f28), .ref 28, .ref 29, .int (Int32.ofInt f31), .int (Int32.ofInt f32), .int (Int32.ofInt f33), .ref 30, .ref 31, .ref 32, .ref 33, .int (Int32.ofInt f38), .ref 34, .ref 35, .int (Int32.ofInt f41), .ref 36, .ref 37, .int (Int32.ofInt f44), .ref 38, .ref 39, .ref 40, .ref 41, .ref 42, .ref 43, .ref 44]))) (hr0 : 0 ≤ f31 ∧ f31 ≤ 99) (Q : zQ) (h : ∀ (v : Int) (y31 : Int) (w' : zW), wfM (fun j => j ≠ 14) w w' → zix w' 14 = some (.inr (11, [.int (Int32.ofInt f0), .ref 15, .ref 16, .ref 17, .ref 18, .ref 19, .ref 20, .ref 21, .ref 22, .int (Int32.ofInt f9), .int (Int32.ofInt f10), .int (Int32.ofInt f11), .int (Int32.ofInt f12), .int (Int32.ofInt f13), .long x14, .int (Int32.ofInt f15), .int (Int32.ofInt f16), .int (Int32.ofInt f17), .ref 23, .ref 24, .int (Int32.ofInt f20), .int (Int32.ofInt f21), .int (Int32.ofInt f22), .int (Int32.ofInt f23), .ref 25, .ref 26, .int (Int32.ofInt f26), .ref 27, .int (Int32.ofInt f28), .ref 28, .ref 29, .int (Int32.ofInt y31), .int (Int32.ofInt f32), .int (Int32.ofInt f33), .ref 30, .ref 31, .ref 32, .ref 33, .int (Int32.ofInt f38), .ref 34, .ref 35, .int (Int32.ofInt f41), .ref 36, .ref 37, .int (Int32.ofInt f44), .ref 38, .ref 39, .ref 40, .ref 41, .ref 42, .ref 43, .ref 44])) → (v = if f31 < 99 then 1 else 0) → (y31 = if f31 < 99 then f31 + 1 else f31) → Q (some (.int (Int32.ofInt v))) w') : zCl zTab (d + 1) iX12_goesOn [.ref 14] w 0 0 Q := by
  refine zCl_i (M := kX12_goesOn) rfl (Nat.le_of_ble_eq_true rfl) fun R hR => ?_
  have fr0 : wfM (fun j => j ≠ 14) w w := wfM_rf _ w
  have nX0 : FX (∀ j : Nat, (j ≠ 14) → j ≠ 14) := fun j hj => by omega
  refine hR (?_ : R (_, _, _, _, _, _))
  refine hR (c_get hK0 rfl ?_)
  refine hR (t_c 99 (by decide) ?_)
  refine hR (j_ge (by omega) (by omega) (fun hc1 => ?_) (fun hc1 => ?_))
  · skip
    iterate 4 refine hR (?_ : R (_, _, _, _, _, _))
    refine hR (c_get hK0 rfl ?_)
    refine hR (?_ : R (_, _, _, _, _, _))
    refine hR (k_eq (by omega) (fun _ => ?_) (fun hc => by omega))
    refine hR (?_ : R (_, _, _, _, _, _))
    refine hR (t_add ?_)
    refine hR (c_put hK0 rfl rfl fun w2 ff2 hC2 => ?_)
    have fr3 := wfM_st fr0 ff2 nX0
    replace hC2 : zix w2 14 = some (.inr (11, [.int (Int32.ofInt f0), .ref 15, .ref 16, .ref 17, .ref 18, .ref 19, .ref 20, .ref 21, .ref 22, .int (Int32.ofInt f9), .int (Int32.ofInt f10), .int (Int32.ofInt f11), .int (Int32.ofInt f12), .int (Int32.ofInt f13), .long x14, .int (Int32.ofInt f15), .int (Int32.ofInt f16), .int (Int32.ofInt f17), .ref 23, .ref 24, .int (Int32.ofInt f20), .int (Int32.ofInt f21), .int (Int32.ofInt f22), .int (Int32.ofInt f23), .ref 25, .ref 26, .int (Int32.ofInt f26), .ref 27, .int (Int32.ofInt f28), .ref 28, .ref 29, .int (Int32.ofInt (f31 + 0)), .int (Int32.ofInt f32), .int (Int32.ofInt f33), .ref 30, .ref 31, .ref 32, .ref 33, .int (Int32.ofInt f38), .ref 34, .ref 35, .int (Int32.ofInt f41), .ref 36, .ref 37, .int (Int32.ofInt f44), .ref 38, .ref 39, .ref 40, .ref 41, .ref 42, .ref 43, .ref 44])) := hC2
    refine hR (?_ : R (_, _, _, _, _, _))
    exact hR (zret_i rfl (Nat.le_refl _) (zbo (by omega)) (h _ _ _ fr3 hC2 (by first | (rw [if_pos (by omega)]) | (rw [if_neg (by omega)])) (by first | (rw [if_pos (by omega)]) | (rw [if_neg (by omega)]; omega))))
  iterate 5 refine hR (?_ : R (_, _, _, _, _, _))
  refine hR (c_get hK0 rfl ?_)
  refine hR (?_ : R (_, _, _, _, _, _))
  refine hR (k_eq (by omega) (fun hc => by omega) (fun _ => ?_))
  iterate 2 refine hR (?_ : R (_, _, _, _, _, _))
  refine hR (t_add ?_)
  refine hR (c_put hK0 rfl rfl fun w4 ff4 hC4 => ?_)
  have fr5 := wfM_st fr0 ff4 nX0
  replace hC4 : zix w4 14 = some (.inr (11, [.int (Int32.ofInt f0), .ref 15, .ref 16, .ref 17, .ref 18, .ref 19, .ref 20, .ref 21, .ref 22, .int (Int32.ofInt f9), .int (Int32.ofInt f10), .int (Int32.ofInt f11), .int (Int32.ofInt f12), .int (Int32.ofInt f13), .long x14, .int (Int32.ofInt f15), .int (Int32.ofInt f16), .int (Int32.ofInt f17), .ref 23, .ref 24, .int (Int32.ofInt f20), .int (Int32.ofInt f21), .int (Int32.ofInt f22), .int (Int32.ofInt f23), .ref 25, .ref 26, .int (Int32.ofInt f26), .ref 27, .int (Int32.ofInt f28), .ref 28, .ref 29, .int (Int32.ofInt (f31 + 1)), .int (Int32.ofInt f32), .int (Int32.ofInt f33), .ref 30, .ref 31, .ref 32, .ref 33, .int (Int32.ofInt f38), .ref 34, .ref 35, .int (Int32.ofInt f41), .ref 36, .ref 37, .int (Int32.ofInt f44), .ref 38, .ref 39, .ref 40, .ref 41, .ref 42, .ref 43, .ref 44])) := hC4
  refine hR (?_ : R (_, _, _, _, _, _))
  exact hR (zret_i rfl (Nat.le_refl _) (zbo (by omega)) (h _ _ _ fr5 hC4 (by first | (rw [if_pos (by omega)]) | (rw [if_neg (by omega)])) (by first | (rw [if_pos (by omega)]) | (rw [if_neg (by omega)]; omega))))
theorem x_doesR (w : zW) (d : Nat) (a1 : Int) (f0 f9 f10 f11 f12 f13 f15 f16 f17 f20 f21 f22 f23 f26 f28 f31 f32 f33 f38 f41 f44 : Int) (x14 : Int64) (g20 g21 g25 g28 g29 : Nat → Int32) (F : Int → Int → Int) (s : CS) (m : Int) (κ o u : Int) (hK0 : zix w 14 = some (.inr (11, [.int (Int32.ofInt f0), .ref 15, .ref 16, .ref 17, .ref 18, .ref 19, .ref 20, .ref 21, .ref 22, .int (Int32.ofInt f9), .int (Int32.ofInt f10), .int (Int32.ofInt f11), .int (Int32.ofInt f12), .int (Int32.ofInt f13), .long x14, .int (Int32.ofInt f15), .int (Int32.ofInt f16), .int (Int32.ofInt f17), .ref 23, .ref 24, .int (Int32.ofInt f20), .int (Int32.ofInt f21), .int (Int32.ofInt f22), .int (Int32.ofInt f23), .ref 25, .ref 26, .int (Int32.ofInt f26), .ref 27, .int (Int32.ofInt f28), .ref 28, .ref 29, .int (Int32.ofInt f31), .int (Int32.ofInt f32), .int (Int32.ofInt f33), .ref 30, .ref 31, .ref 32, .ref 33, .int (Int32.ofInt f38), .ref 34, .ref 35, .int (Int32.ofInt f41), .ref 36, .ref 37, .int (Int32.ofInt f44), .ref 38, .ref 39, .ref 40, .ref 41, .ref 42, .ref 43, .ref 44]))) (hK1 : zix w 20 = some (.inl (1, 408, .inl g20))) (hK2 : zix w 21 = some (.inl (1, 968, .inl g21))) (hK3 : zix w 25 = some (.inl (1, 7, .inl g25))) (hK4 : zix w 28 = some (.inl (1, 4, .inl g28))) (hK5 : zix w 29 = some (.inl (1, 5, .inl g29))) (hr0 : RBF F f20 f22 f23 g20) (hr1 : CSR m s f31 f32 f33 g28 g29) (hr2 : (0 ≤ a1 ∧ a1 < 40) ∧ (0 ≤ f28 ∧ f28 ≤ 1)) (hr3 : m ≤ 1000000) (hr4 : tBy g21 (121 * f28 + 1 + 3 * a1 + 0) = κ ∧ tBy g21 (121 * f28 + 1 + 3 * a1 + 1) = o ∧ tBy g21 (121 * f28 + 1 + 3 * a1 + 2) = u) (hr5 : DOK κ o u) (Q : zQ) (h : ∀ (v : Int) (y26 y31 y32 y33 : Int) (T25 Tc Tt : Nat → Int32) (w' : zW), wfM (fun j => j ≠ 14 ∧ j ≠ 25 ∧ j ≠ 28 ∧ j ≠ 29) w w' → zix w' 14 = some (.inr (11, [.int (Int32.ofInt f0), .ref 15, .ref 16, .ref 17, .ref 18, .ref 19, .ref 20, .ref 21, .ref 22, .int (Int32.ofInt f9), .int (Int32.ofInt f10), .int (Int32.ofInt f11), .int (Int32.ofInt f12), .int (Int32.ofInt f13), .long x14, .int (Int32.ofInt f15), .int (Int32.ofInt f16), .int (Int32.ofInt f17), .ref 23, .ref 24, .int (Int32.ofInt f20), .int (Int32.ofInt f21), .int (Int32.ofInt f22), .int (Int32.ofInt f23), .ref 25, .ref 26, .int (Int32.ofInt y26), .ref 27, .int (Int32.ofInt f28), .ref 28, .ref 29, .int (Int32.ofInt y31), .int (Int32.ofInt y32), .int (Int32.ofInt y33), .ref 30, .ref 31, .ref 32, .ref 33, .int (Int32.ofInt f38), .ref 34, .ref 35, .int (Int32.ofInt f41), .ref 36, .ref 37, .int (Int32.ofInt f44), .ref 38, .ref 39, .ref 40, .ref 41, .ref 42, .ref 43, .ref 44])) → zix w' 25 = some (.inl (1, 7, .inl T25)) → zix w' 28 = some (.inl (1, 4, .inl Tc)) → zix w' 29 = some (.inl (1, 5, .inl Tt)) → (v = dsB f23 κ o u s) → (CSR (m + 1) (dsS F f22 f23 κ o u s) y31 y32 y33 Tc Tt) → Q (some (.int (Int32.ofInt v))) w') : zCl zTab (d + 6) iX12_does [.ref 14, .int (Int32.ofInt a1)] w 0 0 Q := by
  refine zCl_i (M := kX12_does) rfl (Nat.le_of_ble_eq_true rfl) fun R hR => ?_
  have fr0 : wfM (fun j => j ≠ 14 ∧ j ≠ 25 ∧ j ≠ 28 ∧ j ≠ 29) w w := wfM_rf _ w
  obtain ⟨hBK, hf20, hf22, hf23, hFF⟩ := id hr0
  have hcr := csr_r hr1
  have hdk := hr5
  unfold DOK at hdk
  have hty := tBy_r g21 (121 * f28 + 1 + 3 * a1 + 2)
  have nX0 : FX (∀ j : Nat, (j ≠ 14 ∧ j ≠ 25 ∧ j ≠ 28 ∧ j ≠ 29) → (j ≠ 14 ∧ j ≠ 25 ∧ j ≠ 28 ∧ j ≠ 29)) := fun j hj => by omega
  have nX1 : FX (∀ j : Nat, (j ≠ 14 ∧ j ≠ 25 ∧ j ≠ 28 ∧ j ≠ 29) → j ≠ 28) := fun j hj => by omega
  have nX2 : FX (∀ j : Nat, (j ≠ 14 ∧ j ≠ 25 ∧ j ≠ 28 ∧ j ≠ 29) → j ≠ 14) := fun j hj => by omega
  have nX3 : FX (∀ j : Nat, (j ≠ 14 ∧ j ≠ 25 ∧ j ≠ 28 ∧ j ≠ 29) → (j ≠ 14)) := fun j hj => by omega
  iterate 3 refine hR (?_ : R (_, _, _, _, _, _))
  refine hR (c_obj hK0 (zcall_i 0 0 (Nat.le_of_ble_eq_true rfl) (Nat.le_of_ble_eq_true rfl) (x_deedOfR _ _ _ _ _ _ _ _ _ _ _ _ _ _ _ _ _ _ _ _ _ _ _ _ _ _ _ hK0 hK2 (by omega) (by omega) (by omega) _ fun v1 hp2 => ?_)))
  subst hp2
  refine (?_ : R (_, _, .int (Int32.ofInt (tBy g21 (121 * f28 + 1 + 3 * a1 + 1))) :: [], w, 0, 0))
  iterate 4 refine hR (?_ : R (_, _, _, _, _, _))
  refine hR (c_obj hK0 (zcall_i 0 0 (Nat.le_of_ble_eq_true rfl) (Nat.le_of_ble_eq_true rfl) (x_deedOfR _ _ _ _ _ _ _ _ _ _ _ _ _ _ _ _ _ _ _ _ _ _ _ _ _ _ _ hK0 hK2 (by omega) (by omega) (by omega) _ fun v3 hp4 => ?_)))
  subst hp4
  refine (?_ : R (_, _, .int (Int32.ofInt (tBy g21 (121 * f28 + 1 + 3 * a1 + 0))) :: [], w, 0, 0))
  have hl5 : tBy g21 (121 * f28 + 1 + 3 * a1 + 0) = 0 ∨ tBy g21 (121 * f28 + 1 + 3 * a1 + 0) = 1 ∨ tBy g21 (121 * f28 + 1 + 3 * a1 + 0) = 2 ∨ tBy g21 (121 * f28 + 1 + 3 * a1 + 0) = 3 ∨ tBy g21 (121 * f28 + 1 + 3 * a1 + 0) = 4 ∨ (tBy g21 (121 * f28 + 1 + 3 * a1 + 0) ≠ 0 ∧ tBy g21 (121 * f28 + 1 + 3 * a1 + 0) ≠ 1 ∧ tBy g21 (121 * f28 + 1 + 3 * a1 + 0) ≠ 2 ∧ tBy g21 (121 * f28 + 1 + 3 * a1 + 0) ≠ 3 ∧ tBy g21 (121 * f28 + 1 + 3 * a1 + 0) ≠ 4) := by omega
  rcases hl5 with hl5 | hl5 | hl5 | hl5 | hl5 | hl5
  · refine hR (?_ : _ ∧ _)
    rw [zti (e := tBy g21 (121 * f28 + 1 + 3 * a1 + 0)) (by omega) (by omega)]
    refine ⟨fun hx => by omega, fun _ => ⟨35, by rw [hl5]; rfl, (?_ : R (_, _, _, _, _, _))⟩⟩
    iterate 5 refine hR (?_ : R (_, _, _, _, _, _))
    refine hR (c_obj hK0 (zcall_i 0 0 (Nat.le_of_ble_eq_true rfl) (Nat.le_of_ble_eq_true rfl) (x_deedOfR _ _ _ _ _ _ _ _ _ _ _ _ _ _ _ _ _ _ _ _ _ _ _ _ _ _ _ hK0 hK2 (by omega) (by omega) (by omega) _ fun v6 hp7 => ?_)))
    subst hp7
    refine (?_ : R (_, _, .int (Int32.ofInt (tBy g21 (121 * f28 + 1 + 3 * a1 + 2))) :: .int (Int32.ofInt (tBy g21 (121 * f28 + 1 + 3 * a1 + 1))) :: .ref 14 :: [], w, 0, 0))
    refine hR (c_obj hK0 (zcall_i 0 0 (Nat.le_of_ble_eq_true rfl) (Nat.le_of_ble_eq_true rfl) (x_readsR _ _ _ _ _ _ _ _ _ _ _ _ _ _ _ _ _ _ _ _ _ _ _ _ _ _ _ _ _ _ _ _ _ hK0 hK1 hK3 hK4 hK5 hr0 hr1 (by omega) (by omega) (by omega) _ fun v8 y26_9 y33_10 T25_11 Tc_12 Tt_13 w14 gg15 hC16 hC17 hC18 hC19 hp20 hp21 => ?_)))
    have fr22 := wfM_tr fr0 gg15 nX0
    have hC23 := (gg15.2 20 (by (try dsimp only); decide)).trans hK1
    have hC24 := (gg15.2 21 (by (try dsimp only); decide)).trans hK2
    refine (?_ : R (_, _, .int (Int32.ofInt v8) :: [], w14, 0, 0))
    have hbr25 := dsB_r f23 0 (tBy g21 (121 * f28 + 1 + 3 * a1 + 1)) (tBy g21 (121 * f28 + 1 + 3 * a1 + 2)) s
    exact hR (zret_i rfl (Nat.le_refl _) (zbo (by omega)) (h _ _ _ _ _ _ _ _ _ fr22 hC16 hC17 hC18 hC19 (by rw [show κ = 0 by omega]; rw [← hr4.2.2, ← hr4.2.1]; exact hp20) (by rw [show κ = 0 by omega]; rw [← hr4.2.2, ← hr4.2.1]; exact hp21)))
  · refine hR (?_ : _ ∧ _)
    rw [zti (e := tBy g21 (121 * f28 + 1 + 3 * a1 + 0)) (by omega) (by omega)]
    refine ⟨fun hx => by omega, fun _ => ⟨47, by rw [hl5]; rfl, (?_ : R (_, _, _, _, _, _))⟩⟩
    refine hR (?_ : R (_, _, _, _, _, _))
    refine hR (c_get hK0 rfl ?_)
    iterate 3 refine hR (?_ : R (_, _, _, _, _, _))
    refine hR (c_obj hK0 (zcall_i 0 0 (Nat.le_of_ble_eq_true rfl) (Nat.le_of_ble_eq_true rfl) (x_deedOfR _ _ _ _ _ _ _ _ _ _ _ _ _ _ _ _ _ _ _ _ _ _ _ _ _ _ _ hK0 hK2 (by omega) (by omega) (by omega) _ fun v26 hp27 => ?_)))
    subst hp27
    refine (?_ : R (_, _, .int (Int32.ofInt (tBy g21 (121 * f28 + 1 + 3 * a1 + 2))) :: .ref 28 :: [], w, 0, 0))
    refine hR (?_ : R (_, _, _, _, _, _))
    refine hR (c_get hK0 rfl ?_)
    refine hR (?_ : R (_, _, _, _, _, _))
    refine hR (c_aldE hK4 (by omega) (by omega) (Nat.le_of_ble_eq_true rfl) fun v28 ev28 rv28 => ?_)
    replace ev28 : v28 = tBy g28 (tBy g21 (121 * f28 + 1 + 3 * a1 + 1)) := ev28
    subst ev28
    refine hR (x_ast hK4 (by omega) (by omega) (Nat.le_of_ble_eq_true rfl) fun w29 ff29 hC29 => ?_)
    have fr30 := wfM_st fr0 ff29 nX1
    have hC31 := (ff29.2 14 (by (try dsimp only); decide)).trans hK0
    have hC32 := (ff29.2 20 (by (try dsimp only); decide)).trans hK1
    have hC33 := (ff29.2 21 (by (try dsimp only); decide)).trans hK2
    have hC34 := (ff29.2 25 (by (try dsimp only); decide)).trans hK3
    have hC35 := (ff29.2 29 (by (try dsimp only); decide)).trans hK5
    refine hR (?_ : R (_, _, _, _, _, _))
    exact hR (zret_i rfl (Nat.le_refl _) (zbo (by omega)) (h _ _ _ _ _ _ _ _ _ fr30 hC31 hC34 hC29 hC35 (by rw [show κ = 1 by omega]; exact cs_c1 (by omega)) (by rw [show κ = 1 by omega]; exact cs_cp hr1 (by omega) (fun i i0 i1 => by rw [zupI (tBy_r _ _) (by omega) i0, hr4.2.2, hr4.2.1]))))
  · refine hR (?_ : _ ∧ _)
    rw [zti (e := tBy g21 (121 * f28 + 1 + 3 * a1 + 0)) (by omega) (by omega)]
    refine ⟨fun hx => by omega, fun _ => ⟨66, by rw [hl5]; rfl, (?_ : R (_, _, _, _, _, _))⟩⟩
    iterate 2 refine hR (?_ : R (_, _, _, _, _, _))
    refine hR (c_put hK0 rfl rfl fun w36 ff36 hC36 => ?_)
    have fr37 := wfM_st fr0 ff36 nX2
    have hC38 := (ff36.2 20 (by (try dsimp only); decide)).trans hK1
    have hC39 := (ff36.2 21 (by (try dsimp only); decide)).trans hK2
    have hC40 := (ff36.2 25 (by (try dsimp only); decide)).trans hK3
    have hC41 := (ff36.2 28 (by (try dsimp only); decide)).trans hK4
    have hC42 := (ff36.2 29 (by (try dsimp only); decide)).trans hK5
    replace hC36 : zix w36 14 = some (.inr (11, [.int (Int32.ofInt f0), .ref 15, .ref 16, .ref 17, .ref 18, .ref 19, .ref 20, .ref 21, .ref 22, .int (Int32.ofInt f9), .int (Int32.ofInt f10), .int (Int32.ofInt f11), .int (Int32.ofInt f12), .int (Int32.ofInt f13), .long x14, .int (Int32.ofInt f15), .int (Int32.ofInt f16), .int (Int32.ofInt f17), .ref 23, .ref 24, .int (Int32.ofInt f20), .int (Int32.ofInt f21), .int (Int32.ofInt f22), .int (Int32.ofInt f23), .ref 25, .ref 26, .int (Int32.ofInt f26), .ref 27, .int (Int32.ofInt f28), .ref 28, .ref 29, .int (Int32.ofInt f31), .int (Int32.ofInt (tBy g21 (121 * f28 + 1 + 3 * a1 + 1))), .int (Int32.ofInt f33), .ref 30, .ref 31, .ref 32, .ref 33, .int (Int32.ofInt f38), .ref 34, .ref 35, .int (Int32.ofInt f41), .ref 36, .ref 37, .int (Int32.ofInt f44), .ref 38, .ref 39, .ref 40, .ref 41, .ref 42, .ref 43, .ref 44])) := hC36
    refine hR (?_ : R (_, _, _, _, _, _))
    exact hR (zret_i rfl (Nat.le_refl _) (zbo (by omega)) (h _ _ _ _ _ _ _ _ _ fr37 hC36 hC40 hC41 hC42 (by rw [show κ = 2 by omega]; exact (cs_s (F := F) (base := f22) (u := u) hr1 (o := o) (by omega)).1) (by rw [show κ = 2 by omega]; rw [hr4.2.1]; exact (cs_s (F := F) (base := f22) (u := u) hr1 (o := o) (by omega)).2)))
  · refine hR (?_ : _ ∧ _)
    rw [zti (e := tBy g21 (121 * f28 + 1 + 3 * a1 + 0)) (by omega) (by omega)]
    refine ⟨fun hx => by omega, fun _ => ⟨73, by rw [hl5]; rfl, (?_ : R (_, _, _, _, _, _))⟩⟩
    refine hR (?_ : R (_, _, _, _, _, _))
    refine hR (c_get hK0 rfl ?_)
    iterate 3 refine hR (?_ : R (_, _, _, _, _, _))
    refine hR (c_get hK0 rfl ?_)
    refine hR (j_ne (by omega) (by omega) (fun hc43 => ?_) (fun hc43 => ?_))
    · skip
      refine hR (?_ : R (_, _, _, _, _, _))
      refine hR (c_get hK0 rfl ?_)
      refine hR (x_ast hK4 (by omega) (by omega) (Nat.le_of_ble_eq_true rfl) fun w44 ff44 hC44 => ?_)
      have fr45 := wfM_st fr0 ff44 nX1
      have hC46 := (ff44.2 14 (by (try dsimp only); decide)).trans hK0
      have hC47 := (ff44.2 20 (by (try dsimp only); decide)).trans hK1
      have hC48 := (ff44.2 21 (by (try dsimp only); decide)).trans hK2
      have hC49 := (ff44.2 25 (by (try dsimp only); decide)).trans hK3
      have hC50 := (ff44.2 29 (by (try dsimp only); decide)).trans hK5
      iterate 2 refine hR (?_ : R (_, _, _, _, _, _))
      refine hR (c_get hC46 rfl ?_)
      refine hR (j_eq (by omega) (by omega) (fun hc => by omega) (fun _ => ?_))
      iterate 2 refine hR (?_ : R (_, _, _, _, _, _))
      exact hR (zret_i rfl (Nat.le_refl _) (zbo (by omega)) (h _ _ _ _ _ _ _ _ _ fr45 hC46 hC49 hC44 hC50 (by rw [show κ = 3 by omega]; rw [ds_x hr1]; first | (rw [if_pos (by omega)]) | (rw [if_neg (by omega)])) (by rw [show κ = 3 by omega]; exact (cs_x (F := F) (base := f22) (rd := f23) (u := u) hr1 (o := o) (by omega) hf22 (fun i i0 i1 => by rw [zupI (by first | exact tBy_r _ _ | exact ⟨by omega, by omega⟩) (by omega) i0, hr4.2.1]; by_cases c1 : i = o; (· rw [if_pos c1]; first | (rw [if_pos ⟨by omega, c1⟩]) | (rw [if_neg (fun z => by omega), c1])); rw [if_neg c1, if_neg (fun z => c1 z.2)])).2)))
    refine hR (?_ : R (_, _, _, _, _, _))
    refine hR (c_get hK0 rfl ?_)
    refine hR (?_ : R (_, _, _, _, _, _))
    refine hR (c_aldE hK4 (by omega) (by omega) (Nat.le_of_ble_eq_true rfl) fun v51 ev51 rv51 => ?_)
    replace ev51 : v51 = tBy g28 (tBy g21 (121 * f28 + 1 + 3 * a1 + 1)) := ev51
    subst ev51
    refine hR (?_ : R (_, _, _, _, _, _))
    refine hR (x_ast hK4 (by omega) (by omega) (Nat.le_of_ble_eq_true rfl) fun w52 ff52 hC52 => ?_)
    have fr53 := wfM_st fr0 ff52 nX1
    have hC54 := (ff52.2 14 (by (try dsimp only); decide)).trans hK0
    have hC55 := (ff52.2 20 (by (try dsimp only); decide)).trans hK1
    have hC56 := (ff52.2 21 (by (try dsimp only); decide)).trans hK2
    have hC57 := (ff52.2 25 (by (try dsimp only); decide)).trans hK3
    have hC58 := (ff52.2 29 (by (try dsimp only); decide)).trans hK5
    iterate 2 refine hR (?_ : R (_, _, _, _, _, _))
    refine hR (c_get hC54 rfl ?_)
    refine hR (j_eq (by omega) (by omega) (fun _ => ?_) (fun hc => by omega))
    refine hR (?_ : R (_, _, _, _, _, _))
    exact hR (zret_i rfl (Nat.le_refl _) (zbo (by omega)) (h _ _ _ _ _ _ _ _ _ fr53 hC54 hC57 hC52 hC58 (by rw [show κ = 3 by omega]; rw [ds_x hr1]; first | (rw [if_pos (by omega)]) | (rw [if_neg (by omega)])) (by rw [show κ = 3 by omega]; exact (cs_x (F := F) (base := f22) (rd := f23) (u := u) hr1 (o := o) (by omega) hf22 (fun i i0 i1 => by rw [zupI (by first | exact tBy_r _ _ | exact ⟨by omega, by omega⟩) (by omega) i0, hr4.2.1]; by_cases c1 : i = o; (· rw [if_pos c1]; first | (rw [if_pos ⟨by omega, c1⟩]) | (rw [if_neg (fun z => by omega), c1])); rw [if_neg c1, if_neg (fun z => c1 z.2)])).2)))
  · refine hR (?_ : _ ∧ _)
    rw [zti (e := tBy g21 (121 * f28 + 1 + 3 * a1 + 0)) (by omega) (by omega)]
    refine ⟨fun hx => by omega, fun _ => ⟨114, by rw [hl5]; rfl, (?_ : R (_, _, _, _, _, _))⟩⟩
    iterate 2 refine hR (?_ : R (_, _, _, _, _, _))
    refine hR (c_obj hK0 (zcall_i 0 0 (Nat.le_of_ble_eq_true rfl) (Nat.le_of_ble_eq_true rfl) (x_hushesR _ _ _ _ _ _ _ _ _ _ _ _ _ _ _ _ _ _ _ _ _ _ _ _ _ hK0 (by omega) (by omega) _ fun v59 y33_60 w61 gg62 hC63 hp64 hp65 => ?_)))
    have fr66 := wfM_tr fr0 gg62 nX3
    have hC67 := (gg62.2 20 (by (try dsimp only); decide)).trans hK1
    have hC68 := (gg62.2 21 (by (try dsimp only); decide)).trans hK2
    have hC69 := (gg62.2 25 (by (try dsimp only); decide)).trans hK3
    have hC70 := (gg62.2 28 (by (try dsimp only); decide)).trans hK4
    have hC71 := (gg62.2 29 (by (try dsimp only); decide)).trans hK5
    refine (?_ : R (_, _, .int (Int32.ofInt v59) :: [], w61, 0, 0))
    exact hR (zret_i rfl (Nat.le_refl _) (zbo (by omega)) (h _ _ _ _ _ _ _ _ _ fr66 hC63 hC69 hC70 hC71 (by rw [show κ = 4 by omega]; exact hp64.trans (by rw [hr4.2.1]; exact (ds_h hr1).symm)) (by rw [show κ = 4 by omega]; exact (cs_h (F := F) (base := f22) (rd := f23) (u := u) hr1 (o := o) (by omega) (by rw [← hr4.2.1]; exact hp65)).2)))
  · refine hR (?_ : _ ∧ _)
    rw [zti (e := tBy g21 (121 * f28 + 1 + 3 * a1 + 0)) (by omega) (by omega)]
    refine ⟨fun _ => (?_ : R (_, _, _, _, _, _)), fun hx => by omega⟩
    refine hR (?_ : R (_, _, _, _, _, _))
    refine hR (c_obj hK0 (zcall_i 0 0 (Nat.le_of_ble_eq_true rfl) (Nat.le_of_ble_eq_true rfl) (x_goesOnR _ _ _ _ _ _ _ _ _ _ _ _ _ _ _ _ _ _ _ _ _ _ _ _ hK0 (by omega) _ fun v72 y31_73 w74 gg75 hC76 hp77 hp78 => ?_)))
    have fr79 := wfM_tr fr0 gg75 nX3
    have hC80 := (gg75.2 20 (by (try dsimp only); decide)).trans hK1
    have hC81 := (gg75.2 21 (by (try dsimp only); decide)).trans hK2
    have hC82 := (gg75.2 25 (by (try dsimp only); decide)).trans hK3
    have hC83 := (gg75.2 28 (by (try dsimp only); decide)).trans hK4
    have hC84 := (gg75.2 29 (by (try dsimp only); decide)).trans hK5
    refine (?_ : R (_, _, .int (Int32.ofInt v72) :: [], w74, 0, 0))
    exact hR (zret_i rfl (Nat.le_refl _) (zbo (by omega)) (h _ _ _ _ _ _ _ _ _ fr79 hC76 hC82 hC83 hC84 (by rw [show κ = 5 by omega]; exact (by by_cases cq : f31 < 99; (· rw [if_pos cq] at hp77 hp78; rw [hp77]; exact (cs_d1 (F := F) (base := f22) hr1 cq).1); rw [if_neg cq] at hp77 hp78; rw [hp77]; exact (cs_d0 (F := F) (base := f22) hr1 cq).1)) (by rw [show κ = 5 by omega]; exact (by by_cases cq : f31 < 99; (· rw [if_pos cq] at hp77 hp78; rw [hp78]; exact (cs_d1 hr1 cq).2); rw [if_neg cq] at hp77 hp78; rw [hp78]; exact (cs_d0 hr1 cq).2))))
theorem x_playR (w : zW) (d : Nat) (a1 : Int) (f0 f9 f10 f11 f12 f13 f15 f16 f17 f20 f21 f22 f23 f26 f28 f31 f32 f33 f38 f41 f44 : Int) (x14 : Int64) (g20 g21 g25 g28 g29 : Nat → Int32) (F : Int → Int → Int) (K O U : Int → Int) (hK0 : zix w 14 = some (.inr (11, [.int (Int32.ofInt f0), .ref 15, .ref 16, .ref 17, .ref 18, .ref 19, .ref 20, .ref 21, .ref 22, .int (Int32.ofInt f9), .int (Int32.ofInt f10), .int (Int32.ofInt f11), .int (Int32.ofInt f12), .int (Int32.ofInt f13), .long x14, .int (Int32.ofInt f15), .int (Int32.ofInt f16), .int (Int32.ofInt f17), .ref 23, .ref 24, .int (Int32.ofInt f20), .int (Int32.ofInt f21), .int (Int32.ofInt f22), .int (Int32.ofInt f23), .ref 25, .ref 26, .int (Int32.ofInt f26), .ref 27, .int (Int32.ofInt f28), .ref 28, .ref 29, .int (Int32.ofInt f31), .int (Int32.ofInt f32), .int (Int32.ofInt f33), .ref 30, .ref 31, .ref 32, .ref 33, .int (Int32.ofInt f38), .ref 34, .ref 35, .int (Int32.ofInt f41), .ref 36, .ref 37, .int (Int32.ofInt f44), .ref 38, .ref 39, .ref 40, .ref 41, .ref 42, .ref 43, .ref 44]))) (hK1 : zix w 20 = some (.inl (1, 408, .inl g20))) (hK2 : zix w 21 = some (.inl (1, 968, .inl g21))) (hK3 : zix w 25 = some (.inl (1, 7, .inl g25))) (hK4 : zix w 28 = some (.inl (1, 4, .inl g28))) (hK5 : zix w 29 = some (.inl (1, 5, .inl g29))) (hr0 : RBF F f20 f22 f23 g20) (hr1 : (0 ≤ a1 ∧ a1 ≤ 40) ∧ (0 ≤ f28 ∧ f28 ≤ 1)) (hr2 : ∀ i : Int, 0 ≤ i → i < a1 → (tBy g21 (121 * f28 + 1 + 3 * i + 0) = K i ∧ tBy g21 (121 * f28 + 1 + 3 * i + 1) = O i ∧ tBy g21 (121 * f28 + 1 + 3 * i + 2) = U i) ∧ DOK (K i) (O i) (U i)) (Q : zQ) (h : ∀ (v : Int) (y26 y31 y32 y33 : Int) (T25 Tc Tt : Nat → Int32) (w' : zW), wfM (fun j => j ≠ 14 ∧ j ≠ 25 ∧ j ≠ 28 ∧ j ≠ 29) w w' → zix w' 14 = some (.inr (11, [.int (Int32.ofInt f0), .ref 15, .ref 16, .ref 17, .ref 18, .ref 19, .ref 20, .ref 21, .ref 22, .int (Int32.ofInt f9), .int (Int32.ofInt f10), .int (Int32.ofInt f11), .int (Int32.ofInt f12), .int (Int32.ofInt f13), .long x14, .int (Int32.ofInt f15), .int (Int32.ofInt f16), .int (Int32.ofInt f17), .ref 23, .ref 24, .int (Int32.ofInt f20), .int (Int32.ofInt f21), .int (Int32.ofInt f22), .int (Int32.ofInt f23), .ref 25, .ref 26, .int (Int32.ofInt y26), .ref 27, .int (Int32.ofInt f28), .ref 28, .ref 29, .int (Int32.ofInt y31), .int (Int32.ofInt y32), .int (Int32.ofInt y33), .ref 30, .ref 31, .ref 32, .ref 33, .int (Int32.ofInt f38), .ref 34, .ref 35, .int (Int32.ofInt f41), .ref 36, .ref 37, .int (Int32.ofInt f44), .ref 38, .ref 39, .ref 40, .ref 41, .ref 42, .ref 43, .ref 44])) → zix w' 25 = some (.inl (1, 7, .inl T25)) → zix w' 28 = some (.inl (1, 4, .inl Tc)) → zix w' 29 = some (.inl (1, 5, .inl Tt)) → (DON F f22 f23 K O U a1 v) → (v = a1 → CSR a1 (csN F f22 f23 K O U a1.toNat) y31 y32 y33 Tc Tt) → Q (some (.int (Int32.ofInt v))) w') : zCl zTab (d + 7) iX12_play [.ref 14, .int (Int32.ofInt a1)] w 0 0 Q := by
  refine zCl_i (M := kX12_play) rfl (Nat.le_of_ble_eq_true rfl) fun R hR => ?_
  have fr0 : wfM (fun j => j ≠ 14 ∧ j ≠ 25 ∧ j ≠ 28 ∧ j ≠ 29) w w := wfM_rf _ w
  obtain ⟨hBK, hf20, hf22, hf23, hFF⟩ := id hr0
  have nX0 : FX (∀ j : Nat, (j ≠ 14 ∧ j ≠ 25 ∧ j ≠ 28 ∧ j ≠ 29) → (j ≠ 14 ∧ j ≠ 28 ∧ j ≠ 29)) := fun j hj => by omega
  have nX1 : FX (∀ j : Nat, (j ≠ 14 ∧ j ≠ 25 ∧ j ≠ 28 ∧ j ≠ 29) → (j ≠ 14 ∧ j ≠ 25 ∧ j ≠ 28 ∧ j ≠ 29)) := fun j hj => by omega
  refine hR (?_ : R (_, _, _, _, _, _))
  refine hR (c_obj hK0 (zcall_i 0 0 (Nat.le_of_ble_eq_true rfl) (Nat.le_of_ble_eq_true rfl) (x_beginR _ _ _ _ _ _ _ _ _ _ _ _ _ _ _ _ _ _ _ _ _ _ _ _ _ _ hK0 hK4 hK5 (by omega) _ fun Tc_1 Tt_2 w3 gg4 hC5 hC6 hC7 hp8 => ?_)))
  have fr9 := wfM_tr fr0 gg4 nX0
  have hC10 := (gg4.2 20 (by (try dsimp only); decide)).trans hK1
  have hC11 := (gg4.2 21 (by (try dsimp only); decide)).trans hK2
  have hC12 := (gg4.2 25 (by (try dsimp only); decide)).trans hK3
  refine (?_ : R (_, _, [], w3, 0, 0))
  iterate 2 refine hR (?_ : R (_, _, _, _, _, _))
  have lp6 : ∀ (N : Nat) (kk : Int) (d26 d1 d2 d3 : Int) (T0 T1 T2 : Nat → Int32) (w_6 : zW), (wfM (fun j => j ≠ 14 ∧ j ≠ 25 ∧ j ≠ 28 ∧ j ≠ 29) w w_6) → (zix w_6 14 = some (.inr (11, [.int (Int32.ofInt f0), .ref 15, .ref 16, .ref 17, .ref 18, .ref 19, .ref 20, .ref 21, .ref 22, .int (Int32.ofInt f9), .int (Int32.ofInt f10), .int (Int32.ofInt f11), .int (Int32.ofInt f12), .int (Int32.ofInt f13), .long x14, .int (Int32.ofInt f15), .int (Int32.ofInt f16), .int (Int32.ofInt f17), .ref 23, .ref 24, .int (Int32.ofInt f20), .int (Int32.ofInt f21), .int (Int32.ofInt f22), .int (Int32.ofInt f23), .ref 25, .ref 26, .int (Int32.ofInt d26), .ref 27, .int (Int32.ofInt f28), .ref 28, .ref 29, .int (Int32.ofInt d1), .int (Int32.ofInt d2), .int (Int32.ofInt d3), .ref 30, .ref 31, .ref 32, .ref 33, .int (Int32.ofInt f38), .ref 34, .ref 35, .int (Int32.ofInt f41), .ref 36, .ref 37, .int (Int32.ofInt f44), .ref 38, .ref 39, .ref 40, .ref 41, .ref 42, .ref 43, .ref 44]))) → (zix w_6 20 = some (.inl (1, 408, .inl g20))) → (zix w_6 21 = some (.inl (1, 968, .inl g21))) → (zix w_6 25 = some (.inl (1, 7, .inl T0))) → (zix w_6 28 = some (.inl (1, 4, .inl T1))) → (zix w_6 29 = some (.inl (1, 5, .inl T2))) → (0 ≤ kk ∧ kk ≤ 40) → (CSR kk (csN F f22 f23 K O U kk.toNat) d1 d2 d3 T1 T2) → (okN F f22 f23 K O U kk) → (kk ≤ a1) → (41 - kk < N) → R (6, [some (.ref 14), some (.int (Int32.ofInt a1)), some (.int (Int32.ofInt kk))], [], w_6, 0, 0) := by
    intro N
    induction N with
    | zero => intros; omega
    | succ N ih6 =>
      intro kk d26 d1 d2 d3 T0 T1 T2 w_6 fr_6 hC14_6 hC20_6 hC21_6 hC25_6 hC28_6 hC29_6 hf0_6 hp0_6 hp1_6 hp2_6 hN6
      iterate 2 refine hR (?_ : R (_, _, _, _, _, _))
      refine hR (j_ge (by omega) (by omega) (fun hc13 => ?_) (fun hc13 => ?_))
      · skip
        refine hR (?_ : R (_, _, _, _, _, _))
        exact hR (zret_i rfl (Nat.le_refl _) trivial (h _ _ _ _ _ _ _ _ _ fr_6 hC14_6 hC25_6 hC28_6 hC29_6 (by by_cases cq : kk = a1; (· exact ⟨by omega, hp1_6, Or.inl cq⟩); exact ⟨by omega, hp1_6, Or.inr ⟨by omega, by first | omega | exact absurd rfl cq⟩⟩) (fun e => by first | (rw [← e]; exact hp0_6) | omega)))
      iterate 2 refine hR (?_ : R (_, _, _, _, _, _))
      refine hR (c_obj hC14_6 (zcall_i 0 0 (Nat.le_of_ble_eq_true rfl) (Nat.le_of_ble_eq_true rfl) (x_doesR _ _ _ _ _ _ _ _ _ _ _ _ _ _ _ _ _ _ _ _ _ _ _ _ _ _ _ _ _ _ _ _ _ _ _ _ hC14_6 hC20_6 hC21_6 hC25_6 hC28_6 hC29_6 hr0 hp0_6 (by omega) (by omega) (hr2 kk (by omega) (by omega)).1 (hr2 kk (by omega) (by omega)).2 _ fun v14 y26_15 y31_16 y32_17 y33_18 T25_19 Tc_20 Tt_21 w22 gg23 hC24 hC25 hC26 hC27 hp28 hp29 => ?_)))
      have fr30 := wfM_tr fr_6 gg23 nX1
      have hC31 := (gg23.2 20 (by (try dsimp only); decide)).trans hC20_6
      have hC32 := (gg23.2 21 (by (try dsimp only); decide)).trans hC21_6
      refine (?_ : R (_, _, .int (Int32.ofInt v14) :: [], w22, 0, 0))
      have hbr := dsB_r f23 (K kk) (O kk) (U kk) (csN F f22 f23 K O U kk.toNat)
      have hb0 := hp28
      have hb1 := hp29
      rw [← csN_s (by omega)] at hb1
      refine hR (k_eq (by omega) (fun hc33 => ?_) (fun hc33 => ?_))
      · skip
        refine hR (?_ : R (_, _, _, _, _, _))
        exact hR (zret_i rfl (Nat.le_refl _) trivial (h _ _ _ _ _ _ _ _ _ fr30 hC24 hC25 hC26 hC27 ⟨by omega, hp1_6, Or.inr ⟨by omega, by omega⟩⟩ (fun e => by omega)))
      have hok2 := okN_s hp1_6 (by omega)
      refine hR (t_inc ?_)
      refine hR (?_ : R (_, _, _, _, _, _))
      exact ih6 _ _ _ _ _ _ _ _ _ fr30 hC24 hC31 hC32 hC25 hC26 hC27 (by omega) hb1 hok2 (by omega) (by omega)
  exact lp6 400000000 _ _ _ _ _ _ _ _ _ fr9 hC5 hC10 hC11 hC12 hC6 hC7 (by omega) hp8 (fun j j0 j1 => by omega) (by omega) (by omega)
theorem x_layAllR (w : zW) (d : Nat) (a1 a2 : Int) (f0 f9 f10 f11 f12 f13 f15 f16 f17 f20 f21 f22 f23 f26 f28 f31 f32 f33 f38 f41 f44 : Int) (x14 : Int64) (g19 g20 : Nat → Int32) (hK0 : zix w 14 = some (.inr (11, [.int (Int32.ofInt f0), .ref 15, .ref 16, .ref 17, .ref 18, .ref 19, .ref 20, .ref 21, .ref 22, .int (Int32.ofInt f9), .int (Int32.ofInt f10), .int (Int32.ofInt f11), .int (Int32.ofInt f12), .int (Int32.ofInt f13), .long x14, .int (Int32.ofInt f15), .int (Int32.ofInt f16), .int (Int32.ofInt f17), .ref 23, .ref 24, .int (Int32.ofInt f20), .int (Int32.ofInt f21), .int (Int32.ofInt f22), .int (Int32.ofInt f23), .ref 25, .ref 26, .int (Int32.ofInt f26), .ref 27, .int (Int32.ofInt f28), .ref 28, .ref 29, .int (Int32.ofInt f31), .int (Int32.ofInt f32), .int (Int32.ofInt f33), .ref 30, .ref 31, .ref 32, .ref 33, .int (Int32.ofInt f38), .ref 34, .ref 35, .int (Int32.ofInt f41), .ref 36, .ref 37, .int (Int32.ofInt f44), .ref 38, .ref 39, .ref 40, .ref 41, .ref 42, .ref 43, .ref 44]))) (hK1 : zix w 19 = some (.inl (1, 12, .inl g19))) (hK2 : zix w 20 = some (.inl (1, 408, .inl g20))) (hr0 : (-2147483648 ≤ a1 ∧ a1 ≤ 2147483647) ∧ (-2147483648 ≤ a2 ∧ a2 ≤ 2147483647)) (hr1 : ∀ i : Int, 0 ≤ i → i ≤ 2 → 0 ≤ tBy g19 i ∧ tBy g19 i ≤ 2) (Q : zQ) (h : ∀ (v : Int) (y20 y22 y23 y28 : Int) (w' : zW), wfM (fun j => j ≠ 14) w w' → zix w' 14 = some (.inr (11, [.int (Int32.ofInt f0), .ref 15, .ref 16, .ref 17, .ref 18, .ref 19, .ref 20, .ref 21, .ref 22, .int (Int32.ofInt f9), .int (Int32.ofInt f10), .int (Int32.ofInt f11), .int (Int32.ofInt f12), .int (Int32.ofInt f13), .long x14, .int (Int32.ofInt f15), .int (Int32.ofInt f16), .int (Int32.ofInt f17), .ref 23, .ref 24, .int (Int32.ofInt y20), .int (Int32.ofInt f21), .int (Int32.ofInt y22), .int (Int32.ofInt y23), .ref 25, .ref 26, .int (Int32.ofInt f26), .ref 27, .int (Int32.ofInt y28), .ref 28, .ref 29, .int (Int32.ofInt f31), .int (Int32.ofInt f32), .int (Int32.ofInt f33), .ref 30, .ref 31, .ref 32, .ref 33, .int (Int32.ofInt f38), .ref 34, .ref 35, .int (Int32.ofInt f41), .ref 36, .ref 37, .int (Int32.ofInt f44), .ref 38, .ref 39, .ref 40, .ref 41, .ref 42, .ref 43, .ref 44])) → ((v = 1 ∧ (0 ≤ a1 ∧ a1 < tBy g19 0 ∧ a1 ≤ 1) ∧ (0 ≤ a2 ∧ a2 < tBy g19 1 ∧ a2 ≤ 1) ∧ y20 = a1 ∧ y22 = tBy g20 (51 * a1 + 0) ∧ y23 = tBy g20 (51 * a1 + 1) ∧ y28 = a2) ∨ (v = 0 ∧ (a1 < 0 ∨ tBy g19 0 ≤ a1 ∨ a2 < 0 ∨ tBy g19 1 ≤ a2))) → Q (some (.int (Int32.ofInt v))) w') : zCl zTab (d + 4) iX12_layAll [.ref 14, .int (Int32.ofInt a1), .int (Int32.ofInt a2)] w 0 0 Q := by
  refine zCl_i (M := kX12_layAll) rfl (Nat.le_of_ble_eq_true rfl) fun R hR => ?_
  have fr0 : wfM (fun j => j ≠ 14) w w := wfM_rf _ w
  have nX0 : FX (∀ j : Nat, (j ≠ 14) → (j ≠ 14)) := fun j hj => by omega
  iterate 2 refine hR (?_ : R (_, _, _, _, _, _))
  refine hR (c_obj hK0 (zcall_i 0 0 (Nat.le_of_ble_eq_true rfl) (Nat.le_of_ble_eq_true rfl) (x_hasYearR _ _ _ _ _ _ _ _ _ _ _ _ _ _ _ _ _ _ _ _ _ _ _ _ _ _ hK0 hK1 (by omega) hr1 _ fun v1 y28_2 w3 gg4 hC5 hp6 => ?_)))
  have fr7 := wfM_tr fr0 gg4 nX0
  have hC8 := (gg4.2 19 (by (try dsimp only); decide)).trans hK1
  have hC9 := (gg4.2 20 (by (try dsimp only); decide)).trans hK2
  refine (?_ : R (_, _, .int (Int32.ofInt v1) :: [], w3, 0, 0))
  refine hR (k_eq (by omega) (fun hc10 => ?_) (fun hc10 => ?_))
  · skip
    refine hR (?_ : R (_, _, _, _, _, _))
    exact hR (zret_i rfl (Nat.le_refl _) (zbo (by omega)) (h _ _ _ _ _ _ fr7 hC5 (Or.inr ⟨rfl, by omega⟩)))
  iterate 2 refine hR (?_ : R (_, _, _, _, _, _))
  refine hR (c_obj hC5 (zcall_i 0 0 (Nat.le_of_ble_eq_true rfl) (Nat.le_of_ble_eq_true rfl) (x_handR _ _ _ _ _ _ _ _ _ _ _ _ _ _ _ _ _ _ _ _ _ _ _ _ _ _ _ hC5 hC8 hC9 (by omega) hr1 _ fun v11 y20_12 y22_13 y23_14 w15 gg16 hC17 hp18 => ?_)))
  have fr19 := wfM_tr fr7 gg16 nX0
  have hC20 := (gg16.2 19 (by (try dsimp only); decide)).trans hC8
  have hC21 := (gg16.2 20 (by (try dsimp only); decide)).trans hC9
  refine (?_ : R (_, _, .int (Int32.ofInt v11) :: [], w15, 0, 0))
  refine hR (k_eq (by omega) (fun hc22 => ?_) (fun hc22 => ?_))
  · skip
    refine hR (?_ : R (_, _, _, _, _, _))
    exact hR (zret_i rfl (Nat.le_refl _) (zbo (by omega)) (h _ _ _ _ _ _ fr19 hC17 (Or.inr ⟨rfl, by omega⟩)))
  iterate 2 refine hR (?_ : R (_, _, _, _, _, _))
  exact hR (zret_i rfl (Nat.le_refl _) (zbo (by omega)) (h _ _ _ _ _ _ fr19 hC17 (Or.inl ⟨rfl, by omega⟩)))
theorem x_apartR (w : zW) (d : Nat) (a1 a2 : Int) (f0 f9 f10 f11 f12 f13 f15 f16 f17 f20 f21 f22 f23 f26 f28 f31 f32 f33 f38 f41 f44 : Int) (x14 : Int64) (g25 g26 g27 : Nat → Int32) (hK0 : zix w 14 = some (.inr (11, [.int (Int32.ofInt f0), .ref 15, .ref 16, .ref 17, .ref 18, .ref 19, .ref 20, .ref 21, .ref 22, .int (Int32.ofInt f9), .int (Int32.ofInt f10), .int (Int32.ofInt f11), .int (Int32.ofInt f12), .int (Int32.ofInt f13), .long x14, .int (Int32.ofInt f15), .int (Int32.ofInt f16), .int (Int32.ofInt f17), .ref 23, .ref 24, .int (Int32.ofInt f20), .int (Int32.ofInt f21), .int (Int32.ofInt f22), .int (Int32.ofInt f23), .ref 25, .ref 26, .int (Int32.ofInt f26), .ref 27, .int (Int32.ofInt f28), .ref 28, .ref 29, .int (Int32.ofInt f31), .int (Int32.ofInt f32), .int (Int32.ofInt f33), .ref 30, .ref 31, .ref 32, .ref 33, .int (Int32.ofInt f38), .ref 34, .ref 35, .int (Int32.ofInt f41), .ref 36, .ref 37, .int (Int32.ofInt f44), .ref 38, .ref 39, .ref 40, .ref 41, .ref 42, .ref 43, .ref 44]))) (hK1 : zix w 25 = some (.inl (1, 7, .inl g25))) (hK2 : zix w 26 = some (.inl (1, 7, .inl g26))) (hK3 : zix w 27 = some (.inl (1, 49, .inl g27))) (hr0 : 0 ≤ a1 ∧ a1 ≤ 5460) (hr1 : 0 ≤ a2 ∧ a2 ≤ 5460) (Q : zQ) (h : ∀ (v : Int) (T25 T26 T27 : Nat → Int32) (w' : zW), wfM (fun j => j ≠ 25 ∧ j ≠ 26 ∧ j ≠ 27) w w' → zix w' 25 = some (.inl (1, 7, .inl T25)) → zix w' 26 = some (.inl (1, 7, .inl T26)) → zix w' 27 = some (.inl (1, 49, .inl T27)) → (v = dft a1 a2) → Q (some (.int (Int32.ofInt v))) w') : zCl zTab (d + 4) iX12_apart [.ref 14, .int (Int32.ofInt a1), .int (Int32.ofInt a2)] w 0 0 Q := by
  refine zCl_i (M := kX12_apart) rfl (Nat.le_of_ble_eq_true rfl) fun R hR => ?_
  have fr0 : wfM (fun j => j ≠ 25 ∧ j ≠ 26 ∧ j ≠ 27) w w := wfM_rf _ w
  have nX0 : FX (∀ j : Nat, (j ≠ 25 ∧ j ≠ 26 ∧ j ≠ 27) → (j ≠ 25)) := fun j hj => by omega
  have nX1 : FX (∀ j : Nat, (j ≠ 25 ∧ j ≠ 26 ∧ j ≠ 27) → (j ≠ 26)) := fun j hj => by omega
  have nX2 : FX (∀ j : Nat, (j ≠ 25 ∧ j ≠ 26 ∧ j ≠ 27) → j ≠ 27) := fun j hj => by omega
  refine hR (?_ : R (_, _, _, _, _, _))
  refine hR (zcall_i 0 0 (Nat.le_of_ble_eq_true rfl) (Nat.le_of_ble_eq_true rfl) (m_sizeOf _ a1 _ (by omega) _ fun v1 hp2 hhp2 => ?_))
  refine (?_ : R (_, _, .int (Int32.ofInt v1) :: [], w, 0, 0))
  iterate 2 refine hR (?_ : R (_, _, _, _, _, _))
  refine hR (zcall_i 0 0 (Nat.le_of_ble_eq_true rfl) (Nat.le_of_ble_eq_true rfl) (m_sizeOf _ a2 _ (by omega) _ fun v3 hp4 hhp4 => ?_))
  refine (?_ : R (_, _, .int (Int32.ofInt v3) :: [], w, 0, 0))
  iterate 3 refine hR (?_ : R (_, _, _, _, _, _))
  refine hR (c_get hK0 rfl ?_)
  refine hR (zcall_i 0 0 (Nat.le_of_ble_eq_true rfl) (Nat.le_of_ble_eq_true rfl) (x_spellR _ _ _ _ _ hK1 (by omega) _ fun T'_5 w6 gg7 hC8 hp9 => ?_))
  have fr10 := wfM_tr fr0 gg7 nX0
  have hC11 := (gg7.2 14 (by (try dsimp only); decide)).trans hK0
  have hC12 := (gg7.2 26 (by (try dsimp only); decide)).trans hK2
  have hC13 := (gg7.2 27 (by (try dsimp only); decide)).trans hK3
  refine (?_ : R (_, _, [], w6, 0, 0))
  iterate 2 refine hR (?_ : R (_, _, _, _, _, _))
  refine hR (c_get hC11 rfl ?_)
  refine hR (zcall_i 0 0 (Nat.le_of_ble_eq_true rfl) (Nat.le_of_ble_eq_true rfl) (x_spellR _ _ _ _ _ hC12 (by omega) _ fun T'_14 w15 gg16 hC17 hp18 => ?_))
  have fr19 := wfM_tr fr10 gg16 nX1
  have hC20 := (gg16.2 14 (by (try dsimp only); decide)).trans hC11
  have hC21 := (gg16.2 25 (by (try dsimp only); decide)).trans hC8
  have hC22 := (gg16.2 27 (by (try dsimp only); decide)).trans hC13
  refine (?_ : R (_, _, [], w15, 0, 0))
  iterate 2 refine hR (?_ : R (_, _, _, _, _, _))
  have lp30 : ∀ (N : Nat) (ii : Int) (o6_30 : Option Value) (o7_30 : Option Value) (T2 : Nat → Int32) (w_30 : zW), (zc2 o6_30 = false) → (zc2 o7_30 = false) → (wfM (fun j => j ≠ 25 ∧ j ≠ 26 ∧ j ≠ 27) w w_30) → (zix w_30 14 = some (.inr (11, [.int (Int32.ofInt f0), .ref 15, .ref 16, .ref 17, .ref 18, .ref 19, .ref 20, .ref 21, .ref 22, .int (Int32.ofInt f9), .int (Int32.ofInt f10), .int (Int32.ofInt f11), .int (Int32.ofInt f12), .int (Int32.ofInt f13), .long x14, .int (Int32.ofInt f15), .int (Int32.ofInt f16), .int (Int32.ofInt f17), .ref 23, .ref 24, .int (Int32.ofInt f20), .int (Int32.ofInt f21), .int (Int32.ofInt f22), .int (Int32.ofInt f23), .ref 25, .ref 26, .int (Int32.ofInt f26), .ref 27, .int (Int32.ofInt f28), .ref 28, .ref 29, .int (Int32.ofInt f31), .int (Int32.ofInt f32), .int (Int32.ofInt f33), .ref 30, .ref 31, .ref 32, .ref 33, .int (Int32.ofInt f38), .ref 34, .ref 35, .int (Int32.ofInt f41), .ref 36, .ref 37, .int (Int32.ofInt f44), .ref 38, .ref 39, .ref 40, .ref 41, .ref 42, .ref 43, .ref 44]))) → (zix w_30 25 = some (.inl (1, 7, .inl T'_5))) → (zix w_30 26 = some (.inl (1, 7, .inl T'_14))) → (zix w_30 27 = some (.inl (1, 49, .inl T2))) → (0 ≤ ii ∧ ii ≤ 7) → (∀ i k : Int, 0 ≤ i → i < ii → 0 ≤ k → k ≤ v3 → tBy T2 (7 * i + k) = edI a1 a2 i k) → (ii ≤ (tLen a1.toNat : Int) + 1) → (8 - ii < N) → R (30, [some (.ref 14), some (.int (Int32.ofInt a1)), some (.int (Int32.ofInt a2)), some (.int (Int32.ofInt v1)), some (.int (Int32.ofInt v3)), some (.int (Int32.ofInt ii)), o6_30, o7_30], [], w_30, 0, 0) := by
    intro N
    induction N with
    | zero => intros; omega
    | succ N ih30 =>
      intro ii o6_30 o7_30 T2 w_30 hzo6_30 hzo7_30 fr_30 hC14_30 hC25_30 hC26_30 hC27_30 hf0_30 hp0_30 hp1_30 hN30
      iterate 2 refine hR (?_ : R (_, _, _, _, _, _))
      refine hR (j_gt (by omega) (by omega) (fun hc23 => ?_) (fun hc23 => ?_))
      · skip
        refine hR (?_ : R (_, _, _, _, _, _))
        refine hR (c_get hC14_30 rfl ?_)
        refine hR (t_c 7 (by decide) ?_)
        refine hR (?_ : R (_, _, _, _, _, _))
        refine hR (t_mul ?_)
        refine hR (?_ : R (_, _, _, _, _, _))
        refine hR (t_add ?_)
        refine hR (c_aldE hC27_30 (by omega) (by omega) (Nat.le_of_ble_eq_true rfl) fun v24 ev24 rv24 => ?_)
        replace ev24 : v24 = tBy T2 ((7 * v1) + v3) := ev24
        subst ev24
        exact hR (zret_i rfl (Nat.le_refl _) trivial (h _ _ _ _ _ fr_30 hC25_30 hC26_30 hC27_30 (by rw [hp0_30 _ _ (by omega) (by omega) (by omega) (by omega)]; unfold edI dft; congr 2 <;> omega)))
      iterate 2 refine hR (?_ : R (_, _, _, _, _, _))
      have lp39 : ∀ (N : Nat) (kk : Int) (o7_39 : Option Value) (T3 : Nat → Int32) (w_39 : zW), (zc2 o7_39 = false) → (wfM (fun j => j ≠ 25 ∧ j ≠ 26 ∧ j ≠ 27) w w_39) → (zix w_39 14 = some (.inr (11, [.int (Int32.ofInt f0), .ref 15, .ref 16, .ref 17, .ref 18, .ref 19, .ref 20, .ref 21, .ref 22, .int (Int32.ofInt f9), .int (Int32.ofInt f10), .int (Int32.ofInt f11), .int (Int32.ofInt f12), .int (Int32.ofInt f13), .long x14, .int (Int32.ofInt f15), .int (Int32.ofInt f16), .int (Int32.ofInt f17), .ref 23, .ref 24, .int (Int32.ofInt f20), .int (Int32.ofInt f21), .int (Int32.ofInt f22), .int (Int32.ofInt f23), .ref 25, .ref 26, .int (Int32.ofInt f26), .ref 27, .int (Int32.ofInt f28), .ref 28, .ref 29, .int (Int32.ofInt f31), .int (Int32.ofInt f32), .int (Int32.ofInt f33), .ref 30, .ref 31, .ref 32, .ref 33, .int (Int32.ofInt f38), .ref 34, .ref 35, .int (Int32.ofInt f41), .ref 36, .ref 37, .int (Int32.ofInt f44), .ref 38, .ref 39, .ref 40, .ref 41, .ref 42, .ref 43, .ref 44]))) → (zix w_39 25 = some (.inl (1, 7, .inl T'_5))) → (zix w_39 26 = some (.inl (1, 7, .inl T'_14))) → (zix w_39 27 = some (.inl (1, 49, .inl T3))) → (0 ≤ kk ∧ kk ≤ 7) → (∀ i k : Int, 0 ≤ i → i < ii → 0 ≤ k → k ≤ v3 → tBy T3 (7 * i + k) = edI a1 a2 i k) → (∀ k : Int, 0 ≤ k → k < kk → tBy T3 (7 * ii + k) = edI a1 a2 ii k) → (kk ≤ (tLen a2.toNat : Int) + 1) → (8 - kk < N) → R (39, [some (.ref 14), some (.int (Int32.ofInt a1)), some (.int (Int32.ofInt a2)), some (.int (Int32.ofInt v1)), some (.int (Int32.ofInt v3)), some (.int (Int32.ofInt ii)), some (.int (Int32.ofInt kk)), o7_39], [], w_39, 0, 0) := by
        intro N
        induction N with
        | zero => intros; omega
        | succ N ih39 =>
          intro kk o7_39 T3 w_39 hzo7_39 fr_39 hC14_39 hC25_39 hC26_39 hC27_39 hf0_39 hp0_39 hp1_39 hp2_39 hN39
          iterate 2 refine hR (?_ : R (_, _, _, _, _, _))
          refine hR (j_gt (by omega) (by omega) (fun hc25 => ?_) (fun hc25 => ?_))
          · skip
            refine hR (t_inc ?_)
            refine hR (?_ : R (_, _, _, _, _, _))
            exact ih30 _ _ _ _ _ (by rfl) hzo7_39 fr_39 hC14_39 hC25_39 hC26_39 hC27_39 (by omega) (fun i k i0 i1 k0 k1 => by by_cases c1 : i = ii; (· rw [c1]; exact hp1_39 k k0 (by omega)); exact hp0_39 i k i0 (by omega) k0 k1) (by omega) (by omega)
          refine hR (?_ : R (_, _, _, _, _, _))
          refine hR (k_ne (by omega) (fun hc26 => ?_) (fun hc26 => ?_))
          rotate_left
          · skip
            iterate 4 refine hR (?_ : R (_, _, _, _, _, _))
            refine hR (k_le (by omega) (fun _ => ?_) (fun hc => by omega))
            refine hR (?_ : R (_, _, _, _, _, _))
            refine hR (c_get hC14_39 rfl ?_)
            refine hR (t_c 7 (by decide) ?_)
            refine hR (?_ : R (_, _, _, _, _, _))
            refine hR (t_mul ?_)
            refine hR (?_ : R (_, _, _, _, _, _))
            refine hR (t_add ?_)
            refine hR (?_ : R (_, _, _, _, _, _))
            refine hR (x_ast hC27_39 (by omega) (by omega) (Nat.le_of_ble_eq_true rfl) fun w59 ff59 hC59 => ?_)
            have fr60 := wfM_st fr_39 ff59 nX2
            have hC61 := (ff59.2 14 (by (try dsimp only); decide)).trans hC14_39
            have hC62 := (ff59.2 25 (by (try dsimp only); decide)).trans hC25_39
            have hC63 := (ff59.2 26 (by (try dsimp only); decide)).trans hC26_39
            refine hR (t_inc ?_)
            refine hR (?_ : R (_, _, _, _, _, _))
            exact ih39 _ _ _ _ (by rfl) fr60 hC61 hC62 hC63 hC59 (by omega) (fun i k i0 i1 k0 k1 => by rw [zupI (by exact ⟨by omega, by omega⟩) (by omega) (by omega), if_neg (by omega)]; exact hp0_39 i k i0 i1 k0 k1) (fun k k0 k1 => by rw [zupI (by exact ⟨by omega, by omega⟩) (by omega) (by omega)]; by_cases c1 : k = kk; (· rw [if_pos (by omega), c1]; exact (by rw [show ii = 0 by omega]; exact (edI_0 (by omega)).symm)); rw [if_neg (by omega)]; exact hp1_39 k k0 (by omega)) (by omega) (by omega)
          refine hR (?_ : R (_, _, _, _, _, _))
          refine hR (k_ne (by omega) (fun hc27 => ?_) (fun hc27 => ?_))
          rotate_left
          · skip
            iterate 4 refine hR (?_ : R (_, _, _, _, _, _))
            refine hR (k_le (by omega) (fun hc => by omega) (fun _ => ?_))
            refine hR (?_ : R (_, _, _, _, _, _))
            refine hR (k_le (by omega) (fun _ => ?_) (fun hc => by omega))
            refine hR (?_ : R (_, _, _, _, _, _))
            refine hR (c_get hC14_39 rfl ?_)
            refine hR (t_c 7 (by decide) ?_)
            refine hR (?_ : R (_, _, _, _, _, _))
            refine hR (t_mul ?_)
            refine hR (?_ : R (_, _, _, _, _, _))
            refine hR (t_add ?_)
            refine hR (?_ : R (_, _, _, _, _, _))
            refine hR (x_ast hC27_39 (by omega) (by omega) (Nat.le_of_ble_eq_true rfl) fun w54 ff54 hC54 => ?_)
            have fr55 := wfM_st fr_39 ff54 nX2
            have hC56 := (ff54.2 14 (by (try dsimp only); decide)).trans hC14_39
            have hC57 := (ff54.2 25 (by (try dsimp only); decide)).trans hC25_39
            have hC58 := (ff54.2 26 (by (try dsimp only); decide)).trans hC26_39
            refine hR (t_inc ?_)
            refine hR (?_ : R (_, _, _, _, _, _))
            exact ih39 _ _ _ _ (by rfl) fr55 hC56 hC57 hC58 hC54 (by omega) (fun i k i0 i1 k0 k1 => by rw [zupI (by exact ⟨by omega, by omega⟩) (by omega) (by omega), if_neg (by omega)]; exact hp0_39 i k i0 i1 k0 k1) (fun k k0 k1 => by rw [zupI (by exact ⟨by omega, by omega⟩) (by omega) (by omega)]; by_cases c1 : k = kk; (· rw [if_pos (by omega), c1]; exact (by rw [show kk = 0 by omega]; exact (edI_z (by omega)).symm)); rw [if_neg (by omega)]; exact hp1_39 k k0 (by omega)) (by omega) (by omega)
          have hA : tBy T3 (7 * (ii - 1) + kk - 1) = edI a1 a2 (ii - 1) (kk - 1) := (congrArg (tBy T3) (by omega)).trans (hp0_39 (ii - 1) (kk - 1) (by omega) (by omega) (by omega) (by omega))
          have hB : tBy T3 (7 * (ii - 1) + kk) = edI a1 a2 (ii - 1) kk := hp0_39 (ii - 1) kk (by omega) (by omega) (by omega) (by omega)
          have hC9 : tBy T3 (7 * ii + kk - 1) = edI a1 a2 ii (kk - 1) := (congrArg (tBy T3) (by omega)).trans (hp1_39 (kk - 1) (by omega) (by omega))
          have hu1 := twI (a := a1) (i := ii - 1) (by omega) (by omega) (hp9 (ii - 1) (by omega) (by omega))
          have hu2 := twI (a := a2) (i := kk - 1) (by omega) (by omega) (hp18 (kk - 1) (by omega) (by omega))
          have rA := edI_r (a := a1) (b := a2) (i := ii - 1) (k := kk - 1) (by omega) (by omega) (by omega) (by omega)
          have rB := edI_r (a := a1) (b := a2) (i := ii - 1) (k := kk) (by omega) (by omega) (by omega) (by omega)
          have rC := edI_r (a := a1) (b := a2) (i := ii) (k := kk - 1) (by omega) (by omega) (by omega) (by omega)
          refine hR (?_ : R (_, _, _, _, _, _))
          refine hR (c_get hC14_39 rfl ?_)
          refine hR (t_c 7 (by decide) ?_)
          iterate 2 refine hR (?_ : R (_, _, _, _, _, _))
          refine hR (t_sub ?_)
          refine hR (t_mul ?_)
          refine hR (?_ : R (_, _, _, _, _, _))
          refine hR (t_add ?_)
          refine hR (?_ : R (_, _, _, _, _, _))
          refine hR (t_sub ?_)
          refine hR (c_aldE hC27_39 (by omega) (by omega) (Nat.le_of_ble_eq_true rfl) fun v28 ev28 rv28 => ?_)
          replace ev28 : v28 = tBy T3 (((7 * (ii - 1)) + kk) - 1) := ev28
          subst ev28
          refine hR (?_ : R (_, _, _, _, _, _))
          refine hR (c_get hC14_39 rfl ?_)
          iterate 2 refine hR (?_ : R (_, _, _, _, _, _))
          refine hR (t_sub ?_)
          refine hR (c_aldE hC25_39 (by omega) (by omega) (Nat.le_of_ble_eq_true rfl) fun v29 ev29 rv29 => ?_)
          replace ev29 : v29 = tBy T'_5 (ii - 1) := ev29
          subst ev29
          refine hR (?_ : R (_, _, _, _, _, _))
          refine hR (c_get hC14_39 rfl ?_)
          iterate 2 refine hR (?_ : R (_, _, _, _, _, _))
          refine hR (t_sub ?_)
          refine hR (c_aldE hC26_39 (by omega) (by omega) (Nat.le_of_ble_eq_true rfl) fun v30 ev30 rv30 => ?_)
          replace ev30 : v30 = tBy T'_14 (kk - 1) := ev30
          subst ev30
          refine hR (j_ne (by omega) (by omega) (fun hc31 => ?_) (fun hc31 => ?_))
          · skip
            refine hR (?_ : R (_, _, _, _, _, _))
            refine hR (t_add ?_)
            refine hR (?_ : R (_, _, _, _, _, _))
            have hes := edI_s (a := a1) (b := a2) (i := ii) (k := kk) (x := 1) (by omega) (by omega) (by omega)
            refine hR (?_ : R (_, _, _, _, _, _))
            refine hR (k_le (by omega) (fun hc => by omega) (fun _ => ?_))
            refine hR (?_ : R (_, _, _, _, _, _))
            refine hR (k_le (by omega) (fun hc => by omega) (fun _ => ?_))
            iterate 3 refine hR (?_ : R (_, _, _, _, _, _))
            refine hR (c_get hC14_39 rfl ?_)
            refine hR (t_c 7 (by decide) ?_)
            iterate 2 refine hR (?_ : R (_, _, _, _, _, _))
            refine hR (t_sub ?_)
            refine hR (t_mul ?_)
            refine hR (?_ : R (_, _, _, _, _, _))
            refine hR (t_add ?_)
            refine hR (c_aldE hC27_39 (by omega) (by omega) (Nat.le_of_ble_eq_true rfl) fun v32 ev32 rv32 => ?_)
            replace ev32 : v32 = tBy T3 ((7 * (ii - 1)) + kk) := ev32
            subst ev32
            refine hR (?_ : R (_, _, _, _, _, _))
            refine hR (c_get hC14_39 rfl ?_)
            refine hR (t_c 7 (by decide) ?_)
            refine hR (?_ : R (_, _, _, _, _, _))
            refine hR (t_mul ?_)
            refine hR (?_ : R (_, _, _, _, _, _))
            refine hR (t_add ?_)
            refine hR (?_ : R (_, _, _, _, _, _))
            refine hR (t_sub ?_)
            refine hR (c_aldE hC27_39 (by omega) (by omega) (Nat.le_of_ble_eq_true rfl) fun v33 ev33 rv33 => ?_)
            replace ev33 : v33 = tBy T3 (((7 * ii) + kk) - 1) := ev33
            subst ev33
            refine hR (zcall_i 0 0 (Nat.le_of_ble_eq_true rfl) (Nat.le_of_ble_eq_true rfl) (m_lesser _ (tBy T3 ((7 * (ii - 1)) + kk)) (tBy T3 (((7 * ii) + kk) - 1)) _ (by omega) (by omega) _ fun v34 hp35 => ?_))
            refine (?_ : R (_, _, .int (Int32.ofInt v34) :: .int (Int32.ofInt 1) :: .int (Int32.ofInt ((tBy T3 (((7 * (ii - 1)) + kk) - 1)) + 1)) :: [], w_39, 0, 0))
            refine hR (t_add ?_)
            refine hR (zcall_i 0 0 (Nat.le_of_ble_eq_true rfl) (Nat.le_of_ble_eq_true rfl) (m_lesser _ ((tBy T3 (((7 * (ii - 1)) + kk) - 1)) + 1) (1 + v34) _ (by omega) (by omega) _ fun v36 hp37 => ?_))
            refine (?_ : R (_, _, .int (Int32.ofInt v36) :: [], w_39, 0, 0))
            iterate 2 refine hR (?_ : R (_, _, _, _, _, _))
            refine hR (c_get hC14_39 rfl ?_)
            refine hR (t_c 7 (by decide) ?_)
            refine hR (?_ : R (_, _, _, _, _, _))
            refine hR (t_mul ?_)
            refine hR (?_ : R (_, _, _, _, _, _))
            refine hR (t_add ?_)
            refine hR (?_ : R (_, _, _, _, _, _))
            refine hR (x_ast hC27_39 (by omega) (by omega) (Nat.le_of_ble_eq_true rfl) fun w38 ff38 hC38 => ?_)
            have fr39 := wfM_st fr_39 ff38 nX2
            have hC40 := (ff38.2 14 (by (try dsimp only); decide)).trans hC14_39
            have hC41 := (ff38.2 25 (by (try dsimp only); decide)).trans hC25_39
            have hC42 := (ff38.2 26 (by (try dsimp only); decide)).trans hC26_39
            refine hR (t_inc ?_)
            refine hR (?_ : R (_, _, _, _, _, _))
            exact ih39 _ _ _ _ (by rfl) fr39 hC40 hC41 hC42 hC38 (by omega) (fun i k i0 i1 k0 k1 => by rw [zupI (by exact ⟨by omega, by omega⟩) (by omega) (by omega), if_neg (by omega)]; exact hp0_39 i k i0 i1 k0 k1) (fun k k0 k1 => by rw [zupI (by exact ⟨by omega, by omega⟩) (by omega) (by omega)]; by_cases c1 : k = kk; (· rw [if_pos (by omega), c1]; exact (by omega)); rw [if_neg (by omega)]; exact hp1_39 k k0 (by omega)) (by omega) (by omega)
          iterate 2 refine hR (?_ : R (_, _, _, _, _, _))
          refine hR (t_add ?_)
          refine hR (?_ : R (_, _, _, _, _, _))
          have hes := edI_s (a := a1) (b := a2) (i := ii) (k := kk) (x := 0) (by omega) (by omega) (by omega)
          refine hR (?_ : R (_, _, _, _, _, _))
          refine hR (k_le (by omega) (fun hc => by omega) (fun _ => ?_))
          refine hR (?_ : R (_, _, _, _, _, _))
          refine hR (k_le (by omega) (fun hc => by omega) (fun _ => ?_))
          iterate 3 refine hR (?_ : R (_, _, _, _, _, _))
          refine hR (c_get hC14_39 rfl ?_)
          refine hR (t_c 7 (by decide) ?_)
          iterate 2 refine hR (?_ : R (_, _, _, _, _, _))
          refine hR (t_sub ?_)
          refine hR (t_mul ?_)
          refine hR (?_ : R (_, _, _, _, _, _))
          refine hR (t_add ?_)
          refine hR (c_aldE hC27_39 (by omega) (by omega) (Nat.le_of_ble_eq_true rfl) fun v43 ev43 rv43 => ?_)
          replace ev43 : v43 = tBy T3 ((7 * (ii - 1)) + kk) := ev43
          subst ev43
          refine hR (?_ : R (_, _, _, _, _, _))
          refine hR (c_get hC14_39 rfl ?_)
          refine hR (t_c 7 (by decide) ?_)
          refine hR (?_ : R (_, _, _, _, _, _))
          refine hR (t_mul ?_)
          refine hR (?_ : R (_, _, _, _, _, _))
          refine hR (t_add ?_)
          refine hR (?_ : R (_, _, _, _, _, _))
          refine hR (t_sub ?_)
          refine hR (c_aldE hC27_39 (by omega) (by omega) (Nat.le_of_ble_eq_true rfl) fun v44 ev44 rv44 => ?_)
          replace ev44 : v44 = tBy T3 (((7 * ii) + kk) - 1) := ev44
          subst ev44
          refine hR (zcall_i 0 0 (Nat.le_of_ble_eq_true rfl) (Nat.le_of_ble_eq_true rfl) (m_lesser _ (tBy T3 ((7 * (ii - 1)) + kk)) (tBy T3 (((7 * ii) + kk) - 1)) _ (by omega) (by omega) _ fun v45 hp46 => ?_))
          refine (?_ : R (_, _, .int (Int32.ofInt v45) :: .int (Int32.ofInt 1) :: .int (Int32.ofInt ((tBy T3 (((7 * (ii - 1)) + kk) - 1)) + 0)) :: [], w_39, 0, 0))
          refine hR (t_add ?_)
          refine hR (zcall_i 0 0 (Nat.le_of_ble_eq_true rfl) (Nat.le_of_ble_eq_true rfl) (m_lesser _ ((tBy T3 (((7 * (ii - 1)) + kk) - 1)) + 0) (1 + v45) _ (by omega) (by omega) _ fun v47 hp48 => ?_))
          refine (?_ : R (_, _, .int (Int32.ofInt v47) :: [], w_39, 0, 0))
          iterate 2 refine hR (?_ : R (_, _, _, _, _, _))
          refine hR (c_get hC14_39 rfl ?_)
          refine hR (t_c 7 (by decide) ?_)
          refine hR (?_ : R (_, _, _, _, _, _))
          refine hR (t_mul ?_)
          refine hR (?_ : R (_, _, _, _, _, _))
          refine hR (t_add ?_)
          refine hR (?_ : R (_, _, _, _, _, _))
          refine hR (x_ast hC27_39 (by omega) (by omega) (Nat.le_of_ble_eq_true rfl) fun w49 ff49 hC49 => ?_)
          have fr50 := wfM_st fr_39 ff49 nX2
          have hC51 := (ff49.2 14 (by (try dsimp only); decide)).trans hC14_39
          have hC52 := (ff49.2 25 (by (try dsimp only); decide)).trans hC25_39
          have hC53 := (ff49.2 26 (by (try dsimp only); decide)).trans hC26_39
          refine hR (t_inc ?_)
          refine hR (?_ : R (_, _, _, _, _, _))
          exact ih39 _ _ _ _ (by rfl) fr50 hC51 hC52 hC53 hC49 (by omega) (fun i k i0 i1 k0 k1 => by rw [zupI (by exact ⟨by omega, by omega⟩) (by omega) (by omega), if_neg (by omega)]; exact hp0_39 i k i0 i1 k0 k1) (fun k k0 k1 => by rw [zupI (by exact ⟨by omega, by omega⟩) (by omega) (by omega)]; by_cases c1 : k = kk; (· rw [if_pos (by omega), c1]; exact (by omega)); rw [if_neg (by omega)]; exact hp1_39 k k0 (by omega)) (by omega) (by omega)
      exact lp39 400000000 _ _ _ _ hzo7_30 fr_30 hC14_30 hC25_30 hC26_30 hC27_30 (by omega) hp0_30 (fun k k0 k1 => by omega) (by omega) (by omega)
  exact lp30 400000000 _ _ _ _ _ (by rfl) (by rfl) fr19 hC20 hC21 hC17 hC22 (by omega) (fun i k i0 i1 k0 k1 => by omega) (by omega) (by omega)
theorem x_ofStateR (w : zW) (d : Nat) (a1 : Int) (f0 f9 f10 f11 f12 f13 f15 f16 f17 f20 f21 f22 f23 f26 f28 f31 f32 f33 f38 f41 f44 : Int) (x14 : Int64) (g25 g26 g27 g28 g29 : Nat → Int32) (s : CS) (m : Int) (hK0 : zix w 14 = some (.inr (11, [.int (Int32.ofInt f0), .ref 15, .ref 16, .ref 17, .ref 18, .ref 19, .ref 20, .ref 21, .ref 22, .int (Int32.ofInt f9), .int (Int32.ofInt f10), .int (Int32.ofInt f11), .int (Int32.ofInt f12), .int (Int32.ofInt f13), .long x14, .int (Int32.ofInt f15), .int (Int32.ofInt f16), .int (Int32.ofInt f17), .ref 23, .ref 24, .int (Int32.ofInt f20), .int (Int32.ofInt f21), .int (Int32.ofInt f22), .int (Int32.ofInt f23), .ref 25, .ref 26, .int (Int32.ofInt f26), .ref 27, .int (Int32.ofInt f28), .ref 28, .ref 29, .int (Int32.ofInt f31), .int (Int32.ofInt f32), .int (Int32.ofInt f33), .ref 30, .ref 31, .ref 32, .ref 33, .int (Int32.ofInt f38), .ref 34, .ref 35, .int (Int32.ofInt f41), .ref 36, .ref 37, .int (Int32.ofInt f44), .ref 38, .ref 39, .ref 40, .ref 41, .ref 42, .ref 43, .ref 44]))) (hK1 : zix w 25 = some (.inl (1, 7, .inl g25))) (hK2 : zix w 26 = some (.inl (1, 7, .inl g26))) (hK3 : zix w 27 = some (.inl (1, 49, .inl g27))) (hK4 : zix w 28 = some (.inl (1, 4, .inl g28))) (hK5 : zix w 29 = some (.inl (1, 5, .inl g29))) (hr0 : (0 ≤ f22 ∧ f22 ≤ 5460) ∧ (0 ≤ f23 ∧ f23 ≤ 5)) (hr1 : CSR m s f31 f32 f33 g28 g29) (hr2 : (-2147483648 ≤ a1 ∧ a1 ≤ 2147483647)) (Q : zQ) (h : ∀ (v : Int) (T25 T26 T27 : Nat → Int32) (w' : zW), wfM (fun j => j ≠ 25 ∧ j ≠ 26 ∧ j ≠ 27) w w' → zix w' 25 = some (.inl (1, 7, .inl T25)) → zix w' 26 = some (.inl (1, 7, .inl T26)) → zix w' 27 = some (.inl (1, 49, .inl T27)) → (v = csV f22 f23 s a1) → Q (some (.int (Int32.ofInt v))) w') : zCl zTab (d + 5) iX12_ofState [.ref 14, .int (Int32.ofInt a1)] w 0 0 Q := by
  refine zCl_i (M := kX12_ofState) rfl (Nat.le_of_ble_eq_true rfl) fun R hR => ?_
  have fr0 : wfM (fun j => j ≠ 25 ∧ j ≠ 26 ∧ j ≠ 27) w w := wfM_rf _ w
  have hcr := csr_r hr1
  have nX0 : FX (∀ j : Nat, (j ≠ 25 ∧ j ≠ 26 ∧ j ≠ 27) → (j ≠ 25 ∧ j ≠ 26 ∧ j ≠ 27)) := fun j hj => by omega
  refine hR (?_ : R (_, _, _, _, _, _))
  refine hR (t_c 10 (by decide) ?_)
  refine hR (t_c 13 (by decide) ?_)
  refine hR (zcall_i 0 0 (Nat.le_of_ble_eq_true rfl) (Nat.le_of_ble_eq_true rfl) (m_in _ a1 10 13 _ (by omega) (by omega) (by omega) _ fun v1 hp2 => ?_))
  refine (?_ : R (_, _, .int (Int32.ofInt v1) :: [], w, 0, 0))
  refine hR (k_eq (by omega) (fun hc3 => ?_) (fun hc3 => ?_))
  rotate_left
  · skip
    refine hR (?_ : R (_, _, _, _, _, _))
    refine hR (c_get hK0 rfl ?_)
    refine hR (?_ : R (_, _, _, _, _, _))
    refine hR (t_c 10 (by decide) ?_)
    refine hR (t_sub ?_)
    refine hR (c_aldE hK4 (by omega) (by omega) (Nat.le_of_ble_eq_true rfl) fun v90 ev90 rv90 => ?_)
    replace ev90 : v90 = tBy g28 (a1 - 10) := ev90
    subst ev90
    exact hR (zret_i rfl (Nat.le_refl _) trivial (h _ _ _ _ _ fr0 hK1 hK2 hK3 (by unfold csV; rw [if_neg (by omega), if_neg (by omega), if_neg (by omega), if_neg (by omega), if_neg (by omega), if_neg (by omega), if_pos (by omega)]; exact (hr1.2.2.2.2.2.2.1 (a1 - 10) (by omega) (by omega)).1)))
  refine hR (?_ : R (_, _, _, _, _, _))
  refine hR (t_c 20 (by decide) ?_)
  refine hR (t_c 19 (by decide) ?_)
  refine hR (?_ : R (_, _, _, _, _, _))
  refine hR (c_get hK0 rfl ?_)
  refine hR (t_add ?_)
  refine hR (zcall_i 0 0 (Nat.le_of_ble_eq_true rfl) (Nat.le_of_ble_eq_true rfl) (m_in _ a1 20 (19 + f23) _ (by omega) (by omega) (by omega) _ fun v4 hp5 => ?_))
  refine (?_ : R (_, _, .int (Int32.ofInt v4) :: [], w, 0, 0))
  refine hR (k_eq (by omega) (fun hc6 => ?_) (fun hc6 => ?_))
  rotate_left
  · skip
    refine hR (?_ : R (_, _, _, _, _, _))
    refine hR (c_get hK0 rfl ?_)
    refine hR (?_ : R (_, _, _, _, _, _))
    refine hR (t_c 20 (by decide) ?_)
    refine hR (t_sub ?_)
    refine hR (c_aldE hK5 (by omega) (by omega) (Nat.le_of_ble_eq_true rfl) fun v89 ev89 rv89 => ?_)
    replace ev89 : v89 = tBy g29 (a1 - 20) := ev89
    subst ev89
    exact hR (zret_i rfl (Nat.le_refl _) trivial (h _ _ _ _ _ fr0 hK1 hK2 hK3 (by unfold csV; rw [if_neg (by omega), if_neg (by omega), if_neg (by omega), if_neg (by omega), if_neg (by omega), if_neg (by omega), if_neg (by omega), if_pos (by omega)]; exact (hr1.2.2.2.2.2.2.2 (a1 - 20) (by omega) (by omega)).1)))
  iterate 6 refine hR (?_ : R (_, _, _, _, _, _))
  have lp54 : ∀ (N : Nat) (sv : Int) (wv : Int) (kk : Int) (S1 S2 S3 : Nat → Int32) (w_54 : zW), (wfM (fun j => j ≠ 25 ∧ j ≠ 26 ∧ j ≠ 27) w w_54) → (zix w_54 14 = some (.inr (11, [.int (Int32.ofInt f0), .ref 15, .ref 16, .ref 17, .ref 18, .ref 19, .ref 20, .ref 21, .ref 22, .int (Int32.ofInt f9), .int (Int32.ofInt f10), .int (Int32.ofInt f11), .int (Int32.ofInt f12), .int (Int32.ofInt f13), .long x14, .int (Int32.ofInt f15), .int (Int32.ofInt f16), .int (Int32.ofInt f17), .ref 23, .ref 24, .int (Int32.ofInt f20), .int (Int32.ofInt f21), .int (Int32.ofInt f22), .int (Int32.ofInt f23), .ref 25, .ref 26, .int (Int32.ofInt f26), .ref 27, .int (Int32.ofInt f28), .ref 28, .ref 29, .int (Int32.ofInt f31), .int (Int32.ofInt f32), .int (Int32.ofInt f33), .ref 30, .ref 31, .ref 32, .ref 33, .int (Int32.ofInt f38), .ref 34, .ref 35, .int (Int32.ofInt f41), .ref 36, .ref 37, .int (Int32.ofInt f44), .ref 38, .ref 39, .ref 40, .ref 41, .ref 42, .ref 43, .ref 44]))) → (zix w_54 25 = some (.inl (1, 7, .inl S1))) → (zix w_54 26 = some (.inl (1, 7, .inl S2))) → (zix w_54 27 = some (.inl (1, 49, .inl S3))) → (zix w_54 28 = some (.inl (1, 4, .inl g28))) → (zix w_54 29 = some (.inl (1, 5, .inl g29))) → (0 ≤ sv ∧ sv ≤ 4) → (0 ≤ wv ∧ wv ≤ 3) → (0 ≤ kk ∧ kk ≤ 4) → (sv = csUn s kk.toNat) → (wv = csWn f22 s.2.2.2.1 kk.toNat) → (sv ≤ kk) → (5 - kk < N) → R (54, [some (.ref 14), some (.int (Int32.ofInt a1)), some (.int (Int32.ofInt sv)), some (.int (Int32.ofInt wv)), some (.int (Int32.ofInt kk))], [], w_54, 0, 0) := by
    intro N
    induction N with
    | zero => intros; omega
    | succ N ih54 =>
      intro sv wv kk S1 S2 S3 w_54 fr_54 hC14_54 hC25_54 hC26_54 hC27_54 hC28_54 hC29_54 hf0_54 hf1_54 hf2_54 hp0_54 hp1_54 hp2_54 hN54
      iterate 2 refine hR (?_ : R (_, _, _, _, _, _))
      refine hR (j_ge (by omega) (by omega) (fun hc7 => ?_) (fun hc7 => ?_))
      · skip
        refine hR (?_ : R (_, _, _, _, _, _))
        have hl8 : a1 = 0 ∨ a1 = 1 ∨ a1 = 2 ∨ a1 = 3 ∨ a1 = 4 ∨ a1 = 5 ∨ (a1 ≠ 0 ∧ a1 ≠ 1 ∧ a1 ≠ 2 ∧ a1 ≠ 3 ∧ a1 ≠ 4 ∧ a1 ≠ 5) := by omega
        rcases hl8 with hl8 | hl8 | hl8 | hl8 | hl8 | hl8 | hl8
        · refine hR (?_ : _ ∧ _)
          rw [zti (e := a1) (by omega) (by omega)]
          refine ⟨fun hx => by omega, fun _ => ⟨39, by rw [hl8]; rfl, (?_ : R (_, _, _, _, _, _))⟩⟩
          refine hR (?_ : R (_, _, _, _, _, _))
          refine hR (c_get hC14_54 rfl ?_)
          exact hR (zret_i rfl (Nat.le_refl _) trivial (h _ _ _ _ _ fr_54 hC25_54 hC26_54 hC27_54 (by have hw4 : wv = csW f22 s.2.2.2.1 := (by rw [hp1_54, show kk.toNat = 4 by omega]; rfl); have hu4 : sv = csU s := (by rw [hp0_54, show kk.toNat = 4 by omega]; rfl); unfold csV; (repeat' split) <;> first | rfl | omega | (exact hr1.1) | (exact hr1.2.1) | (exact hr1.2.2.1) | (exact hu4) | (exact hw4))))
        · refine hR (?_ : _ ∧ _)
          rw [zti (e := a1) (by omega) (by omega)]
          refine ⟨fun hx => by omega, fun _ => ⟨44, by rw [hl8]; rfl, (?_ : R (_, _, _, _, _, _))⟩⟩
          refine hR (?_ : R (_, _, _, _, _, _))
          refine hR (c_get hC14_54 rfl ?_)
          exact hR (zret_i rfl (Nat.le_refl _) trivial (h _ _ _ _ _ fr_54 hC25_54 hC26_54 hC27_54 (by have hw4 : wv = csW f22 s.2.2.2.1 := (by rw [hp1_54, show kk.toNat = 4 by omega]; rfl); have hu4 : sv = csU s := (by rw [hp0_54, show kk.toNat = 4 by omega]; rfl); unfold csV; (repeat' split) <;> first | rfl | omega | (exact hr1.1) | (exact hr1.2.1) | (exact hr1.2.2.1) | (exact hu4) | (exact hw4))))
        · refine hR (?_ : _ ∧ _)
          rw [zti (e := a1) (by omega) (by omega)]
          refine ⟨fun hx => by omega, fun _ => ⟨49, by rw [hl8]; rfl, (?_ : R (_, _, _, _, _, _))⟩⟩
          refine hR (?_ : R (_, _, _, _, _, _))
          exact hR (zret_i rfl (Nat.le_refl _) trivial (h _ _ _ _ _ fr_54 hC25_54 hC26_54 hC27_54 (by have hw4 : wv = csW f22 s.2.2.2.1 := (by rw [hp1_54, show kk.toNat = 4 by omega]; rfl); have hu4 : sv = csU s := (by rw [hp0_54, show kk.toNat = 4 by omega]; rfl); unfold csV; (repeat' split) <;> first | rfl | omega | (exact hr1.1) | (exact hr1.2.1) | (exact hr1.2.2.1) | (exact hu4) | (exact hw4))))
        · refine hR (?_ : _ ∧ _)
          rw [zti (e := a1) (by omega) (by omega)]
          refine ⟨fun hx => by omega, fun _ => ⟨51, by rw [hl8]; rfl, (?_ : R (_, _, _, _, _, _))⟩⟩
          refine hR (?_ : R (_, _, _, _, _, _))
          exact hR (zret_i rfl (Nat.le_refl _) trivial (h _ _ _ _ _ fr_54 hC25_54 hC26_54 hC27_54 (by have hw4 : wv = csW f22 s.2.2.2.1 := (by rw [hp1_54, show kk.toNat = 4 by omega]; rfl); have hu4 : sv = csU s := (by rw [hp0_54, show kk.toNat = 4 by omega]; rfl); unfold csV; (repeat' split) <;> first | rfl | omega | (exact hr1.1) | (exact hr1.2.1) | (exact hr1.2.2.1) | (exact hu4) | (exact hw4))))
        · refine hR (?_ : _ ∧ _)
          rw [zti (e := a1) (by omega) (by omega)]
          refine ⟨fun hx => by omega, fun _ => ⟨53, by rw [hl8]; rfl, (?_ : R (_, _, _, _, _, _))⟩⟩
          have hqw2 := hr1.2.2.2.2.2.2.1 wv (by omega) (by omega)
          iterate 2 refine hR (?_ : R (_, _, _, _, _, _))
          refine hR (c_get hC14_54 rfl ?_)
          refine hR (?_ : R (_, _, _, _, _, _))
          refine hR (c_aldE hC28_54 (by omega) (by omega) (Nat.le_of_ble_eq_true rfl) fun v9 ev9 rv9 => ?_)
          replace ev9 : v9 = tBy g28 wv := ev9
          subst ev9
          refine hR (?_ : R (_, _, _, _, _, _))
          refine hR (c_get hC14_54 rfl ?_)
          refine hR (c_obj hC14_54 (zcall_i 0 0 (Nat.le_of_ble_eq_true rfl) (Nat.le_of_ble_eq_true rfl) (x_apartR _ _ _ _ _ _ _ _ _ _ _ _ _ _ _ _ _ _ _ _ _ _ _ _ _ _ _ _ _ hC14_54 hC25_54 hC26_54 hC27_54 (by omega) (by omega) _ fun v10 T25_11 T26_12 T27_13 w14 gg15 hC16 hC17 hC18 hp19 => ?_)))
          have fr20 := wfM_tr fr_54 gg15 nX0
          have hC21 := (gg15.2 14 (by (try dsimp only); decide)).trans hC14_54
          have hC22 := (gg15.2 28 (by (try dsimp only); decide)).trans hC28_54
          have hC23 := (gg15.2 29 (by (try dsimp only); decide)).trans hC29_54
          subst hp19
          refine (?_ : R (_, _, .int (Int32.ofInt (dft (tBy g28 wv) f22)) :: [], w14, 0, 0))
          exact hR (zret_i rfl (Nat.le_refl _) trivial (h _ _ _ _ _ fr20 hC16 hC17 hC18 (by have hw4 : wv = csW f22 s.2.2.2.1 := (by rw [hp1_54, show kk.toNat = 4 by omega]; rfl); have hu4 : sv = csU s := (by rw [hp0_54, show kk.toNat = 4 by omega]; rfl); unfold csV; rw [if_neg (by omega), if_neg (by omega), if_neg (by omega), if_neg (by omega), if_pos (by omega), ← hw4, (hr1.2.2.2.2.2.2.1 wv (by omega) (by omega)).1])))
        · refine hR (?_ : _ ∧ _)
          rw [zti (e := a1) (by omega) (by omega)]
          refine ⟨fun hx => by omega, fun _ => ⟨68, by rw [hl8]; rfl, (?_ : R (_, _, _, _, _, _))⟩⟩
          refine hR (?_ : R (_, _, _, _, _, _))
          refine hR (c_get hC14_54 rfl ?_)
          exact hR (zret_i rfl (Nat.le_refl _) trivial (h _ _ _ _ _ fr_54 hC25_54 hC26_54 hC27_54 (by have hw4 : wv = csW f22 s.2.2.2.1 := (by rw [hp1_54, show kk.toNat = 4 by omega]; rfl); have hu4 : sv = csU s := (by rw [hp0_54, show kk.toNat = 4 by omega]; rfl); unfold csV; (repeat' split) <;> first | rfl | omega | (exact hr1.1) | (exact hr1.2.1) | (exact hr1.2.2.1) | (exact hu4) | (exact hw4))))
        · refine hR (?_ : _ ∧ _)
          rw [zti (e := a1) (by omega) (by omega)]
          refine ⟨fun _ => (?_ : R (_, _, _, _, _, _)), fun hx => by omega⟩
          refine hR (t_c (-2) (by decide) ?_)
          exact hR (zret_i rfl (Nat.le_refl _) trivial (h _ _ _ _ _ fr_54 hC25_54 hC26_54 hC27_54 (by have hw4 : wv = csW f22 s.2.2.2.1 := (by rw [hp1_54, show kk.toNat = 4 by omega]; rfl); have hu4 : sv = csU s := (by rw [hp0_54, show kk.toNat = 4 by omega]; rfl); unfold csV; (repeat' split) <;> first | rfl | omega | (exact hr1.1) | (exact hr1.2.1) | (exact hr1.2.2.1) | (exact hu4) | (exact hw4))))
      have hqk := hr1.2.2.2.2.2.2.1 kk (by omega) (by omega)
      have hqs := hr1.2.2.2.2.2.2.1 f32 (by omega) (by omega)
      have hqw := hr1.2.2.2.2.2.2.1 wv (by omega) (by omega)
      have hq2 := hr1.2.1
      have hd1 := dft_r (a := tBy g28 kk) (b := f22)
      have hd2 := dft_r (a := tBy g28 wv) (b := f22)
      iterate 2 refine hR (?_ : R (_, _, _, _, _, _))
      refine hR (c_get hC14_54 rfl ?_)
      refine hR (?_ : R (_, _, _, _, _, _))
      refine hR (c_aldE hC28_54 (by omega) (by omega) (Nat.le_of_ble_eq_true rfl) fun v24 ev24 rv24 => ?_)
      replace ev24 : v24 = tBy g28 kk := ev24
      subst ev24
      refine hR (?_ : R (_, _, _, _, _, _))
      refine hR (c_get hC14_54 rfl ?_)
      refine hR (?_ : R (_, _, _, _, _, _))
      refine hR (c_get hC14_54 rfl ?_)
      refine hR (c_aldE hC28_54 (by omega) (by omega) (Nat.le_of_ble_eq_true rfl) fun v25 ev25 rv25 => ?_)
      replace ev25 : v25 = tBy g28 f32 := ev25
      subst ev25
      refine hR (j_eq (by omega) (by omega) (fun hc26 => ?_) (fun hc26 => ?_))
      · skip
        refine hR (?_ : R (_, _, _, _, _, _))
        refine hR (t_add ?_)
        iterate 3 refine hR (?_ : R (_, _, _, _, _, _))
        refine hR (c_get hC14_54 rfl ?_)
        refine hR (?_ : R (_, _, _, _, _, _))
        refine hR (c_aldE hC28_54 (by omega) (by omega) (Nat.le_of_ble_eq_true rfl) fun v27 ev27 rv27 => ?_)
        replace ev27 : v27 = tBy g28 kk := ev27
        subst ev27
        refine hR (?_ : R (_, _, _, _, _, _))
        refine hR (c_get hC14_54 rfl ?_)
        refine hR (c_obj hC14_54 (zcall_i 0 0 (Nat.le_of_ble_eq_true rfl) (Nat.le_of_ble_eq_true rfl) (x_apartR _ _ _ _ _ _ _ _ _ _ _ _ _ _ _ _ _ _ _ _ _ _ _ _ _ _ _ _ _ hC14_54 hC25_54 hC26_54 hC27_54 (by omega) (by omega) _ fun v28 T25_29 T26_30 T27_31 w32 gg33 hC34 hC35 hC36 hp37 => ?_)))
        have fr38 := wfM_tr fr_54 gg33 nX0
        have hC39 := (gg33.2 14 (by (try dsimp only); decide)).trans hC14_54
        have hC40 := (gg33.2 28 (by (try dsimp only); decide)).trans hC28_54
        have hC41 := (gg33.2 29 (by (try dsimp only); decide)).trans hC29_54
        subst hp37
        refine (?_ : R (_, _, .int (Int32.ofInt (dft (tBy g28 kk) f22)) :: [], w32, 0, 0))
        iterate 2 refine hR (?_ : R (_, _, _, _, _, _))
        refine hR (c_get hC39 rfl ?_)
        refine hR (?_ : R (_, _, _, _, _, _))
        refine hR (c_aldE hC40 (by omega) (by omega) (Nat.le_of_ble_eq_true rfl) fun v42 ev42 rv42 => ?_)
        replace ev42 : v42 = tBy g28 wv := ev42
        subst ev42
        refine hR (?_ : R (_, _, _, _, _, _))
        refine hR (c_get hC39 rfl ?_)
        refine hR (c_obj hC39 (zcall_i 0 0 (Nat.le_of_ble_eq_true rfl) (Nat.le_of_ble_eq_true rfl) (x_apartR _ _ _ _ _ _ _ _ _ _ _ _ _ _ _ _ _ _ _ _ _ _ _ _ _ _ _ _ _ hC39 hC34 hC35 hC36 (by omega) (by omega) _ fun v43 T25_44 T26_45 T27_46 w47 gg48 hC49 hC50 hC51 hp52 => ?_)))
        have fr53 := wfM_tr fr38 gg48 nX0
        have hC54 := (gg48.2 14 (by (try dsimp only); decide)).trans hC39
        have hC55 := (gg48.2 28 (by (try dsimp only); decide)).trans hC40
        have hC56 := (gg48.2 29 (by (try dsimp only); decide)).trans hC41
        subst hp52
        refine (?_ : R (_, _, .int (Int32.ofInt (dft (tBy g28 wv) f22)) :: .int (Int32.ofInt (dft (tBy g28 kk) f22)) :: [], w47, 0, 0))
        refine hR (j_le (by omega) (by omega) (fun hc57 => ?_) (fun hc57 => ?_))
        · skip
          iterate 2 refine hR (?_ : R (_, _, _, _, _, _))
          refine hR (t_inc ?_)
          refine hR (?_ : R (_, _, _, _, _, _))
          exact ih54 _ _ _ _ _ _ _ fr53 hC54 hC49 hC50 hC51 hC55 hC56 (by omega) (by omega) (by omega) (by rw [csUn_s (by omega), ← hp0_54, ← hqk.1, ← hq2, ← hqs.1]; split <;> omega) (by rw [csWn_s (by omega), ← hp1_54, ← hqk.1, ← hqw.1]; split <;> omega) (by omega) (by omega)
        iterate 3 refine hR (?_ : R (_, _, _, _, _, _))
        refine hR (t_inc ?_)
        refine hR (?_ : R (_, _, _, _, _, _))
        exact ih54 _ _ _ _ _ _ _ fr53 hC54 hC49 hC50 hC51 hC55 hC56 (by omega) (by omega) (by omega) (by rw [csUn_s (by omega), ← hp0_54, ← hqk.1, ← hq2, ← hqs.1]; split <;> omega) (by rw [csWn_s (by omega), ← hp1_54, ← hqk.1, ← hqw.1]; split <;> omega) (by omega) (by omega)
      iterate 2 refine hR (?_ : R (_, _, _, _, _, _))
      refine hR (t_add ?_)
      iterate 3 refine hR (?_ : R (_, _, _, _, _, _))
      refine hR (c_get hC14_54 rfl ?_)
      refine hR (?_ : R (_, _, _, _, _, _))
      refine hR (c_aldE hC28_54 (by omega) (by omega) (Nat.le_of_ble_eq_true rfl) fun v58 ev58 rv58 => ?_)
      replace ev58 : v58 = tBy g28 kk := ev58
      subst ev58
      refine hR (?_ : R (_, _, _, _, _, _))
      refine hR (c_get hC14_54 rfl ?_)
      refine hR (c_obj hC14_54 (zcall_i 0 0 (Nat.le_of_ble_eq_true rfl) (Nat.le_of_ble_eq_true rfl) (x_apartR _ _ _ _ _ _ _ _ _ _ _ _ _ _ _ _ _ _ _ _ _ _ _ _ _ _ _ _ _ hC14_54 hC25_54 hC26_54 hC27_54 (by omega) (by omega) _ fun v59 T25_60 T26_61 T27_62 w63 gg64 hC65 hC66 hC67 hp68 => ?_)))
      have fr69 := wfM_tr fr_54 gg64 nX0
      have hC70 := (gg64.2 14 (by (try dsimp only); decide)).trans hC14_54
      have hC71 := (gg64.2 28 (by (try dsimp only); decide)).trans hC28_54
      have hC72 := (gg64.2 29 (by (try dsimp only); decide)).trans hC29_54
      subst hp68
      refine (?_ : R (_, _, .int (Int32.ofInt (dft (tBy g28 kk) f22)) :: [], w63, 0, 0))
      iterate 2 refine hR (?_ : R (_, _, _, _, _, _))
      refine hR (c_get hC70 rfl ?_)
      refine hR (?_ : R (_, _, _, _, _, _))
      refine hR (c_aldE hC71 (by omega) (by omega) (Nat.le_of_ble_eq_true rfl) fun v73 ev73 rv73 => ?_)
      replace ev73 : v73 = tBy g28 wv := ev73
      subst ev73
      refine hR (?_ : R (_, _, _, _, _, _))
      refine hR (c_get hC70 rfl ?_)
      refine hR (c_obj hC70 (zcall_i 0 0 (Nat.le_of_ble_eq_true rfl) (Nat.le_of_ble_eq_true rfl) (x_apartR _ _ _ _ _ _ _ _ _ _ _ _ _ _ _ _ _ _ _ _ _ _ _ _ _ _ _ _ _ hC70 hC65 hC66 hC67 (by omega) (by omega) _ fun v74 T25_75 T26_76 T27_77 w78 gg79 hC80 hC81 hC82 hp83 => ?_)))
      have fr84 := wfM_tr fr69 gg79 nX0
      have hC85 := (gg79.2 14 (by (try dsimp only); decide)).trans hC70
      have hC86 := (gg79.2 28 (by (try dsimp only); decide)).trans hC71
      have hC87 := (gg79.2 29 (by (try dsimp only); decide)).trans hC72
      subst hp83
      refine (?_ : R (_, _, .int (Int32.ofInt (dft (tBy g28 wv) f22)) :: .int (Int32.ofInt (dft (tBy g28 kk) f22)) :: [], w78, 0, 0))
      refine hR (j_le (by omega) (by omega) (fun hc88 => ?_) (fun hc88 => ?_))
      · skip
        iterate 2 refine hR (?_ : R (_, _, _, _, _, _))
        refine hR (t_inc ?_)
        refine hR (?_ : R (_, _, _, _, _, _))
        exact ih54 _ _ _ _ _ _ _ fr84 hC85 hC80 hC81 hC82 hC86 hC87 (by omega) (by omega) (by omega) (by rw [csUn_s (by omega), ← hp0_54, ← hqk.1, ← hq2, ← hqs.1]; split <;> omega) (by rw [csWn_s (by omega), ← hp1_54, ← hqk.1, ← hqw.1]; split <;> omega) (by omega) (by omega)
      iterate 3 refine hR (?_ : R (_, _, _, _, _, _))
      refine hR (t_inc ?_)
      refine hR (?_ : R (_, _, _, _, _, _))
      exact ih54 _ _ _ _ _ _ _ fr84 hC85 hC80 hC81 hC82 hC86 hC87 (by omega) (by omega) (by omega) (by rw [csUn_s (by omega), ← hp0_54, ← hqk.1, ← hq2, ← hqs.1]; split <;> omega) (by rw [csWn_s (by omega), ← hp1_54, ← hqk.1, ← hqw.1]; split <;> omega) (by omega) (by omega)
  exact lp54 400000000 _ _ _ _ _ _ _ fr0 hK0 hK1 hK2 hK3 hK4 hK5 (by omega) (by omega) (by omega) rfl rfl (by omega) (by omega)
theorem x_drawR (w : zW) (d : Nat) (a1 : Int) (f0 f9 f10 f11 f12 f13 f15 f16 f17 f20 f21 f22 f23 f26 f28 f31 f32 f33 f38 f41 f44 : Int) (x14 : Int64) (hK0 : zix w 14 = some (.inr (11, [.int (Int32.ofInt f0), .ref 15, .ref 16, .ref 17, .ref 18, .ref 19, .ref 20, .ref 21, .ref 22, .int (Int32.ofInt f9), .int (Int32.ofInt f10), .int (Int32.ofInt f11), .int (Int32.ofInt f12), .int (Int32.ofInt f13), .long x14, .int (Int32.ofInt f15), .int (Int32.ofInt f16), .int (Int32.ofInt f17), .ref 23, .ref 24, .int (Int32.ofInt f20), .int (Int32.ofInt f21), .int (Int32.ofInt f22), .int (Int32.ofInt f23), .ref 25, .ref 26, .int (Int32.ofInt f26), .ref 27, .int (Int32.ofInt f28), .ref 28, .ref 29, .int (Int32.ofInt f31), .int (Int32.ofInt f32), .int (Int32.ofInt f33), .ref 30, .ref 31, .ref 32, .ref 33, .int (Int32.ofInt f38), .ref 34, .ref 35, .int (Int32.ofInt f41), .ref 36, .ref 37, .int (Int32.ofInt f44), .ref 38, .ref 39, .ref 40, .ref 41, .ref 42, .ref 43, .ref 44]))) (hr0 : 1 ≤ a1 ∧ a1 ≤ 8) (Q : zQ) (h : ∀ (v : Int) (w' : zW), wfM (fun j => j ≠ 14) w w' → zix w' 14 = some (.inr (11, [.int (Int32.ofInt f0), .ref 15, .ref 16, .ref 17, .ref 18, .ref 19, .ref 20, .ref 21, .ref 22, .int (Int32.ofInt f9), .int (Int32.ofInt f10), .int (Int32.ofInt f11), .int (Int32.ofInt f12), .int (Int32.ofInt f13), .long x14, .int (Int32.ofInt f15), .int (Int32.ofInt f16), .int (Int32.ofInt f17), .ref 23, .ref 24, .int (Int32.ofInt f20), .int (Int32.ofInt f21), .int (Int32.ofInt f22), .int (Int32.ofInt f23), .ref 25, .ref 26, .int (Int32.ofInt f26), .ref 27, .int (Int32.ofInt f28), .ref 28, .ref 29, .int (Int32.ofInt f31), .int (Int32.ofInt f32), .int (Int32.ofInt f33), .ref 30, .ref 31, .ref 32, .ref 33, .int (Int32.ofInt f38), .ref 34, .ref 35, .int (Int32.ofInt f41), .ref 36, .ref 37, .int (Int32.ofInt (sdN f44)), .ref 38, .ref 39, .ref 40, .ref 41, .ref 42, .ref 43, .ref 44])) → (v = drw (sdN f44) a1 ∧ 0 ≤ v ∧ v < a1) → Q (some (.int (Int32.ofInt v))) w') : zCl zTab (d + 1) iX12_draw [.ref 14, .int (Int32.ofInt a1)] w 0 0 Q := by
  refine zCl_i (M := kX12_draw) rfl (Nat.le_of_ble_eq_true rfl) fun R hR => ?_
  have fr0 : wfM (fun j => j ≠ 14) w w := wfM_rf _ w
  have nX0 : FX (∀ j : Nat, (j ≠ 14) → j ≠ 14) := fun j hj => by omega
  iterate 2 refine hR (?_ : R (_, _, _, _, _, _))
  refine hR (c_get hK0 rfl ?_)
  refine hR (t_c 1103515245 (by decide) ?_)
  refine hR (t_mul ?_)
  refine hR (t_c 12345 (by decide) ?_)
  refine hR (t_add ?_)
  refine hR (c_put hK0 rfl rfl fun w1 ff1 hC1 => ?_)
  have fr2 := wfM_st fr0 ff1 nX0
  replace hC1 : zix w1 14 = some (.inr (11, [.int (Int32.ofInt f0), .ref 15, .ref 16, .ref 17, .ref 18, .ref 19, .ref 20, .ref 21, .ref 22, .int (Int32.ofInt f9), .int (Int32.ofInt f10), .int (Int32.ofInt f11), .int (Int32.ofInt f12), .int (Int32.ofInt f13), .long x14, .int (Int32.ofInt f15), .int (Int32.ofInt f16), .int (Int32.ofInt f17), .ref 23, .ref 24, .int (Int32.ofInt f20), .int (Int32.ofInt f21), .int (Int32.ofInt f22), .int (Int32.ofInt f23), .ref 25, .ref 26, .int (Int32.ofInt f26), .ref 27, .int (Int32.ofInt f28), .ref 28, .ref 29, .int (Int32.ofInt f31), .int (Int32.ofInt f32), .int (Int32.ofInt f33), .ref 30, .ref 31, .ref 32, .ref 33, .int (Int32.ofInt f38), .ref 34, .ref 35, .int (Int32.ofInt f41), .ref 36, .ref 37, .int (Int32.ofInt ((f44 * 1103515245) + 12345)), .ref 38, .ref 39, .ref 40, .ref 41, .ref 42, .ref 43, .ref 44])) := hC1
  refine hR (?_ : R (_, _, _, _, _, _))
  refine hR (c_get hC1 rfl ?_)
  refine hR (t_c 16 (by decide) ?_)
  refine hR (t_c (bUsr ((f44 * 1103515245) + 12345) 16) (zoi _).symm ?_)
  have hbt3 : r32 (bUsr ((f44 * 1103515245) + 12345) 16) := zrg _
  refine hR (?_ : R (_, _, _, _, _, _))
  have hus := usr_r (f44 * 1103515245 + 12345)
  refine hR (t_rem (by omega) (by omega) (by omega) (by omega) ?_)
  exact hR (zret_i rfl (Nat.le_refl _) trivial (h _ _ fr2 hC1 ⟨rfl, drw_r (sdN f44) (by omega)⟩))
theorem x_drawDeedR (w : zW) (d : Nat) (f0 f9 f10 f11 f12 f13 f15 f16 f17 f20 f21 f22 f23 f26 f28 f31 f32 f33 f38 f41 f44 : Int) (x14 : Int64) (g20 g25 g28 g29 : Nat → Int32) (F : Int → Int → Int) (s : CS) (m : Int) (hK0 : zix w 14 = some (.inr (11, [.int (Int32.ofInt f0), .ref 15, .ref 16, .ref 17, .ref 18, .ref 19, .ref 20, .ref 21, .ref 22, .int (Int32.ofInt f9), .int (Int32.ofInt f10), .int (Int32.ofInt f11), .int (Int32.ofInt f12), .int (Int32.ofInt f13), .long x14, .int (Int32.ofInt f15), .int (Int32.ofInt f16), .int (Int32.ofInt f17), .ref 23, .ref 24, .int (Int32.ofInt f20), .int (Int32.ofInt f21), .int (Int32.ofInt f22), .int (Int32.ofInt f23), .ref 25, .ref 26, .int (Int32.ofInt f26), .ref 27, .int (Int32.ofInt f28), .ref 28, .ref 29, .int (Int32.ofInt f31), .int (Int32.ofInt f32), .int (Int32.ofInt f33), .ref 30, .ref 31, .ref 32, .ref 33, .int (Int32.ofInt f38), .ref 34, .ref 35, .int (Int32.ofInt f41), .ref 36, .ref 37, .int (Int32.ofInt f44), .ref 38, .ref 39, .ref 40, .ref 41, .ref 42, .ref 43, .ref 44]))) (hK1 : zix w 20 = some (.inl (1, 408, .inl g20))) (hK2 : zix w 25 = some (.inl (1, 7, .inl g25))) (hK3 : zix w 28 = some (.inl (1, 4, .inl g28))) (hK4 : zix w 29 = some (.inl (1, 5, .inl g29))) (hr0 : RBF F f20 f22 f23 g20) (hr1 : CSR m s f31 f32 f33 g28 g29) (hr2 : m ≤ 1000000) (Q : zQ) (h : ∀ (y26 y31 y32 y33 y44 : Int) (T25 Tc Tt : Nat → Int32) (w' : zW), wfM (fun j => j ≠ 14 ∧ j ≠ 25 ∧ j ≠ 28 ∧ j ≠ 29) w w' → zix w' 14 = some (.inr (11, [.int (Int32.ofInt f0), .ref 15, .ref 16, .ref 17, .ref 18, .ref 19, .ref 20, .ref 21, .ref 22, .int (Int32.ofInt f9), .int (Int32.ofInt f10), .int (Int32.ofInt f11), .int (Int32.ofInt f12), .int (Int32.ofInt f13), .long x14, .int (Int32.ofInt f15), .int (Int32.ofInt f16), .int (Int32.ofInt f17), .ref 23, .ref 24, .int (Int32.ofInt f20), .int (Int32.ofInt f21), .int (Int32.ofInt f22), .int (Int32.ofInt f23), .ref 25, .ref 26, .int (Int32.ofInt y26), .ref 27, .int (Int32.ofInt f28), .ref 28, .ref 29, .int (Int32.ofInt y31), .int (Int32.ofInt y32), .int (Int32.ofInt y33), .ref 30, .ref 31, .ref 32, .ref 33, .int (Int32.ofInt f38), .ref 34, .ref 35, .int (Int32.ofInt f41), .ref 36, .ref 37, .int (Int32.ofInt y44), .ref 38, .ref 39, .ref 40, .ref 41, .ref 42, .ref 43, .ref 44])) → zix w' 25 = some (.inl (1, 7, .inl T25)) → zix w' 28 = some (.inl (1, 4, .inl Tc)) → zix w' 29 = some (.inl (1, 5, .inl Tt)) → (y44 = (dwS F f22 f23 (f44, s)).1 ∧ CSR (m + 1) (dwS F f22 f23 (f44, s)).2 y31 y32 y33 Tc Tt) → Q (none) w') : zCl zTab (d + 6) iX12_drawDeed [.ref 14] w 0 0 Q := by
  refine zCl_i (M := kX12_drawDeed) rfl (Nat.le_of_ble_eq_true rfl) fun R hR => ?_
  have fr0 : wfM (fun j => j ≠ 14 ∧ j ≠ 25 ∧ j ≠ 28 ∧ j ≠ 29) w w := wfM_rf _ w
  obtain ⟨hBK, hf20, hf22, hf23, hFF⟩ := id hr0
  have hcr := csr_r hr1
  have nX0 : FX (∀ j : Nat, (j ≠ 14 ∧ j ≠ 25 ∧ j ≠ 28 ∧ j ≠ 29) → (j ≠ 14)) := fun j hj => by omega
  have nX1 : FX (∀ j : Nat, (j ≠ 14 ∧ j ≠ 25 ∧ j ≠ 28 ∧ j ≠ 29) → j ≠ 28) := fun j hj => by omega
  have nX2 : FX (∀ j : Nat, (j ≠ 14 ∧ j ≠ 25 ∧ j ≠ 28 ∧ j ≠ 29) → (j ≠ 14 ∧ j ≠ 25 ∧ j ≠ 28 ∧ j ≠ 29)) := fun j hj => by omega
  iterate 2 refine hR (?_ : R (_, _, _, _, _, _))
  refine hR (c_obj hK0 (zcall_i 0 0 (Nat.le_of_ble_eq_true rfl) (Nat.le_of_ble_eq_true rfl) (x_drawR _ _ _ _ _ _ _ _ _ _ _ _ _ _ _ _ _ _ _ _ _ _ _ _ _ hK0 (by omega) _ fun v1 w2 gg3 hC4 hp5 => ?_)))
  have fr6 := wfM_tr fr0 gg3 nX0
  have hC7 := (gg3.2 20 (by (try dsimp only); decide)).trans hK1
  have hC8 := (gg3.2 25 (by (try dsimp only); decide)).trans hK2
  have hC9 := (gg3.2 28 (by (try dsimp only); decide)).trans hK3
  have hC10 := (gg3.2 29 (by (try dsimp only); decide)).trans hK4
  refine (?_ : R (_, _, .int (Int32.ofInt v1) :: [], w2, 0, 0))
  iterate 2 refine hR (?_ : R (_, _, _, _, _, _))
  refine hR (t_c 8 (by decide) ?_)
  refine hR (c_obj hC4 (zcall_i 0 0 (Nat.le_of_ble_eq_true rfl) (Nat.le_of_ble_eq_true rfl) (x_drawR _ _ _ _ _ _ _ _ _ _ _ _ _ _ _ _ _ _ _ _ _ _ _ _ _ hC4 (by omega) _ fun v11 w12 gg13 hC14 hp15 => ?_)))
  have fr16 := wfM_tr fr6 gg13 nX0
  have hC17 := (gg13.2 20 (by (try dsimp only); decide)).trans hC7
  have hC18 := (gg13.2 25 (by (try dsimp only); decide)).trans hC8
  have hC19 := (gg13.2 28 (by (try dsimp only); decide)).trans hC9
  have hC20 := (gg13.2 29 (by (try dsimp only); decide)).trans hC10
  refine (?_ : R (_, _, .int (Int32.ofInt v11) :: [], w12, 0, 0))
  iterate 3 refine hR (?_ : R (_, _, _, _, _, _))
  refine hR (j_ge (by omega) (by omega) (fun hc21 => ?_) (fun hc21 => ?_))
  · skip
    iterate 2 refine hR (?_ : R (_, _, _, _, _, _))
    refine hR (j_ne (by omega) (by omega) (fun hc22 => ?_) (fun hc22 => ?_))
    rotate_left
    · skip
      refine hR (?_ : R (_, _, _, _, _, _))
      refine hR (c_get hC14 rfl ?_)
      iterate 2 refine hR (?_ : R (_, _, _, _, _, _))
      refine hR (c_obj hC14 (zcall_i 0 0 (Nat.le_of_ble_eq_true rfl) (Nat.le_of_ble_eq_true rfl) (x_drawR _ _ _ _ _ _ _ _ _ _ _ _ _ _ _ _ _ _ _ _ _ _ _ _ _ hC14 (by omega) _ fun v49 w50 gg51 hC52 hp53 => ?_)))
      have fr54 := wfM_tr fr16 gg51 nX0
      have hC55 := (gg51.2 20 (by (try dsimp only); decide)).trans hC17
      have hC56 := (gg51.2 25 (by (try dsimp only); decide)).trans hC18
      have hC57 := (gg51.2 28 (by (try dsimp only); decide)).trans hC19
      have hC58 := (gg51.2 29 (by (try dsimp only); decide)).trans hC20
      refine (?_ : R (_, _, .int (Int32.ofInt v49) :: .ref 28 :: [], w50, 0, 0))
      refine hR (?_ : R (_, _, _, _, _, _))
      refine hR (c_get hC52 rfl ?_)
      refine hR (?_ : R (_, _, _, _, _, _))
      refine hR (c_aldE hC57 (by omega) (by omega) (Nat.le_of_ble_eq_true rfl) fun v59 ev59 rv59 => ?_)
      replace ev59 : v59 = tBy g28 v1 := ev59
      subst ev59
      refine hR (x_ast hC57 (by omega) (by omega) (Nat.le_of_ble_eq_true rfl) fun w60 ff60 hC60 => ?_)
      have fr61 := wfM_st fr54 ff60 nX1
      have hC62 := (ff60.2 14 (by (try dsimp only); decide)).trans hC52
      have hC63 := (ff60.2 20 (by (try dsimp only); decide)).trans hC55
      have hC64 := (ff60.2 25 (by (try dsimp only); decide)).trans hC56
      have hC65 := (ff60.2 29 (by (try dsimp only); decide)).trans hC58
      refine hR (?_ : R (_, _, _, _, _, _))
      exact hR (zret_i rfl (Nat.le_refl _) rfl (h _ _ _ _ _ _ _ _ _ fr61 hC62 hC64 hC60 hC65 (by have z1 := hp5.1; have z2 := hp15.1; have z3 := hp53.1; unfold dwS; dsimp only; rw [← z1, ← z2, if_neg (by omega), if_pos (by omega), ← z3]; refine ⟨rfl, ?_⟩; dsimp only; exact cs_cp hr1 (by omega) (fun i i0 i1 => zupI (tBy_r _ _) (by omega) i0))))
    refine hR (?_ : R (_, _, _, _, _, _))
    refine hR (t_c 6 (by decide) ?_)
    refine hR (j_ne (by omega) (by omega) (fun hc23 => ?_) (fun hc23 => ?_))
    rotate_left
    · skip
      iterate 2 refine hR (?_ : R (_, _, _, _, _, _))
      refine hR (c_obj hC14 (zcall_i 0 0 (Nat.le_of_ble_eq_true rfl) (Nat.le_of_ble_eq_true rfl) (x_hushesR _ _ _ _ _ _ _ _ _ _ _ _ _ _ _ _ _ _ _ _ _ _ _ _ _ hC14 (by omega) (by omega) _ fun v37 y33_38 w39 gg40 hC41 hp42 hp43 => ?_)))
      have fr44 := wfM_tr fr16 gg40 nX0
      have hC45 := (gg40.2 20 (by (try dsimp only); decide)).trans hC17
      have hC46 := (gg40.2 25 (by (try dsimp only); decide)).trans hC18
      have hC47 := (gg40.2 28 (by (try dsimp only); decide)).trans hC19
      have hC48 := (gg40.2 29 (by (try dsimp only); decide)).trans hC20
      refine (?_ : R (_, _, .int (Int32.ofInt v37) :: [], w39, 0, 0))
      iterate 2 refine hR (?_ : R (_, _, _, _, _, _))
      exact hR (zret_i rfl (Nat.le_refl _) rfl (h _ _ _ _ _ _ _ _ _ fr44 hC41 hC46 hC47 hC48 (by have z1 := hp5.1; have z2 := hp15.1; unfold dwS; dsimp only; rw [← z1, ← z2, if_neg (by omega), if_neg (by omega), if_pos (by omega)]; exact ⟨rfl, (cs_h (F := F) (base := f22) (rd := f23) (u := -1) hr1 (by omega) hp43).2⟩)))
    refine hR (?_ : R (_, _, _, _, _, _))
    refine hR (t_c 7 (by decide) ?_)
    refine hR (j_ne (by omega) (by omega) (fun hc24 => ?_) (fun hc24 => ?_))
    · skip
      exact hR (zret_i rfl (Nat.le_refl _) rfl (h _ _ _ _ _ _ _ _ _ fr16 hC14 hC18 hC19 hC20 (by have z1 := hp5.1; have z2 := hp15.1; unfold dwS; dsimp only; rw [← z1, ← z2]; first | omega | (rw [if_pos (by omega), if_neg (by omega)]; exact ⟨rfl, csr_m hr1 (by omega)⟩))))
    refine hR (?_ : R (_, _, _, _, _, _))
    refine hR (c_obj hC14 (zcall_i 0 0 (Nat.le_of_ble_eq_true rfl) (Nat.le_of_ble_eq_true rfl) (x_goesOnR _ _ _ _ _ _ _ _ _ _ _ _ _ _ _ _ _ _ _ _ _ _ _ _ hC14 (by omega) _ fun v25 y31_26 w27 gg28 hC29 hp30 hp31 => ?_)))
    have fr32 := wfM_tr fr16 gg28 nX0
    have hC33 := (gg28.2 20 (by (try dsimp only); decide)).trans hC17
    have hC34 := (gg28.2 25 (by (try dsimp only); decide)).trans hC18
    have hC35 := (gg28.2 28 (by (try dsimp only); decide)).trans hC19
    have hC36 := (gg28.2 29 (by (try dsimp only); decide)).trans hC20
    refine (?_ : R (_, _, .int (Int32.ofInt v25) :: [], w27, 0, 0))
    refine hR (?_ : R (_, _, _, _, _, _))
    exact hR (zret_i rfl (Nat.le_refl _) rfl (h _ _ _ _ _ _ _ _ _ fr32 hC29 hC34 hC35 hC36 (by have z1 := hp5.1; have z2 := hp15.1; unfold dwS; dsimp only; rw [← z1, ← z2, if_neg (by omega), if_neg (by omega), if_neg (by omega)]; refine ⟨rfl, ?_⟩; dsimp only; by_cases cq : f31 < 99; (· rw [hp31, if_pos cq]; exact (cs_d1 hr1 cq).2); rw [hp31, if_neg cq]; exact (cs_d0 hr1 cq).2)))
  refine hR (?_ : R (_, _, _, _, _, _))
  refine hR (c_get hC14 rfl ?_)
  refine hR (k_le (by omega) (fun hc66 => ?_) (fun hc66 => ?_))
  rotate_left
  · skip
    iterate 4 refine hR (?_ : R (_, _, _, _, _, _))
    refine hR (c_get hC14 rfl ?_)
    refine hR (c_obj hC14 (zcall_i 0 0 (Nat.le_of_ble_eq_true rfl) (Nat.le_of_ble_eq_true rfl) (x_drawR _ _ _ _ _ _ _ _ _ _ _ _ _ _ _ _ _ _ _ _ _ _ _ _ _ hC14 (by omega) _ fun v111 w112 gg113 hC114 hp115 => ?_)))
    have fr116 := wfM_tr fr16 gg113 nX0
    have hC117 := (gg113.2 20 (by (try dsimp only); decide)).trans hC17
    have hC118 := (gg113.2 25 (by (try dsimp only); decide)).trans hC18
    have hC119 := (gg113.2 28 (by (try dsimp only); decide)).trans hC19
    have hC120 := (gg113.2 29 (by (try dsimp only); decide)).trans hC20
    refine (?_ : R (_, _, .int (Int32.ofInt v111) :: .int (Int32.ofInt v1) :: .ref 14 :: [], w112, 0, 0))
    refine hR (c_obj hC114 (zcall_i 0 0 (Nat.le_of_ble_eq_true rfl) (Nat.le_of_ble_eq_true rfl) (x_readsR _ _ _ _ _ _ _ _ _ _ _ _ _ _ _ _ _ _ _ _ _ _ _ _ _ _ _ _ _ _ _ _ _ hC114 hC117 hC118 hC119 hC120 hr0 hr1 (by omega) (by omega) (by omega) _ fun v121 y26_122 y33_123 T25_124 Tc_125 Tt_126 w127 gg128 hC129 hC130 hC131 hC132 hp133 hp134 => ?_)))
    have fr135 := wfM_tr fr116 gg128 nX2
    have hC136 := (gg128.2 20 (by (try dsimp only); decide)).trans hC117
    refine (?_ : R (_, _, .int (Int32.ofInt v121) :: [], w127, 0, 0))
    iterate 2 refine hR (?_ : R (_, _, _, _, _, _))
    exact hR (zret_i rfl (Nat.le_refl _) rfl (h _ _ _ _ _ _ _ _ _ fr135 hC129 hC130 hC131 hC132 (by have z1 := hp5.1; have z2 := hp15.1; have z3 := hp115.1; unfold dwS; dsimp only; rw [← z1, ← z2, if_pos (by omega), if_pos (by omega), ← z3]; exact ⟨rfl, hp134⟩)))
  iterate 2 refine hR (?_ : R (_, _, _, _, _, _))
  refine hR (j_ne (by omega) (by omega) (fun hc67 => ?_) (fun hc67 => ?_))
  rotate_left
  · skip
    refine hR (?_ : R (_, _, _, _, _, _))
    refine hR (c_get hC14 rfl ?_)
    iterate 2 refine hR (?_ : R (_, _, _, _, _, _))
    refine hR (c_obj hC14 (zcall_i 0 0 (Nat.le_of_ble_eq_true rfl) (Nat.le_of_ble_eq_true rfl) (x_drawR _ _ _ _ _ _ _ _ _ _ _ _ _ _ _ _ _ _ _ _ _ _ _ _ _ hC14 (by omega) _ fun v94 w95 gg96 hC97 hp98 => ?_)))
    have fr99 := wfM_tr fr16 gg96 nX0
    have hC100 := (gg96.2 20 (by (try dsimp only); decide)).trans hC17
    have hC101 := (gg96.2 25 (by (try dsimp only); decide)).trans hC18
    have hC102 := (gg96.2 28 (by (try dsimp only); decide)).trans hC19
    have hC103 := (gg96.2 29 (by (try dsimp only); decide)).trans hC20
    refine (?_ : R (_, _, .int (Int32.ofInt v94) :: .ref 28 :: [], w95, 0, 0))
    refine hR (?_ : R (_, _, _, _, _, _))
    refine hR (c_get hC97 rfl ?_)
    refine hR (?_ : R (_, _, _, _, _, _))
    refine hR (c_aldE hC102 (by omega) (by omega) (Nat.le_of_ble_eq_true rfl) fun v104 ev104 rv104 => ?_)
    replace ev104 : v104 = tBy g28 v1 := ev104
    subst ev104
    refine hR (x_ast hC102 (by omega) (by omega) (Nat.le_of_ble_eq_true rfl) fun w105 ff105 hC105 => ?_)
    have fr106 := wfM_st fr99 ff105 nX1
    have hC107 := (ff105.2 14 (by (try dsimp only); decide)).trans hC97
    have hC108 := (ff105.2 20 (by (try dsimp only); decide)).trans hC100
    have hC109 := (ff105.2 25 (by (try dsimp only); decide)).trans hC101
    have hC110 := (ff105.2 29 (by (try dsimp only); decide)).trans hC103
    refine hR (?_ : R (_, _, _, _, _, _))
    exact hR (zret_i rfl (Nat.le_refl _) rfl (h _ _ _ _ _ _ _ _ _ fr106 hC107 hC109 hC105 hC110 (by have z1 := hp5.1; have z2 := hp15.1; have z3 := hp98.1; unfold dwS; dsimp only; rw [← z1, ← z2, if_neg (by omega), if_pos (by omega), ← z3]; refine ⟨rfl, ?_⟩; dsimp only; exact cs_cp hr1 (by omega) (fun i i0 i1 => zupI (tBy_r _ _) (by omega) i0))))
  refine hR (?_ : R (_, _, _, _, _, _))
  refine hR (t_c 6 (by decide) ?_)
  refine hR (j_ne (by omega) (by omega) (fun hc68 => ?_) (fun hc68 => ?_))
  rotate_left
  · skip
    iterate 2 refine hR (?_ : R (_, _, _, _, _, _))
    refine hR (c_obj hC14 (zcall_i 0 0 (Nat.le_of_ble_eq_true rfl) (Nat.le_of_ble_eq_true rfl) (x_hushesR _ _ _ _ _ _ _ _ _ _ _ _ _ _ _ _ _ _ _ _ _ _ _ _ _ hC14 (by omega) (by omega) _ fun v82 y33_83 w84 gg85 hC86 hp87 hp88 => ?_)))
    have fr89 := wfM_tr fr16 gg85 nX0
    have hC90 := (gg85.2 20 (by (try dsimp only); decide)).trans hC17
    have hC91 := (gg85.2 25 (by (try dsimp only); decide)).trans hC18
    have hC92 := (gg85.2 28 (by (try dsimp only); decide)).trans hC19
    have hC93 := (gg85.2 29 (by (try dsimp only); decide)).trans hC20
    refine (?_ : R (_, _, .int (Int32.ofInt v82) :: [], w84, 0, 0))
    iterate 2 refine hR (?_ : R (_, _, _, _, _, _))
    exact hR (zret_i rfl (Nat.le_refl _) rfl (h _ _ _ _ _ _ _ _ _ fr89 hC86 hC91 hC92 hC93 (by have z1 := hp5.1; have z2 := hp15.1; unfold dwS; dsimp only; rw [← z1, ← z2, if_neg (by omega), if_neg (by omega), if_pos (by omega)]; exact ⟨rfl, (cs_h (F := F) (base := f22) (rd := f23) (u := -1) hr1 (by omega) hp88).2⟩)))
  refine hR (?_ : R (_, _, _, _, _, _))
  refine hR (t_c 7 (by decide) ?_)
  refine hR (j_ne (by omega) (by omega) (fun hc69 => ?_) (fun hc69 => ?_))
  · skip
    exact hR (zret_i rfl (Nat.le_refl _) rfl (h _ _ _ _ _ _ _ _ _ fr16 hC14 hC18 hC19 hC20 (by have z1 := hp5.1; have z2 := hp15.1; unfold dwS; dsimp only; rw [← z1, ← z2]; first | omega | (rw [if_pos (by omega), if_neg (by omega)]; exact ⟨rfl, csr_m hr1 (by omega)⟩))))
  refine hR (?_ : R (_, _, _, _, _, _))
  refine hR (c_obj hC14 (zcall_i 0 0 (Nat.le_of_ble_eq_true rfl) (Nat.le_of_ble_eq_true rfl) (x_goesOnR _ _ _ _ _ _ _ _ _ _ _ _ _ _ _ _ _ _ _ _ _ _ _ _ hC14 (by omega) _ fun v70 y31_71 w72 gg73 hC74 hp75 hp76 => ?_)))
  have fr77 := wfM_tr fr16 gg73 nX0
  have hC78 := (gg73.2 20 (by (try dsimp only); decide)).trans hC17
  have hC79 := (gg73.2 25 (by (try dsimp only); decide)).trans hC18
  have hC80 := (gg73.2 28 (by (try dsimp only); decide)).trans hC19
  have hC81 := (gg73.2 29 (by (try dsimp only); decide)).trans hC20
  refine (?_ : R (_, _, .int (Int32.ofInt v70) :: [], w72, 0, 0))
  refine hR (?_ : R (_, _, _, _, _, _))
  exact hR (zret_i rfl (Nat.le_refl _) rfl (h _ _ _ _ _ _ _ _ _ fr77 hC74 hC79 hC80 hC81 (by have z1 := hp5.1; have z2 := hp15.1; unfold dwS; dsimp only; rw [← z1, ← z2, if_neg (by omega), if_neg (by omega), if_neg (by omega)]; refine ⟨rfl, ?_⟩; dsimp only; by_cases cq : f31 < 99; (· rw [hp76, if_pos cq]; exact (cs_d1 hr1 cq).2); rw [hp76, if_neg cq]; exact (cs_d0 hr1 cq).2)))
theorem x_drawnR (w : zW) (d : Nat) (a1 a2 a3 a4 : Int) (f0 f9 f10 f11 f12 f13 f15 f16 f17 f20 f21 f22 f23 f26 f28 f31 f32 f33 f38 f41 f44 : Int) (x14 : Int64) (g19 g20 g25 g26 g27 g28 g29 : Nat → Int32) (hK0 : zix w 14 = some (.inr (11, [.int (Int32.ofInt f0), .ref 15, .ref 16, .ref 17, .ref 18, .ref 19, .ref 20, .ref 21, .ref 22, .int (Int32.ofInt f9), .int (Int32.ofInt f10), .int (Int32.ofInt f11), .int (Int32.ofInt f12), .int (Int32.ofInt f13), .long x14, .int (Int32.ofInt f15), .int (Int32.ofInt f16), .int (Int32.ofInt f17), .ref 23, .ref 24, .int (Int32.ofInt f20), .int (Int32.ofInt f21), .int (Int32.ofInt f22), .int (Int32.ofInt f23), .ref 25, .ref 26, .int (Int32.ofInt f26), .ref 27, .int (Int32.ofInt f28), .ref 28, .ref 29, .int (Int32.ofInt f31), .int (Int32.ofInt f32), .int (Int32.ofInt f33), .ref 30, .ref 31, .ref 32, .ref 33, .int (Int32.ofInt f38), .ref 34, .ref 35, .int (Int32.ofInt f41), .ref 36, .ref 37, .int (Int32.ofInt f44), .ref 38, .ref 39, .ref 40, .ref 41, .ref 42, .ref 43, .ref 44]))) (hK1 : zix w 19 = some (.inl (1, 12, .inl g19))) (hK2 : zix w 20 = some (.inl (1, 408, .inl g20))) (hK3 : zix w 25 = some (.inl (1, 7, .inl g25))) (hK4 : zix w 26 = some (.inl (1, 7, .inl g26))) (hK5 : zix w 27 = some (.inl (1, 49, .inl g27))) (hK6 : zix w 28 = some (.inl (1, 4, .inl g28))) (hK7 : zix w 29 = some (.inl (1, 5, .inl g29))) (hr0 : (-2147483648 ≤ a1 ∧ a1 ≤ 2147483647) ∧ (-2147483648 ≤ a2 ∧ a2 ≤ 2147483647) ∧ (-2147483648 ≤ a3 ∧ a3 ≤ 2147483647) ∧ (-2147483648 ≤ a4 ∧ a4 ≤ 2147483647)) (hr1 : ∀ i : Int, 0 ≤ i → i ≤ 2 → 0 ≤ tBy g19 i ∧ tBy g19 i ≤ 2) (hr2 : bkOK g20) (Q : zQ) (h : ∀ (v : Int) (y20 y22 y23 y26 y31 y32 y33 y44 : Int) (T25 T26 T27 T28 T29 : Nat → Int32) (w' : zW), wfM (fun j => j ≠ 14 ∧ j ≠ 25 ∧ j ≠ 26 ∧ j ≠ 27 ∧ j ≠ 28 ∧ j ≠ 29) w w' → zix w' 14 = some (.inr (11, [.int (Int32.ofInt 0), .ref 15, .ref 16, .ref 17, .ref 18, .ref 19, .ref 20, .ref 21, .ref 22, .int (Int32.ofInt f9), .int (Int32.ofInt f10), .int (Int32.ofInt f11), .int (Int32.ofInt f12), .int (Int32.ofInt f13), .long x14, .int (Int32.ofInt f15), .int (Int32.ofInt f16), .int (Int32.ofInt f17), .ref 23, .ref 24, .int (Int32.ofInt y20), .int (Int32.ofInt f21), .int (Int32.ofInt y22), .int (Int32.ofInt y23), .ref 25, .ref 26, .int (Int32.ofInt y26), .ref 27, .int (Int32.ofInt f28), .ref 28, .ref 29, .int (Int32.ofInt y31), .int (Int32.ofInt y32), .int (Int32.ofInt y33), .ref 30, .ref 31, .ref 32, .ref 33, .int (Int32.ofInt f38), .ref 34, .ref 35, .int (Int32.ofInt f41), .ref 36, .ref 37, .int (Int32.ofInt y44), .ref 38, .ref 39, .ref 40, .ref 41, .ref 42, .ref 43, .ref 44])) → zix w' 25 = some (.inl (1, 7, .inl T25)) → zix w' 26 = some (.inl (1, 7, .inl T26)) → zix w' 27 = some (.inl (1, 49, .inl T27)) → zix w' 28 = some (.inl (1, 4, .inl T28)) → zix w' 29 = some (.inl (1, 5, .inl T29)) → (((a1 < 0 ∨ tBy g19 0 ≤ a1 ∨ a3 < 0 ∨ 60 < a3) ∧ v = -2) ∨ (((0 ≤ a1 ∧ a1 < tBy g19 0) ∧ (0 ≤ a3 ∧ a3 ≤ 60)) ∧ v = csV (tBy g20 (51 * a1 + 0)) (tBy g20 (51 * a1 + 1)) (dwN (rBY g20 (51 * a1)) (tBy g20 (51 * a1 + 0)) (tBy g20 (51 * a1 + 1)) a2 a3.toNat).2 a4)) → Q (some (.int (Int32.ofInt v))) w') : zCl zTab (d + 7) iX12_drawn [.ref 14, .int (Int32.ofInt a1), .int (Int32.ofInt a2), .int (Int32.ofInt a3), .int (Int32.ofInt a4)] w 0 0 Q := by
  refine zCl_i (M := kX12_drawn) rfl (Nat.le_of_ble_eq_true rfl) fun R hR => ?_
  have fr0 : wfM (fun j => j ≠ 14 ∧ j ≠ 25 ∧ j ≠ 26 ∧ j ≠ 27 ∧ j ≠ 28 ∧ j ≠ 29) w w := wfM_rf _ w
  have h190 := hr1 0 (by omega) (by omega)
  have nX0 : FX (∀ j : Nat, (j ≠ 14 ∧ j ≠ 25 ∧ j ≠ 26 ∧ j ≠ 27 ∧ j ≠ 28 ∧ j ≠ 29) → j ≠ 14) := fun j hj => by omega
  have nX1 : FX (∀ j : Nat, (j ≠ 14 ∧ j ≠ 25 ∧ j ≠ 26 ∧ j ≠ 27 ∧ j ≠ 28 ∧ j ≠ 29) → (j ≠ 14)) := fun j hj => by omega
  have nX2 : FX (∀ j : Nat, (j ≠ 14 ∧ j ≠ 25 ∧ j ≠ 26 ∧ j ≠ 27 ∧ j ≠ 28 ∧ j ≠ 29) → (j ≠ 14 ∧ j ≠ 28 ∧ j ≠ 29)) := fun j hj => by omega
  have nX3 : FX (∀ j : Nat, (j ≠ 14 ∧ j ≠ 25 ∧ j ≠ 26 ∧ j ≠ 27 ∧ j ≠ 28 ∧ j ≠ 29) → (j ≠ 25 ∧ j ≠ 26 ∧ j ≠ 27)) := fun j hj => by omega
  have nX4 : FX (∀ j : Nat, (j ≠ 14 ∧ j ≠ 25 ∧ j ≠ 26 ∧ j ≠ 27 ∧ j ≠ 28 ∧ j ≠ 29) → (j ≠ 14 ∧ j ≠ 25 ∧ j ≠ 28 ∧ j ≠ 29)) := fun j hj => by omega
  iterate 2 refine hR (?_ : R (_, _, _, _, _, _))
  refine hR (c_put hK0 rfl rfl fun w1 ff1 hC1 => ?_)
  have fr2 := wfM_st fr0 ff1 nX0
  have hC3 := (ff1.2 19 (by (try dsimp only); decide)).trans hK1
  have hC4 := (ff1.2 20 (by (try dsimp only); decide)).trans hK2
  have hC5 := (ff1.2 25 (by (try dsimp only); decide)).trans hK3
  have hC6 := (ff1.2 26 (by (try dsimp only); decide)).trans hK4
  have hC7 := (ff1.2 27 (by (try dsimp only); decide)).trans hK5
  have hC8 := (ff1.2 28 (by (try dsimp only); decide)).trans hK6
  have hC9 := (ff1.2 29 (by (try dsimp only); decide)).trans hK7
  replace hC1 : zix w1 14 = some (.inr (11, [.int (Int32.ofInt 0), .ref 15, .ref 16, .ref 17, .ref 18, .ref 19, .ref 20, .ref 21, .ref 22, .int (Int32.ofInt f9), .int (Int32.ofInt f10), .int (Int32.ofInt f11), .int (Int32.ofInt f12), .int (Int32.ofInt f13), .long x14, .int (Int32.ofInt f15), .int (Int32.ofInt f16), .int (Int32.ofInt f17), .ref 23, .ref 24, .int (Int32.ofInt f20), .int (Int32.ofInt f21), .int (Int32.ofInt f22), .int (Int32.ofInt f23), .ref 25, .ref 26, .int (Int32.ofInt f26), .ref 27, .int (Int32.ofInt f28), .ref 28, .ref 29, .int (Int32.ofInt f31), .int (Int32.ofInt f32), .int (Int32.ofInt f33), .ref 30, .ref 31, .ref 32, .ref 33, .int (Int32.ofInt f38), .ref 34, .ref 35, .int (Int32.ofInt f41), .ref 36, .ref 37, .int (Int32.ofInt f44), .ref 38, .ref 39, .ref 40, .ref 41, .ref 42, .ref 43, .ref 44])) := hC1
  iterate 2 refine hR (?_ : R (_, _, _, _, _, _))
  refine hR (t_c 60 (by decide) ?_)
  refine hR (zcall_i 0 0 (Nat.le_of_ble_eq_true rfl) (Nat.le_of_ble_eq_true rfl) (m_in _ a3 0 60 _ (by omega) (by omega) (by omega) _ fun v10 hp11 => ?_))
  refine (?_ : R (_, _, .int (Int32.ofInt v10) :: [], w1, 0, 0))
  refine hR (k_eq (by omega) (fun hc12 => ?_) (fun hc12 => ?_))
  · skip
    refine hR (t_c (-2) (by decide) ?_)
    exact hR (zret_i rfl (Nat.le_refl _) trivial (h _ _ _ _ _ _ _ _ _ _ _ _ _ _ _ fr2 hC1 hC5 hC6 hC7 hC8 hC9 (Or.inl ⟨by omega, rfl⟩)))
  iterate 2 refine hR (?_ : R (_, _, _, _, _, _))
  refine hR (c_obj hC1 (zcall_i 0 0 (Nat.le_of_ble_eq_true rfl) (Nat.le_of_ble_eq_true rfl) (x_handR _ _ _ _ _ _ _ _ _ _ _ _ _ _ _ _ _ _ _ _ _ _ _ _ _ _ _ hC1 hC3 hC4 (by omega) hr1 _ fun v13 y20_14 y22_15 y23_16 w17 gg18 hC19 hp20 => ?_)))
  have fr21 := wfM_tr fr2 gg18 nX1
  have hC22 := (gg18.2 19 (by (try dsimp only); decide)).trans hC3
  have hC23 := (gg18.2 20 (by (try dsimp only); decide)).trans hC4
  have hC24 := (gg18.2 25 (by (try dsimp only); decide)).trans hC5
  have hC25 := (gg18.2 26 (by (try dsimp only); decide)).trans hC6
  have hC26 := (gg18.2 27 (by (try dsimp only); decide)).trans hC7
  have hC27 := (gg18.2 28 (by (try dsimp only); decide)).trans hC8
  have hC28 := (gg18.2 29 (by (try dsimp only); decide)).trans hC9
  refine (?_ : R (_, _, .int (Int32.ofInt v13) :: [], w17, 0, 0))
  refine hR (k_ne (by omega) (fun hc29 => ?_) (fun hc29 => ?_))
  rotate_left
  · skip
    refine hR (t_c (-2) (by decide) ?_)
    exact hR (zret_i rfl (Nat.le_refl _) trivial (h _ _ _ _ _ _ _ _ _ _ _ _ _ _ _ fr21 hC19 hC24 hC25 hC26 hC27 hC28 (Or.inl ⟨by omega, rfl⟩)))
  have ht : 0 ≤ a1 ∧ a1 < tBy g19 0 ∧ a1 ≤ 1 := by omega
  have hyy : a1 = y20_14 := by omega
  subst hyy
  have hrb := rbf_of hr2 (show 0 ≤ a1 by omega) ht.2.2
  have e22 : y22_15 = tBy g20 (51 * a1 + 0) := by omega
  have e23 : y23_16 = tBy g20 (51 * a1 + 1) := by omega
  rw [← e22, ← e23] at hrb
  obtain ⟨hBK, hf20, hf22, hf23, hFF⟩ := id hrb
  iterate 2 refine hR (?_ : R (_, _, _, _, _, _))
  refine hR (c_put hC19 rfl rfl fun w30 ff30 hC30 => ?_)
  have fr31 := wfM_st fr21 ff30 nX0
  have hC32 := (ff30.2 19 (by (try dsimp only); decide)).trans hC22
  have hC33 := (ff30.2 20 (by (try dsimp only); decide)).trans hC23
  have hC34 := (ff30.2 25 (by (try dsimp only); decide)).trans hC24
  have hC35 := (ff30.2 26 (by (try dsimp only); decide)).trans hC25
  have hC36 := (ff30.2 27 (by (try dsimp only); decide)).trans hC26
  have hC37 := (ff30.2 28 (by (try dsimp only); decide)).trans hC27
  have hC38 := (ff30.2 29 (by (try dsimp only); decide)).trans hC28
  replace hC30 : zix w30 14 = some (.inr (11, [.int (Int32.ofInt 0), .ref 15, .ref 16, .ref 17, .ref 18, .ref 19, .ref 20, .ref 21, .ref 22, .int (Int32.ofInt f9), .int (Int32.ofInt f10), .int (Int32.ofInt f11), .int (Int32.ofInt f12), .int (Int32.ofInt f13), .long x14, .int (Int32.ofInt f15), .int (Int32.ofInt f16), .int (Int32.ofInt f17), .ref 23, .ref 24, .int (Int32.ofInt a1), .int (Int32.ofInt f21), .int (Int32.ofInt y22_15), .int (Int32.ofInt y23_16), .ref 25, .ref 26, .int (Int32.ofInt f26), .ref 27, .int (Int32.ofInt f28), .ref 28, .ref 29, .int (Int32.ofInt f31), .int (Int32.ofInt f32), .int (Int32.ofInt f33), .ref 30, .ref 31, .ref 32, .ref 33, .int (Int32.ofInt f38), .ref 34, .ref 35, .int (Int32.ofInt f41), .ref 36, .ref 37, .int (Int32.ofInt a2), .ref 38, .ref 39, .ref 40, .ref 41, .ref 42, .ref 43, .ref 44])) := hC30
  refine hR (?_ : R (_, _, _, _, _, _))
  refine hR (c_obj hC30 (zcall_i 0 0 (Nat.le_of_ble_eq_true rfl) (Nat.le_of_ble_eq_true rfl) (x_beginR _ _ _ _ _ _ _ _ _ _ _ _ _ _ _ _ _ _ _ _ _ _ _ _ _ _ hC30 hC37 hC38 (by omega) _ fun Tc_39 Tt_40 w41 gg42 hC43 hC44 hC45 hp46 => ?_)))
  have fr47 := wfM_tr fr31 gg42 nX2
  have hC48 := (gg42.2 19 (by (try dsimp only); decide)).trans hC32
  have hC49 := (gg42.2 20 (by (try dsimp only); decide)).trans hC33
  have hC50 := (gg42.2 25 (by (try dsimp only); decide)).trans hC34
  have hC51 := (gg42.2 26 (by (try dsimp only); decide)).trans hC35
  have hC52 := (gg42.2 27 (by (try dsimp only); decide)).trans hC36
  refine (?_ : R (_, _, [], w41, 0, 0))
  iterate 2 refine hR (?_ : R (_, _, _, _, _, _))
  have lp38 : ∀ (N : Nat) (kk : Int) (d26 d1 d2 d3 d44 : Int) (T0 T1 T2 : Nat → Int32) (w_38 : zW), (wfM (fun j => j ≠ 14 ∧ j ≠ 25 ∧ j ≠ 26 ∧ j ≠ 27 ∧ j ≠ 28 ∧ j ≠ 29) w w_38) → (zix w_38 14 = some (.inr (11, [.int (Int32.ofInt 0), .ref 15, .ref 16, .ref 17, .ref 18, .ref 19, .ref 20, .ref 21, .ref 22, .int (Int32.ofInt f9), .int (Int32.ofInt f10), .int (Int32.ofInt f11), .int (Int32.ofInt f12), .int (Int32.ofInt f13), .long x14, .int (Int32.ofInt f15), .int (Int32.ofInt f16), .int (Int32.ofInt f17), .ref 23, .ref 24, .int (Int32.ofInt a1), .int (Int32.ofInt f21), .int (Int32.ofInt y22_15), .int (Int32.ofInt y23_16), .ref 25, .ref 26, .int (Int32.ofInt d26), .ref 27, .int (Int32.ofInt f28), .ref 28, .ref 29, .int (Int32.ofInt d1), .int (Int32.ofInt d2), .int (Int32.ofInt d3), .ref 30, .ref 31, .ref 32, .ref 33, .int (Int32.ofInt f38), .ref 34, .ref 35, .int (Int32.ofInt f41), .ref 36, .ref 37, .int (Int32.ofInt d44), .ref 38, .ref 39, .ref 40, .ref 41, .ref 42, .ref 43, .ref 44]))) → (zix w_38 19 = some (.inl (1, 12, .inl g19))) → (zix w_38 20 = some (.inl (1, 408, .inl g20))) → (zix w_38 25 = some (.inl (1, 7, .inl T0))) → (zix w_38 26 = some (.inl (1, 7, .inl g26))) → (zix w_38 27 = some (.inl (1, 49, .inl g27))) → (zix w_38 28 = some (.inl (1, 4, .inl T1))) → (zix w_38 29 = some (.inl (1, 5, .inl T2))) → (0 ≤ kk ∧ kk ≤ 60) → (CSR kk (dwN (rBY g20 (51 * a1)) y22_15 y23_16 a2 kk.toNat).2 d1 d2 d3 T1 T2) → (d44 = (dwN (rBY g20 (51 * a1)) y22_15 y23_16 a2 kk.toNat).1) → (kk ≤ a3) → (61 - kk < N) → R (38, [some (.ref 14), some (.int (Int32.ofInt a1)), some (.int (Int32.ofInt a2)), some (.int (Int32.ofInt a3)), some (.int (Int32.ofInt a4)), some (.int (Int32.ofInt kk))], [], w_38, 0, 0) := by
    intro N
    induction N with
    | zero => intros; omega
    | succ N ih38 =>
      intro kk d26 d1 d2 d3 d44 T0 T1 T2 w_38 fr_38 hC14_38 hC19_38 hC20_38 hC25_38 hC26_38 hC27_38 hC28_38 hC29_38 hf0_38 hp0_38 hp1_38 hp2_38 hN38
      iterate 2 refine hR (?_ : R (_, _, _, _, _, _))
      refine hR (j_ge (by omega) (by omega) (fun hc53 => ?_) (fun hc53 => ?_))
      · skip
        iterate 2 refine hR (?_ : R (_, _, _, _, _, _))
        refine hR (c_obj hC14_38 (zcall_i 0 0 (Nat.le_of_ble_eq_true rfl) (Nat.le_of_ble_eq_true rfl) (x_ofStateR _ _ _ _ _ _ _ _ _ _ _ _ _ _ _ _ _ _ _ _ _ _ _ _ _ _ _ _ _ _ _ _ hC14_38 hC25_38 hC26_38 hC27_38 hC28_38 hC29_38 (by omega) hp0_38 (by omega) _ fun v54 T25_55 T26_56 T27_57 w58 gg59 hC60 hC61 hC62 hp63 => ?_)))
        have fr64 := wfM_tr fr_38 gg59 nX3
        have hC65 := (gg59.2 14 (by (try dsimp only); decide)).trans hC14_38
        have hC66 := (gg59.2 19 (by (try dsimp only); decide)).trans hC19_38
        have hC67 := (gg59.2 20 (by (try dsimp only); decide)).trans hC20_38
        have hC68 := (gg59.2 28 (by (try dsimp only); decide)).trans hC28_38
        have hC69 := (gg59.2 29 (by (try dsimp only); decide)).trans hC29_38
        refine (?_ : R (_, _, .int (Int32.ofInt v54) :: [], w58, 0, 0))
        exact hR (zret_i rfl (Nat.le_refl _) trivial (h _ _ _ _ _ _ _ _ _ _ _ _ _ _ _ fr64 hC65 hC60 hC61 hC62 hC68 hC69 (Or.inr ⟨by omega, by rw [← e22, ← e23, show a3 = kk by omega]; exact hp63⟩)))
      refine hR (?_ : R (_, _, _, _, _, _))
      refine hR (c_obj hC14_38 (zcall_i 0 0 (Nat.le_of_ble_eq_true rfl) (Nat.le_of_ble_eq_true rfl) (x_drawDeedR _ _ _ _ _ _ _ _ _ _ _ _ _ _ _ _ _ _ _ _ _ _ _ _ _ _ _ _ _ _ _ hC14_38 hC20_38 hC25_38 hC28_38 hC29_38 hrb hp0_38 (by omega) _ fun y26_70 y31_71 y32_72 y33_73 y44_74 T25_75 Tc_76 Tt_77 w78 gg79 hC80 hC81 hC82 hC83 hp84 => ?_)))
      have fr85 := wfM_tr fr_38 gg79 nX4
      have hC86 := (gg79.2 19 (by (try dsimp only); decide)).trans hC19_38
      have hC87 := (gg79.2 20 (by (try dsimp only); decide)).trans hC20_38
      have hC88 := (gg79.2 26 (by (try dsimp only); decide)).trans hC26_38
      have hC89 := (gg79.2 27 (by (try dsimp only); decide)).trans hC27_38
      refine (?_ : R (_, _, [], w78, 0, 0))
      refine hR (t_inc ?_)
      refine hR (?_ : R (_, _, _, _, _, _))
      exact ih38 _ _ _ _ _ _ _ _ _ _ fr85 hC80 hC86 hC87 hC81 hC88 hC89 hC82 hC83 (by omega) (by rw [dwN_s (by omega)]; have hz := hp84.2; rw [hp1_38] at hz; exact hz) (by rw [dwN_s (by omega)]; have hz := hp84.1; rw [hp1_38] at hz; exact hz) (by omega) (by omega)
  exact lp38 400000000 _ _ _ _ _ _ _ _ _ _ fr47 hC43 hC48 hC49 hC50 hC51 hC52 hC44 hC45 (by omega) (csr_m hp46 (by omega)) rfl (by omega) (by omega)
theorem x_stopR (w : zW) (d : Nat) (a1 a2 : Int) (f0 f9 f10 f11 f12 f13 f15 f16 f17 f20 f21 f22 f23 f26 f28 f31 f32 f33 f38 f41 f44 : Int) (x14 : Int64) (g19 g20 g21 g25 g28 g29 : Nat → Int32) (hK0 : zix w 14 = some (.inr (11, [.int (Int32.ofInt f0), .ref 15, .ref 16, .ref 17, .ref 18, .ref 19, .ref 20, .ref 21, .ref 22, .int (Int32.ofInt f9), .int (Int32.ofInt f10), .int (Int32.ofInt f11), .int (Int32.ofInt f12), .int (Int32.ofInt f13), .long x14, .int (Int32.ofInt f15), .int (Int32.ofInt f16), .int (Int32.ofInt f17), .ref 23, .ref 24, .int (Int32.ofInt f20), .int (Int32.ofInt f21), .int (Int32.ofInt f22), .int (Int32.ofInt f23), .ref 25, .ref 26, .int (Int32.ofInt f26), .ref 27, .int (Int32.ofInt f28), .ref 28, .ref 29, .int (Int32.ofInt f31), .int (Int32.ofInt f32), .int (Int32.ofInt f33), .ref 30, .ref 31, .ref 32, .ref 33, .int (Int32.ofInt f38), .ref 34, .ref 35, .int (Int32.ofInt f41), .ref 36, .ref 37, .int (Int32.ofInt f44), .ref 38, .ref 39, .ref 40, .ref 41, .ref 42, .ref 43, .ref 44]))) (hK1 : zix w 19 = some (.inl (1, 12, .inl g19))) (hK2 : zix w 20 = some (.inl (1, 408, .inl g20))) (hK3 : zix w 21 = some (.inl (1, 968, .inl g21))) (hK4 : zix w 25 = some (.inl (1, 7, .inl g25))) (hK5 : zix w 28 = some (.inl (1, 4, .inl g28))) (hK6 : zix w 29 = some (.inl (1, 5, .inl g29))) (hr0 : (-2147483648 ≤ a1 ∧ a1 ≤ 2147483647) ∧ (-2147483648 ≤ a2 ∧ a2 ≤ 2147483647)) (hr1 : ∀ i : Int, 0 ≤ i → i ≤ 2 → 0 ≤ tBy g19 i ∧ tBy g19 i ≤ 2) (hr2 : bkOK g20) (hr3 : YRQ g19 g21) (Q : zQ) (h : ∀ (v : Int) (y20 y22 y23 y26 y28 y31 y32 y33 : Int) (T25 T28 T29 : Nat → Int32) (w' : zW), wfM (fun j => j ≠ 14 ∧ j ≠ 25 ∧ j ≠ 28 ∧ j ≠ 29) w w' → zix w' 14 = some (.inr (11, [.int (Int32.ofInt 0), .ref 15, .ref 16, .ref 17, .ref 18, .ref 19, .ref 20, .ref 21, .ref 22, .int (Int32.ofInt f9), .int (Int32.ofInt f10), .int (Int32.ofInt f11), .int (Int32.ofInt f12), .int (Int32.ofInt f13), .long x14, .int (Int32.ofInt f15), .int (Int32.ofInt f16), .int (Int32.ofInt f17), .ref 23, .ref 24, .int (Int32.ofInt y20), .int (Int32.ofInt f21), .int (Int32.ofInt y22), .int (Int32.ofInt y23), .ref 25, .ref 26, .int (Int32.ofInt y26), .ref 27, .int (Int32.ofInt y28), .ref 28, .ref 29, .int (Int32.ofInt y31), .int (Int32.ofInt y32), .int (Int32.ofInt y33), .ref 30, .ref 31, .ref 32, .ref 33, .int (Int32.ofInt f38), .ref 34, .ref 35, .int (Int32.ofInt f41), .ref 36, .ref 37, .int (Int32.ofInt f44), .ref 38, .ref 39, .ref 40, .ref 41, .ref 42, .ref 43, .ref 44])) → zix w' 25 = some (.inl (1, 7, .inl T25)) → zix w' 28 = some (.inl (1, 4, .inl T28)) → zix w' 29 = some (.inl (1, 5, .inl T29)) → (((a1 < 0 ∨ tBy g19 0 ≤ a1 ∨ a2 < 0 ∨ tBy g19 1 ≤ a2) ∧ v = -1) ∨ (((0 ≤ a1 ∧ a1 < tBy g19 0) ∧ (0 ≤ a2 ∧ a2 < tBy g19 1)) ∧ DON (rBY g20 (51 * a1)) (tBy g20 (51 * a1 + 0)) (tBy g20 (51 * a1 + 1)) (yK g21 a2 0) (yK g21 a2 1) (yK g21 a2 2) (tBy g21 (121 * a2)) v)) → Q (some (.int (Int32.ofInt v))) w') : zCl zTab (d + 8) iX12_stop [.ref 14, .int (Int32.ofInt a1), .int (Int32.ofInt a2)] w 0 0 Q := by
  refine zCl_i (M := kX12_stop) rfl (Nat.le_of_ble_eq_true rfl) fun R hR => ?_
  have fr0 : wfM (fun j => j ≠ 14 ∧ j ≠ 25 ∧ j ≠ 28 ∧ j ≠ 29) w w := wfM_rf _ w
  have h190 := hr1 0 (by omega) (by omega)
  have nX0 : FX (∀ j : Nat, (j ≠ 14 ∧ j ≠ 25 ∧ j ≠ 28 ∧ j ≠ 29) → j ≠ 14) := fun j hj => by omega
  have nX1 : FX (∀ j : Nat, (j ≠ 14 ∧ j ≠ 25 ∧ j ≠ 28 ∧ j ≠ 29) → (j ≠ 14)) := fun j hj => by omega
  have nX2 : FX (∀ j : Nat, (j ≠ 14 ∧ j ≠ 25 ∧ j ≠ 28 ∧ j ≠ 29) → (j ≠ 14 ∧ j ≠ 25 ∧ j ≠ 28 ∧ j ≠ 29)) := fun j hj => by omega
  iterate 2 refine hR (?_ : R (_, _, _, _, _, _))
  refine hR (c_put hK0 rfl rfl fun w1 ff1 hC1 => ?_)
  have fr2 := wfM_st fr0 ff1 nX0
  have hC3 := (ff1.2 19 (by (try dsimp only); decide)).trans hK1
  have hC4 := (ff1.2 20 (by (try dsimp only); decide)).trans hK2
  have hC5 := (ff1.2 21 (by (try dsimp only); decide)).trans hK3
  have hC6 := (ff1.2 25 (by (try dsimp only); decide)).trans hK4
  have hC7 := (ff1.2 28 (by (try dsimp only); decide)).trans hK5
  have hC8 := (ff1.2 29 (by (try dsimp only); decide)).trans hK6
  replace hC1 : zix w1 14 = some (.inr (11, [.int (Int32.ofInt 0), .ref 15, .ref 16, .ref 17, .ref 18, .ref 19, .ref 20, .ref 21, .ref 22, .int (Int32.ofInt f9), .int (Int32.ofInt f10), .int (Int32.ofInt f11), .int (Int32.ofInt f12), .int (Int32.ofInt f13), .long x14, .int (Int32.ofInt f15), .int (Int32.ofInt f16), .int (Int32.ofInt f17), .ref 23, .ref 24, .int (Int32.ofInt f20), .int (Int32.ofInt f21), .int (Int32.ofInt f22), .int (Int32.ofInt f23), .ref 25, .ref 26, .int (Int32.ofInt f26), .ref 27, .int (Int32.ofInt f28), .ref 28, .ref 29, .int (Int32.ofInt f31), .int (Int32.ofInt f32), .int (Int32.ofInt f33), .ref 30, .ref 31, .ref 32, .ref 33, .int (Int32.ofInt f38), .ref 34, .ref 35, .int (Int32.ofInt f41), .ref 36, .ref 37, .int (Int32.ofInt f44), .ref 38, .ref 39, .ref 40, .ref 41, .ref 42, .ref 43, .ref 44])) := hC1
  iterate 3 refine hR (?_ : R (_, _, _, _, _, _))
  refine hR (c_obj hC1 (zcall_i 0 0 (Nat.le_of_ble_eq_true rfl) (Nat.le_of_ble_eq_true rfl) (x_layAllR _ _ _ _ _ _ _ _ _ _ _ _ _ _ _ _ _ _ _ _ _ _ _ _ _ _ _ _ hC1 hC3 hC4 (by omega) hr1 _ fun v9 y20_10 y22_11 y23_12 y28_13 w14 gg15 hC16 hp17 => ?_)))
  have fr18 := wfM_tr fr2 gg15 nX1
  have hC19 := (gg15.2 19 (by (try dsimp only); decide)).trans hC3
  have hC20 := (gg15.2 20 (by (try dsimp only); decide)).trans hC4
  have hC21 := (gg15.2 21 (by (try dsimp only); decide)).trans hC5
  have hC22 := (gg15.2 25 (by (try dsimp only); decide)).trans hC6
  have hC23 := (gg15.2 28 (by (try dsimp only); decide)).trans hC7
  have hC24 := (gg15.2 29 (by (try dsimp only); decide)).trans hC8
  refine (?_ : R (_, _, .int (Int32.ofInt v9) :: [], w14, 0, 0))
  refine hR (k_eq (by omega) (fun hc25 => ?_) (fun hc25 => ?_))
  · skip
    refine hR (?_ : R (_, _, _, _, _, _))
    exact hR (zret_i rfl (Nat.le_refl _) trivial (h _ _ _ _ _ _ _ _ _ _ _ _ _ fr18 hC16 hC22 hC23 hC24 (Or.inl ⟨by omega, rfl⟩)))
  have ht : (0 ≤ a1 ∧ a1 < tBy g19 0 ∧ a1 ≤ 1) ∧ (0 ≤ a2 ∧ a2 < tBy g19 1 ∧ a2 ≤ 1) := by omega
  have hyy20 : a1 = y20_10 := by omega
  subst hyy20
  have hyy28 : a2 = y28_13 := by omega
  subst hyy28
  have hrb := rbf_of hr2 (show 0 ≤ a1 by omega) ht.1.2.2
  have e22 : y22_11 = tBy g20 (51 * a1 + 0) := by omega
  have e23 : y23_12 = tBy g20 (51 * a1 + 1) := by omega
  rw [← e22, ← e23] at hrb
  obtain ⟨hBK, hf20, hf22, hf23, hFF⟩ := id hrb
  have hyq := hr3 a2 (by omega) (by omega)
  iterate 2 refine hR (?_ : R (_, _, _, _, _, _))
  refine hR (c_obj hC16 (zcall_i 0 0 (Nat.le_of_ble_eq_true rfl) (Nat.le_of_ble_eq_true rfl) (x_deedsR _ _ _ _ _ _ _ _ _ _ _ _ _ _ _ _ _ _ _ _ _ _ _ _ _ hC16 hC21 (by omega) _ fun v26 hp27 => ?_)))
  subst hp27
  refine (?_ : R (_, _, .int (Int32.ofInt (tBy g21 (121 * a2))) :: .ref 14 :: [], w14, 0, 0))
  refine hR (c_obj hC16 (zcall_i 0 0 (Nat.le_of_ble_eq_true rfl) (Nat.le_of_ble_eq_true rfl) (x_playR _ _ _ _ _ _ _ _ _ _ _ _ _ _ _ _ _ _ _ _ _ _ _ _ _ _ _ _ _ _ _ _ _ _ hC16 hC20 hC21 hC22 hC23 hC24 hrb (by omega) (show ∀ i : Int, 0 ≤ i → i < tBy g21 (121 * a2) → (tBy g21 (121 * a2 + 1 + 3 * i + 0) = yK g21 a2 0 i ∧ tBy g21 (121 * a2 + 1 + 3 * i + 1) = yK g21 a2 1 i ∧ tBy g21 (121 * a2 + 1 + 3 * i + 2) = yK g21 a2 2 i) ∧ DOK (yK g21 a2 0 i) (yK g21 a2 1 i) (yK g21 a2 2 i) from fun i i0 i1 => ⟨⟨rfl, rfl, rfl⟩, hyq.2 i i0 (by omega)⟩) _ fun v28 y26_29 y31_30 y32_31 y33_32 T25_33 Tc_34 Tt_35 w36 gg37 hC38 hC39 hC40 hC41 hp42 hp43 => ?_)))
  have fr44 := wfM_tr fr18 gg37 nX2
  have hC45 := (gg37.2 19 (by (try dsimp only); decide)).trans hC19
  have hC46 := (gg37.2 20 (by (try dsimp only); decide)).trans hC20
  have hC47 := (gg37.2 21 (by (try dsimp only); decide)).trans hC21
  refine (?_ : R (_, _, .int (Int32.ofInt v28) :: [], w36, 0, 0))
  obtain ⟨hd0, -, hd1⟩ := id hp42
  refine hR (?_ : R (_, _, _, _, _, _))
  exact hR (zret_i rfl (Nat.le_refl _) trivial (h _ _ _ _ _ _ _ _ _ _ _ _ _ fr44 hC38 hC39 hC40 hC41 (Or.inr ⟨by omega, by rw [← e22, ← e23]; exact hp42⟩)))
theorem x_stateR (w : zW) (d : Nat) (a1 a2 a3 a4 : Int) (f0 f9 f10 f11 f12 f13 f15 f16 f17 f20 f21 f22 f23 f26 f28 f31 f32 f33 f38 f41 f44 : Int) (x14 : Int64) (g19 g20 g21 g25 g26 g27 g28 g29 : Nat → Int32) (hK0 : zix w 14 = some (.inr (11, [.int (Int32.ofInt f0), .ref 15, .ref 16, .ref 17, .ref 18, .ref 19, .ref 20, .ref 21, .ref 22, .int (Int32.ofInt f9), .int (Int32.ofInt f10), .int (Int32.ofInt f11), .int (Int32.ofInt f12), .int (Int32.ofInt f13), .long x14, .int (Int32.ofInt f15), .int (Int32.ofInt f16), .int (Int32.ofInt f17), .ref 23, .ref 24, .int (Int32.ofInt f20), .int (Int32.ofInt f21), .int (Int32.ofInt f22), .int (Int32.ofInt f23), .ref 25, .ref 26, .int (Int32.ofInt f26), .ref 27, .int (Int32.ofInt f28), .ref 28, .ref 29, .int (Int32.ofInt f31), .int (Int32.ofInt f32), .int (Int32.ofInt f33), .ref 30, .ref 31, .ref 32, .ref 33, .int (Int32.ofInt f38), .ref 34, .ref 35, .int (Int32.ofInt f41), .ref 36, .ref 37, .int (Int32.ofInt f44), .ref 38, .ref 39, .ref 40, .ref 41, .ref 42, .ref 43, .ref 44]))) (hK1 : zix w 19 = some (.inl (1, 12, .inl g19))) (hK2 : zix w 20 = some (.inl (1, 408, .inl g20))) (hK3 : zix w 21 = some (.inl (1, 968, .inl g21))) (hK4 : zix w 25 = some (.inl (1, 7, .inl g25))) (hK5 : zix w 26 = some (.inl (1, 7, .inl g26))) (hK6 : zix w 27 = some (.inl (1, 49, .inl g27))) (hK7 : zix w 28 = some (.inl (1, 4, .inl g28))) (hK8 : zix w 29 = some (.inl (1, 5, .inl g29))) (hr0 : (-2147483648 ≤ a1 ∧ a1 ≤ 2147483647) ∧ (-2147483648 ≤ a2 ∧ a2 ≤ 2147483647) ∧ (-2147483648 ≤ a3 ∧ a3 ≤ 2147483647) ∧ (-2147483648 ≤ a4 ∧ a4 ≤ 2147483647)) (hr1 : ∀ i : Int, 0 ≤ i → i ≤ 2 → 0 ≤ tBy g19 i ∧ tBy g19 i ≤ 2) (hr2 : bkOK g20) (hr3 : YRQ g19 g21) (Q : zQ) (h : ∀ (v : Int) (y20 y22 y23 y26 y28 y31 y32 y33 : Int) (T25 T26 T27 T28 T29 : Nat → Int32) (w' : zW), wfM (fun j => j ≠ 14 ∧ j ≠ 25 ∧ j ≠ 26 ∧ j ≠ 27 ∧ j ≠ 28 ∧ j ≠ 29) w w' → zix w' 14 = some (.inr (11, [.int (Int32.ofInt 0), .ref 15, .ref 16, .ref 17, .ref 18, .ref 19, .ref 20, .ref 21, .ref 22, .int (Int32.ofInt f9), .int (Int32.ofInt f10), .int (Int32.ofInt f11), .int (Int32.ofInt f12), .int (Int32.ofInt f13), .long x14, .int (Int32.ofInt f15), .int (Int32.ofInt f16), .int (Int32.ofInt f17), .ref 23, .ref 24, .int (Int32.ofInt y20), .int (Int32.ofInt f21), .int (Int32.ofInt y22), .int (Int32.ofInt y23), .ref 25, .ref 26, .int (Int32.ofInt y26), .ref 27, .int (Int32.ofInt y28), .ref 28, .ref 29, .int (Int32.ofInt y31), .int (Int32.ofInt y32), .int (Int32.ofInt y33), .ref 30, .ref 31, .ref 32, .ref 33, .int (Int32.ofInt f38), .ref 34, .ref 35, .int (Int32.ofInt f41), .ref 36, .ref 37, .int (Int32.ofInt f44), .ref 38, .ref 39, .ref 40, .ref 41, .ref 42, .ref 43, .ref 44])) → zix w' 25 = some (.inl (1, 7, .inl T25)) → zix w' 26 = some (.inl (1, 7, .inl T26)) → zix w' 27 = some (.inl (1, 49, .inl T27)) → zix w' 28 = some (.inl (1, 4, .inl T28)) → zix w' 29 = some (.inl (1, 5, .inl T29)) → ((((a1 < 0 ∨ tBy g19 0 ≤ a1 ∨ a2 < 0 ∨ tBy g19 1 ≤ a2) ∨ (((0 ≤ a1 ∧ a1 < tBy g19 0) ∧ (0 ≤ a2 ∧ a2 < tBy g19 1)) ∧ (a3 < 0 ∨ tBy g21 (121 * a2) < a3))) ∧ v = -2) ∨ (((0 ≤ a1 ∧ a1 < tBy g19 0) ∧ (0 ≤ a2 ∧ a2 < tBy g19 1)) ∧ (0 ≤ a3 ∧ a3 ≤ tBy g21 (121 * a2)) ∧ ∃ k : Int, DON (rBY g20 (51 * a1)) (tBy g20 (51 * a1 + 0)) (tBy g20 (51 * a1 + 1)) (yK g21 a2 0) (yK g21 a2 1) (yK g21 a2 2) a3 k ∧ v = if k = a3 then csV (tBy g20 (51 * a1 + 0)) (tBy g20 (51 * a1 + 1)) (csN (rBY g20 (51 * a1)) (tBy g20 (51 * a1 + 0)) (tBy g20 (51 * a1 + 1)) (yK g21 a2 0) (yK g21 a2 1) (yK g21 a2 2) a3.toNat) a4 else -2)) → Q (some (.int (Int32.ofInt v))) w') : zCl zTab (d + 8) iX12_state [.ref 14, .int (Int32.ofInt a1), .int (Int32.ofInt a2), .int (Int32.ofInt a3), .int (Int32.ofInt a4)] w 0 0 Q := by
  refine zCl_i (M := kX12_state) rfl (Nat.le_of_ble_eq_true rfl) fun R hR => ?_
  have fr0 : wfM (fun j => j ≠ 14 ∧ j ≠ 25 ∧ j ≠ 26 ∧ j ≠ 27 ∧ j ≠ 28 ∧ j ≠ 29) w w := wfM_rf _ w
  have h190 := hr1 0 (by omega) (by omega)
  have nX0 : FX (∀ j : Nat, (j ≠ 14 ∧ j ≠ 25 ∧ j ≠ 26 ∧ j ≠ 27 ∧ j ≠ 28 ∧ j ≠ 29) → j ≠ 14) := fun j hj => by omega
  have nX1 : FX (∀ j : Nat, (j ≠ 14 ∧ j ≠ 25 ∧ j ≠ 26 ∧ j ≠ 27 ∧ j ≠ 28 ∧ j ≠ 29) → (j ≠ 14)) := fun j hj => by omega
  have nX2 : FX (∀ j : Nat, (j ≠ 14 ∧ j ≠ 25 ∧ j ≠ 26 ∧ j ≠ 27 ∧ j ≠ 28 ∧ j ≠ 29) → (j ≠ 14 ∧ j ≠ 25 ∧ j ≠ 28 ∧ j ≠ 29)) := fun j hj => by omega
  have nX3 : FX (∀ j : Nat, (j ≠ 14 ∧ j ≠ 25 ∧ j ≠ 26 ∧ j ≠ 27 ∧ j ≠ 28 ∧ j ≠ 29) → (j ≠ 25 ∧ j ≠ 26 ∧ j ≠ 27)) := fun j hj => by omega
  iterate 2 refine hR (?_ : R (_, _, _, _, _, _))
  refine hR (c_put hK0 rfl rfl fun w1 ff1 hC1 => ?_)
  have fr2 := wfM_st fr0 ff1 nX0
  have hC3 := (ff1.2 19 (by (try dsimp only); decide)).trans hK1
  have hC4 := (ff1.2 20 (by (try dsimp only); decide)).trans hK2
  have hC5 := (ff1.2 21 (by (try dsimp only); decide)).trans hK3
  have hC6 := (ff1.2 25 (by (try dsimp only); decide)).trans hK4
  have hC7 := (ff1.2 26 (by (try dsimp only); decide)).trans hK5
  have hC8 := (ff1.2 27 (by (try dsimp only); decide)).trans hK6
  have hC9 := (ff1.2 28 (by (try dsimp only); decide)).trans hK7
  have hC10 := (ff1.2 29 (by (try dsimp only); decide)).trans hK8
  replace hC1 : zix w1 14 = some (.inr (11, [.int (Int32.ofInt 0), .ref 15, .ref 16, .ref 17, .ref 18, .ref 19, .ref 20, .ref 21, .ref 22, .int (Int32.ofInt f9), .int (Int32.ofInt f10), .int (Int32.ofInt f11), .int (Int32.ofInt f12), .int (Int32.ofInt f13), .long x14, .int (Int32.ofInt f15), .int (Int32.ofInt f16), .int (Int32.ofInt f17), .ref 23, .ref 24, .int (Int32.ofInt f20), .int (Int32.ofInt f21), .int (Int32.ofInt f22), .int (Int32.ofInt f23), .ref 25, .ref 26, .int (Int32.ofInt f26), .ref 27, .int (Int32.ofInt f28), .ref 28, .ref 29, .int (Int32.ofInt f31), .int (Int32.ofInt f32), .int (Int32.ofInt f33), .ref 30, .ref 31, .ref 32, .ref 33, .int (Int32.ofInt f38), .ref 34, .ref 35, .int (Int32.ofInt f41), .ref 36, .ref 37, .int (Int32.ofInt f44), .ref 38, .ref 39, .ref 40, .ref 41, .ref 42, .ref 43, .ref 44])) := hC1
  iterate 3 refine hR (?_ : R (_, _, _, _, _, _))
  refine hR (c_obj hC1 (zcall_i 0 0 (Nat.le_of_ble_eq_true rfl) (Nat.le_of_ble_eq_true rfl) (x_layAllR _ _ _ _ _ _ _ _ _ _ _ _ _ _ _ _ _ _ _ _ _ _ _ _ _ _ _ _ hC1 hC3 hC4 (by omega) hr1 _ fun v11 y20_12 y22_13 y23_14 y28_15 w16 gg17 hC18 hp19 => ?_)))
  have fr20 := wfM_tr fr2 gg17 nX1
  have hC21 := (gg17.2 19 (by (try dsimp only); decide)).trans hC3
  have hC22 := (gg17.2 20 (by (try dsimp only); decide)).trans hC4
  have hC23 := (gg17.2 21 (by (try dsimp only); decide)).trans hC5
  have hC24 := (gg17.2 25 (by (try dsimp only); decide)).trans hC6
  have hC25 := (gg17.2 26 (by (try dsimp only); decide)).trans hC7
  have hC26 := (gg17.2 27 (by (try dsimp only); decide)).trans hC8
  have hC27 := (gg17.2 28 (by (try dsimp only); decide)).trans hC9
  have hC28 := (gg17.2 29 (by (try dsimp only); decide)).trans hC10
  refine (?_ : R (_, _, .int (Int32.ofInt v11) :: [], w16, 0, 0))
  refine hR (k_eq (by omega) (fun hc29 => ?_) (fun hc29 => ?_))
  · skip
    refine hR (t_c (-2) (by decide) ?_)
    exact hR (zret_i rfl (Nat.le_refl _) trivial (h _ _ _ _ _ _ _ _ _ _ _ _ _ _ _ fr20 hC18 hC24 hC25 hC26 hC27 hC28 (Or.inl ⟨Or.inl (by omega), rfl⟩)))
  have ht : (0 ≤ a1 ∧ a1 < tBy g19 0 ∧ a1 ≤ 1) ∧ (0 ≤ a2 ∧ a2 < tBy g19 1 ∧ a2 ≤ 1) := by omega
  have hyy20 : a1 = y20_12 := by omega
  subst hyy20
  have hyy28 : a2 = y28_15 := by omega
  subst hyy28
  have hrb := rbf_of hr2 (show 0 ≤ a1 by omega) ht.1.2.2
  have e22 : y22_13 = tBy g20 (51 * a1 + 0) := by omega
  have e23 : y23_14 = tBy g20 (51 * a1 + 1) := by omega
  rw [← e22, ← e23] at hrb
  obtain ⟨hBK, hf20, hf22, hf23, hFF⟩ := id hrb
  have hyq := hr3 a2 (by omega) (by omega)
  iterate 3 refine hR (?_ : R (_, _, _, _, _, _))
  refine hR (c_obj hC18 (zcall_i 0 0 (Nat.le_of_ble_eq_true rfl) (Nat.le_of_ble_eq_true rfl) (x_deedsR _ _ _ _ _ _ _ _ _ _ _ _ _ _ _ _ _ _ _ _ _ _ _ _ _ hC18 hC23 (by omega) _ fun v30 hp31 => ?_)))
  subst hp31
  refine (?_ : R (_, _, .int (Int32.ofInt (tBy g21 (121 * a2))) :: .int (Int32.ofInt 0) :: .int (Int32.ofInt a3) :: [], w16, 0, 0))
  refine hR (zcall_i 0 0 (Nat.le_of_ble_eq_true rfl) (Nat.le_of_ble_eq_true rfl) (m_in _ a3 0 (tBy g21 (121 * a2)) _ (by omega) (by omega) (by omega) _ fun v32 hp33 => ?_))
  refine (?_ : R (_, _, .int (Int32.ofInt v32) :: [], w16, 0, 0))
  refine hR (k_eq (by omega) (fun hc34 => ?_) (fun hc34 => ?_))
  · skip
    refine hR (t_c (-2) (by decide) ?_)
    exact hR (zret_i rfl (Nat.le_refl _) trivial (h _ _ _ _ _ _ _ _ _ _ _ _ _ _ _ fr20 hC18 hC24 hC25 hC26 hC27 hC28 (Or.inl ⟨Or.inr ⟨by omega, by omega⟩, rfl⟩)))
  iterate 2 refine hR (?_ : R (_, _, _, _, _, _))
  refine hR (c_obj hC18 (zcall_i 0 0 (Nat.le_of_ble_eq_true rfl) (Nat.le_of_ble_eq_true rfl) (x_playR _ _ _ _ _ _ _ _ _ _ _ _ _ _ _ _ _ _ _ _ _ _ _ _ _ _ _ _ _ _ _ _ _ _ hC18 hC22 hC23 hC24 hC27 hC28 hrb (by omega) (show ∀ i : Int, 0 ≤ i → i < a3 → (tBy g21 (121 * a2 + 1 + 3 * i + 0) = yK g21 a2 0 i ∧ tBy g21 (121 * a2 + 1 + 3 * i + 1) = yK g21 a2 1 i ∧ tBy g21 (121 * a2 + 1 + 3 * i + 2) = yK g21 a2 2 i) ∧ DOK (yK g21 a2 0 i) (yK g21 a2 1 i) (yK g21 a2 2 i) from fun i i0 i1 => ⟨⟨rfl, rfl, rfl⟩, hyq.2 i i0 (by omega)⟩) _ fun v35 y26_36 y31_37 y32_38 y33_39 T25_40 Tc_41 Tt_42 w43 gg44 hC45 hC46 hC47 hC48 hp49 hp50 => ?_)))
  have fr51 := wfM_tr fr20 gg44 nX2
  have hC52 := (gg44.2 19 (by (try dsimp only); decide)).trans hC21
  have hC53 := (gg44.2 20 (by (try dsimp only); decide)).trans hC22
  have hC54 := (gg44.2 21 (by (try dsimp only); decide)).trans hC23
  have hC55 := (gg44.2 26 (by (try dsimp only); decide)).trans hC25
  have hC56 := (gg44.2 27 (by (try dsimp only); decide)).trans hC26
  refine (?_ : R (_, _, .int (Int32.ofInt v35) :: [], w43, 0, 0))
  obtain ⟨hd0, -, hd1⟩ := id hp49
  refine hR (?_ : R (_, _, _, _, _, _))
  refine hR (j_ne (by omega) (by omega) (fun hc57 => ?_) (fun hc57 => ?_))
  · skip
    refine hR (t_c (-2) (by decide) ?_)
    exact hR (zret_i rfl (Nat.le_refl _) trivial (h _ _ _ _ _ _ _ _ _ _ _ _ _ _ _ fr51 hC45 hC46 hC55 hC56 hC47 hC48 (Or.inr ⟨by omega, by omega, v35, by rw [← e22, ← e23]; exact hp49, by rw [if_neg (by omega)]⟩)))
  have hcs := hp50 (by omega)
  iterate 2 refine hR (?_ : R (_, _, _, _, _, _))
  refine hR (c_obj hC45 (zcall_i 0 0 (Nat.le_of_ble_eq_true rfl) (Nat.le_of_ble_eq_true rfl) (x_ofStateR _ _ _ _ _ _ _ _ _ _ _ _ _ _ _ _ _ _ _ _ _ _ _ _ _ _ _ _ _ _ _ _ hC45 hC46 hC55 hC56 hC47 hC48 (by omega) hcs (by omega) _ fun v58 T25_59 T26_60 T27_61 w62 gg63 hC64 hC65 hC66 hp67 => ?_)))
  have fr68 := wfM_tr fr51 gg63 nX3
  have hC69 := (gg63.2 14 (by (try dsimp only); decide)).trans hC45
  have hC70 := (gg63.2 19 (by (try dsimp only); decide)).trans hC52
  have hC71 := (gg63.2 20 (by (try dsimp only); decide)).trans hC53
  have hC72 := (gg63.2 21 (by (try dsimp only); decide)).trans hC54
  have hC73 := (gg63.2 28 (by (try dsimp only); decide)).trans hC47
  have hC74 := (gg63.2 29 (by (try dsimp only); decide)).trans hC48
  refine (?_ : R (_, _, .int (Int32.ofInt v58) :: [], w62, 0, 0))
  refine hR (?_ : R (_, _, _, _, _, _))
  exact hR (zret_i rfl (Nat.le_refl _) trivial (h _ _ _ _ _ _ _ _ _ _ _ _ _ _ _ fr68 hC69 hC64 hC65 hC66 hC73 hC74 (Or.inr ⟨by omega, by omega, v35, by rw [← e22, ← e23]; exact hp49, by rw [if_pos (by omega), ← e22, ← e23]; exact hp67⟩)))
