/-! APART, by places. -/
noncomputable def edI (a b i k : Int) : Int := ((eD (tW a.toNat) (tW b.toNat) i.toNat k.toNat : Nat) : Int)
theorem edI_0 {a b k : Int} (h : 0 ≤ k) : edI a b 0 k = k := by
  unfold edI
  rw [show (0 : Int).toNat = 0 from rfl, eD_0]
  omega
theorem edI_z {a b i : Int} (h : 0 ≤ i) : edI a b i 0 = i := by
  unfold edI
  rw [show (0 : Int).toNat = 0 from rfl, eD_z]
  omega
theorem edI_r {a b i k : Int} (h0 : 0 ≤ i) (h1 : i ≤ 6) (h2 : 0 ≤ k) (h3 : k ≤ 6) : 0 ≤ edI a b i k ∧ edI a b i k ≤ 12 := by
  have := eD_le (tW a.toNat) (tW b.toNat) i.toNat k.toNat
  unfold edI
  omega
theorem edI_s {a b i k x : Int} (h0 : 0 < i) (h1 : 0 < k) (hx : (((tW a.toNat (i - 1).toNat : Nat) : Int) = ((tW b.toNat (k - 1).toNat : Nat) : Int) ∧ x = 0) ∨ (((tW a.toNat (i - 1).toNat : Nat) : Int) ≠ ((tW b.toNat (k - 1).toNat : Nat) : Int) ∧ x = 1)) : edI a b i k ≤ edI a b (i - 1) (k - 1) + x ∧ edI a b i k ≤ 1 + edI a b (i - 1) k ∧ edI a b i k ≤ 1 + edI a b i (k - 1) ∧ (edI a b i k = edI a b (i - 1) (k - 1) + x ∨ edI a b i k = 1 + edI a b (i - 1) k ∨ edI a b i k = 1 + edI a b i (k - 1)) := by
  unfold edI
  obtain ⟨i', hi⟩ : ∃ i', i.toNat = i' + 1 := ⟨i.toNat - 1, by omega⟩
  obtain ⟨k', hk⟩ : ∃ k', k.toNat = k' + 1 := ⟨k.toNat - 1, by omega⟩
  rw [show (i - 1).toNat = i' by omega, show (k - 1).toNat = k' by omega] at *
  have e := eD_s (tW a.toNat) (tW b.toNat) i' k'
  have hd : x = ((ed1 (tW a.toNat i') (tW b.toNat k') : Nat) : Int) := by
    rcases hx with ⟨z, hz⟩ | ⟨z, hz⟩
    · rw [hz, show ed1 (tW a.toNat i') (tW b.toNat k') = 0 from if_pos (by omega)]
      rfl
    · rw [hz, show ed1 (tW a.toNat i') (tW b.toNat k') = 1 from if_neg (by omega)]
      rfl
  rw [hi, hk, hd, e]
  omega
theorem twI {a i : Int} (h0 : 0 ≤ i) (h1 : i < (tLen a.toNat : Int)) {x : Int} (h : x = ((dg (tB a.toNat) (tLen a.toNat - 1 - i.toNat) : Nat) : Int)) : x = ((tW a.toNat i.toNat : Nat) : Int) := by
  rw [h]
  unfold dg
  rw [tB_w _ _ (by omega)]
theorem x_hasR (w : zW) (d : Nat) (a1 a2 : Int)   (Q : zQ) (h : ∀ (v : Int), ((hHas a1 a2 = 1 ∧ v = 1) ∨ (hHas a1 a2 ≠ 1 ∧ v = 0)) → Q (some (.int (Int32.ofInt v))) w) : zCl zTab (d + 1) iX12_has [.int (Int32.ofInt a1), .int (Int32.ofInt a2)] w 0 0 Q := by
  refine zCl_i (M := kX12_has) rfl (Nat.le_of_ble_eq_true rfl) fun R hR => ?_
  iterate 2 refine hR (?_ : R (_, _, _, _, _, _))
  refine hR (t_c (bShr a1 a2) (zoi _).symm ?_)
  have hbt1 : r32 (bShr a1 a2) := zrg _
  refine hR (?_ : R (_, _, _, _, _, _))
  refine hR (t_c (bAnd (bShr a1 a2) 1) (zoi _).symm ?_)
  have hbt2 : r32 (bAnd (bShr a1 a2) 1) := zrg _
  refine hR (?_ : R (_, _, _, _, _, _))
  refine hR (j_ne (by omega) (by omega) (fun hc3 => ?_) (fun hc3 => ?_))
  · skip
    refine hR (?_ : R (_, _, _, _, _, _))
    exact hR (zret_i rfl (Nat.le_refl _) (zbo (by omega)) (h _ (by unfold hHas; omega)))
  iterate 2 refine hR (?_ : R (_, _, _, _, _, _))
  exact hR (zret_i rfl (Nat.le_refl _) (zbo (by omega)) (h _ (by unfold hHas; omega)))
theorem x_apartR (w : zW) (d : Nat) (a1 a2 : Int) (f0 f9 f10 f11 f12 f13 f15 f16 f17 f20 f21 f22 f23 f26 f28 f31 f32 f33 f38 f41 f44 : Int) (x14 : Int64) (g25 g26 g27 : Nat → Int32) (hK0 : zix w 14 = some (.inr (11, [.int (Int32.ofInt f0), .ref 15, .ref 16, .ref 17, .ref 18, .ref 19, .ref 20, .ref 21, .ref 22, .int (Int32.ofInt f9), .int (Int32.ofInt f10), .int (Int32.ofInt f11), .int (Int32.ofInt f12), .int (Int32.ofInt f13), .long x14, .int (Int32.ofInt f15), .int (Int32.ofInt f16), .int (Int32.ofInt f17), .ref 23, .ref 24, .int (Int32.ofInt f20), .int (Int32.ofInt f21), .int (Int32.ofInt f22), .int (Int32.ofInt f23), .ref 25, .ref 26, .int (Int32.ofInt f26), .ref 27, .int (Int32.ofInt f28), .ref 28, .ref 29, .int (Int32.ofInt f31), .int (Int32.ofInt f32), .int (Int32.ofInt f33), .ref 30, .ref 31, .ref 32, .ref 33, .int (Int32.ofInt f38), .ref 34, .ref 35, .int (Int32.ofInt f41), .ref 36, .ref 37, .int (Int32.ofInt f44), .ref 38, .ref 39, .ref 40, .ref 41, .ref 42, .ref 43, .ref 44]))) (hK1 : zix w 25 = some (.inl (1, 7, .inl g25))) (hK2 : zix w 26 = some (.inl (1, 7, .inl g26))) (hK3 : zix w 27 = some (.inl (1, 49, .inl g27))) (hr0 : 0 ≤ a1 ∧ a1 ≤ 5460) (hr1 : 0 ≤ a2 ∧ a2 ≤ 5460) (Q : zQ) (h : ∀ (v : Int) (T25 T26 T27 : Nat → Int32) (w' : zW), wfM (fun j => j ≠ 25 ∧ j ≠ 26 ∧ j ≠ 27) w w' → zix w' 25 = some (.inl (1, 7, .inl T25)) → zix w' 26 = some (.inl (1, 7, .inl T26)) → zix w' 27 = some (.inl (1, 49, .inl T27)) → (v = dft a1 a2) → Q (some (.int (Int32.ofInt v))) w') : zCl zTab (d + 4) iX12_apart [.ref 14, .int (Int32.ofInt a1), .int (Int32.ofInt a2)] w 0 0 Q := by
  refine zCl_i (M := kX12_apart) rfl (Nat.le_of_ble_eq_true rfl) fun R hR => ?_
  have fr0 : wfM (fun j => j ≠ 25 ∧ j ≠ 26 ∧ j ≠ 27) w w := wfM_rf _ w
  have nX0 : FX (∀ j : Nat, (j ≠ 25 ∧ j ≠ 26 ∧ j ≠ 27) → (j ≠ 25)) := fun j hj => by omega
  have nX1 : FX (∀ j : Nat, (j ≠ 25 ∧ j ≠ 26 ∧ j ≠ 27) → (j ≠ 26)) := fun j hj => by omega
  have nX2 : FX (∀ j : Nat, (j ≠ 25 ∧ j ≠ 26 ∧ j ≠ 27) → j ≠ 27) := fun j hj => by omega
  refine hR (?_ : R (_, _, _, _, _, _))
  refine hR (zcall_i 0 0 (Nat.le_of_ble_eq_true rfl) (Nat.le_of_ble_eq_true rfl) (m_sizeOf _ a1 _ (by omega) _ fun v1 hp2 hhp2 => ?_))
  refine (?_ : R (_, _, .int (Int32.ofInt v1) :: [], w, 0, 0))
  iterate 2 refine hR (?_ : R (_, _, _, _, _, _))
  refine hR (zcall_i 0 0 (Nat.le_of_ble_eq_true rfl) (Nat.le_of_ble_eq_true rfl) (m_sizeOf _ a2 _ (by omega) _ fun v3 hp4 hhp4 => ?_))
  refine (?_ : R (_, _, .int (Int32.ofInt v3) :: [], w, 0, 0))
  iterate 3 refine hR (?_ : R (_, _, _, _, _, _))
  refine hR (c_get hK0 rfl ?_)
  refine hR (zcall_i 0 0 (Nat.le_of_ble_eq_true rfl) (Nat.le_of_ble_eq_true rfl) (x_spellR _ _ _ _ _ hK1 (by omega) _ fun T'_5 w6 gg7 hC8 hp9 => ?_))
  have fr10 := wfM_tr fr0 gg7 nX0
  have hC11 := (gg7.2 14 (by (try dsimp only); decide)).trans hK0
  have hC12 := (gg7.2 26 (by (try dsimp only); decide)).trans hK2
  have hC13 := (gg7.2 27 (by (try dsimp only); decide)).trans hK3
  refine (?_ : R (_, _, [], w6, 0, 0))
  iterate 2 refine hR (?_ : R (_, _, _, _, _, _))
  refine hR (c_get hC11 rfl ?_)
  refine hR (zcall_i 0 0 (Nat.le_of_ble_eq_true rfl) (Nat.le_of_ble_eq_true rfl) (x_spellR _ _ _ _ _ hC12 (by omega) _ fun T'_14 w15 gg16 hC17 hp18 => ?_))
  have fr19 := wfM_tr fr10 gg16 nX1
  have hC20 := (gg16.2 14 (by (try dsimp only); decide)).trans hC11
  have hC21 := (gg16.2 25 (by (try dsimp only); decide)).trans hC8
  have hC22 := (gg16.2 27 (by (try dsimp only); decide)).trans hC13
  refine (?_ : R (_, _, [], w15, 0, 0))
  iterate 2 refine hR (?_ : R (_, _, _, _, _, _))
  have lp30 : ∀ (N : Nat) (ii : Int) (o6_30 : Option Value) (o7_30 : Option Value) (T2 : Nat → Int32) (w_30 : zW), (zc2 o6_30 = false) → (zc2 o7_30 = false) → (wfM (fun j => j ≠ 25 ∧ j ≠ 26 ∧ j ≠ 27) w w_30) → (zix w_30 14 = some (.inr (11, [.int (Int32.ofInt f0), .ref 15, .ref 16, .ref 17, .ref 18, .ref 19, .ref 20, .ref 21, .ref 22, .int (Int32.ofInt f9), .int (Int32.ofInt f10), .int (Int32.ofInt f11), .int (Int32.ofInt f12), .int (Int32.ofInt f13), .long x14, .int (Int32.ofInt f15), .int (Int32.ofInt f16), .int (Int32.ofInt f17), .ref 23, .ref 24, .int (Int32.ofInt f20), .int (Int32.ofInt f21), .int (Int32.ofInt f22), .int (Int32.ofInt f23), .ref 25, .ref 26, .int (Int32.ofInt f26), .ref 27, .int (Int32.ofInt f28), .ref 28, .ref 29, .int (Int32.ofInt f31), .int (Int32.ofInt f32), .int (Int32.ofInt f33), .ref 30, .ref 31, .ref 32, .ref 33, .int (Int32.ofInt f38), .ref 34, .ref 35, .int (Int32.ofInt f41), .ref 36, .ref 37, .int (Int32.ofInt f44), .ref 38, .ref 39, .ref 40, .ref 41, .ref 42, .ref 43, .ref 44]))) → (zix w_30 25 = some (.inl (1, 7, .inl T'_5))) → (zix w_30 26 = some (.inl (1, 7, .inl T'_14))) → (zix w_30 27 = some (.inl (1, 49, .inl T2))) → (0 ≤ ii ∧ ii ≤ 7) → (∀ i k : Int, 0 ≤ i → i < ii → 0 ≤ k → k ≤ v3 → tBy T2 (7 * i + k) = edI a1 a2 i k) → (ii ≤ (tLen a1.toNat : Int) + 1) → (8 - ii < N) → R (30, [some (.ref 14), some (.int (Int32.ofInt a1)), some (.int (Int32.ofInt a2)), some (.int (Int32.ofInt v1)), some (.int (Int32.ofInt v3)), some (.int (Int32.ofInt ii)), o6_30, o7_30], [], w_30, 0, 0) := by
    intro N
    induction N with
    | zero => intros; omega
    | succ N ih30 =>
      intro ii o6_30 o7_30 T2 w_30 hzo6_30 hzo7_30 fr_30 hC14_30 hC25_30 hC26_30 hC27_30 hf0_30 hp0_30 hp1_30 hN30
      iterate 2 refine hR (?_ : R (_, _, _, _, _, _))
      refine hR (j_gt (by omega) (by omega) (fun hc23 => ?_) (fun hc23 => ?_))
      · skip
        refine hR (?_ : R (_, _, _, _, _, _))
        refine hR (c_get hC14_30 rfl ?_)
        refine hR (t_c 7 (by decide) ?_)
        refine hR (?_ : R (_, _, _, _, _, _))
        refine hR (t_mul ?_)
        refine hR (?_ : R (_, _, _, _, _, _))
        refine hR (t_add ?_)
        refine hR (c_aldE hC27_30 (by omega) (by omega) (Nat.le_of_ble_eq_true rfl) fun v24 ev24 rv24 => ?_)
        replace ev24 : v24 = tBy T2 ((7 * v1) + v3) := ev24
        subst ev24
        exact hR (zret_i rfl (Nat.le_refl _) trivial (h _ _ _ _ _ fr_30 hC25_30 hC26_30 hC27_30 (by rw [hp0_30 _ _ (by omega) (by omega) (by omega) (by omega)]; unfold edI dft; congr 2 <;> omega)))
      iterate 2 refine hR (?_ : R (_, _, _, _, _, _))
      have lp39 : ∀ (N : Nat) (kk : Int) (o7_39 : Option Value) (T3 : Nat → Int32) (w_39 : zW), (zc2 o7_39 = false) → (wfM (fun j => j ≠ 25 ∧ j ≠ 26 ∧ j ≠ 27) w w_39) → (zix w_39 14 = some (.inr (11, [.int (Int32.ofInt f0), .ref 15, .ref 16, .ref 17, .ref 18, .ref 19, .ref 20, .ref 21, .ref 22, .int (Int32.ofInt f9), .int (Int32.ofInt f10), .int (Int32.ofInt f11), .int (Int32.ofInt f12), .int (Int32.ofInt f13), .long x14, .int (Int32.ofInt f15), .int (Int32.ofInt f16), .int (Int32.ofInt f17), .ref 23, .ref 24, .int (Int32.ofInt f20), .int (Int32.ofInt f21), .int (Int32.ofInt f22), .int (Int32.ofInt f23), .ref 25, .ref 26, .int (Int32.ofInt f26), .ref 27, .int (Int32.ofInt f28), .ref 28, .ref 29, .int (Int32.ofInt f31), .int (Int32.ofInt f32), .int (Int32.ofInt f33), .ref 30, .ref 31, .ref 32, .ref 33, .int (Int32.ofInt f38), .ref 34, .ref 35, .int (Int32.ofInt f41), .ref 36, .ref 37, .int (Int32.ofInt f44), .ref 38, .ref 39, .ref 40, .ref 41, .ref 42, .ref 43, .ref 44]))) → (zix w_39 25 = some (.inl (1, 7, .inl T'_5))) → (zix w_39 26 = some (.inl (1, 7, .inl T'_14))) → (zix w_39 27 = some (.inl (1, 49, .inl T3))) → (0 ≤ kk ∧ kk ≤ 7) → (∀ i k : Int, 0 ≤ i → i < ii → 0 ≤ k → k ≤ v3 → tBy T3 (7 * i + k) = edI a1 a2 i k) → (∀ k : Int, 0 ≤ k → k < kk → tBy T3 (7 * ii + k) = edI a1 a2 ii k) → (kk ≤ (tLen a2.toNat : Int) + 1) → (8 - kk < N) → R (39, [some (.ref 14), some (.int (Int32.ofInt a1)), some (.int (Int32.ofInt a2)), some (.int (Int32.ofInt v1)), some (.int (Int32.ofInt v3)), some (.int (Int32.ofInt ii)), some (.int (Int32.ofInt kk)), o7_39], [], w_39, 0, 0) := by
        intro N
        induction N with
        | zero => intros; omega
        | succ N ih39 =>
          intro kk o7_39 T3 w_39 hzo7_39 fr_39 hC14_39 hC25_39 hC26_39 hC27_39 hf0_39 hp0_39 hp1_39 hp2_39 hN39
          iterate 2 refine hR (?_ : R (_, _, _, _, _, _))
          refine hR (j_gt (by omega) (by omega) (fun hc25 => ?_) (fun hc25 => ?_))
          · skip
            refine hR (t_inc ?_)
            refine hR (?_ : R (_, _, _, _, _, _))
            exact ih30 _ _ _ _ _ (by rfl) hzo7_39 fr_39 hC14_39 hC25_39 hC26_39 hC27_39 (by omega) (fun i k i0 i1 k0 k1 => by by_cases c1 : i = ii; (· rw [c1]; exact hp1_39 k k0 (by omega)); exact hp0_39 i k i0 (by omega) k0 k1) (by omega) (by omega)
          refine hR (?_ : R (_, _, _, _, _, _))
          refine hR (k_ne (by omega) (fun hc26 => ?_) (fun hc26 => ?_))
          rotate_left
          · skip
            iterate 4 refine hR (?_ : R (_, _, _, _, _, _))
            refine hR (k_le (by omega) (fun _ => ?_) (fun hc => by omega))
            refine hR (?_ : R (_, _, _, _, _, _))
            refine hR (c_get hC14_39 rfl ?_)
            refine hR (t_c 7 (by decide) ?_)
            refine hR (?_ : R (_, _, _, _, _, _))
            refine hR (t_mul ?_)
            refine hR (?_ : R (_, _, _, _, _, _))
            refine hR (t_add ?_)
            refine hR (?_ : R (_, _, _, _, _, _))
            refine hR (x_ast hC27_39 (by omega) (by omega) (Nat.le_of_ble_eq_true rfl) fun w59 ff59 hC59 => ?_)
            have fr60 := wfM_st fr_39 ff59 nX2
            have hC61 := (ff59.2 14 (by (try dsimp only); decide)).trans hC14_39
            have hC62 := (ff59.2 25 (by (try dsimp only); decide)).trans hC25_39
            have hC63 := (ff59.2 26 (by (try dsimp only); decide)).trans hC26_39
            refine hR (t_inc ?_)
            refine hR (?_ : R (_, _, _, _, _, _))
            exact ih39 _ _ _ _ (by rfl) fr60 hC61 hC62 hC63 hC59 (by omega) (fun i k i0 i1 k0 k1 => by rw [zupI (by exact ⟨by omega, by omega⟩) (by omega) (by omega), if_neg (by omega)]; exact hp0_39 i k i0 i1 k0 k1) (fun k k0 k1 => by rw [zupI (by exact ⟨by omega, by omega⟩) (by omega) (by omega)]; by_cases c1 : k = kk; (· rw [if_pos (by omega), c1]; exact (by rw [show ii = 0 by omega]; exact (edI_0 (by omega)).symm)); rw [if_neg (by omega)]; exact hp1_39 k k0 (by omega)) (by omega) (by omega)
          refine hR (?_ : R (_, _, _, _, _, _))
          refine hR (k_ne (by omega) (fun hc27 => ?_) (fun hc27 => ?_))
          rotate_left
          · skip
            iterate 4 refine hR (?_ : R (_, _, _, _, _, _))
            refine hR (k_le (by omega) (fun hc => by omega) (fun _ => ?_))
            refine hR (?_ : R (_, _, _, _, _, _))
            refine hR (k_le (by omega) (fun _ => ?_) (fun hc => by omega))
            refine hR (?_ : R (_, _, _, _, _, _))
            refine hR (c_get hC14_39 rfl ?_)
            refine hR (t_c 7 (by decide) ?_)
            refine hR (?_ : R (_, _, _, _, _, _))
            refine hR (t_mul ?_)
            refine hR (?_ : R (_, _, _, _, _, _))
            refine hR (t_add ?_)
            refine hR (?_ : R (_, _, _, _, _, _))
            refine hR (x_ast hC27_39 (by omega) (by omega) (Nat.le_of_ble_eq_true rfl) fun w54 ff54 hC54 => ?_)
            have fr55 := wfM_st fr_39 ff54 nX2
            have hC56 := (ff54.2 14 (by (try dsimp only); decide)).trans hC14_39
            have hC57 := (ff54.2 25 (by (try dsimp only); decide)).trans hC25_39
            have hC58 := (ff54.2 26 (by (try dsimp only); decide)).trans hC26_39
            refine hR (t_inc ?_)
            refine hR (?_ : R (_, _, _, _, _, _))
            exact ih39 _ _ _ _ (by rfl) fr55 hC56 hC57 hC58 hC54 (by omega) (fun i k i0 i1 k0 k1 => by rw [zupI (by exact ⟨by omega, by omega⟩) (by omega) (by omega), if_neg (by omega)]; exact hp0_39 i k i0 i1 k0 k1) (fun k k0 k1 => by rw [zupI (by exact ⟨by omega, by omega⟩) (by omega) (by omega)]; by_cases c1 : k = kk; (· rw [if_pos (by omega), c1]; exact (by rw [show kk = 0 by omega]; exact (edI_z (by omega)).symm)); rw [if_neg (by omega)]; exact hp1_39 k k0 (by omega)) (by omega) (by omega)
          have hA : tBy T3 (7 * (ii - 1) + kk - 1) = edI a1 a2 (ii - 1) (kk - 1) := (congrArg (tBy T3) (by omega)).trans (hp0_39 (ii - 1) (kk - 1) (by omega) (by omega) (by omega) (by omega))
          have hB : tBy T3 (7 * (ii - 1) + kk) = edI a1 a2 (ii - 1) kk := hp0_39 (ii - 1) kk (by omega) (by omega) (by omega) (by omega)
          have hC9 : tBy T3 (7 * ii + kk - 1) = edI a1 a2 ii (kk - 1) := (congrArg (tBy T3) (by omega)).trans (hp1_39 (kk - 1) (by omega) (by omega))
          have hu1 := twI (a := a1) (i := ii - 1) (by omega) (by omega) (hp9 (ii - 1) (by omega) (by omega))
          have hu2 := twI (a := a2) (i := kk - 1) (by omega) (by omega) (hp18 (kk - 1) (by omega) (by omega))
          have rA := edI_r (a := a1) (b := a2) (i := ii - 1) (k := kk - 1) (by omega) (by omega) (by omega) (by omega)
          have rB := edI_r (a := a1) (b := a2) (i := ii - 1) (k := kk) (by omega) (by omega) (by omega) (by omega)
          have rC := edI_r (a := a1) (b := a2) (i := ii) (k := kk - 1) (by omega) (by omega) (by omega) (by omega)
          refine hR (?_ : R (_, _, _, _, _, _))
          refine hR (c_get hC14_39 rfl ?_)
          refine hR (t_c 7 (by decide) ?_)
          iterate 2 refine hR (?_ : R (_, _, _, _, _, _))
          refine hR (t_sub ?_)
          refine hR (t_mul ?_)
          refine hR (?_ : R (_, _, _, _, _, _))
          refine hR (t_add ?_)
          refine hR (?_ : R (_, _, _, _, _, _))
          refine hR (t_sub ?_)
          refine hR (c_aldE hC27_39 (by omega) (by omega) (Nat.le_of_ble_eq_true rfl) fun v28 ev28 rv28 => ?_)
          replace ev28 : v28 = tBy T3 (((7 * (ii - 1)) + kk) - 1) := ev28
          subst ev28
          refine hR (?_ : R (_, _, _, _, _, _))
          refine hR (c_get hC14_39 rfl ?_)
          iterate 2 refine hR (?_ : R (_, _, _, _, _, _))
          refine hR (t_sub ?_)
          refine hR (c_aldE hC25_39 (by omega) (by omega) (Nat.le_of_ble_eq_true rfl) fun v29 ev29 rv29 => ?_)
          replace ev29 : v29 = tBy T'_5 (ii - 1) := ev29
          subst ev29
          refine hR (?_ : R (_, _, _, _, _, _))
          refine hR (c_get hC14_39 rfl ?_)
          iterate 2 refine hR (?_ : R (_, _, _, _, _, _))
          refine hR (t_sub ?_)
          refine hR (c_aldE hC26_39 (by omega) (by omega) (Nat.le_of_ble_eq_true rfl) fun v30 ev30 rv30 => ?_)
          replace ev30 : v30 = tBy T'_14 (kk - 1) := ev30
          subst ev30
          refine hR (j_ne (by omega) (by omega) (fun hc31 => ?_) (fun hc31 => ?_))
          · skip
            refine hR (?_ : R (_, _, _, _, _, _))
            refine hR (t_add ?_)
            refine hR (?_ : R (_, _, _, _, _, _))
            have hes := edI_s (a := a1) (b := a2) (i := ii) (k := kk) (x := 1) (by omega) (by omega) (by omega)
            refine hR (?_ : R (_, _, _, _, _, _))
            refine hR (k_le (by omega) (fun hc => by omega) (fun _ => ?_))
            refine hR (?_ : R (_, _, _, _, _, _))
            refine hR (k_le (by omega) (fun hc => by omega) (fun _ => ?_))
            iterate 3 refine hR (?_ : R (_, _, _, _, _, _))
            refine hR (c_get hC14_39 rfl ?_)
            refine hR (t_c 7 (by decide) ?_)
            iterate 2 refine hR (?_ : R (_, _, _, _, _, _))
            refine hR (t_sub ?_)
            refine hR (t_mul ?_)
            refine hR (?_ : R (_, _, _, _, _, _))
            refine hR (t_add ?_)
            refine hR (c_aldE hC27_39 (by omega) (by omega) (Nat.le_of_ble_eq_true rfl) fun v32 ev32 rv32 => ?_)
            replace ev32 : v32 = tBy T3 ((7 * (ii - 1)) + kk) := ev32
            subst ev32
            refine hR (?_ : R (_, _, _, _, _, _))
            refine hR (c_get hC14_39 rfl ?_)
            refine hR (t_c 7 (by decide) ?_)
            refine hR (?_ : R (_, _, _, _, _, _))
            refine hR (t_mul ?_)
            refine hR (?_ : R (_, _, _, _, _, _))
            refine hR (t_add ?_)
            refine hR (?_ : R (_, _, _, _, _, _))
            refine hR (t_sub ?_)
            refine hR (c_aldE hC27_39 (by omega) (by omega) (Nat.le_of_ble_eq_true rfl) fun v33 ev33 rv33 => ?_)
            replace ev33 : v33 = tBy T3 (((7 * ii) + kk) - 1) := ev33
            subst ev33
            refine hR (zcall_i 0 0 (Nat.le_of_ble_eq_true rfl) (Nat.le_of_ble_eq_true rfl) (m_lesser _ (tBy T3 ((7 * (ii - 1)) + kk)) (tBy T3 (((7 * ii) + kk) - 1)) _ (by omega) (by omega) _ fun v34 hp35 => ?_))
            refine (?_ : R (_, _, .int (Int32.ofInt v34) :: .int (Int32.ofInt 1) :: .int (Int32.ofInt ((tBy T3 (((7 * (ii - 1)) + kk) - 1)) + 1)) :: [], w_39, 0, 0))
            refine hR (t_add ?_)
            refine hR (zcall_i 0 0 (Nat.le_of_ble_eq_true rfl) (Nat.le_of_ble_eq_true rfl) (m_lesser _ ((tBy T3 (((7 * (ii - 1)) + kk) - 1)) + 1) (1 + v34) _ (by omega) (by omega) _ fun v36 hp37 => ?_))
            refine (?_ : R (_, _, .int (Int32.ofInt v36) :: [], w_39, 0, 0))
            iterate 2 refine hR (?_ : R (_, _, _, _, _, _))
            refine hR (c_get hC14_39 rfl ?_)
            refine hR (t_c 7 (by decide) ?_)
            refine hR (?_ : R (_, _, _, _, _, _))
            refine hR (t_mul ?_)
            refine hR (?_ : R (_, _, _, _, _, _))
            refine hR (t_add ?_)
            refine hR (?_ : R (_, _, _, _, _, _))
            refine hR (x_ast hC27_39 (by omega) (by omega) (Nat.le_of_ble_eq_true rfl) fun w38 ff38 hC38 => ?_)
            have fr39 := wfM_st fr_39 ff38 nX2
            have hC40 := (ff38.2 14 (by (try dsimp only); decide)).trans hC14_39
            have hC41 := (ff38.2 25 (by (try dsimp only); decide)).trans hC25_39
            have hC42 := (ff38.2 26 (by (try dsimp only); decide)).trans hC26_39
            refine hR (t_inc ?_)
            refine hR (?_ : R (_, _, _, _, _, _))
            exact ih39 _ _ _ _ (by rfl) fr39 hC40 hC41 hC42 hC38 (by omega) (fun i k i0 i1 k0 k1 => by rw [zupI (by exact ⟨by omega, by omega⟩) (by omega) (by omega), if_neg (by omega)]; exact hp0_39 i k i0 i1 k0 k1) (fun k k0 k1 => by rw [zupI (by exact ⟨by omega, by omega⟩) (by omega) (by omega)]; by_cases c1 : k = kk; (· rw [if_pos (by omega), c1]; exact (by omega)); rw [if_neg (by omega)]; exact hp1_39 k k0 (by omega)) (by omega) (by omega)
          iterate 2 refine hR (?_ : R (_, _, _, _, _, _))
          refine hR (t_add ?_)
          refine hR (?_ : R (_, _, _, _, _, _))
          have hes := edI_s (a := a1) (b := a2) (i := ii) (k := kk) (x := 0) (by omega) (by omega) (by omega)
          refine hR (?_ : R (_, _, _, _, _, _))
          refine hR (k_le (by omega) (fun hc => by omega) (fun _ => ?_))
          refine hR (?_ : R (_, _, _, _, _, _))
          refine hR (k_le (by omega) (fun hc => by omega) (fun _ => ?_))
          iterate 3 refine hR (?_ : R (_, _, _, _, _, _))
          refine hR (c_get hC14_39 rfl ?_)
          refine hR (t_c 7 (by decide) ?_)
          iterate 2 refine hR (?_ : R (_, _, _, _, _, _))
          refine hR (t_sub ?_)
          refine hR (t_mul ?_)
          refine hR (?_ : R (_, _, _, _, _, _))
          refine hR (t_add ?_)
          refine hR (c_aldE hC27_39 (by omega) (by omega) (Nat.le_of_ble_eq_true rfl) fun v43 ev43 rv43 => ?_)
          replace ev43 : v43 = tBy T3 ((7 * (ii - 1)) + kk) := ev43
          subst ev43
          refine hR (?_ : R (_, _, _, _, _, _))
          refine hR (c_get hC14_39 rfl ?_)
          refine hR (t_c 7 (by decide) ?_)
          refine hR (?_ : R (_, _, _, _, _, _))
          refine hR (t_mul ?_)
          refine hR (?_ : R (_, _, _, _, _, _))
          refine hR (t_add ?_)
          refine hR (?_ : R (_, _, _, _, _, _))
          refine hR (t_sub ?_)
          refine hR (c_aldE hC27_39 (by omega) (by omega) (Nat.le_of_ble_eq_true rfl) fun v44 ev44 rv44 => ?_)
          replace ev44 : v44 = tBy T3 (((7 * ii) + kk) - 1) := ev44
          subst ev44
          refine hR (zcall_i 0 0 (Nat.le_of_ble_eq_true rfl) (Nat.le_of_ble_eq_true rfl) (m_lesser _ (tBy T3 ((7 * (ii - 1)) + kk)) (tBy T3 (((7 * ii) + kk) - 1)) _ (by omega) (by omega) _ fun v45 hp46 => ?_))
          refine (?_ : R (_, _, .int (Int32.ofInt v45) :: .int (Int32.ofInt 1) :: .int (Int32.ofInt ((tBy T3 (((7 * (ii - 1)) + kk) - 1)) + 0)) :: [], w_39, 0, 0))
          refine hR (t_add ?_)
          refine hR (zcall_i 0 0 (Nat.le_of_ble_eq_true rfl) (Nat.le_of_ble_eq_true rfl) (m_lesser _ ((tBy T3 (((7 * (ii - 1)) + kk) - 1)) + 0) (1 + v45) _ (by omega) (by omega) _ fun v47 hp48 => ?_))
          refine (?_ : R (_, _, .int (Int32.ofInt v47) :: [], w_39, 0, 0))
          iterate 2 refine hR (?_ : R (_, _, _, _, _, _))
          refine hR (c_get hC14_39 rfl ?_)
          refine hR (t_c 7 (by decide) ?_)
          refine hR (?_ : R (_, _, _, _, _, _))
          refine hR (t_mul ?_)
          refine hR (?_ : R (_, _, _, _, _, _))
          refine hR (t_add ?_)
          refine hR (?_ : R (_, _, _, _, _, _))
          refine hR (x_ast hC27_39 (by omega) (by omega) (Nat.le_of_ble_eq_true rfl) fun w49 ff49 hC49 => ?_)
          have fr50 := wfM_st fr_39 ff49 nX2
          have hC51 := (ff49.2 14 (by (try dsimp only); decide)).trans hC14_39
          have hC52 := (ff49.2 25 (by (try dsimp only); decide)).trans hC25_39
          have hC53 := (ff49.2 26 (by (try dsimp only); decide)).trans hC26_39
          refine hR (t_inc ?_)
          refine hR (?_ : R (_, _, _, _, _, _))
          exact ih39 _ _ _ _ (by rfl) fr50 hC51 hC52 hC53 hC49 (by omega) (fun i k i0 i1 k0 k1 => by rw [zupI (by exact ⟨by omega, by omega⟩) (by omega) (by omega), if_neg (by omega)]; exact hp0_39 i k i0 i1 k0 k1) (fun k k0 k1 => by rw [zupI (by exact ⟨by omega, by omega⟩) (by omega) (by omega)]; by_cases c1 : k = kk; (· rw [if_pos (by omega), c1]; exact (by omega)); rw [if_neg (by omega)]; exact hp1_39 k k0 (by omega)) (by omega) (by omega)
      exact lp39 400000000 _ _ _ _ hzo7_30 fr_30 hC14_30 hC25_30 hC26_30 hC27_30 (by omega) hp0_30 (fun k k0 k1 => by omega) (by omega) (by omega)
  exact lp30 400000000 _ _ _ _ _ (by rfl) (by rfl) fr19 hC20 hC21 hC17 hC22 (by omega) (fun i k i0 i1 k0 k1 => by omega) (by omega) (by omega)
