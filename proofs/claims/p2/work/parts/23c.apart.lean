theorem p_lesser (d : Nat) (x y : Int32) (p q : Nat) (hx : x = nI p) (hy : y = nI q) (hp : p < 1000) (hq : q < 1000) (w : zW) (Q : zQ) (h : Q (some (.int (nI (min p q)))) w) : zCl zTab (d + 1) iX12_lesser [.int x, .int y] w 0 0 Q := by
  refine zCl_i (M := kX12_lesser) rfl (Nat.le_of_ble_eq_true rfl) fun R hR => ?_
  have h3 : ∀ z, z = nI (min p q) → Q (some (.int z)) w := fun z hz => by rw [hz]; exact h
  iterate 2 refine hR (?_ : R (_, _, _, _, _, _))
  refine hR (pk_le q p (fun c => ?_) (fun c => ?_) hy hx)
  · refine hR (?_ : R (_, _, _, _, _, _))
    exact hR (zret_i rfl (Nat.le_refl _) trivial (h3 _ (by rw [hy, Nat.min_eq_right c])))
  · iterate 2 refine hR (?_ : R (_, _, _, _, _, _))
    exact hR (zret_i rfl (Nat.le_refl _) trivial (h3 _ (by rw [hx, Nat.min_eq_left (by omega)])))
theorem nI7 : (Int8.ofInt 7).toInt32 = nI 7 := by decide
set_option maxHeartbeats 4000000 in
theorem p_apart {c0 c1 c2 c3 c4 c5 c6 c7 c8 c9 c10 c11 c12 c13 : va_E} {x0 x9 x10 x11 x12 x13 x15 x16 x17 x20 x21 x22 x23 x26 x28 x31 x32 x33 x38 x41 x44 : Int32} {x14 : Int64} {g15 g16 g17 g18 g19 g20 g21 g22 g23 g24 g25 g26 g27 g28 g29 g30 g31 g32 g33 g34 g35 g36 g37 g38 g39 g40 g41 g42 g43 g44 : Nat → Int32} {t : zW} (d : Nat) (x y : Int32) (a b : Nat) (hx : x = nI a) (ha : a < 5461) (hy : y = nI b) (hb : b < 5461) (Q : zQ) (h : ∀ fa fb T, (zB 0 3 g25 → zB 0 3 fa) → (zB 0 3 g26 → zB 0 3 fb) → Q (some (.int (nI (eD (tW a) (tW b) (tLen a) (tLen b))))) (zMg c0 c1 c2 c3 c4 c5 c6 c7 c8 c9 c10 c11 c12 c13 x0 x9 x10 x11 x12 x13 x15 x16 x17 x20 x21 x22 x23 x26 x28 x31 x32 x33 x38 x41 x44 x14 g15 g16 g17 g18 g19 g20 g21 g22 g23 g24 fa fb T g28 g29 g30 g31 g32 g33 g34 g35 g36 g37 g38 g39 g40 g41 g42 g43 g44 t)) : zCl zTab (d + 4) iX12_apart [.ref 14, .int x, .int y] (zMg c0 c1 c2 c3 c4 c5 c6 c7 c8 c9 c10 c11 c12 c13 x0 x9 x10 x11 x12 x13 x15 x16 x17 x20 x21 x22 x23 x26 x28 x31 x32 x33 x38 x41 x44 x14 g15 g16 g17 g18 g19 g20 g21 g22 g23 g24 g25 g26 g27 g28 g29 g30 g31 g32 g33 g34 g35 g36 g37 g38 g39 g40 g41 g42 g43 g44 t) 0 0 Q := by
  have hn := tLen_le a
  have hm := tLen_le b
  refine zCl_i (M := kX12_apart) rfl (Nat.le_of_ble_eq_true rfl) fun R hR => ?_
  have main : ∀ (fa fb : Nat → Int32), (∀ i, i < tLen a → fa i = nI (tW a i)) → (∀ i, i < tLen b → fb i = nI (tW b i)) → (zB 0 3 g25 → zB 0 3 fa) → (zB 0 3 g26 → zB 0 3 fb) → ∀ (z6 z7 : Option Value), R (30, [some (.ref 14), some (.int x), some (.int y), some (.int (nI (tLen a))), some (.int (nI (tLen b))), some (.int (Int32.ofInt 0)), z6, z7], [], (zMg c0 c1 c2 c3 c4 c5 c6 c7 c8 c9 c10 c11 c12 c13 x0 x9 x10 x11 x12 x13 x15 x16 x17 x20 x21 x22 x23 x26 x28 x31 x32 x33 x38 x41 x44 x14 g15 g16 g17 g18 g19 g20 g21 g22 g23 g24 fa fb g27 g28 g29 g30 g31 g32 g33 g34 g35 g36 g37 g38 g39 g40 g41 g42 g43 g44 t), 0, 0) := by
    intro fa fb hfa hfb hBa hBb
    have inner : ∀ (i9 : Nat) (i : Int32), i = nI i9 → i9 ≤ tLen a → (∀ (T : Nat → Int32) (z6 z7 : Option Value), (∀ i', i' ≤ i9 → ∀ k', k' ≤ tLen b → T (7 * i' + k') = nI (eD (tW a) (tW b) i' k')) → R (185, [some (.ref 14), some (.int x), some (.int y), some (.int (nI (tLen a))), some (.int (nI (tLen b))), some (.int i), z6, z7], [], (zMg c0 c1 c2 c3 c4 c5 c6 c7 c8 c9 c10 c11 c12 c13 x0 x9 x10 x11 x12 x13 x15 x16 x17 x20 x21 x22 x23 x26 x28 x31 x32 x33 x38 x41 x44 x14 g15 g16 g17 g18 g19 g20 g21 g22 g23 g24 fa fb T g28 g29 g30 g31 g32 g33 g34 g35 g36 g37 g38 g39 g40 g41 g42 g43 g44 t), 0, 0)) → ∀ (m9 k9 : Nat) (k : Int32) (T : Nat → Int32) (z7 : Option Value), k9 + m9 = tLen b + 1 → k = nI k9 → (∀ i', i' < i9 → ∀ k', k' ≤ tLen b → T (7 * i' + k') = nI (eD (tW a) (tW b) i' k')) → (∀ k', k' < k9 → T (7 * i9 + k') = nI (eD (tW a) (tW b) i9 k')) → R (39, [some (.ref 14), some (.int x), some (.int y), some (.int (nI (tLen a))), some (.int (nI (tLen b))), some (.int i), some (.int k), z7], [], (zMg c0 c1 c2 c3 c4 c5 c6 c7 c8 c9 c10 c11 c12 c13 x0 x9 x10 x11 x12 x13 x15 x16 x17 x20 x21 x22 x23 x26 x28 x31 x32 x33 x38 x41 x44 x14 g15 g16 g17 g18 g19 g20 g21 g22 g23 g24 fa fb T g28 g29 g30 g31 g32 g33 g34 g35 g36 g37 g38 g39 g40 g41 g42 g43 g44 t), 0, 0) := by
      intro i9 i hi hi9 hexit m9
      induction m9 with
      | zero =>
        intro k9 k T z7 hk9 hk h1 h2
        iterate 2 refine hR (?_ : R (_, _, _, _, _, _))
        refine hR (pk_lt (tLen b) k9 (fun _ => ?_) (fun z => by omega) rfl hk)
        refine hexit T _ _ (fun i' hi' k' hk' => ?_)
        by_cases hq : i' = i9
        · subst hq
          exact h2 k' (by omega)
        · exact h1 i' (by omega) k' hk'
      | succ m9 ih =>
        intro k9 k T z7 hk9 hk h1 h2
        have fin : ∀ (bs : Int32), bs = nI (eD (tW a) (tW b) i9 k9) → R (164, [some (.ref 14), some (.int x), some (.int y), some (.int (nI (tLen a))), some (.int (nI (tLen b))), some (.int i), some (.int k), some (.int bs)], [], (zMg c0 c1 c2 c3 c4 c5 c6 c7 c8 c9 c10 c11 c12 c13 x0 x9 x10 x11 x12 x13 x15 x16 x17 x20 x21 x22 x23 x26 x28 x31 x32 x33 x38 x41 x44 x14 g15 g16 g17 g18 g19 g20 g21 g22 g23 g24 fa fb T g28 g29 g30 g31 g32 g33 g34 g35 g36 g37 g38 g39 g40 g41 g42 g43 g44 t), 0, 0) := by
          intro bs hbs
          have ei : (Int8.ofInt 7).toInt32 * i + k = nI (7 * i9 + k9) := by rw [nI7, hi, hk, pk_mul, nI_add]
          iterate 8 refine hR (?_ : R (_, _, _, _, _, _))
          refine hR (And.intro (by rw [ei]; exact nI_in (by omega) (by omega)) ?_)
          iterate 2 refine hR (?_ : R (_, _, _, _, _, _))
          have ec : ((Int8.ofInt 7).toInt32 * i + k).toNatClampNeg = 7 * i9 + k9 := by rw [ei]; exact nI_clamp (by omega)
          refine ih (k9 + 1) _ _ _ (by omega) (by rw [hk, nI1, nI_add]) (fun i' hi' k' hk' => ?_) (fun k' hk' => ?_)
          · rw [ec, pk_un (by omega)]
            exact h1 i' hi' k' hk'
          · rw [ec]
            by_cases hq : k' = k9
            · subst hq
              rw [pk_us, hbs]
            · rw [pk_un (by omega)]
              exact h2 k' (by omega)
        iterate 2 refine hR (?_ : R (_, _, _, _, _, _))
        refine hR (pk_lt (tLen b) k9 (fun z => by omega) (fun _ => ?_) rfl hk)
        refine hR (?_ : R (_, _, _, _, _, _))
        by_cases hi0 : i9 = 0
        · have hiz : i = 0 := by rw [hi, hi0]; rfl
          refine hR (And.intro (fun hc => absurd hiz hc) (fun _ => ?_))
          iterate 2 refine hR (?_ : R (_, _, _, _, _, _))
          iterate 2 refine hR (?_ : R (_, _, _, _, _, _))
          refine hR (And.intro (fun _ => ?_) (fun hc => absurd (by rw [hiz]; decide) hc))
          exact fin _ (by rw [hk, hi0, eD_0])
        have hin : ¬ i = 0 := by rw [hi]; exact nI_ne0 (by omega) (by omega)
        have hil : ¬ i ≤ 0 := by rw [hi]; exact nI_nle (by omega) (by omega)
        refine hR (And.intro (fun _ => ?_) (fun hc => absurd hc hin))
        refine hR (?_ : R (_, _, _, _, _, _))
        by_cases hk0 : k9 = 0
        · have hkz : k = 0 := by rw [hk, hk0]; rfl
          refine hR (And.intro (fun hc => absurd hkz hc) (fun _ => ?_))
          iterate 2 refine hR (?_ : R (_, _, _, _, _, _))
          iterate 2 refine hR (?_ : R (_, _, _, _, _, _))
          refine hR (And.intro (fun hc => absurd hc hil) (fun _ => ?_))
          refine hR (?_ : R (_, _, _, _, _, _))
          refine hR (And.intro (fun _ => ?_) (fun hc => absurd (by rw [hkz]; decide) hc))
          exact fin _ (by rw [hi, hk0, eD_z])
        have hkn : ¬ k = 0 := by rw [hk]; exact nI_ne0 (by omega) (by omega)
        have hkl : ¬ k ≤ 0 := by rw [hk]; exact nI_nle (by omega) (by omega)
        obtain ⟨i8, ei8⟩ : ∃ i8, i9 = i8 + 1 := ⟨i9 - 1, by omega⟩
        obtain ⟨k8, ek8⟩ : ∃ k8, k9 = k8 + 1 := ⟨k9 - 1, by omega⟩
        have d1 := eD_le (tW a) (tW b) i8 k8
        have d2 := eD_le (tW a) (tW b) i8 (k8 + 1)
        have d3 := eD_le (tW a) (tW b) (i8 + 1) k8
        have d4 := ed1_le (tW a i8) (tW b k8)
        have x1 : (Int8.ofInt 7).toInt32 * (i - Int32.ofInt 1) + k - Int32.ofInt 1 = nI (7 * i8 + k8) := by rw [nI7, hi, hk, ei8, ek8, nI1, pk_sub (by omega), Nat.add_sub_cancel, pk_mul, nI_add, pk_sub (by omega)]; exact congrArg nI (by omega)
        have x2 : i - Int32.ofInt 1 = nI i8 := by rw [hi, ei8, nI1, pk_sub (by omega), Nat.add_sub_cancel]
        have x3 : k - Int32.ofInt 1 = nI k8 := by rw [hk, ek8, nI1, pk_sub (by omega), Nat.add_sub_cancel]
        have x4 : (Int8.ofInt 7).toInt32 * (i - Int32.ofInt 1) + k = nI (7 * i8 + (k8 + 1)) := by rw [x2, nI7, hk, ek8, pk_mul, nI_add]
        have x5 : (Int8.ofInt 7).toInt32 * i + k - Int32.ofInt 1 = nI (7 * (i8 + 1) + k8) := by rw [nI7, hi, hk, ei8, ek8, pk_mul, nI_add, nI1, pk_sub (by omega)]; exact congrArg nI (by omega)
        have v1 : T ((Int8.ofInt 7).toInt32 * (i - Int32.ofInt 1) + k - Int32.ofInt 1).toNatClampNeg = nI (eD (tW a) (tW b) i8 k8) := by rw [x1, nI_clamp (by omega)]; exact h1 i8 (by omega) k8 (by omega)
        have v2 : fa (i - Int32.ofInt 1).toNatClampNeg = nI (tW a i8) := by rw [x2, nI_clamp (by omega)]; exact hfa i8 (by omega)
        have v3 : fb (k - Int32.ofInt 1).toNatClampNeg = nI (tW b k8) := by rw [x3, nI_clamp (by omega)]; exact hfb k8 (by omega)
        have v4 : T ((Int8.ofInt 7).toInt32 * (i - Int32.ofInt 1) + k).toNatClampNeg = nI (eD (tW a) (tW b) i8 (k8 + 1)) := by rw [x4, nI_clamp (by omega)]; exact h1 i8 (by omega) (k8 + 1) (by omega)
        have v5 : T ((Int8.ofInt 7).toInt32 * i + k - Int32.ofInt 1).toNatClampNeg = nI (eD (tW a) (tW b) (i8 + 1) k8) := by
          rw [x5, nI_clamp (by omega), ← ei8]
          exact h2 k8 (by omega)
        have rest : ∀ (bs : Int32), bs = nI (eD (tW a) (tW b) i8 k8 + ed1 (tW a i8) (tW b k8)) → R (112, [some (.ref 14), some (.int x), some (.int y), some (.int (nI (tLen a))), some (.int (nI (tLen b))), some (.int i), some (.int k), some (.int bs)], [], (zMg c0 c1 c2 c3 c4 c5 c6 c7 c8 c9 c10 c11 c12 c13 x0 x9 x10 x11 x12 x13 x15 x16 x17 x20 x21 x22 x23 x26 x28 x31 x32 x33 x38 x41 x44 x14 g15 g16 g17 g18 g19 g20 g21 g22 g23 g24 fa fb T g28 g29 g30 g31 g32 g33 g34 g35 g36 g37 g38 g39 g40 g41 g42 g43 g44 t), 0, 0) := by
          intro bs hbs
          refine hR (?_ : R (_, _, _, _, _, _))
          refine hR (And.intro (fun hc => absurd hc hil) (fun _ => ?_))
          refine hR (?_ : R (_, _, _, _, _, _))
          refine hR (And.intro (fun hc => absurd hc hkl) (fun _ => ?_))
          iterate 11 refine hR (?_ : R (_, _, _, _, _, _))
          refine hR (And.intro (by rw [x4]; exact nI_in (by omega) (by omega)) ?_)
          iterate 9 refine hR (?_ : R (_, _, _, _, _, _))
          refine hR (And.intro (by rw [x5]; exact nI_in (by omega) (by omega)) ?_)
          refine hR (zcall_i 0 0 (Nat.le_of_ble_eq_true rfl) (Nat.le_of_ble_eq_true rfl) (p_lesser _ _ _ (eD (tW a) (tW b) i8 (k8 + 1)) (eD (tW a) (tW b) (i8 + 1) k8) v4 v5 (by omega) (by omega) _ _ ?_))
          refine hR (?_ : R (_, _, _, _, _, _))
          refine hR (zcall_i 0 0 (Nat.le_of_ble_eq_true rfl) (Nat.le_of_ble_eq_true rfl) (p_lesser _ _ _ (eD (tW a) (tW b) i8 k8 + ed1 (tW a i8) (tW b k8)) (1 + min (eD (tW a) (tW b) i8 (k8 + 1)) (eD (tW a) (tW b) (i8 + 1) k8)) hbs (by rw [nI1, nI_add]) (by omega) (by omega) _ _ ?_))
          refine hR (?_ : R (_, _, _, _, _, _))
          exact fin _ (by rw [ei8, ek8, eD_s])
        refine hR (And.intro (fun _ => ?_) (fun hc => absurd hc hkn))
        iterate 11 refine hR (?_ : R (_, _, _, _, _, _))
        refine hR (And.intro (by rw [x1]; exact nI_in (by omega) (by omega)) ?_)
        iterate 5 refine hR (?_ : R (_, _, _, _, _, _))
        refine hR (And.intro (by rw [x2]; exact nI_in (by omega) (by omega)) ?_)
        iterate 5 refine hR (?_ : R (_, _, _, _, _, _))
        refine hR (And.intro (by rw [x3]; exact nI_in (by omega) (by omega)) ?_)
        have l1 : tW a i8 < 4 := Nat.mod_lt _ (by omega)
        have l2 : tW b k8 < 4 := Nat.mod_lt _ (by omega)
        refine hR (pk_eq (tW a i8) (tW b k8) (fun q => ?_) (fun q => ?_) v2 v3).symm
        · iterate 4 refine hR (?_ : R (_, _, _, _, _, _))
          exact rest _ (by rw [v1, nI0, nI_add, show ed1 (tW a i8) (tW b k8) = 0 from if_pos q])
        · iterate 3 refine hR (?_ : R (_, _, _, _, _, _))
          exact rest _ (by rw [v1, nI1, nI_add, show ed1 (tW a i8) (tW b k8) = 1 from if_neg q])
    have outer : ∀ (m9 i9 : Nat) (i : Int32) (T : Nat → Int32) (z6 z7 : Option Value), i9 + m9 = tLen a + 1 → i = nI i9 → (∀ i', i' < i9 → ∀ k', k' ≤ tLen b → T (7 * i' + k') = nI (eD (tW a) (tW b) i' k')) → R (30, [some (.ref 14), some (.int x), some (.int y), some (.int (nI (tLen a))), some (.int (nI (tLen b))), some (.int i), z6, z7], [], (zMg c0 c1 c2 c3 c4 c5 c6 c7 c8 c9 c10 c11 c12 c13 x0 x9 x10 x11 x12 x13 x15 x16 x17 x20 x21 x22 x23 x26 x28 x31 x32 x33 x38 x41 x44 x14 g15 g16 g17 g18 g19 g20 g21 g22 g23 g24 fa fb T g28 g29 g30 g31 g32 g33 g34 g35 g36 g37 g38 g39 g40 g41 g42 g43 g44 t), 0, 0) := by
      intro m9
      induction m9 with
      | zero =>
        intro i9 i T z6 z7 hi9 hi h1
        iterate 2 refine hR (?_ : R (_, _, _, _, _, _))
        refine hR (pk_lt (tLen a) i9 (fun _ => ?_) (fun z => by omega) rfl hi)
        have x1 : (Int8.ofInt 7).toInt32 * nI (tLen a) + nI (tLen b) = nI (7 * tLen a + tLen b) := by rw [nI7, pk_mul, nI_add]
        iterate 7 refine hR (?_ : R (_, _, _, _, _, _))
        refine hR (And.intro (by rw [x1]; exact nI_in (by omega) (by omega)) ?_)
        have h3 : ∀ z, z = nI (eD (tW a) (tW b) (tLen a) (tLen b)) → Q (some (.int z)) (zMg c0 c1 c2 c3 c4 c5 c6 c7 c8 c9 c10 c11 c12 c13 x0 x9 x10 x11 x12 x13 x15 x16 x17 x20 x21 x22 x23 x26 x28 x31 x32 x33 x38 x41 x44 x14 g15 g16 g17 g18 g19 g20 g21 g22 g23 g24 fa fb T g28 g29 g30 g31 g32 g33 g34 g35 g36 g37 g38 g39 g40 g41 g42 g43 g44 t) := fun z hz => by rw [hz]; exact h _ _ _ hBa hBb
        refine hR (zret_i rfl (Nat.le_refl _) trivial (h3 _ ?_))
        rw [x1, nI_clamp (by omega)]
        exact h1 (tLen a) (by omega) (tLen b) (by omega)
      | succ m9 ih =>
        intro i9 i T z6 z7 hi9 hi h1
        iterate 2 refine hR (?_ : R (_, _, _, _, _, _))
        refine hR (pk_lt (tLen a) i9 (fun z => by omega) (fun _ => ?_) rfl hi)
        iterate 2 refine hR (?_ : R (_, _, _, _, _, _))
        refine inner i9 i hi (by omega) ?_ (tLen b + 1) 0 _ T _ (by omega) nI0 h1 (fun k' hk' => by omega)
        intro T z6 z7 h5
        iterate 2 refine hR (?_ : R (_, _, _, _, _, _))
        exact ih (i9 + 1) _ T _ _ (by omega) (by rw [hi, nI1, nI_add]) (fun i' hi' k' hk' => h5 i' (by omega) k' hk')
    intro z6 z7
    exact outer (tLen a + 1) 0 _ g27 _ _ (by omega) nI0 (fun i' hi' => by omega)
  refine hR (?_ : R (_, _, _, _, _, _))
  refine hR (zcall_i 0 0 (Nat.le_of_ble_eq_true rfl) (Nat.le_of_ble_eq_true rfl) (p_sizeOf _ _ a hx ha _ _ ?_))
  iterate 2 refine hR (?_ : R (_, _, _, _, _, _))
  refine hR (zcall_i 0 0 (Nat.le_of_ble_eq_true rfl) (Nat.le_of_ble_eq_true rfl) (p_sizeOf _ _ b hy hb _ _ ?_))
  iterate 4 refine hR (?_ : R (_, _, _, _, _, _))
  refine hR (zcall_i 0 0 (Nat.le_of_ble_eq_true rfl) (Nat.le_of_ble_eq_true rfl) (p_spell25 _ _ a hx ha _ (fun fa hfa hBa => ?_)))
  iterate 3 refine hR (?_ : R (_, _, _, _, _, _))
  refine hR (zcall_i 0 0 (Nat.le_of_ble_eq_true rfl) (Nat.le_of_ble_eq_true rfl) (p_spell26 _ _ b hy hb _ (fun fb hfb hBb => ?_)))
  iterate 2 refine hR (?_ : R (_, _, _, _, _, _))
  exact main fa fb hfa hfb hBa hBb _ _
