/-! a book's row, a year's row -/
def bkR (T : Nat → Int32) : Prop := (0 ≤ (T 0).toInt ∧ (T 0).toInt ≤ 5460) ∧ (0 ≤ (T 1).toInt ∧ (T 1).toInt ≤ 5) ∧ (∀ j, 2 ≤ j → j < 6 → 0 ≤ (T j).toInt ∧ (T j).toInt ≤ 3) ∧ (∀ j, 6 ≤ j → j < 11 → 0 ≤ (T j).toInt ∧ (T j).toInt ≤ 4) ∧ (∀ j, j < 20 → (0 ≤ (T (11 + 2 * j)).toInt ∧ (T (11 + 2 * j)).toInt ≤ 4) ∧ (0 ≤ (T (12 + 2 * j)).toInt ∧ (T (12 + 2 * j)).toInt ≤ 6) ∧ ((T (11 + 2 * j)).toInt = 0 → (T (12 + 2 * j)).toInt ≤ 3) ∧ (1 ≤ (T (11 + 2 * j)).toInt → (T (11 + 2 * j)).toInt ≤ 3 → 1 ≤ (T (12 + 2 * j)).toInt))
def bkOK (g : Nat → Int32) : Prop := ∀ b, b < 8 → bkR (fun j => g (51 * b + j))
theorem bk_ix {g : Nat → Int32} {f a v : Int} (hf : 0 ≤ f) (ha : 0 ≤ a) (h : v = (g (51 * f + a).toNat).toInt) : v = (g (51 * f.toNat + a.toNat)).toInt := by
  rw [h, show (51 * f + a).toNat = 51 * f.toNat + a.toNat by omega]
theorem bk_of0 {g : Nat → Int32} {f v : Int} (hg : bkOK g) (hf : 0 ≤ f) (hf1 : f ≤ 7) (h : v = (g (51 * f.toNat + 0)).toInt) : 0 ≤ v ∧ v ≤ 5460 := by
  rw [h]; exact (hg f.toNat (by omega)).1
theorem bk_of1 {g : Nat → Int32} {f v : Int} (hg : bkOK g) (hf : 0 ≤ f) (hf1 : f ≤ 7) (h : v = (g (51 * f.toNat + 1)).toInt) : 0 ≤ v ∧ v ≤ 5 := by
  rw [h]; exact (hg f.toNat (by omega)).2.1
theorem bk_ofK {g : Nat → Int32} {f a v : Int} (hg : bkOK g) (hf : 0 ≤ f) (hf1 : f ≤ 7) (ha : 2 ≤ a) (ha1 : a ≤ 5) (h : v = (g (51 * f.toNat + a.toNat)).toInt) : 0 ≤ v ∧ v ≤ 3 := by
  rw [h]; exact (hg f.toNat (by omega)).2.2.1 a.toNat (by omega) (by omega)
theorem bk_ofM {g : Nat → Int32} {f a v : Int} (hg : bkOK g) (hf : 0 ≤ f) (hf1 : f ≤ 7) (ha : 6 ≤ a) (ha1 : a ≤ 10) (h : v = (g (51 * f.toNat + a.toNat)).toInt) : 0 ≤ v ∧ v ≤ 4 := by
  rw [h]; exact (hg f.toNat (by omega)).2.2.2.1 a.toNat (by omega) (by omega)
theorem bk_ofS {g : Nat → Int32} {f a v : Int} (hg : bkOK g) (hf : 0 ≤ f) (hf1 : f ≤ 7) (ha : 11 ≤ a) (ha1 : a ≤ 50) (h : v = (g (51 * f.toNat + a.toNat)).toInt) : 0 ≤ v ∧ v ≤ 6 := by
  obtain ⟨k1, k2, -, -⟩ := (hg f.toNat (by omega)).2.2.2.2 ((a.toNat - 11) / 2) (by omega)
  dsimp only at k1 k2
  rcases Nat.mod_two_eq_zero_or_one (a.toNat - 11) with z | z
  · have e2 : 11 + 2 * ((a.toNat - 11) / 2) = a.toNat := by omega
    rw [e2] at k1
    rw [h]; omega
  · have e2 : 12 + 2 * ((a.toNat - 11) / 2) = a.toNat := by omega
    rw [e2] at k2
    rw [h]; omega
theorem zp4_b {i : Int} (h0 : 0 ≤ i) (h1 : i ≤ 6) : (4 : Int) ^ i.toNat ≤ 4096 := by
  have h : i = 0 ∨ i = 1 ∨ i = 2 ∨ i = 3 ∨ i = 4 ∨ i = 5 ∨ i = 6 := by omega
  rcases h with rfl | rfl | rfl | rfl | rfl | rfl | rfl <;> decide
theorem bk_st {g : Nat → Int32} (hg : bkOK g) {b r k : Nat} (hb : b < 8) (hr : r ≤ 4) (hk : k ≤ 3) : (0 ≤ (g (51 * b + (11 + 8 * r + 2 * k))).toInt ∧ (g (51 * b + (11 + 8 * r + 2 * k))).toInt ≤ 4) ∧ (0 ≤ (g (51 * b + (12 + 8 * r + 2 * k))).toInt ∧ (g (51 * b + (12 + 8 * r + 2 * k))).toInt ≤ 6) ∧ ((g (51 * b + (11 + 8 * r + 2 * k))).toInt = 0 → (g (51 * b + (12 + 8 * r + 2 * k))).toInt ≤ 3) ∧ (1 ≤ (g (51 * b + (11 + 8 * r + 2 * k))).toInt → (g (51 * b + (11 + 8 * r + 2 * k))).toInt ≤ 3 → 1 ≤ (g (51 * b + (12 + 8 * r + 2 * k))).toInt) := by
  obtain ⟨-, -, -, -, h4⟩ := hg b hb
  have h := h4 (4 * r + k) (by omega)
  rw [show 11 + 8 * r + 2 * k = 11 + 2 * (4 * r + k) by omega, show 12 + 8 * r + 2 * k = 12 + 2 * (4 * r + k) by omega]
  exact h
theorem zp4_s {i fg w : Int} (hi : 0 ≤ i) (h : fg < 4 ^ i.toNat) (hw : w ≤ 3) : 4 * fg + w < 4 ^ (i + 1).toNat := by
  rw [show (i + 1).toNat = i.toNat + 1 by omega, Int.pow_succ]
  omega
theorem zp4_e {i a fg : Int} (h : fg < 4 ^ i.toNat) (e : i = a) : fg < 4 ^ a.toNat := by rw [← e]; exact h
theorem tSh_b {i : Int} (h0 : 0 ≤ i) (h1 : i ≤ 6) : (tSh i.toNat : Int) + 4 ^ i.toNat ≤ 5461 := by
  have h : i = 0 ∨ i = 1 ∨ i = 2 ∨ i = 3 ∨ i = 4 ∨ i = 5 ∨ i = 6 := by omega
  rcases h with rfl | rfl | rfl | rfl | rfl | rfl | rfl <;> decide
theorem nI_oi {a : Int} (h : 0 ≤ a) : Int32.ofInt a = nI a.toNat := by
  rw [← Int.toNat_of_nonneg h]; rfl
theorem m_shorter (d : Nat) (a1 : Int) (w : zW) (hr0 : 0 ≤ a1 ∧ a1 ≤ 7) (Q : zQ) (h : ∀ (v : Int), (v = (tSh a1.toNat : Int)) → (0 ≤ v ∧ v ≤ 5461) → Q (some (.int (Int32.ofInt v))) w) : zCl zTab (d + 1) iX12_shorter [.int (Int32.ofInt a1)] w 0 0 Q := by
  refine p_shorter d _ a1.toNat (nI_oi hr0.1) (by omega) w Q ?_
  have h8 := tSh7 a1.toNat (by omega)
  have h9 : tSh a1.toNat ≤ 5461 := by
    have h : a1 = 0 ∨ a1 = 1 ∨ a1 = 2 ∨ a1 = 3 ∨ a1 = 4 ∨ a1 = 5 ∨ a1 = 6 ∨ a1 = 7 := by omega
    rcases h with rfl | rfl | rfl | rfl | rfl | rfl | rfl | rfl <;> decide
  exact h (tSh a1.toNat : Int) rfl (by omega)
theorem m_sizeOf (d : Nat) (a1 : Int) (w : zW) (hr0 : 0 ≤ a1 ∧ a1 ≤ 5460) (Q : zQ) (h : ∀ (v : Int), (v = (tLen a1.toNat : Int)) → (0 ≤ v ∧ v ≤ 6) → Q (some (.int (Int32.ofInt v))) w) : zCl zTab (d + 2) iX12_sizeOf [.int (Int32.ofInt a1)] w 0 0 Q := by
  refine p_sizeOf d _ a1.toNat (nI_oi hr0.1) (by omega) w Q ?_
  have h6 := tLen_le a1.toNat
  exact h (tLen a1.toNat : Int) rfl (by omega)
section MZ
variable {c0 c1 c2 c3 c4 c5 c6 c7 c8 c9 c10 c11 c12 c13 : va_E} {f0 f9 f10 f11 f12 f13 f15 f16 f17 f20 f21 f22 f23 f26 f28 f31 f32 f33 f38 f41 f44 : Int} {x14 : Int64} {g15 g16 g17 g18 g19 g20 g21 g22 g23 g24 g25 g26 g27 g28 g29 g30 g31 g32 g33 g34 g35 g36 g37 g38 g39 g40 g41 g42 g43 g44 : Nat → Int32} {t : zW}
theorem m_apart (d : Nat) (a1 a2 : Int) (hb25 : zB 0 3 g25) (hb26 : zB 0 3 g26) (hr2 : 0 ≤ a1 ∧ a1 ≤ 5460) (hr3 : 0 ≤ a2 ∧ a2 ≤ 5460) (Q : zQ) (h : ∀ (v : Int) (k25 : Nat → Int32) (k26 : Nat → Int32) (k27 : Nat → Int32), zB 0 3 k25 → zB 0 3 k26 → (v = (eD (tW a1.toNat) (tW a2.toNat) (tLen a1.toNat) (tLen a2.toNat) : Int)) → (0 ≤ v ∧ v ≤ 12) → Q (some (.int (Int32.ofInt v))) (zMi c0 c1 c2 c3 c4 c5 c6 c7 c8 c9 c10 c11 c12 c13 f0 f9 f10 f11 f12 f13 f15 f16 f17 f20 f21 f22 f23 f26 f28 f31 f32 f33 f38 f41 f44 x14 g15 g16 g17 g18 g19 g20 g21 g22 g23 g24 k25 k26 k27 g28 g29 g30 g31 g32 g33 g34 g35 g36 g37 g38 g39 g40 g41 g42 g43 g44 t)) : zCl zTab (d + 4) iX12_apart [.ref 14, .int (Int32.ofInt a1), .int (Int32.ofInt a2)] (zMi c0 c1 c2 c3 c4 c5 c6 c7 c8 c9 c10 c11 c12 c13 f0 f9 f10 f11 f12 f13 f15 f16 f17 f20 f21 f22 f23 f26 f28 f31 f32 f33 f38 f41 f44 x14 g15 g16 g17 g18 g19 g20 g21 g22 g23 g24 g25 g26 g27 g28 g29 g30 g31 g32 g33 g34 g35 g36 g37 g38 g39 g40 g41 g42 g43 g44 t) 0 0 Q := by
  refine p_apart d _ _ a1.toNat a2.toNat (nI_oi (by omega)) (by omega) (nI_oi (by omega)) (by omega) Q ?_
  intro fa fb T h1 h2
  have h3 := eD_le (tW a1.toNat) (tW a2.toNat) (tLen a1.toNat) (tLen a2.toNat)
  have h4 := tLen_le a1.toNat
  have h5 := tLen_le a2.toNat
  exact h (eD (tW a1.toNat) (tW a2.toNat) (tLen a1.toNat) (tLen a2.toNat) : Int) fa fb T (h1 hb25) (h2 hb26) rfl (by omega)
theorem m_spell25 (d : Nat) (a1 : Int) (hb25 : zB 0 3 g25) (hr1 : 0 ≤ a1 ∧ a1 ≤ 5460) (Q : zQ) (h : ∀ (k25 : Nat → Int32), zB 0 3 k25 → Q (none) (zMi c0 c1 c2 c3 c4 c5 c6 c7 c8 c9 c10 c11 c12 c13 f0 f9 f10 f11 f12 f13 f15 f16 f17 f20 f21 f22 f23 f26 f28 f31 f32 f33 f38 f41 f44 x14 g15 g16 g17 g18 g19 g20 g21 g22 g23 g24 k25 g26 g27 g28 g29 g30 g31 g32 g33 g34 g35 g36 g37 g38 g39 g40 g41 g42 g43 g44 t)) : zCl zTab (d + 3) iX12_spell [.int (Int32.ofInt a1), .ref 25] (zMi c0 c1 c2 c3 c4 c5 c6 c7 c8 c9 c10 c11 c12 c13 f0 f9 f10 f11 f12 f13 f15 f16 f17 f20 f21 f22 f23 f26 f28 f31 f32 f33 f38 f41 f44 x14 g15 g16 g17 g18 g19 g20 g21 g22 g23 g24 g25 g26 g27 g28 g29 g30 g31 g32 g33 g34 g35 g36 g37 g38 g39 g40 g41 g42 g43 g44 t) 0 0 Q := by
  exact p_spell25 d _ a1.toNat (nI_oi hr1.1) (by omega) Q fun f _ hB => h f (hB hb25)
theorem m_spell26 (d : Nat) (a1 : Int) (hb26 : zB 0 3 g26) (hr1 : 0 ≤ a1 ∧ a1 ≤ 5460) (Q : zQ) (h : ∀ (k26 : Nat → Int32), zB 0 3 k26 → Q (none) (zMi c0 c1 c2 c3 c4 c5 c6 c7 c8 c9 c10 c11 c12 c13 f0 f9 f10 f11 f12 f13 f15 f16 f17 f20 f21 f22 f23 f26 f28 f31 f32 f33 f38 f41 f44 x14 g15 g16 g17 g18 g19 g20 g21 g22 g23 g24 g25 k26 g27 g28 g29 g30 g31 g32 g33 g34 g35 g36 g37 g38 g39 g40 g41 g42 g43 g44 t)) : zCl zTab (d + 3) iX12_spell [.int (Int32.ofInt a1), .ref 26] (zMi c0 c1 c2 c3 c4 c5 c6 c7 c8 c9 c10 c11 c12 c13 f0 f9 f10 f11 f12 f13 f15 f16 f17 f20 f21 f22 f23 f26 f28 f31 f32 f33 f38 f41 f44 x14 g15 g16 g17 g18 g19 g20 g21 g22 g23 g24 g25 g26 g27 g28 g29 g30 g31 g32 g33 g34 g35 g36 g37 g38 g39 g40 g41 g42 g43 g44 t) 0 0 Q := by
  exact p_spell26 d _ a1.toNat (nI_oi hr1.1) (by omega) Q fun f _ hB => h f (hB hb26)
theorem m_ofK (d : Nat) (a1 : Int) (hr0 : bkOK g20) (hr1 : 0 ≤ f20 ∧ f20 ≤ 1) (hr2 : 2 ≤ a1 ∧ a1 ≤ 5) (Q : zQ) (h : ∀ (v : Int), (v = (g20 (51 * f20.toNat + a1.toNat)).toInt) → (0 ≤ v ∧ v ≤ 3) → Q (some (.int (Int32.ofInt v))) (zMi c0 c1 c2 c3 c4 c5 c6 c7 c8 c9 c10 c11 c12 c13 f0 f9 f10 f11 f12 f13 f15 f16 f17 f20 f21 f22 f23 f26 f28 f31 f32 f33 f38 f41 f44 x14 g15 g16 g17 g18 g19 g20 g21 g22 g23 g24 g25 g26 g27 g28 g29 g30 g31 g32 g33 g34 g35 g36 g37 g38 g39 g40 g41 g42 g43 g44 t)) : zCl zTab (d + 1) iX12_of [.ref 14, .int (Int32.ofInt a1)] (zMi c0 c1 c2 c3 c4 c5 c6 c7 c8 c9 c10 c11 c12 c13 f0 f9 f10 f11 f12 f13 f15 f16 f17 f20 f21 f22 f23 f26 f28 f31 f32 f33 f38 f41 f44 x14 g15 g16 g17 g18 g19 g20 g21 g22 g23 g24 g25 g26 g27 g28 g29 g30 g31 g32 g33 g34 g35 g36 g37 g38 g39 g40 g41 g42 g43 g44 t) 0 0 Q := by
  refine zCl_i (M := kX12_of) rfl (Nat.le_of_ble_eq_true rfl) fun R hR => ?_
  iterate 2 refine hR (?_ : R (_, _, _, _, _, _))
  refine hR (t_c 51 (by decide) ?_)
  iterate 2 refine hR (?_ : R (_, _, _, _, _, _))
  refine hR (t_mul ?_)
  refine hR (?_ : R (_, _, _, _, _, _))
  refine hR (t_add ?_)
  refine hR (t_ldE (by omega) (by omega) (Nat.le_of_ble_eq_true rfl) fun v1 ev1 rv1 => ?_)
  exact hR (zret_i rfl (Nat.le_refl _) trivial (h _ (bk_ix (by omega) (by omega) ev1) (bk_ofK hr0 (by omega) (by omega) (by omega) (by omega) (bk_ix (by omega) (by omega) ev1))))
theorem m_ofM (d : Nat) (a1 : Int) (hr0 : bkOK g20) (hr1 : 0 ≤ f20 ∧ f20 ≤ 1) (hr2 : 6 ≤ a1 ∧ a1 ≤ 10) (Q : zQ) (h : ∀ (v : Int), (v = (g20 (51 * f20.toNat + a1.toNat)).toInt) → (0 ≤ v ∧ v ≤ 4) → Q (some (.int (Int32.ofInt v))) (zMi c0 c1 c2 c3 c4 c5 c6 c7 c8 c9 c10 c11 c12 c13 f0 f9 f10 f11 f12 f13 f15 f16 f17 f20 f21 f22 f23 f26 f28 f31 f32 f33 f38 f41 f44 x14 g15 g16 g17 g18 g19 g20 g21 g22 g23 g24 g25 g26 g27 g28 g29 g30 g31 g32 g33 g34 g35 g36 g37 g38 g39 g40 g41 g42 g43 g44 t)) : zCl zTab (d + 1) iX12_of [.ref 14, .int (Int32.ofInt a1)] (zMi c0 c1 c2 c3 c4 c5 c6 c7 c8 c9 c10 c11 c12 c13 f0 f9 f10 f11 f12 f13 f15 f16 f17 f20 f21 f22 f23 f26 f28 f31 f32 f33 f38 f41 f44 x14 g15 g16 g17 g18 g19 g20 g21 g22 g23 g24 g25 g26 g27 g28 g29 g30 g31 g32 g33 g34 g35 g36 g37 g38 g39 g40 g41 g42 g43 g44 t) 0 0 Q := by
  refine zCl_i (M := kX12_of) rfl (Nat.le_of_ble_eq_true rfl) fun R hR => ?_
  iterate 2 refine hR (?_ : R (_, _, _, _, _, _))
  refine hR (t_c 51 (by decide) ?_)
  iterate 2 refine hR (?_ : R (_, _, _, _, _, _))
  refine hR (t_mul ?_)
  refine hR (?_ : R (_, _, _, _, _, _))
  refine hR (t_add ?_)
  refine hR (t_ldE (by omega) (by omega) (Nat.le_of_ble_eq_true rfl) fun v1 ev1 rv1 => ?_)
  exact hR (zret_i rfl (Nat.le_refl _) trivial (h _ (bk_ix (by omega) (by omega) ev1) (bk_ofM hr0 (by omega) (by omega) (by omega) (by omega) (bk_ix (by omega) (by omega) ev1))))
theorem m_ofS (d : Nat) (a1 : Int) (hr0 : bkOK g20) (hr1 : 0 ≤ f20 ∧ f20 ≤ 1) (hr2 : 11 ≤ a1 ∧ a1 ≤ 50) (Q : zQ) (h : ∀ (v : Int), (v = (g20 (51 * f20.toNat + a1.toNat)).toInt) → (0 ≤ v ∧ v ≤ 6) → Q (some (.int (Int32.ofInt v))) (zMi c0 c1 c2 c3 c4 c5 c6 c7 c8 c9 c10 c11 c12 c13 f0 f9 f10 f11 f12 f13 f15 f16 f17 f20 f21 f22 f23 f26 f28 f31 f32 f33 f38 f41 f44 x14 g15 g16 g17 g18 g19 g20 g21 g22 g23 g24 g25 g26 g27 g28 g29 g30 g31 g32 g33 g34 g35 g36 g37 g38 g39 g40 g41 g42 g43 g44 t)) : zCl zTab (d + 1) iX12_of [.ref 14, .int (Int32.ofInt a1)] (zMi c0 c1 c2 c3 c4 c5 c6 c7 c8 c9 c10 c11 c12 c13 f0 f9 f10 f11 f12 f13 f15 f16 f17 f20 f21 f22 f23 f26 f28 f31 f32 f33 f38 f41 f44 x14 g15 g16 g17 g18 g19 g20 g21 g22 g23 g24 g25 g26 g27 g28 g29 g30 g31 g32 g33 g34 g35 g36 g37 g38 g39 g40 g41 g42 g43 g44 t) 0 0 Q := by
  refine zCl_i (M := kX12_of) rfl (Nat.le_of_ble_eq_true rfl) fun R hR => ?_
  iterate 2 refine hR (?_ : R (_, _, _, _, _, _))
  refine hR (t_c 51 (by decide) ?_)
  iterate 2 refine hR (?_ : R (_, _, _, _, _, _))
  refine hR (t_mul ?_)
  refine hR (?_ : R (_, _, _, _, _, _))
  refine hR (t_add ?_)
  refine hR (t_ldE (by omega) (by omega) (Nat.le_of_ble_eq_true rfl) fun v1 ev1 rv1 => ?_)
  exact hR (zret_i rfl (Nat.le_refl _) trivial (h _ (bk_ix (by omega) (by omega) ev1) (bk_ofS hr0 (by omega) (by omega) (by omega) (by omega) (bk_ix (by omega) (by omega) ev1))))
theorem m_of0 (d : Nat) (hr0 : bkOK g20) (hr1 : 0 ≤ f20 ∧ f20 ≤ 1) (Q : zQ) (h : ∀ (v : Int), (v = (g20 (51 * f20.toNat + 0)).toInt) → (0 ≤ v ∧ v ≤ 5460) → Q (some (.int (Int32.ofInt v))) (zMi c0 c1 c2 c3 c4 c5 c6 c7 c8 c9 c10 c11 c12 c13 f0 f9 f10 f11 f12 f13 f15 f16 f17 f20 f21 f22 f23 f26 f28 f31 f32 f33 f38 f41 f44 x14 g15 g16 g17 g18 g19 g20 g21 g22 g23 g24 g25 g26 g27 g28 g29 g30 g31 g32 g33 g34 g35 g36 g37 g38 g39 g40 g41 g42 g43 g44 t)) : zCl zTab (d + 1) iX12_of [.ref 14, .int (Int32.ofInt 0)] (zMi c0 c1 c2 c3 c4 c5 c6 c7 c8 c9 c10 c11 c12 c13 f0 f9 f10 f11 f12 f13 f15 f16 f17 f20 f21 f22 f23 f26 f28 f31 f32 f33 f38 f41 f44 x14 g15 g16 g17 g18 g19 g20 g21 g22 g23 g24 g25 g26 g27 g28 g29 g30 g31 g32 g33 g34 g35 g36 g37 g38 g39 g40 g41 g42 g43 g44 t) 0 0 Q := by
  refine zCl_i (M := kX12_of) rfl (Nat.le_of_ble_eq_true rfl) fun R hR => ?_
  iterate 2 refine hR (?_ : R (_, _, _, _, _, _))
  refine hR (t_c 51 (by decide) ?_)
  iterate 2 refine hR (?_ : R (_, _, _, _, _, _))
  refine hR (t_mul ?_)
  refine hR (?_ : R (_, _, _, _, _, _))
  refine hR (t_add ?_)
  refine hR (t_ldE (by omega) (by omega) (Nat.le_of_ble_eq_true rfl) fun v1 ev1 rv1 => ?_)
  exact hR (zret_i rfl (Nat.le_refl _) trivial (h _ (bk_ix (a := 0) (by omega) (by omega) ev1) (bk_of0 hr0 (by omega) (by omega) (bk_ix (a := 0) (by omega) (by omega) ev1))))
theorem m_of1 (d : Nat) (hr0 : bkOK g20) (hr1 : 0 ≤ f20 ∧ f20 ≤ 1) (Q : zQ) (h : ∀ (v : Int), (v = (g20 (51 * f20.toNat + 1)).toInt) → (0 ≤ v ∧ v ≤ 5) → Q (some (.int (Int32.ofInt v))) (zMi c0 c1 c2 c3 c4 c5 c6 c7 c8 c9 c10 c11 c12 c13 f0 f9 f10 f11 f12 f13 f15 f16 f17 f20 f21 f22 f23 f26 f28 f31 f32 f33 f38 f41 f44 x14 g15 g16 g17 g18 g19 g20 g21 g22 g23 g24 g25 g26 g27 g28 g29 g30 g31 g32 g33 g34 g35 g36 g37 g38 g39 g40 g41 g42 g43 g44 t)) : zCl zTab (d + 1) iX12_of [.ref 14, .int (Int32.ofInt 1)] (zMi c0 c1 c2 c3 c4 c5 c6 c7 c8 c9 c10 c11 c12 c13 f0 f9 f10 f11 f12 f13 f15 f16 f17 f20 f21 f22 f23 f26 f28 f31 f32 f33 f38 f41 f44 x14 g15 g16 g17 g18 g19 g20 g21 g22 g23 g24 g25 g26 g27 g28 g29 g30 g31 g32 g33 g34 g35 g36 g37 g38 g39 g40 g41 g42 g43 g44 t) 0 0 Q := by
  refine zCl_i (M := kX12_of) rfl (Nat.le_of_ble_eq_true rfl) fun R hR => ?_
  iterate 2 refine hR (?_ : R (_, _, _, _, _, _))
  refine hR (t_c 51 (by decide) ?_)
  iterate 2 refine hR (?_ : R (_, _, _, _, _, _))
  refine hR (t_mul ?_)
  refine hR (?_ : R (_, _, _, _, _, _))
  refine hR (t_add ?_)
  refine hR (t_ldE (by omega) (by omega) (Nat.le_of_ble_eq_true rfl) fun v1 ev1 rv1 => ?_)
  exact hR (zret_i rfl (Nat.le_refl _) trivial (h _ (bk_ix (a := 1) (by omega) (by omega) ev1) (bk_of1 hr0 (by omega) (by omega) (bk_ix (a := 1) (by omega) (by omega) ev1))))
theorem m_hand (d : Nat) (a1 : Int) (hb19 : zB 0 2 g19) (hr1 : bkOK g20) (hr2 : -2147483648 ≤ a1 ∧ a1 ≤ 2147483647) (Q : zQ) (h : ∀ (v : Int) (y20 : Int) (y22 : Int) (y23 : Int), ((v = 1 ∧ 0 ≤ a1 ∧ a1 ≤ 1 ∧ a1 < (g19 0).toInt ∧ y20 = a1 ∧ 0 ≤ y22 ∧ y22 ≤ 5460 ∧ 0 ≤ y23 ∧ y23 ≤ 5) ∨ (v = 0 ∧ (a1 < 0 ∨ (g19 0).toInt ≤ a1))) → Q (some (.int (Int32.ofInt v))) (zMi c0 c1 c2 c3 c4 c5 c6 c7 c8 c9 c10 c11 c12 c13 f0 f9 f10 f11 f12 f13 f15 f16 f17 y20 f21 y22 y23 f26 f28 f31 f32 f33 f38 f41 f44 x14 g15 g16 g17 g18 g19 g20 g21 g22 g23 g24 g25 g26 g27 g28 g29 g30 g31 g32 g33 g34 g35 g36 g37 g38 g39 g40 g41 g42 g43 g44 t)) : zCl zTab (d + 3) iX12_hand [.ref 14, .int (Int32.ofInt a1)] (zMi c0 c1 c2 c3 c4 c5 c6 c7 c8 c9 c10 c11 c12 c13 f0 f9 f10 f11 f12 f13 f15 f16 f17 f20 f21 f22 f23 f26 f28 f31 f32 f33 f38 f41 f44 x14 g15 g16 g17 g18 g19 g20 g21 g22 g23 g24 g25 g26 g27 g28 g29 g30 g31 g32 g33 g34 g35 g36 g37 g38 g39 g40 g41 g42 g43 g44 t) 0 0 Q := by
  refine zCl_i (M := kX12_hand) rfl (Nat.le_of_ble_eq_true rfl) fun R hR => ?_
  iterate 3 refine hR (?_ : R (_, _, _, _, _, _))
  refine hR (zcall_i 0 0 (Nat.le_of_ble_eq_true rfl) (Nat.le_of_ble_eq_true rfl) (m_is _ 0 a1 hb19 (by omega) (by omega) _ fun v1 hp2 => ?_))
  refine (?_ : R (_, _, (.int (Int32.ofInt v1)) :: [], (zMi c0 c1 c2 c3 c4 c5 c6 c7 c8 c9 c10 c11 c12 c13 f0 f9 f10 f11 f12 f13 f15 f16 f17 f20 f21 f22 f23 f26 f28 f31 f32 f33 f38 f41 f44 x14 g15 g16 g17 g18 g19 g20 g21 g22 g23 g24 g25 g26 g27 g28 g29 g30 g31 g32 g33 g34 g35 g36 g37 g38 g39 g40 g41 g42 g43 g44 t), 0, 0))
  have hp2x : (v1 = 1 ∧ 0 ≤ a1 ∧ a1 < (g19 0).toInt ∧ a1 ≤ 1) ∨ (v1 = 0 ∧ (a1 < 0 ∨ (g19 0).toInt ≤ a1)) := hp2
  refine hR (k_ne (by omega) (fun hc3 => ?_) (fun hc3 => ?_))
  rotate_left
  · skip
    refine hR (?_ : R (_, _, _, _, _, _))
    exact hR (zret_i rfl (Nat.le_refl _) (zbo (by omega)) (h _ _ _ _ (by omega)))
  iterate 2 refine hR (?_ : R (_, _, _, _, _, _))
  refine hR (?_ : R (_, _, _, (zMi c0 c1 c2 c3 c4 c5 c6 c7 c8 c9 c10 c11 c12 c13 f0 f9 f10 f11 f12 f13 f15 f16 f17 a1 f21 f22 f23 f26 f28 f31 f32 f33 f38 f41 f44 x14 g15 g16 g17 g18 g19 g20 g21 g22 g23 g24 g25 g26 g27 g28 g29 g30 g31 g32 g33 g34 g35 g36 g37 g38 g39 g40 g41 g42 g43 g44 t), _, _))
  iterate 3 refine hR (?_ : R (_, _, _, _, _, _))
  refine hR (zcall_i 0 0 (Nat.le_of_ble_eq_true rfl) (Nat.le_of_ble_eq_true rfl) (m_of0 _ hr1 (by omega) _ fun v4 hp5 hp6 => ?_))
  refine (?_ : R (_, _, (.int (Int32.ofInt v4)) :: (.ref 14) :: [], (zMi c0 c1 c2 c3 c4 c5 c6 c7 c8 c9 c10 c11 c12 c13 f0 f9 f10 f11 f12 f13 f15 f16 f17 a1 f21 f22 f23 f26 f28 f31 f32 f33 f38 f41 f44 x14 g15 g16 g17 g18 g19 g20 g21 g22 g23 g24 g25 g26 g27 g28 g29 g30 g31 g32 g33 g34 g35 g36 g37 g38 g39 g40 g41 g42 g43 g44 t), 0, 0))
  refine hR (?_ : R (_, _, _, (zMi c0 c1 c2 c3 c4 c5 c6 c7 c8 c9 c10 c11 c12 c13 f0 f9 f10 f11 f12 f13 f15 f16 f17 a1 f21 v4 f23 f26 f28 f31 f32 f33 f38 f41 f44 x14 g15 g16 g17 g18 g19 g20 g21 g22 g23 g24 g25 g26 g27 g28 g29 g30 g31 g32 g33 g34 g35 g36 g37 g38 g39 g40 g41 g42 g43 g44 t), _, _))
  iterate 3 refine hR (?_ : R (_, _, _, _, _, _))
  refine hR (zcall_i 0 0 (Nat.le_of_ble_eq_true rfl) (Nat.le_of_ble_eq_true rfl) (m_of1 _ hr1 (by omega) _ fun v7 hp8 hp9 => ?_))
  refine (?_ : R (_, _, (.int (Int32.ofInt v7)) :: (.ref 14) :: [], (zMi c0 c1 c2 c3 c4 c5 c6 c7 c8 c9 c10 c11 c12 c13 f0 f9 f10 f11 f12 f13 f15 f16 f17 a1 f21 v4 f23 f26 f28 f31 f32 f33 f38 f41 f44 x14 g15 g16 g17 g18 g19 g20 g21 g22 g23 g24 g25 g26 g27 g28 g29 g30 g31 g32 g33 g34 g35 g36 g37 g38 g39 g40 g41 g42 g43 g44 t), 0, 0))
  refine hR (?_ : R (_, _, _, (zMi c0 c1 c2 c3 c4 c5 c6 c7 c8 c9 c10 c11 c12 c13 f0 f9 f10 f11 f12 f13 f15 f16 f17 a1 f21 v4 v7 f26 f28 f31 f32 f33 f38 f41 f44 x14 g15 g16 g17 g18 g19 g20 g21 g22 g23 g24 g25 g26 g27 g28 g29 g30 g31 g32 g33 g34 g35 g36 g37 g38 g39 g40 g41 g42 g43 g44 t), _, _))
  refine hR (?_ : R (_, _, _, _, _, _))
  exact hR (zret_i rfl (Nat.le_refl _) (zbo (by omega)) (h _ _ _ _ (by omega)))
theorem m_numberOf (d : Nat) (a1 : Int) (hb25 : zB 0 3 g25) (hr1 : 0 ≤ a1 ∧ a1 ≤ 6) (Q : zQ) (h : ∀ (v : Int), (0 ≤ v ∧ v ≤ 5460) → Q (some (.int (Int32.ofInt v))) (zMi c0 c1 c2 c3 c4 c5 c6 c7 c8 c9 c10 c11 c12 c13 f0 f9 f10 f11 f12 f13 f15 f16 f17 f20 f21 f22 f23 f26 f28 f31 f32 f33 f38 f41 f44 x14 g15 g16 g17 g18 g19 g20 g21 g22 g23 g24 g25 g26 g27 g28 g29 g30 g31 g32 g33 g34 g35 g36 g37 g38 g39 g40 g41 g42 g43 g44 t)) : zCl zTab (d + 2) iX12_numberOf [.ref 14, .int (Int32.ofInt a1)] (zMi c0 c1 c2 c3 c4 c5 c6 c7 c8 c9 c10 c11 c12 c13 f0 f9 f10 f11 f12 f13 f15 f16 f17 f20 f21 f22 f23 f26 f28 f31 f32 f33 f38 f41 f44 x14 g15 g16 g17 g18 g19 g20 g21 g22 g23 g24 g25 g26 g27 g28 g29 g30 g31 g32 g33 g34 g35 g36 g37 g38 g39 g40 g41 g42 g43 g44 t) 0 0 Q := by
  refine zCl_i (M := kX12_numberOf) rfl (Nat.le_of_ble_eq_true rfl) fun R hR => ?_
  iterate 4 refine hR (?_ : R (_, _, _, _, _, _))
  have lp4 : ∀ (N : Nat) (fg : Int) (i : Int), (0 ≤ fg ∧ fg ≤ 100000) → (0 ≤ i ∧ i ≤ a1) → (fg < 4 ^ i.toNat) → (a1 - i < N) → R (4, [some (.ref 14), some (.int (Int32.ofInt a1)), some (.int (Int32.ofInt fg)), some (.int (Int32.ofInt i))], [], (zMi c0 c1 c2 c3 c4 c5 c6 c7 c8 c9 c10 c11 c12 c13 f0 f9 f10 f11 f12 f13 f15 f16 f17 f20 f21 f22 f23 f26 f28 f31 f32 f33 f38 f41 f44 x14 g15 g16 g17 g18 g19 g20 g21 g22 g23 g24 g25 g26 g27 g28 g29 g30 g31 g32 g33 g34 g35 g36 g37 g38 g39 g40 g41 g42 g43 g44 t), 0, 0) := by
    intro N
    induction N with
    | zero => intros; omega
    | succ N ih4 =>
      intro fg i hf0_4 hf1_4 hp0_4 hN4
      iterate 2 refine hR (?_ : R (_, _, _, _, _, _))
      refine hR (j_ge (by omega) (by omega) (fun hc1 => ?_) (fun hc1 => ?_))
      · skip
        refine hR (?_ : R (_, _, _, _, _, _))
        refine hR (zcall_i 0 0 (Nat.le_of_ble_eq_true rfl) (Nat.le_of_ble_eq_true rfl) (m_shorter _ a1 _ (by omega) _ fun v2 hp3 hp4 => ?_))
        refine (?_ : R (_, _, (.int (Int32.ofInt v2)) :: [], (zMi c0 c1 c2 c3 c4 c5 c6 c7 c8 c9 c10 c11 c12 c13 f0 f9 f10 f11 f12 f13 f15 f16 f17 f20 f21 f22 f23 f26 f28 f31 f32 f33 f38 f41 f44 x14 g15 g16 g17 g18 g19 g20 g21 g22 g23 g24 g25 g26 g27 g28 g29 g30 g31 g32 g33 g34 g35 g36 g37 g38 g39 g40 g41 g42 g43 g44 t), 0, 0))
        have hz1 := tSh_b (i := a1) (by omega) (by omega)
        have hz2 := zp4_e hp0_4 (show i = a1 by omega)
        refine hR (?_ : R (_, _, _, _, _, _))
        refine hR (t_add ?_)
        exact hR (zret_i rfl (Nat.le_refl _) trivial (h _ (by omega)))
      have hz0 := zp4_b (i := i) (by omega) (by omega)
      iterate 2 refine hR (?_ : R (_, _, _, _, _, _))
      refine hR (t_mul ?_)
      iterate 3 refine hR (?_ : R (_, _, _, _, _, _))
      refine hR (t_ldB hb25 (by omega) (by omega) (Nat.le_of_ble_eq_true rfl) fun v5 ev5 lv5 uv5 => ?_)
      clear ev5
      refine hR (t_add ?_)
      refine hR (?_ : R (_, _, _, _, _, _))
      refine hR (t_inc ?_)
      refine hR (?_ : R (_, _, _, _, _, _))
      exact ih4 _ _ (by omega) (by omega) (zp4_s (by omega) hp0_4 (by omega)) (by omega)
  exact lp4 400000000 _ _ (by omega) (by omega) (by decide) (by omega)
theorem m_swap (d : Nat) (a1 a2 : Int) (hb25 : zB 0 3 g25) (hr1 : 0 ≤ a1 ∧ a1 ≤ 6) (hr2 : 0 ≤ a2 ∧ a2 ≤ 6) (Q : zQ) (h : ∀ (k25 : Nat → Int32), zB 0 3 k25 → Q (none) (zMi c0 c1 c2 c3 c4 c5 c6 c7 c8 c9 c10 c11 c12 c13 f0 f9 f10 f11 f12 f13 f15 f16 f17 f20 f21 f22 f23 f26 f28 f31 f32 f33 f38 f41 f44 x14 g15 g16 g17 g18 g19 g20 g21 g22 g23 g24 k25 g26 g27 g28 g29 g30 g31 g32 g33 g34 g35 g36 g37 g38 g39 g40 g41 g42 g43 g44 t)) : zCl zTab (d + 1) iX12_swap [.ref 14, .int (Int32.ofInt a1), .int (Int32.ofInt a2)] (zMi c0 c1 c2 c3 c4 c5 c6 c7 c8 c9 c10 c11 c12 c13 f0 f9 f10 f11 f12 f13 f15 f16 f17 f20 f21 f22 f23 f26 f28 f31 f32 f33 f38 f41 f44 x14 g15 g16 g17 g18 g19 g20 g21 g22 g23 g24 g25 g26 g27 g28 g29 g30 g31 g32 g33 g34 g35 g36 g37 g38 g39 g40 g41 g42 g43 g44 t) 0 0 Q := by
  refine zCl_i (M := kX12_swap) rfl (Nat.le_of_ble_eq_true rfl) fun R hR => ?_
  iterate 3 refine hR (?_ : R (_, _, _, _, _, _))
  refine hR (t_ldB hb25 (by omega) (by omega) (Nat.le_of_ble_eq_true rfl) fun v1 ev1 lv1 uv1 => ?_)
  clear ev1
  iterate 7 refine hR (?_ : R (_, _, _, _, _, _))
  refine hR (t_ldB hb25 (by omega) (by omega) (Nat.le_of_ble_eq_true rfl) fun v2 ev2 lv2 uv2 => ?_)
  clear ev2
  refine hR (t_stB hb25 (by omega) (by omega) (by omega) (by omega) (by omega) (by omega) (Nat.le_of_ble_eq_true rfl) fun k25_3 hk25_3 => (?_ : R (_, _, _, (zMi c0 c1 c2 c3 c4 c5 c6 c7 c8 c9 c10 c11 c12 c13 f0 f9 f10 f11 f12 f13 f15 f16 f17 f20 f21 f22 f23 f26 f28 f31 f32 f33 f38 f41 f44 x14 g15 g16 g17 g18 g19 g20 g21 g22 g23 g24 k25_3 g26 g27 g28 g29 g30 g31 g32 g33 g34 g35 g36 g37 g38 g39 g40 g41 g42 g43 g44 t), _, _)))
  iterate 4 refine hR (?_ : R (_, _, _, _, _, _))
  refine hR (t_stB hk25_3 (by omega) (by omega) (by omega) (by omega) (by omega) (by omega) (Nat.le_of_ble_eq_true rfl) fun k25_4 hk25_4 => (?_ : R (_, _, _, (zMi c0 c1 c2 c3 c4 c5 c6 c7 c8 c9 c10 c11 c12 c13 f0 f9 f10 f11 f12 f13 f15 f16 f17 f20 f21 f22 f23 f26 f28 f31 f32 f33 f38 f41 f44 x14 g15 g16 g17 g18 g19 g20 g21 g22 g23 g24 k25_4 g26 g27 g28 g29 g30 g31 g32 g33 g34 g35 g36 g37 g38 g39 g40 g41 g42 g43 g44 t), _, _)))
  exact hR (zret_i rfl (Nat.le_refl _) rfl (h _ hk25_4))
theorem m_shift (d : Nat) (a1 : Int) (hb25 : zB 0 3 g25) (hr1 : bkOK g20) (hr2 : 0 ≤ f20 ∧ f20 ≤ 1) (hr3 : 0 ≤ a1 ∧ a1 ≤ 3) (hr4 : 0 ≤ f26 ∧ f26 ≤ 6) (Q : zQ) (h : ∀ (k25 : Nat → Int32), zB 0 3 k25 → Q (none) (zMi c0 c1 c2 c3 c4 c5 c6 c7 c8 c9 c10 c11 c12 c13 f0 f9 f10 f11 f12 f13 f15 f16 f17 f20 f21 f22 f23 f26 f28 f31 f32 f33 f38 f41 f44 x14 g15 g16 g17 g18 g19 g20 g21 g22 g23 g24 k25 g26 g27 g28 g29 g30 g31 g32 g33 g34 g35 g36 g37 g38 g39 g40 g41 g42 g43 g44 t)) : zCl zTab (d + 2) iX12_shift [.ref 14, .int (Int32.ofInt a1)] (zMi c0 c1 c2 c3 c4 c5 c6 c7 c8 c9 c10 c11 c12 c13 f0 f9 f10 f11 f12 f13 f15 f16 f17 f20 f21 f22 f23 f26 f28 f31 f32 f33 f38 f41 f44 x14 g15 g16 g17 g18 g19 g20 g21 g22 g23 g24 g25 g26 g27 g28 g29 g30 g31 g32 g33 g34 g35 g36 g37 g38 g39 g40 g41 g42 g43 g44 t) 0 0 Q := by
  refine zCl_i (M := kX12_shift) rfl (Nat.le_of_ble_eq_true rfl) fun R hR => ?_
  iterate 2 refine hR (?_ : R (_, _, _, _, _, _))
  have lp2 : ∀ (N : Nat) (i : Int) (q25_2 : Nat → Int32), (0 ≤ i ∧ i ≤ f26) → (zB 0 3 q25_2) → (f26 - i < N) → R (2, [some (.ref 14), some (.int (Int32.ofInt a1)), some (.int (Int32.ofInt i))], [], (zMi c0 c1 c2 c3 c4 c5 c6 c7 c8 c9 c10 c11 c12 c13 f0 f9 f10 f11 f12 f13 f15 f16 f17 f20 f21 f22 f23 f26 f28 f31 f32 f33 f38 f41 f44 x14 g15 g16 g17 g18 g19 g20 g21 g22 g23 g24 q25_2 g26 g27 g28 g29 g30 g31 g32 g33 g34 g35 g36 g37 g38 g39 g40 g41 g42 g43 g44 t), 0, 0) := by
    intro N
    induction N with
    | zero => intros; omega
    | succ N ih2 =>
      intro i q25_2 hf0_2 hq25_2 hN2
      iterate 3 refine hR (?_ : R (_, _, _, _, _, _))
      refine hR (j_ge (by omega) (by omega) (fun hc1 => ?_) (fun hc1 => ?_))
      · skip
        exact hR (zret_i rfl (Nat.le_refl _) rfl (h _ hq25_2))
      iterate 6 refine hR (?_ : R (_, _, _, _, _, _))
      refine hR (t_ldB hq25_2 (by omega) (by omega) (Nat.le_of_ble_eq_true rfl) fun v2 ev2 lv2 uv2 => ?_)
      clear ev2
      refine hR (?_ : R (_, _, _, _, _, _))
      refine hR (j_ne (by omega) (by omega) (fun hc3 => ?_) (fun hc3 => ?_))
      · skip
        iterate 3 refine hR (?_ : R (_, _, _, _, _, _))
        refine hR (t_ldB hq25_2 (by omega) (by omega) (Nat.le_of_ble_eq_true rfl) fun v4 ev4 lv4 uv4 => ?_)
        clear ev4
        refine hR (t_stB hq25_2 (by omega) (by omega) (by omega) (by omega) (by omega) (by omega) (Nat.le_of_ble_eq_true rfl) fun k25_5 hk25_5 => (?_ : R (_, _, _, (zMi c0 c1 c2 c3 c4 c5 c6 c7 c8 c9 c10 c11 c12 c13 f0 f9 f10 f11 f12 f13 f15 f16 f17 f20 f21 f22 f23 f26 f28 f31 f32 f33 f38 f41 f44 x14 g15 g16 g17 g18 g19 g20 g21 g22 g23 g24 k25_5 g26 g27 g28 g29 g30 g31 g32 g33 g34 g35 g36 g37 g38 g39 g40 g41 g42 g43 g44 t), _, _)))
        refine hR (t_inc ?_)
        refine hR (?_ : R (_, _, _, _, _, _))
        exact ih2 _ _ (by omega) hk25_5 (by omega)
      iterate 3 refine hR (?_ : R (_, _, _, _, _, _))
      refine hR (t_add ?_)
      refine hR (zcall_i 0 0 (Nat.le_of_ble_eq_true rfl) (Nat.le_of_ble_eq_true rfl) (m_ofK _ (2 + a1) hr1 (by omega) (by omega) _ fun v6 hp7 hp8 => ?_))
      refine (?_ : R (_, _, (.int (Int32.ofInt v6)) :: (.int (Int32.ofInt i)) :: (.ref 25) :: [], (zMi c0 c1 c2 c3 c4 c5 c6 c7 c8 c9 c10 c11 c12 c13 f0 f9 f10 f11 f12 f13 f15 f16 f17 f20 f21 f22 f23 f26 f28 f31 f32 f33 f38 f41 f44 x14 g15 g16 g17 g18 g19 g20 g21 g22 g23 g24 q25_2 g26 g27 g28 g29 g30 g31 g32 g33 g34 g35 g36 g37 g38 g39 g40 g41 g42 g43 g44 t), 0, 0))
      refine hR (?_ : R (_, _, _, _, _, _))
      refine hR (t_stB hq25_2 (by omega) (by omega) (by omega) (by omega) (by omega) (by omega) (Nat.le_of_ble_eq_true rfl) fun k25_9 hk25_9 => (?_ : R (_, _, _, (zMi c0 c1 c2 c3 c4 c5 c6 c7 c8 c9 c10 c11 c12 c13 f0 f9 f10 f11 f12 f13 f15 f16 f17 f20 f21 f22 f23 f26 f28 f31 f32 f33 f38 f41 f44 x14 g15 g16 g17 g18 g19 g20 g21 g22 g23 g24 k25_9 g26 g27 g28 g29 g30 g31 g32 g33 g34 g35 g36 g37 g38 g39 g40 g41 g42 g43 g44 t), _, _)))
      refine hR (t_inc ?_)
      refine hR (?_ : R (_, _, _, _, _, _))
      exact ih2 _ _ (by omega) hk25_9 (by omega)
  exact lp2 400000000 _ _ (by omega) hb25 (by omega)
theorem m_drop (d : Nat) (a1 : Int) (hb25 : zB 0 3 g25) (hr1 : 1 ≤ a1 ∧ a1 ≤ 6) (hr2 : 0 ≤ f26 ∧ f26 ≤ 6) (Q : zQ) (h : ∀ (y26 : Int) (k25 : Nat → Int32), zB 0 3 k25 → (0 ≤ y26 ∧ y26 ≤ 6) → Q (none) (zMi c0 c1 c2 c3 c4 c5 c6 c7 c8 c9 c10 c11 c12 c13 f0 f9 f10 f11 f12 f13 f15 f16 f17 f20 f21 f22 f23 y26 f28 f31 f32 f33 f38 f41 f44 x14 g15 g16 g17 g18 g19 g20 g21 g22 g23 g24 k25 g26 g27 g28 g29 g30 g31 g32 g33 g34 g35 g36 g37 g38 g39 g40 g41 g42 g43 g44 t)) : zCl zTab (d + 1) iX12_drop [.ref 14, .int (Int32.ofInt a1)] (zMi c0 c1 c2 c3 c4 c5 c6 c7 c8 c9 c10 c11 c12 c13 f0 f9 f10 f11 f12 f13 f15 f16 f17 f20 f21 f22 f23 f26 f28 f31 f32 f33 f38 f41 f44 x14 g15 g16 g17 g18 g19 g20 g21 g22 g23 g24 g25 g26 g27 g28 g29 g30 g31 g32 g33 g34 g35 g36 g37 g38 g39 g40 g41 g42 g43 g44 t) 0 0 Q := by
  refine zCl_i (M := kX12_drop) rfl (Nat.le_of_ble_eq_true rfl) fun R hR => ?_
  iterate 3 refine hR (?_ : R (_, _, _, _, _, _))
  refine hR (j_gt (by omega) (by omega) (fun hc1 => ?_) (fun hc1 => ?_))
  · skip
    exact hR (zret_i rfl (Nat.le_refl _) rfl (h _ _ hb25 (by omega)))
  iterate 2 refine hR (?_ : R (_, _, _, _, _, _))
  have lp10 : ∀ (N : Nat) (i : Int) (q25_10 : Nat → Int32), (a1 ≤ i ∧ i ≤ f26) → (zB 0 3 q25_10) → (f26 - i < N) → R (10, [some (.ref 14), some (.int (Int32.ofInt a1)), some (.int (Int32.ofInt i))], [], (zMi c0 c1 c2 c3 c4 c5 c6 c7 c8 c9 c10 c11 c12 c13 f0 f9 f10 f11 f12 f13 f15 f16 f17 f20 f21 f22 f23 f26 f28 f31 f32 f33 f38 f41 f44 x14 g15 g16 g17 g18 g19 g20 g21 g22 g23 g24 q25_10 g26 g27 g28 g29 g30 g31 g32 g33 g34 g35 g36 g37 g38 g39 g40 g41 g42 g43 g44 t), 0, 0) := by
    intro N
    induction N with
    | zero => intros; omega
    | succ N ih10 =>
      intro i q25_10 hf0_10 hq25_10 hN10
      iterate 3 refine hR (?_ : R (_, _, _, _, _, _))
      refine hR (j_ge (by omega) (by omega) (fun hc2 => ?_) (fun hc2 => ?_))
      · skip
        iterate 4 refine hR (?_ : R (_, _, _, _, _, _))
        refine hR (t_sub ?_)
        refine hR (?_ : R (_, _, _, (zMi c0 c1 c2 c3 c4 c5 c6 c7 c8 c9 c10 c11 c12 c13 f0 f9 f10 f11 f12 f13 f15 f16 f17 f20 f21 f22 f23 (f26 - 1) f28 f31 f32 f33 f38 f41 f44 x14 g15 g16 g17 g18 g19 g20 g21 g22 g23 g24 q25_10 g26 g27 g28 g29 g30 g31 g32 g33 g34 g35 g36 g37 g38 g39 g40 g41 g42 g43 g44 t), _, _))
        exact hR (zret_i rfl (Nat.le_refl _) rfl (h _ _ hq25_10 (by omega)))
      iterate 4 refine hR (?_ : R (_, _, _, _, _, _))
      refine hR (t_sub ?_)
      iterate 3 refine hR (?_ : R (_, _, _, _, _, _))
      refine hR (t_ldB hq25_10 (by omega) (by omega) (Nat.le_of_ble_eq_true rfl) fun v3 ev3 lv3 uv3 => ?_)
      clear ev3
      refine hR (t_stB hq25_10 (by omega) (by omega) (by omega) (by omega) (by omega) (by omega) (Nat.le_of_ble_eq_true rfl) fun k25_4 hk25_4 => (?_ : R (_, _, _, (zMi c0 c1 c2 c3 c4 c5 c6 c7 c8 c9 c10 c11 c12 c13 f0 f9 f10 f11 f12 f13 f15 f16 f17 f20 f21 f22 f23 f26 f28 f31 f32 f33 f38 f41 f44 x14 g15 g16 g17 g18 g19 g20 g21 g22 g23 g24 k25_4 g26 g27 g28 g29 g30 g31 g32 g33 g34 g35 g36 g37 g38 g39 g40 g41 g42 g43 g44 t), _, _)))
      refine hR (t_inc ?_)
      refine hR (?_ : R (_, _, _, _, _, _))
      exact ih10 _ _ (by omega) hk25_4 (by omega)
  exact lp10 400000000 _ _ (by omega) hb25 (by omega)
theorem m_twice (d : Nat) (a1 : Int) (hb25 : zB 0 3 g25) (hr1 : 1 ≤ a1 ∧ a1 ≤ 6) (hr2 : 0 ≤ f26 ∧ f26 ≤ 6) (Q : zQ) (h : ∀ (y26 : Int) (k25 : Nat → Int32), zB 0 3 k25 → (0 ≤ y26 ∧ y26 ≤ 6) → Q (none) (zMi c0 c1 c2 c3 c4 c5 c6 c7 c8 c9 c10 c11 c12 c13 f0 f9 f10 f11 f12 f13 f15 f16 f17 f20 f21 f22 f23 y26 f28 f31 f32 f33 f38 f41 f44 x14 g15 g16 g17 g18 g19 g20 g21 g22 g23 g24 k25 g26 g27 g28 g29 g30 g31 g32 g33 g34 g35 g36 g37 g38 g39 g40 g41 g42 g43 g44 t)) : zCl zTab (d + 1) iX12_twice [.ref 14, .int (Int32.ofInt a1)] (zMi c0 c1 c2 c3 c4 c5 c6 c7 c8 c9 c10 c11 c12 c13 f0 f9 f10 f11 f12 f13 f15 f16 f17 f20 f21 f22 f23 f26 f28 f31 f32 f33 f38 f41 f44 x14 g15 g16 g17 g18 g19 g20 g21 g22 g23 g24 g25 g26 g27 g28 g29 g30 g31 g32 g33 g34 g35 g36 g37 g38 g39 g40 g41 g42 g43 g44 t) 0 0 Q := by
  refine zCl_i (M := kX12_twice) rfl (Nat.le_of_ble_eq_true rfl) fun R hR => ?_
  iterate 3 refine hR (?_ : R (_, _, _, _, _, _))
  refine hR (j_gt (by omega) (by omega) (fun hc1 => ?_) (fun hc1 => ?_))
  · skip
    exact hR (zret_i rfl (Nat.le_refl _) rfl (h _ _ hb25 (by omega)))
  iterate 2 refine hR (?_ : R (_, _, _, _, _, _))
  refine hR (t_c 6 (by decide) ?_)
  refine hR (j_ge (by omega) (by omega) (fun hc2 => ?_) (fun hc2 => ?_))
  · skip
    exact hR (zret_i rfl (Nat.le_refl _) rfl (h _ _ hb25 (by omega)))
  iterate 3 refine hR (?_ : R (_, _, _, _, _, _))
  have lp22 : ∀ (N : Nat) (i : Int) (q25_22 : Nat → Int32), (0 ≤ i ∧ i ≤ f26) → (zB 0 3 q25_22) → (i < N) → R (22, [some (.ref 14), some (.int (Int32.ofInt a1)), some (.int (Int32.ofInt i))], [], (zMi c0 c1 c2 c3 c4 c5 c6 c7 c8 c9 c10 c11 c12 c13 f0 f9 f10 f11 f12 f13 f15 f16 f17 f20 f21 f22 f23 f26 f28 f31 f32 f33 f38 f41 f44 x14 g15 g16 g17 g18 g19 g20 g21 g22 g23 g24 q25_22 g26 g27 g28 g29 g30 g31 g32 g33 g34 g35 g36 g37 g38 g39 g40 g41 g42 g43 g44 t), 0, 0) := by
    intro N
    induction N with
    | zero => intros; omega
    | succ N ih22 =>
      intro i q25_22 hf0_22 hq25_22 hN22
      iterate 2 refine hR (?_ : R (_, _, _, _, _, _))
      refine hR (j_lt (by omega) (by omega) (fun hc3 => ?_) (fun hc3 => ?_))
      · skip
        iterate 4 refine hR (?_ : R (_, _, _, _, _, _))
        refine hR (t_add ?_)
        refine hR (?_ : R (_, _, _, (zMi c0 c1 c2 c3 c4 c5 c6 c7 c8 c9 c10 c11 c12 c13 f0 f9 f10 f11 f12 f13 f15 f16 f17 f20 f21 f22 f23 (f26 + 1) f28 f31 f32 f33 f38 f41 f44 x14 g15 g16 g17 g18 g19 g20 g21 g22 g23 g24 q25_22 g26 g27 g28 g29 g30 g31 g32 g33 g34 g35 g36 g37 g38 g39 g40 g41 g42 g43 g44 t), _, _))
        exact hR (zret_i rfl (Nat.le_refl _) rfl (h _ _ hq25_22 (by omega)))
      iterate 7 refine hR (?_ : R (_, _, _, _, _, _))
      refine hR (t_sub ?_)
      refine hR (t_ldB hq25_22 (by omega) (by omega) (Nat.le_of_ble_eq_true rfl) fun v4 ev4 lv4 uv4 => ?_)
      clear ev4
      refine hR (t_stB hq25_22 (by omega) (by omega) (by omega) (by omega) (by omega) (by omega) (Nat.le_of_ble_eq_true rfl) fun k25_5 hk25_5 => (?_ : R (_, _, _, (zMi c0 c1 c2 c3 c4 c5 c6 c7 c8 c9 c10 c11 c12 c13 f0 f9 f10 f11 f12 f13 f15 f16 f17 f20 f21 f22 f23 f26 f28 f31 f32 f33 f38 f41 f44 x14 g15 g16 g17 g18 g19 g20 g21 g22 g23 g24 k25_5 g26 g27 g28 g29 g30 g31 g32 g33 g34 g35 g36 g37 g38 g39 g40 g41 g42 g43 g44 t), _, _)))
      refine hR (t_inc ?_)
      refine hR (?_ : R (_, _, _, _, _, _))
      exact ih22 _ _ (by omega) hk25_5 (by omega)
  exact lp22 400000000 _ _ (by omega) hb25 (by omega)
theorem m_step (d : Nat) (a1 a2 : Int) (hb25 : zB 0 3 g25) (hr1 : bkOK g20) (hr2 : 0 ≤ f20 ∧ f20 ≤ 1) (hr3 : 0 ≤ a1 ∧ a1 ≤ 4) (hr4 : 0 ≤ a2 ∧ a2 ≤ 6 ∧ (a1 = 0 → a2 ≤ 3) ∧ (1 ≤ a1 → a1 ≤ 3 → 1 ≤ a2)) (hr5 : 0 ≤ f26 ∧ f26 ≤ 6) (Q : zQ) (h : ∀ (y26 : Int) (k25 : Nat → Int32), zB 0 3 k25 → (0 ≤ y26 ∧ y26 ≤ 6) → Q (none) (zMi c0 c1 c2 c3 c4 c5 c6 c7 c8 c9 c10 c11 c12 c13 f0 f9 f10 f11 f12 f13 f15 f16 f17 f20 f21 f22 f23 y26 f28 f31 f32 f33 f38 f41 f44 x14 g15 g16 g17 g18 g19 g20 g21 g22 g23 g24 k25 g26 g27 g28 g29 g30 g31 g32 g33 g34 g35 g36 g37 g38 g39 g40 g41 g42 g43 g44 t)) : zCl zTab (d + 3) iX12_step [.ref 14, .int (Int32.ofInt a1), .int (Int32.ofInt a2)] (zMi c0 c1 c2 c3 c4 c5 c6 c7 c8 c9 c10 c11 c12 c13 f0 f9 f10 f11 f12 f13 f15 f16 f17 f20 f21 f22 f23 f26 f28 f31 f32 f33 f38 f41 f44 x14 g15 g16 g17 g18 g19 g20 g21 g22 g23 g24 g25 g26 g27 g28 g29 g30 g31 g32 g33 g34 g35 g36 g37 g38 g39 g40 g41 g42 g43 g44 t) 0 0 Q := by
  refine zCl_i (M := kX12_step) rfl (Nat.le_of_ble_eq_true rfl) fun R hR => ?_
  refine hR (?_ : R (_, _, _, _, _, _))
  refine hR (?_ : _ ∧ _)
  rw [zti (e := a1) (by omega) (by omega)]
  refine ⟨fun hs1 => ?_, fun hs1 => ?_⟩
  · skip
    iterate 5 refine hR (?_ : R (_, _, _, _, _, _))
    refine hR (t_sub ?_)
    refine hR (?_ : R (_, _, _, _, _, _))
    have lp77 : ∀ (N : Nat) (i : Int) (j : Int) (q25_77 : Nat → Int32), (0 ≤ i ∧ i ≤ 6) → (-1 ≤ j ∧ j ≤ f26 - 1) → (i + j = f26 - 1) → (zB 0 3 q25_77) → (j - i + 7 < N) → R (77, [some (.ref 14), some (.int (Int32.ofInt a1)), some (.int (Int32.ofInt a2)), some (.int (Int32.ofInt i)), some (.int (Int32.ofInt j))], [], (zMi c0 c1 c2 c3 c4 c5 c6 c7 c8 c9 c10 c11 c12 c13 f0 f9 f10 f11 f12 f13 f15 f16 f17 f20 f21 f22 f23 f26 f28 f31 f32 f33 f38 f41 f44 x14 g15 g16 g17 g18 g19 g20 g21 g22 g23 g24 q25_77 g26 g27 g28 g29 g30 g31 g32 g33 g34 g35 g36 g37 g38 g39 g40 g41 g42 g43 g44 t), 0, 0) := by
      intro N
      induction N with
      | zero => intros; omega
      | succ N ih77 =>
        intro i j q25_77 hf0_77 hf1_77 hp0_77 hq25_77 hN77
        iterate 2 refine hR (?_ : R (_, _, _, _, _, _))
        refine hR (j_ge (by omega) (by omega) (fun hc2 => ?_) (fun hc2 => ?_))
        · skip
          exact hR (zret_i rfl (Nat.le_refl _) rfl (h _ _ hq25_77 (by omega)))
        iterate 3 refine hR (?_ : R (_, _, _, _, _, _))
        refine hR (zcall_i 0 0 (Nat.le_of_ble_eq_true rfl) (Nat.le_of_ble_eq_true rfl) (m_swap _ i j hq25_77 (by omega) (by omega) _ fun k25_3 hp4 => ?_))
        refine (?_ : R (_, _, [], (zMi c0 c1 c2 c3 c4 c5 c6 c7 c8 c9 c10 c11 c12 c13 f0 f9 f10 f11 f12 f13 f15 f16 f17 f20 f21 f22 f23 f26 f28 f31 f32 f33 f38 f41 f44 x14 g15 g16 g17 g18 g19 g20 g21 g22 g23 g24 k25_3 g26 g27 g28 g29 g30 g31 g32 g33 g34 g35 g36 g37 g38 g39 g40 g41 g42 g43 g44 t), 0, 0))
        refine hR (t_inc ?_)
        refine hR (t_inc ?_)
        refine hR (?_ : R (_, _, _, _, _, _))
        exact ih77 _ _ _ (by omega) (by omega) (by omega) hp4 (by omega)
    exact lp77 400000000 _ _ _ (by omega) (by omega) (by omega) hb25 (by omega)
  · skip
    have hs1d : a1 = 0 ∨ a1 = 1 ∨ a1 = 2 ∨ a1 = 3 := by omega
    rcases hs1d with hs1e | hs1e | hs1e | hs1e
    · refine ⟨31, by rw [hs1e]; rfl, (?_ : R (_, _, _, _, _, _))⟩
      iterate 2 refine hR (?_ : R (_, _, _, _, _, _))
      refine hR (zcall_i 0 0 (Nat.le_of_ble_eq_true rfl) (Nat.le_of_ble_eq_true rfl) (m_shift _ a2 hb25 hr1 (by omega) (by omega) (by omega) _ fun k25_5 hp6 => ?_))
      refine (?_ : R (_, _, [], (zMi c0 c1 c2 c3 c4 c5 c6 c7 c8 c9 c10 c11 c12 c13 f0 f9 f10 f11 f12 f13 f15 f16 f17 f20 f21 f22 f23 f26 f28 f31 f32 f33 f38 f41 f44 x14 g15 g16 g17 g18 g19 g20 g21 g22 g23 g24 k25_5 g26 g27 g28 g29 g30 g31 g32 g33 g34 g35 g36 g37 g38 g39 g40 g41 g42 g43 g44 t), 0, 0))
      exact hR (zret_i rfl (Nat.le_refl _) rfl (h _ _ hp6 (by omega)))
    · refine ⟨37, by rw [hs1e]; rfl, (?_ : R (_, _, _, _, _, _))⟩
      iterate 2 refine hR (?_ : R (_, _, _, _, _, _))
      refine hR (zcall_i 0 0 (Nat.le_of_ble_eq_true rfl) (Nat.le_of_ble_eq_true rfl) (m_drop _ a2 hb25 (by omega) (by omega) _ fun y26_7 k25_8 hp9 hp10 => ?_))
      refine (?_ : R (_, _, [], (zMi c0 c1 c2 c3 c4 c5 c6 c7 c8 c9 c10 c11 c12 c13 f0 f9 f10 f11 f12 f13 f15 f16 f17 f20 f21 f22 f23 y26_7 f28 f31 f32 f33 f38 f41 f44 x14 g15 g16 g17 g18 g19 g20 g21 g22 g23 g24 k25_8 g26 g27 g28 g29 g30 g31 g32 g33 g34 g35 g36 g37 g38 g39 g40 g41 g42 g43 g44 t), 0, 0))
      exact hR (zret_i rfl (Nat.le_refl _) rfl (h _ _ hp9 (by omega)))
    · refine ⟨43, by rw [hs1e]; rfl, (?_ : R (_, _, _, _, _, _))⟩
      iterate 2 refine hR (?_ : R (_, _, _, _, _, _))
      refine hR (zcall_i 0 0 (Nat.le_of_ble_eq_true rfl) (Nat.le_of_ble_eq_true rfl) (m_twice _ a2 hb25 (by omega) (by omega) _ fun y26_11 k25_12 hp13 hp14 => ?_))
      refine (?_ : R (_, _, [], (zMi c0 c1 c2 c3 c4 c5 c6 c7 c8 c9 c10 c11 c12 c13 f0 f9 f10 f11 f12 f13 f15 f16 f17 f20 f21 f22 f23 y26_11 f28 f31 f32 f33 f38 f41 f44 x14 g15 g16 g17 g18 g19 g20 g21 g22 g23 g24 k25_12 g26 g27 g28 g29 g30 g31 g32 g33 g34 g35 g36 g37 g38 g39 g40 g41 g42 g43 g44 t), 0, 0))
      exact hR (zret_i rfl (Nat.le_refl _) rfl (h _ _ hp13 (by omega)))
    · refine ⟨49, by rw [hs1e]; rfl, (?_ : R (_, _, _, _, _, _))⟩
      iterate 3 refine hR (?_ : R (_, _, _, _, _, _))
      refine hR (j_ge (by omega) (by omega) (fun hc15 => ?_) (fun hc15 => ?_))
      · skip
        exact hR (zret_i rfl (Nat.le_refl _) rfl (h _ _ hb25 (by omega)))
      iterate 3 refine hR (?_ : R (_, _, _, _, _, _))
      refine hR (t_sub ?_)
      refine hR (?_ : R (_, _, _, _, _, _))
      refine hR (zcall_i 0 0 (Nat.le_of_ble_eq_true rfl) (Nat.le_of_ble_eq_true rfl) (m_swap _ (a2 - 1) a2 hb25 (by omega) (by omega) _ fun k25_16 hp17 => ?_))
      refine (?_ : R (_, _, [], (zMi c0 c1 c2 c3 c4 c5 c6 c7 c8 c9 c10 c11 c12 c13 f0 f9 f10 f11 f12 f13 f15 f16 f17 f20 f21 f22 f23 f26 f28 f31 f32 f33 f38 f41 f44 x14 g15 g16 g17 g18 g19 g20 g21 g22 g23 g24 k25_16 g26 g27 g28 g29 g30 g31 g32 g33 g34 g35 g36 g37 g38 g39 g40 g41 g42 g43 g44 t), 0, 0))
      exact hR (zret_i rfl (Nat.le_refl _) rfl (h _ _ hp17 (by omega)))
theorem m_readBy (d : Nat) (a1 a2 : Int) (hb25 : zB 0 3 g25) (hr1 : 0 ≤ a1 ∧ a1 ≤ 5460) (hr2 : bkOK g20) (hr3 : 0 ≤ f20 ∧ f20 ≤ 1) (hr4 : 0 ≤ a2 ∧ a2 ≤ 4) (Q : zQ) (h : ∀ (v : Int) (y26 : Int) (k25 : Nat → Int32), zB 0 3 k25 → (0 ≤ v ∧ v ≤ 5460) → Q (some (.int (Int32.ofInt v))) (zMi c0 c1 c2 c3 c4 c5 c6 c7 c8 c9 c10 c11 c12 c13 f0 f9 f10 f11 f12 f13 f15 f16 f17 f20 f21 f22 f23 y26 f28 f31 f32 f33 f38 f41 f44 x14 g15 g16 g17 g18 g19 g20 g21 g22 g23 g24 k25 g26 g27 g28 g29 g30 g31 g32 g33 g34 g35 g36 g37 g38 g39 g40 g41 g42 g43 g44 t)) : zCl zTab (d + 4) iX12_readBy [.ref 14, .int (Int32.ofInt a1), .int (Int32.ofInt a2)] (zMi c0 c1 c2 c3 c4 c5 c6 c7 c8 c9 c10 c11 c12 c13 f0 f9 f10 f11 f12 f13 f15 f16 f17 f20 f21 f22 f23 f26 f28 f31 f32 f33 f38 f41 f44 x14 g15 g16 g17 g18 g19 g20 g21 g22 g23 g24 g25 g26 g27 g28 g29 g30 g31 g32 g33 g34 g35 g36 g37 g38 g39 g40 g41 g42 g43 g44 t) 0 0 Q := by
  refine zCl_i (M := kX12_readBy) rfl (Nat.le_of_ble_eq_true rfl) fun R hR => ?_
  iterate 3 refine hR (?_ : R (_, _, _, _, _, _))
  refine hR (zcall_i 0 0 (Nat.le_of_ble_eq_true rfl) (Nat.le_of_ble_eq_true rfl) (m_spell25 _ a1 hb25 (by omega) _ fun k25_1 hp2 => ?_))
  refine (?_ : R (_, _, [], (zMi c0 c1 c2 c3 c4 c5 c6 c7 c8 c9 c10 c11 c12 c13 f0 f9 f10 f11 f12 f13 f15 f16 f17 f20 f21 f22 f23 f26 f28 f31 f32 f33 f38 f41 f44 x14 g15 g16 g17 g18 g19 g20 g21 g22 g23 g24 k25_1 g26 g27 g28 g29 g30 g31 g32 g33 g34 g35 g36 g37 g38 g39 g40 g41 g42 g43 g44 t), 0, 0))
  iterate 2 refine hR (?_ : R (_, _, _, _, _, _))
  refine hR (zcall_i 0 0 (Nat.le_of_ble_eq_true rfl) (Nat.le_of_ble_eq_true rfl) (m_sizeOf _ a1 _ (by omega) _ fun v3 hp4 hp5 => ?_))
  refine (?_ : R (_, _, (.int (Int32.ofInt v3)) :: (.ref 14) :: [], (zMi c0 c1 c2 c3 c4 c5 c6 c7 c8 c9 c10 c11 c12 c13 f0 f9 f10 f11 f12 f13 f15 f16 f17 f20 f21 f22 f23 f26 f28 f31 f32 f33 f38 f41 f44 x14 g15 g16 g17 g18 g19 g20 g21 g22 g23 g24 k25_1 g26 g27 g28 g29 g30 g31 g32 g33 g34 g35 g36 g37 g38 g39 g40 g41 g42 g43 g44 t), 0, 0))
  refine hR (?_ : R (_, _, _, (zMi c0 c1 c2 c3 c4 c5 c6 c7 c8 c9 c10 c11 c12 c13 f0 f9 f10 f11 f12 f13 f15 f16 f17 f20 f21 f22 f23 v3 f28 f31 f32 f33 f38 f41 f44 x14 g15 g16 g17 g18 g19 g20 g21 g22 g23 g24 k25_1 g26 g27 g28 g29 g30 g31 g32 g33 g34 g35 g36 g37 g38 g39 g40 g41 g42 g43 g44 t), _, _))
  iterate 2 refine hR (?_ : R (_, _, _, _, _, _))
  have lp18 : ∀ (N : Nat) (i : Int) (o4_18 : Option Value) (e26_18 : Int) (q25_18 : Nat → Int32), (zc2 o4_18 = false) → (0 ≤ i ∧ i ≤ 4) → (0 ≤ e26_18 ∧ e26_18 ≤ 6) → (zB 0 3 q25_18) → (4 - i < N) → R (18, [some (.ref 14), some (.int (Int32.ofInt a1)), some (.int (Int32.ofInt a2)), some (.int (Int32.ofInt i)), o4_18], [], (zMi c0 c1 c2 c3 c4 c5 c6 c7 c8 c9 c10 c11 c12 c13 f0 f9 f10 f11 f12 f13 f15 f16 f17 f20 f21 f22 f23 e26_18 f28 f31 f32 f33 f38 f41 f44 x14 g15 g16 g17 g18 g19 g20 g21 g22 g23 g24 q25_18 g26 g27 g28 g29 g30 g31 g32 g33 g34 g35 g36 g37 g38 g39 g40 g41 g42 g43 g44 t), 0, 0) := by
    intro N
    induction N with
    | zero => intros; omega
    | succ N ih18 =>
      intro i o4_18 e26_18 q25_18 hzo4_18 hf0_18 hp0_18 hq25_18 hN18
      iterate 2 refine hR (?_ : R (_, _, _, _, _, _))
      refine hR (t_c 6 (by decide) ?_)
      refine hR (?_ : R (_, _, _, _, _, _))
      refine hR (t_add ?_)
      refine hR (zcall_i 0 0 (Nat.le_of_ble_eq_true rfl) (Nat.le_of_ble_eq_true rfl) (m_ofM _ (6 + a2) hr2 (by omega) (by omega) _ fun v6 hp7 hp8 => ?_))
      refine (?_ : R (_, _, (.int (Int32.ofInt v6)) :: (.int (Int32.ofInt i)) :: [], (zMi c0 c1 c2 c3 c4 c5 c6 c7 c8 c9 c10 c11 c12 c13 f0 f9 f10 f11 f12 f13 f15 f16 f17 f20 f21 f22 f23 e26_18 f28 f31 f32 f33 f38 f41 f44 x14 g15 g16 g17 g18 g19 g20 g21 g22 g23 g24 q25_18 g26 g27 g28 g29 g30 g31 g32 g33 g34 g35 g36 g37 g38 g39 g40 g41 g42 g43 g44 t), 0, 0))
      refine hR (j_ge (by omega) (by omega) (fun hc9 => ?_) (fun hc9 => ?_))
      · skip
        iterate 3 refine hR (?_ : R (_, _, _, _, _, _))
        refine hR (zcall_i 0 0 (Nat.le_of_ble_eq_true rfl) (Nat.le_of_ble_eq_true rfl) (m_numberOf _ e26_18 hq25_18 (by omega) _ fun v10 hp11 => ?_))
        refine (?_ : R (_, _, (.int (Int32.ofInt v10)) :: [], (zMi c0 c1 c2 c3 c4 c5 c6 c7 c8 c9 c10 c11 c12 c13 f0 f9 f10 f11 f12 f13 f15 f16 f17 f20 f21 f22 f23 e26_18 f28 f31 f32 f33 f38 f41 f44 x14 g15 g16 g17 g18 g19 g20 g21 g22 g23 g24 q25_18 g26 g27 g28 g29 g30 g31 g32 g33 g34 g35 g36 g37 g38 g39 g40 g41 g42 g43 g44 t), 0, 0))
        exact hR (zret_i rfl (Nat.le_refl _) trivial (h _ _ _ hq25_18 (by omega)))
      refine hR (t_c 11 (by decide) ?_)
      refine hR (t_c 8 (by decide) ?_)
      refine hR (?_ : R (_, _, _, _, _, _))
      refine hR (t_mul ?_)
      refine hR (t_add ?_)
      iterate 2 refine hR (?_ : R (_, _, _, _, _, _))
      refine hR (t_mul ?_)
      refine hR (t_add ?_)
      iterate 4 refine hR (?_ : R (_, _, _, _, _, _))
      refine hR (zcall_i 0 0 (Nat.le_of_ble_eq_true rfl) (Nat.le_of_ble_eq_true rfl) (m_ofS _ ((11 + (8 * a2)) + (2 * i)) hr2 (by omega) (by omega) _ fun v12 hp13 hp14 => ?_))
      refine (?_ : R (_, _, (.int (Int32.ofInt v12)) :: (.ref 14) :: [], (zMi c0 c1 c2 c3 c4 c5 c6 c7 c8 c9 c10 c11 c12 c13 f0 f9 f10 f11 f12 f13 f15 f16 f17 f20 f21 f22 f23 e26_18 f28 f31 f32 f33 f38 f41 f44 x14 g15 g16 g17 g18 g19 g20 g21 g22 g23 g24 q25_18 g26 g27 g28 g29 g30 g31 g32 g33 g34 g35 g36 g37 g38 g39 g40 g41 g42 g43 g44 t), 0, 0))
      iterate 3 refine hR (?_ : R (_, _, _, _, _, _))
      refine hR (t_add ?_)
      refine hR (zcall_i 0 0 (Nat.le_of_ble_eq_true rfl) (Nat.le_of_ble_eq_true rfl) (m_ofS _ (((11 + (8 * a2)) + (2 * i)) + 1) hr2 (by omega) (by omega) _ fun v15 hp16 hp17 => ?_))
      refine (?_ : R (_, _, (.int (Int32.ofInt v15)) :: (.int (Int32.ofInt v12)) :: (.ref 14) :: [], (zMi c0 c1 c2 c3 c4 c5 c6 c7 c8 c9 c10 c11 c12 c13 f0 f9 f10 f11 f12 f13 f15 f16 f17 f20 f21 f22 f23 e26_18 f28 f31 f32 f33 f38 f41 f44 x14 g15 g16 g17 g18 g19 g20 g21 g22 g23 g24 q25_18 g26 g27 g28 g29 g30 g31 g32 g33 g34 g35 g36 g37 g38 g39 g40 g41 g42 g43 g44 t), 0, 0))
      have hst := bk_st hr2 (b := f20.toNat) (r := a2.toNat) (k := i.toNat) (by omega) (by omega) (by omega)
      have hs1 : v12 = (g20 (51 * f20.toNat + (11 + 8 * a2.toNat + 2 * i.toNat))).toInt := by rw [hp13]; congr 2; omega
      have hs2 : v15 = (g20 (51 * f20.toNat + (12 + 8 * a2.toNat + 2 * i.toNat))).toInt := by rw [hp16]; congr 2; omega
      refine hR (zcall_i 0 0 (Nat.le_of_ble_eq_true rfl) (Nat.le_of_ble_eq_true rfl) (m_step _ v12 v15 hq25_18 hr2 (by omega) (by omega) (by omega) (by omega) _ fun y26_18 k25_19 hp20 hp21 => ?_))
      refine (?_ : R (_, _, [], (zMi c0 c1 c2 c3 c4 c5 c6 c7 c8 c9 c10 c11 c12 c13 f0 f9 f10 f11 f12 f13 f15 f16 f17 f20 f21 f22 f23 y26_18 f28 f31 f32 f33 f38 f41 f44 x14 g15 g16 g17 g18 g19 g20 g21 g22 g23 g24 k25_19 g26 g27 g28 g29 g30 g31 g32 g33 g34 g35 g36 g37 g38 g39 g40 g41 g42 g43 g44 t), 0, 0))
      refine hR (t_inc ?_)
      refine hR (?_ : R (_, _, _, _, _, _))
      exact ih18 _ _ _ _ (by rfl) (by omega) (by omega) hp20 (by omega)
  exact lp18 400000000 _ _ _ _ (by rfl) (by omega) (by omega) hp2 (by omega)
end MZ
