theorem zshl_r {e : Int} (h0 : 0 ≤ e) (h1 : e ≤ 5) : ∃ v : Int, 1 ≤ v ∧ v ≤ 32 ∧ Int32.ofInt 1 <<< (Int32.ofInt e &&& 31) = Int32.ofInt v := by
  have h : e = 0 ∨ e = 1 ∨ e = 2 ∨ e = 3 ∨ e = 4 ∨ e = 5 := by omega
  rcases h with rfl | rfl | rfl | rfl | rfl | rfl
  · exact ⟨1, by omega, by omega, by decide⟩
  · exact ⟨2, by omega, by omega, by decide⟩
  · exact ⟨4, by omega, by omega, by decide⟩
  · exact ⟨8, by omega, by omega, by decide⟩
  · exact ⟨16, by omega, by omega, by decide⟩
  · exact ⟨32, by omega, by omega, by decide⟩
def yrR (T : Nat → Int32) : Prop := (0 ≤ (T 0).toInt ∧ (T 0).toInt ≤ 40) ∧ (∀ k, k < 40 → (0 ≤ (T (1 + 3 * k)).toInt ∧ (T (1 + 3 * k)).toInt ≤ 5) ∧ ((T (1 + 3 * k)).toInt ≤ 4 → 0 ≤ (T (2 + 3 * k)).toInt ∧ (T (2 + 3 * k)).toInt ≤ 3) ∧ ((T (1 + 3 * k)).toInt = 1 → 0 ≤ (T (3 + 3 * k)).toInt ∧ (T (3 + 3 * k)).toInt ≤ 3) ∧ ((T (1 + 3 * k)).toInt = 0 → 0 ≤ (T (3 + 3 * k)).toInt ∧ (T (3 + 3 * k)).toInt ≤ 4))
def yrOK (g : Nat → Int32) : Prop := ∀ b, b < 8 → yrR (fun j => g (121 * b + j))
def siOK (g : Nat → Int32) : Prop := ∀ b, b < 8 → 0 ≤ (g (13 * b)).toInt ∧ (g (13 * b)).toInt ≤ 6
theorem yr_i0 {g : Nat → Int32} {f v : Int} (hf : 0 ≤ f) (h : v = (g (121 * f).toNat).toInt) : v = (g (121 * f.toNat)).toInt := by
  rw [h, show (121 * f).toNat = 121 * f.toNat by omega]
theorem yr_0 {g : Nat → Int32} {f v : Int} (hg : yrOK g) (hf : 0 ≤ f) (hf1 : f ≤ 7) (h : v = (g (121 * f.toNat)).toInt) : 0 ≤ v ∧ v ≤ 40 := by
  rw [h]; exact (hg f.toNat (by omega)).1
theorem yr_i {g : Nat → Int32} {f a c v : Int} (hf : 0 ≤ f) (ha : 0 ≤ a) (h : v = (g (121 * f + 1 + 3 * a + c).toNat).toInt) (n : Nat) (hc : c + 1 = n) : v = (g (121 * f.toNat + (n + 3 * a.toNat))).toInt := by
  rw [h, show (121 * f + 1 + 3 * a + c).toNat = 121 * f.toNat + (n + 3 * a.toNat) by omega]
theorem yr_d {g : Nat → Int32} (hg : yrOK g) {b k : Nat} (hb : b < 8) (hk : k < 40) : (0 ≤ (g (121 * b + (1 + 3 * k))).toInt ∧ (g (121 * b + (1 + 3 * k))).toInt ≤ 5) ∧ ((g (121 * b + (1 + 3 * k))).toInt ≤ 4 → 0 ≤ (g (121 * b + (2 + 3 * k))).toInt ∧ (g (121 * b + (2 + 3 * k))).toInt ≤ 3) ∧ ((g (121 * b + (1 + 3 * k))).toInt = 1 → 0 ≤ (g (121 * b + (3 + 3 * k))).toInt ∧ (g (121 * b + (3 + 3 * k))).toInt ≤ 3) ∧ ((g (121 * b + (1 + 3 * k))).toInt = 0 → 0 ≤ (g (121 * b + (3 + 3 * k))).toInt ∧ (g (121 * b + (3 + 3 * k))).toInt ≤ 4) := (hg b hb).2 k hk
theorem zushr_r (x : Int32) : ∃ v : Int, 0 ≤ v ∧ v ≤ 65535 ∧ (x.toUInt32 >>> ((Int32.ofInt 16).toUInt32 &&& Int32.toUInt32 31)).toInt32 = Int32.ofInt v := by
  have h := pk_ushr x (Int32.ofInt 16) 16 (by decide)
  have hx : x.toBitVec.toNat < 2 ^ 32 := x.toBitVec.isLt
  generalize (x.toUInt32 >>> ((Int32.ofInt 16).toUInt32 &&& Int32.toUInt32 31)).toInt32 = y at h ⊢
  have hy : y.toBitVec.toNat ≤ 65535 := by rw [h]; omega
  refine ⟨(y.toBitVec.toNat : Int), by omega, by omega, ?_⟩
  have e : y = nI y.toBitVec.toNat := by
    apply Int32.toBitVec_inj.mp
    apply BitVec.eq_of_toNat_eq
    rw [pk_tn (by omega)]
  rw [nI_oi (by omega), Int.toNat_natCast]
  exact e
section MZ
variable {c0 c1 c2 c3 c4 c5 c6 c7 c8 c9 c10 c11 c12 c13 : va_E} {f0 f9 f10 f11 f12 f13 f15 f16 f17 f20 f21 f22 f23 f26 f28 f31 f32 f33 f38 f41 f44 : Int} {x14 : Int64} {g15 g16 g17 g18 g19 g20 g21 g22 g23 g24 g25 g26 g27 g28 g29 g30 g31 g32 g33 g34 g35 g36 g37 g38 g39 g40 g41 g42 g43 g44 : Nat → Int32} {t : zW}
theorem m_deeds (d : Nat) (hr0 : yrOK g21) (hr1 : 0 ≤ f28 ∧ f28 ≤ 1) (Q : zQ) (h : ∀ (v : Int), (v = (g21 (121 * f28.toNat)).toInt) → (0 ≤ v ∧ v ≤ 40) → Q (some (.int (Int32.ofInt v))) (zMi c0 c1 c2 c3 c4 c5 c6 c7 c8 c9 c10 c11 c12 c13 f0 f9 f10 f11 f12 f13 f15 f16 f17 f20 f21 f22 f23 f26 f28 f31 f32 f33 f38 f41 f44 x14 g15 g16 g17 g18 g19 g20 g21 g22 g23 g24 g25 g26 g27 g28 g29 g30 g31 g32 g33 g34 g35 g36 g37 g38 g39 g40 g41 g42 g43 g44 t)) : zCl zTab (d + 1) iX12_deeds [.ref 14] (zMi c0 c1 c2 c3 c4 c5 c6 c7 c8 c9 c10 c11 c12 c13 f0 f9 f10 f11 f12 f13 f15 f16 f17 f20 f21 f22 f23 f26 f28 f31 f32 f33 f38 f41 f44 x14 g15 g16 g17 g18 g19 g20 g21 g22 g23 g24 g25 g26 g27 g28 g29 g30 g31 g32 g33 g34 g35 g36 g37 g38 g39 g40 g41 g42 g43 g44 t) 0 0 Q := by
  refine zCl_i (M := kX12_deeds) rfl (Nat.le_of_ble_eq_true rfl) fun R hR => ?_
  iterate 2 refine hR (?_ : R (_, _, _, _, _, _))
  refine hR (t_c 121 (by decide) ?_)
  iterate 2 refine hR (?_ : R (_, _, _, _, _, _))
  refine hR (t_mul ?_)
  refine hR (t_ldE (by omega) (by omega) (Nat.le_of_ble_eq_true rfl) fun v1 ev1 rv1 => ?_)
  exact hR (zret_i rfl (Nat.le_refl _) trivial (h _ (yr_i0 (by omega) ev1) (yr_0 hr0 (by omega) (by omega) (yr_i0 (by omega) ev1))))
theorem m_deedOf0 (d : Nat) (a1 : Int) (hr0 : 0 ≤ f28 ∧ f28 ≤ 1) (hr1 : 0 ≤ a1 ∧ a1 ≤ 39) (Q : zQ) (h : ∀ (v : Int), (v = (g21 (121 * f28.toNat + (1 + 3 * a1.toNat))).toInt) → Q (some (.int (Int32.ofInt v))) (zMi c0 c1 c2 c3 c4 c5 c6 c7 c8 c9 c10 c11 c12 c13 f0 f9 f10 f11 f12 f13 f15 f16 f17 f20 f21 f22 f23 f26 f28 f31 f32 f33 f38 f41 f44 x14 g15 g16 g17 g18 g19 g20 g21 g22 g23 g24 g25 g26 g27 g28 g29 g30 g31 g32 g33 g34 g35 g36 g37 g38 g39 g40 g41 g42 g43 g44 t)) : zCl zTab (d + 1) iX12_deedOf [.ref 14, .int (Int32.ofInt a1), .int (Int32.ofInt 0)] (zMi c0 c1 c2 c3 c4 c5 c6 c7 c8 c9 c10 c11 c12 c13 f0 f9 f10 f11 f12 f13 f15 f16 f17 f20 f21 f22 f23 f26 f28 f31 f32 f33 f38 f41 f44 x14 g15 g16 g17 g18 g19 g20 g21 g22 g23 g24 g25 g26 g27 g28 g29 g30 g31 g32 g33 g34 g35 g36 g37 g38 g39 g40 g41 g42 g43 g44 t) 0 0 Q := by
  refine zCl_i (M := kX12_deedOf) rfl (Nat.le_of_ble_eq_true rfl) fun R hR => ?_
  iterate 2 refine hR (?_ : R (_, _, _, _, _, _))
  refine hR (t_c 121 (by decide) ?_)
  iterate 2 refine hR (?_ : R (_, _, _, _, _, _))
  refine hR (t_mul ?_)
  refine hR (?_ : R (_, _, _, _, _, _))
  refine hR (t_add ?_)
  iterate 2 refine hR (?_ : R (_, _, _, _, _, _))
  refine hR (t_mul ?_)
  refine hR (t_add ?_)
  refine hR (?_ : R (_, _, _, _, _, _))
  refine hR (t_add ?_)
  refine hR (t_ldE (by omega) (by omega) (Nat.le_of_ble_eq_true rfl) fun v1 ev1 rv1 => ?_)
  exact hR (zret_i rfl (Nat.le_refl _) trivial (h _ (yr_i (by omega) (by omega) ev1 1 rfl)))
theorem m_deedOf1 (d : Nat) (a1 : Int) (hr0 : 0 ≤ f28 ∧ f28 ≤ 1) (hr1 : 0 ≤ a1 ∧ a1 ≤ 39) (Q : zQ) (h : ∀ (v : Int), (v = (g21 (121 * f28.toNat + (2 + 3 * a1.toNat))).toInt) → Q (some (.int (Int32.ofInt v))) (zMi c0 c1 c2 c3 c4 c5 c6 c7 c8 c9 c10 c11 c12 c13 f0 f9 f10 f11 f12 f13 f15 f16 f17 f20 f21 f22 f23 f26 f28 f31 f32 f33 f38 f41 f44 x14 g15 g16 g17 g18 g19 g20 g21 g22 g23 g24 g25 g26 g27 g28 g29 g30 g31 g32 g33 g34 g35 g36 g37 g38 g39 g40 g41 g42 g43 g44 t)) : zCl zTab (d + 1) iX12_deedOf [.ref 14, .int (Int32.ofInt a1), .int (Int32.ofInt 1)] (zMi c0 c1 c2 c3 c4 c5 c6 c7 c8 c9 c10 c11 c12 c13 f0 f9 f10 f11 f12 f13 f15 f16 f17 f20 f21 f22 f23 f26 f28 f31 f32 f33 f38 f41 f44 x14 g15 g16 g17 g18 g19 g20 g21 g22 g23 g24 g25 g26 g27 g28 g29 g30 g31 g32 g33 g34 g35 g36 g37 g38 g39 g40 g41 g42 g43 g44 t) 0 0 Q := by
  refine zCl_i (M := kX12_deedOf) rfl (Nat.le_of_ble_eq_true rfl) fun R hR => ?_
  iterate 2 refine hR (?_ : R (_, _, _, _, _, _))
  refine hR (t_c 121 (by decide) ?_)
  iterate 2 refine hR (?_ : R (_, _, _, _, _, _))
  refine hR (t_mul ?_)
  refine hR (?_ : R (_, _, _, _, _, _))
  refine hR (t_add ?_)
  iterate 2 refine hR (?_ : R (_, _, _, _, _, _))
  refine hR (t_mul ?_)
  refine hR (t_add ?_)
  refine hR (?_ : R (_, _, _, _, _, _))
  refine hR (t_add ?_)
  refine hR (t_ldE (by omega) (by omega) (Nat.le_of_ble_eq_true rfl) fun v1 ev1 rv1 => ?_)
  exact hR (zret_i rfl (Nat.le_refl _) trivial (h _ (yr_i (by omega) (by omega) ev1 2 rfl)))
theorem m_deedOf2 (d : Nat) (a1 : Int) (hr0 : 0 ≤ f28 ∧ f28 ≤ 1) (hr1 : 0 ≤ a1 ∧ a1 ≤ 39) (Q : zQ) (h : ∀ (v : Int), (v = (g21 (121 * f28.toNat + (3 + 3 * a1.toNat))).toInt) → Q (some (.int (Int32.ofInt v))) (zMi c0 c1 c2 c3 c4 c5 c6 c7 c8 c9 c10 c11 c12 c13 f0 f9 f10 f11 f12 f13 f15 f16 f17 f20 f21 f22 f23 f26 f28 f31 f32 f33 f38 f41 f44 x14 g15 g16 g17 g18 g19 g20 g21 g22 g23 g24 g25 g26 g27 g28 g29 g30 g31 g32 g33 g34 g35 g36 g37 g38 g39 g40 g41 g42 g43 g44 t)) : zCl zTab (d + 1) iX12_deedOf [.ref 14, .int (Int32.ofInt a1), .int (Int32.ofInt 2)] (zMi c0 c1 c2 c3 c4 c5 c6 c7 c8 c9 c10 c11 c12 c13 f0 f9 f10 f11 f12 f13 f15 f16 f17 f20 f21 f22 f23 f26 f28 f31 f32 f33 f38 f41 f44 x14 g15 g16 g17 g18 g19 g20 g21 g22 g23 g24 g25 g26 g27 g28 g29 g30 g31 g32 g33 g34 g35 g36 g37 g38 g39 g40 g41 g42 g43 g44 t) 0 0 Q := by
  refine zCl_i (M := kX12_deedOf) rfl (Nat.le_of_ble_eq_true rfl) fun R hR => ?_
  iterate 2 refine hR (?_ : R (_, _, _, _, _, _))
  refine hR (t_c 121 (by decide) ?_)
  iterate 2 refine hR (?_ : R (_, _, _, _, _, _))
  refine hR (t_mul ?_)
  refine hR (?_ : R (_, _, _, _, _, _))
  refine hR (t_add ?_)
  iterate 2 refine hR (?_ : R (_, _, _, _, _, _))
  refine hR (t_mul ?_)
  refine hR (t_add ?_)
  refine hR (?_ : R (_, _, _, _, _, _))
  refine hR (t_add ?_)
  refine hR (t_ldE (by omega) (by omega) (Nat.le_of_ble_eq_true rfl) fun v1 ev1 rv1 => ?_)
  exact hR (zret_i rfl (Nat.le_refl _) trivial (h _ (yr_i (by omega) (by omega) ev1 3 rfl)))
theorem m_deedOf (d : Nat) (a1 a2 : Int) (hr0 : 0 ≤ f28 ∧ f28 ≤ 1) (hr1 : 0 ≤ a1 ∧ a1 ≤ 39) (hr2 : 0 ≤ a2 ∧ a2 ≤ 2) (Q : zQ) (h : ∀ (v : Int), Q (some (.int (Int32.ofInt v))) (zMi c0 c1 c2 c3 c4 c5 c6 c7 c8 c9 c10 c11 c12 c13 f0 f9 f10 f11 f12 f13 f15 f16 f17 f20 f21 f22 f23 f26 f28 f31 f32 f33 f38 f41 f44 x14 g15 g16 g17 g18 g19 g20 g21 g22 g23 g24 g25 g26 g27 g28 g29 g30 g31 g32 g33 g34 g35 g36 g37 g38 g39 g40 g41 g42 g43 g44 t)) : zCl zTab (d + 1) iX12_deedOf [.ref 14, .int (Int32.ofInt a1), .int (Int32.ofInt a2)] (zMi c0 c1 c2 c3 c4 c5 c6 c7 c8 c9 c10 c11 c12 c13 f0 f9 f10 f11 f12 f13 f15 f16 f17 f20 f21 f22 f23 f26 f28 f31 f32 f33 f38 f41 f44 x14 g15 g16 g17 g18 g19 g20 g21 g22 g23 g24 g25 g26 g27 g28 g29 g30 g31 g32 g33 g34 g35 g36 g37 g38 g39 g40 g41 g42 g43 g44 t) 0 0 Q := by
  refine zCl_i (M := kX12_deedOf) rfl (Nat.le_of_ble_eq_true rfl) fun R hR => ?_
  iterate 2 refine hR (?_ : R (_, _, _, _, _, _))
  refine hR (t_c 121 (by decide) ?_)
  iterate 2 refine hR (?_ : R (_, _, _, _, _, _))
  refine hR (t_mul ?_)
  refine hR (?_ : R (_, _, _, _, _, _))
  refine hR (t_add ?_)
  iterate 2 refine hR (?_ : R (_, _, _, _, _, _))
  refine hR (t_mul ?_)
  refine hR (t_add ?_)
  refine hR (?_ : R (_, _, _, _, _, _))
  refine hR (t_add ?_)
  refine hR (t_ldo (by omega) (by omega) (Nat.le_of_ble_eq_true rfl) fun v1 rv1 => ?_)
  exact hR (zret_i rfl (Nat.le_refl _) trivial (h _))
theorem m_hasYear (d : Nat) (a1 : Int) (hb19 : zB 0 2 g19) (hr1 : -2147483648 ≤ a1 ∧ a1 ≤ 2147483647) (Q : zQ) (h : ∀ (v : Int) (y28 : Int), (y28 = a1) → ((v = 1 ∧ 0 ≤ a1 ∧ a1 ≤ 1 ∧ a1 < (g19 1).toInt) ∨ (v = 0 ∧ (a1 < 0 ∨ (g19 1).toInt ≤ a1))) → Q (some (.int (Int32.ofInt v))) (zMi c0 c1 c2 c3 c4 c5 c6 c7 c8 c9 c10 c11 c12 c13 f0 f9 f10 f11 f12 f13 f15 f16 f17 f20 f21 f22 f23 f26 y28 f31 f32 f33 f38 f41 f44 x14 g15 g16 g17 g18 g19 g20 g21 g22 g23 g24 g25 g26 g27 g28 g29 g30 g31 g32 g33 g34 g35 g36 g37 g38 g39 g40 g41 g42 g43 g44 t)) : zCl zTab (d + 3) iX12_hasYear [.ref 14, .int (Int32.ofInt a1)] (zMi c0 c1 c2 c3 c4 c5 c6 c7 c8 c9 c10 c11 c12 c13 f0 f9 f10 f11 f12 f13 f15 f16 f17 f20 f21 f22 f23 f26 f28 f31 f32 f33 f38 f41 f44 x14 g15 g16 g17 g18 g19 g20 g21 g22 g23 g24 g25 g26 g27 g28 g29 g30 g31 g32 g33 g34 g35 g36 g37 g38 g39 g40 g41 g42 g43 g44 t) 0 0 Q := by
  refine zCl_i (M := kX12_hasYear) rfl (Nat.le_of_ble_eq_true rfl) fun R hR => ?_
  iterate 2 refine hR (?_ : R (_, _, _, _, _, _))
  refine hR (?_ : R (_, _, _, (zMi c0 c1 c2 c3 c4 c5 c6 c7 c8 c9 c10 c11 c12 c13 f0 f9 f10 f11 f12 f13 f15 f16 f17 f20 f21 f22 f23 f26 a1 f31 f32 f33 f38 f41 f44 x14 g15 g16 g17 g18 g19 g20 g21 g22 g23 g24 g25 g26 g27 g28 g29 g30 g31 g32 g33 g34 g35 g36 g37 g38 g39 g40 g41 g42 g43 g44 t), _, _))
  iterate 3 refine hR (?_ : R (_, _, _, _, _, _))
  refine hR (zcall_i 0 0 (Nat.le_of_ble_eq_true rfl) (Nat.le_of_ble_eq_true rfl) (m_is _ 1 a1 hb19 (by omega) (by omega) _ fun v1 hp2 => ?_))
  refine (?_ : R (_, _, (.int (Int32.ofInt v1)) :: [], (zMi c0 c1 c2 c3 c4 c5 c6 c7 c8 c9 c10 c11 c12 c13 f0 f9 f10 f11 f12 f13 f15 f16 f17 f20 f21 f22 f23 f26 a1 f31 f32 f33 f38 f41 f44 x14 g15 g16 g17 g18 g19 g20 g21 g22 g23 g24 g25 g26 g27 g28 g29 g30 g31 g32 g33 g34 g35 g36 g37 g38 g39 g40 g41 g42 g43 g44 t), 0, 0))
  have hp2x : (v1 = 1 ∧ 0 ≤ a1 ∧ a1 < (g19 1).toInt ∧ a1 ≤ 1) ∨ (v1 = 0 ∧ (a1 < 0 ∨ (g19 1).toInt ≤ a1)) := hp2
  exact hR (zret_i rfl (Nat.le_refl _) (zbo (by omega)) (h _ _ (by omega) (by omega)))
theorem m_deed (d : Nat) (a1 a2 a3 : Int) (hb19 : zB 0 2 g19) (hr1 : yrOK g21) (hr2 : -2147483648 ≤ a1 ∧ a1 ≤ 2147483647) (hr3 : -2147483648 ≤ a2 ∧ a2 ≤ 2147483647) (hr4 : -2147483648 ≤ a3 ∧ a3 ≤ 2147483647) (Q : zQ) (h : ∀ (v : Int) (y0 : Int) (y28 : Int), Q (some (.int (Int32.ofInt v))) (zMi c0 c1 c2 c3 c4 c5 c6 c7 c8 c9 c10 c11 c12 c13 y0 f9 f10 f11 f12 f13 f15 f16 f17 f20 f21 f22 f23 f26 y28 f31 f32 f33 f38 f41 f44 x14 g15 g16 g17 g18 g19 g20 g21 g22 g23 g24 g25 g26 g27 g28 g29 g30 g31 g32 g33 g34 g35 g36 g37 g38 g39 g40 g41 g42 g43 g44 t)) : zCl zTab (d + 4) iX12_deed [.ref 14, .int (Int32.ofInt a1), .int (Int32.ofInt a2), .int (Int32.ofInt a3)] (zMi c0 c1 c2 c3 c4 c5 c6 c7 c8 c9 c10 c11 c12 c13 f0 f9 f10 f11 f12 f13 f15 f16 f17 f20 f21 f22 f23 f26 f28 f31 f32 f33 f38 f41 f44 x14 g15 g16 g17 g18 g19 g20 g21 g22 g23 g24 g25 g26 g27 g28 g29 g30 g31 g32 g33 g34 g35 g36 g37 g38 g39 g40 g41 g42 g43 g44 t) 0 0 Q := by
  refine zCl_i (M := kX12_deed) rfl (Nat.le_of_ble_eq_true rfl) fun R hR => ?_
  iterate 2 refine hR (?_ : R (_, _, _, _, _, _))
  refine hR (?_ : R (_, _, _, (zMi c0 c1 c2 c3 c4 c5 c6 c7 c8 c9 c10 c11 c12 c13 0 f9 f10 f11 f12 f13 f15 f16 f17 f20 f21 f22 f23 f26 f28 f31 f32 f33 f38 f41 f44 x14 g15 g16 g17 g18 g19 g20 g21 g22 g23 g24 g25 g26 g27 g28 g29 g30 g31 g32 g33 g34 g35 g36 g37 g38 g39 g40 g41 g42 g43 g44 t), _, _))
  iterate 2 refine hR (?_ : R (_, _, _, _, _, _))
  refine hR (zcall_i 0 0 (Nat.le_of_ble_eq_true rfl) (Nat.le_of_ble_eq_true rfl) (m_hasYear _ a1 hb19 (by omega) _ fun v1 y28_2 hp3 hp4 => ?_))
  refine (?_ : R (_, _, (.int (Int32.ofInt v1)) :: [], (zMi c0 c1 c2 c3 c4 c5 c6 c7 c8 c9 c10 c11 c12 c13 0 f9 f10 f11 f12 f13 f15 f16 f17 f20 f21 f22 f23 f26 y28_2 f31 f32 f33 f38 f41 f44 x14 g15 g16 g17 g18 g19 g20 g21 g22 g23 g24 g25 g26 g27 g28 g29 g30 g31 g32 g33 g34 g35 g36 g37 g38 g39 g40 g41 g42 g43 g44 t), 0, 0))
  refine hR (k_ne (by omega) (fun hc5 => ?_) (fun hc5 => ?_))
  rotate_left
  · skip
    refine hR (t_c (-2) (by decide) ?_)
    exact hR (zret_i rfl (Nat.le_refl _) trivial (h _ _ _))
  iterate 2 refine hR (?_ : R (_, _, _, _, _, _))
  refine hR (j_ne (by omega) (by omega) (fun hc6 => ?_) (fun hc6 => ?_))
  rotate_left
  · skip
    refine hR (?_ : R (_, _, _, _, _, _))
    refine hR (k_ne (by omega) (fun hc17 => ?_) (fun hc17 => ?_))
    · skip
      refine hR (t_c (-2) (by decide) ?_)
      exact hR (zret_i rfl (Nat.le_refl _) trivial (h _ _ _))
    refine hR (?_ : R (_, _, _, _, _, _))
    refine hR (zcall_i 0 0 (Nat.le_of_ble_eq_true rfl) (Nat.le_of_ble_eq_true rfl) (m_deeds _ hr1 (by omega) _ fun v18 hp19 hp20 => ?_))
    refine (?_ : R (_, _, (.int (Int32.ofInt v18)) :: [], (zMi c0 c1 c2 c3 c4 c5 c6 c7 c8 c9 c10 c11 c12 c13 0 f9 f10 f11 f12 f13 f15 f16 f17 f20 f21 f22 f23 f26 y28_2 f31 f32 f33 f38 f41 f44 x14 g15 g16 g17 g18 g19 g20 g21 g22 g23 g24 g25 g26 g27 g28 g29 g30 g31 g32 g33 g34 g35 g36 g37 g38 g39 g40 g41 g42 g43 g44 t), 0, 0))
    refine hR (?_ : R (_, _, _, _, _, _))
    exact hR (zret_i rfl (Nat.le_refl _) trivial (h _ _ _))
  iterate 3 refine hR (?_ : R (_, _, _, _, _, _))
  refine hR (zcall_i 0 0 (Nat.le_of_ble_eq_true rfl) (Nat.le_of_ble_eq_true rfl) (m_deeds _ hr1 (by omega) _ fun v7 hp8 hp9 => ?_))
  refine (?_ : R (_, _, (.int (Int32.ofInt v7)) :: (.int (Int32.ofInt 0)) :: (.int (Int32.ofInt a2)) :: [], (zMi c0 c1 c2 c3 c4 c5 c6 c7 c8 c9 c10 c11 c12 c13 0 f9 f10 f11 f12 f13 f15 f16 f17 f20 f21 f22 f23 f26 y28_2 f31 f32 f33 f38 f41 f44 x14 g15 g16 g17 g18 g19 g20 g21 g22 g23 g24 g25 g26 g27 g28 g29 g30 g31 g32 g33 g34 g35 g36 g37 g38 g39 g40 g41 g42 g43 g44 t), 0, 0))
  refine hR (?_ : R (_, _, _, _, _, _))
  refine hR (t_sub ?_)
  refine hR (zcall_i 0 0 (Nat.le_of_ble_eq_true rfl) (Nat.le_of_ble_eq_true rfl) (m_in _ a2 0 (v7 - 1) _ (by omega) (by omega) (by omega) _ fun v10 hp11 => ?_))
  refine (?_ : R (_, _, (.int (Int32.ofInt v10)) :: [], (zMi c0 c1 c2 c3 c4 c5 c6 c7 c8 c9 c10 c11 c12 c13 0 f9 f10 f11 f12 f13 f15 f16 f17 f20 f21 f22 f23 f26 y28_2 f31 f32 f33 f38 f41 f44 x14 g15 g16 g17 g18 g19 g20 g21 g22 g23 g24 g25 g26 g27 g28 g29 g30 g31 g32 g33 g34 g35 g36 g37 g38 g39 g40 g41 g42 g43 g44 t), 0, 0))
  refine hR (k_eq (by omega) (fun hc12 => ?_) (fun hc12 => ?_))
  · skip
    refine hR (t_c (-2) (by decide) ?_)
    exact hR (zret_i rfl (Nat.le_refl _) trivial (h _ _ _))
  iterate 3 refine hR (?_ : R (_, _, _, _, _, _))
  refine hR (zcall_i 0 0 (Nat.le_of_ble_eq_true rfl) (Nat.le_of_ble_eq_true rfl) (m_in _ a3 0 2 _ (by omega) (by omega) (by omega) _ fun v13 hp14 => ?_))
  refine (?_ : R (_, _, (.int (Int32.ofInt v13)) :: [], (zMi c0 c1 c2 c3 c4 c5 c6 c7 c8 c9 c10 c11 c12 c13 0 f9 f10 f11 f12 f13 f15 f16 f17 f20 f21 f22 f23 f26 y28_2 f31 f32 f33 f38 f41 f44 x14 g15 g16 g17 g18 g19 g20 g21 g22 g23 g24 g25 g26 g27 g28 g29 g30 g31 g32 g33 g34 g35 g36 g37 g38 g39 g40 g41 g42 g43 g44 t), 0, 0))
  refine hR (k_eq (by omega) (fun hc15 => ?_) (fun hc15 => ?_))
  · skip
    refine hR (t_c (-2) (by decide) ?_)
    exact hR (zret_i rfl (Nat.le_refl _) trivial (h _ _ _))
  iterate 3 refine hR (?_ : R (_, _, _, _, _, _))
  refine hR (zcall_i 0 0 (Nat.le_of_ble_eq_true rfl) (Nat.le_of_ble_eq_true rfl) (m_deedOf _ a2 a3 (by omega) (by omega) (by omega) _ fun v16 => ?_))
  refine (?_ : R (_, _, (.int (Int32.ofInt v16)) :: [], (zMi c0 c1 c2 c3 c4 c5 c6 c7 c8 c9 c10 c11 c12 c13 0 f9 f10 f11 f12 f13 f15 f16 f17 f20 f21 f22 f23 f26 y28_2 f31 f32 f33 f38 f41 f44 x14 g15 g16 g17 g18 g19 g20 g21 g22 g23 g24 g25 g26 g27 g28 g29 g30 g31 g32 g33 g34 g35 g36 g37 g38 g39 g40 g41 g42 g43 g44 t), 0, 0))
  refine hR (?_ : R (_, _, _, _, _, _))
  exact hR (zret_i rfl (Nat.le_refl _) trivial (h _ _ _))
theorem m_begin (d : Nat) (hb28 : zB 0 5460 g28) (hr1 : 0 ≤ f22 ∧ f22 ≤ 5460) (Q : zQ) (h : ∀ (y31 : Int) (y32 : Int) (y33 : Int) (k28 : Nat → Int32) (k29 : Nat → Int32), zB 0 5460 k28 → (y31 = 0 ∧ y32 = 0 ∧ y33 = 0) → Q (none) (zMi c0 c1 c2 c3 c4 c5 c6 c7 c8 c9 c10 c11 c12 c13 f0 f9 f10 f11 f12 f13 f15 f16 f17 f20 f21 f22 f23 f26 f28 y31 y32 y33 f38 f41 f44 x14 g15 g16 g17 g18 g19 g20 g21 g22 g23 g24 g25 g26 g27 k28 k29 g30 g31 g32 g33 g34 g35 g36 g37 g38 g39 g40 g41 g42 g43 g44 t)) : zCl zTab (d + 1) iX12_begin [.ref 14] (zMi c0 c1 c2 c3 c4 c5 c6 c7 c8 c9 c10 c11 c12 c13 f0 f9 f10 f11 f12 f13 f15 f16 f17 f20 f21 f22 f23 f26 f28 f31 f32 f33 f38 f41 f44 x14 g15 g16 g17 g18 g19 g20 g21 g22 g23 g24 g25 g26 g27 g28 g29 g30 g31 g32 g33 g34 g35 g36 g37 g38 g39 g40 g41 g42 g43 g44 t) 0 0 Q := by
  refine zCl_i (M := kX12_begin) rfl (Nat.le_of_ble_eq_true rfl) fun R hR => ?_
  iterate 2 refine hR (?_ : R (_, _, _, _, _, _))
  have lp2 : ∀ (N : Nat) (i : Int) (q28_2 : Nat → Int32), (0 ≤ i ∧ i ≤ 4) → (zB 0 5460 q28_2) → (4 - i < N) → R (2, [some (.ref 14), some (.int (Int32.ofInt i))], [], (zMi c0 c1 c2 c3 c4 c5 c6 c7 c8 c9 c10 c11 c12 c13 f0 f9 f10 f11 f12 f13 f15 f16 f17 f20 f21 f22 f23 f26 f28 f31 f32 f33 f38 f41 f44 x14 g15 g16 g17 g18 g19 g20 g21 g22 g23 g24 g25 g26 g27 q28_2 g29 g30 g31 g32 g33 g34 g35 g36 g37 g38 g39 g40 g41 g42 g43 g44 t), 0, 0) := by
    intro N
    induction N with
    | zero => intros; omega
    | succ N ih2 =>
      intro i q28_2 hf0_2 hq28_2 hN2
      iterate 2 refine hR (?_ : R (_, _, _, _, _, _))
      refine hR (j_ge (by omega) (by omega) (fun hc1 => ?_) (fun hc1 => ?_))
      rotate_left
      · skip
        iterate 5 refine hR (?_ : R (_, _, _, _, _, _))
        refine hR (t_stB hq28_2 (by omega) (by omega) (by omega) (by omega) (by omega) (by omega) (Nat.le_of_ble_eq_true rfl) fun k28_4 hk28_4 => (?_ : R (_, _, _, (zMi c0 c1 c2 c3 c4 c5 c6 c7 c8 c9 c10 c11 c12 c13 f0 f9 f10 f11 f12 f13 f15 f16 f17 f20 f21 f22 f23 f26 f28 f31 f32 f33 f38 f41 f44 x14 g15 g16 g17 g18 g19 g20 g21 g22 g23 g24 g25 g26 g27 k28_4 g29 g30 g31 g32 g33 g34 g35 g36 g37 g38 g39 g40 g41 g42 g43 g44 t), _, _)))
        refine hR (t_inc ?_)
        refine hR (?_ : R (_, _, _, _, _, _))
        exact ih2 _ _ (by omega) hk28_4 (by omega)
      iterate 2 refine hR (?_ : R (_, _, _, _, _, _))
      have lp25 : ∀ (N : Nat) (i : Int) (q29_25 : Nat → Int32), (0 ≤ i ∧ i ≤ 5) → (5 - i < N) → R (25, [some (.ref 14), some (.int (Int32.ofInt i))], [], (zMi c0 c1 c2 c3 c4 c5 c6 c7 c8 c9 c10 c11 c12 c13 f0 f9 f10 f11 f12 f13 f15 f16 f17 f20 f21 f22 f23 f26 f28 f31 f32 f33 f38 f41 f44 x14 g15 g16 g17 g18 g19 g20 g21 g22 g23 g24 g25 g26 g27 q28_2 q29_25 g30 g31 g32 g33 g34 g35 g36 g37 g38 g39 g40 g41 g42 g43 g44 t), 0, 0) := by
        intro N
        induction N with
        | zero => intros; omega
        | succ N ih25 =>
          intro i q29_25 hf0_25 hN25
          iterate 2 refine hR (?_ : R (_, _, _, _, _, _))
          refine hR (j_ge (by omega) (by omega) (fun hc2 => ?_) (fun hc2 => ?_))
          rotate_left
          · skip
            iterate 4 refine hR (?_ : R (_, _, _, _, _, _))
            refine hR (t_stx (by omega) (by omega) (Nat.le_of_ble_eq_true rfl) fun k29_3 => (?_ : R (_, _, _, (zMi c0 c1 c2 c3 c4 c5 c6 c7 c8 c9 c10 c11 c12 c13 f0 f9 f10 f11 f12 f13 f15 f16 f17 f20 f21 f22 f23 f26 f28 f31 f32 f33 f38 f41 f44 x14 g15 g16 g17 g18 g19 g20 g21 g22 g23 g24 g25 g26 g27 q28_2 k29_3 g30 g31 g32 g33 g34 g35 g36 g37 g38 g39 g40 g41 g42 g43 g44 t), _, _)))
            refine hR (t_inc ?_)
            refine hR (?_ : R (_, _, _, _, _, _))
            exact ih25 _ _ (by omega) (by omega)
          iterate 2 refine hR (?_ : R (_, _, _, _, _, _))
          refine hR (?_ : R (_, _, _, (zMi c0 c1 c2 c3 c4 c5 c6 c7 c8 c9 c10 c11 c12 c13 f0 f9 f10 f11 f12 f13 f15 f16 f17 f20 f21 f22 f23 f26 f28 0 f32 f33 f38 f41 f44 x14 g15 g16 g17 g18 g19 g20 g21 g22 g23 g24 g25 g26 g27 q28_2 q29_25 g30 g31 g32 g33 g34 g35 g36 g37 g38 g39 g40 g41 g42 g43 g44 t), _, _))
          iterate 2 refine hR (?_ : R (_, _, _, _, _, _))
          refine hR (?_ : R (_, _, _, (zMi c0 c1 c2 c3 c4 c5 c6 c7 c8 c9 c10 c11 c12 c13 f0 f9 f10 f11 f12 f13 f15 f16 f17 f20 f21 f22 f23 f26 f28 0 0 f33 f38 f41 f44 x14 g15 g16 g17 g18 g19 g20 g21 g22 g23 g24 g25 g26 g27 q28_2 q29_25 g30 g31 g32 g33 g34 g35 g36 g37 g38 g39 g40 g41 g42 g43 g44 t), _, _))
          iterate 2 refine hR (?_ : R (_, _, _, _, _, _))
          refine hR (?_ : R (_, _, _, (zMi c0 c1 c2 c3 c4 c5 c6 c7 c8 c9 c10 c11 c12 c13 f0 f9 f10 f11 f12 f13 f15 f16 f17 f20 f21 f22 f23 f26 f28 0 0 0 f38 f41 f44 x14 g15 g16 g17 g18 g19 g20 g21 g22 g23 g24 g25 g26 g27 q28_2 q29_25 g30 g31 g32 g33 g34 g35 g36 g37 g38 g39 g40 g41 g42 g43 g44 t), _, _))
          exact hR (zret_i rfl (Nat.le_refl _) rfl (h _ _ _ _ _ hq28_2 (by omega)))
      exact lp25 400000000 _ _ (by omega) (by omega)
  exact lp2 400000000 _ _ (by omega) hb28 (by omega)
theorem m_reads (d : Nat) (a1 a2 : Int) (hb25 : zB 0 3 g25) (hb28 : zB 0 5460 g28) (hr2 : bkOK g20) (hr3 : 0 ≤ f20 ∧ f20 ≤ 1) (hr4 : 0 ≤ f23 ∧ f23 ≤ 5) (hr5 : 0 ≤ a1 ∧ a1 ≤ 3) (hr6 : -2147483648 ≤ a2 ∧ a2 ≤ 2147483647) (Q : zQ) (h : ∀ (v : Int) (y26 : Int) (y33 : Int) (k25 : Nat → Int32) (k28 : Nat → Int32) (k29 : Nat → Int32), zB 0 3 k25 → zB 0 5460 k28 → (v = 0 ∨ v = 1) → Q (some (.int (Int32.ofInt v))) (zMi c0 c1 c2 c3 c4 c5 c6 c7 c8 c9 c10 c11 c12 c13 f0 f9 f10 f11 f12 f13 f15 f16 f17 f20 f21 f22 f23 y26 f28 f31 f32 y33 f38 f41 f44 x14 g15 g16 g17 g18 g19 g20 g21 g22 g23 g24 k25 g26 g27 k28 k29 g30 g31 g32 g33 g34 g35 g36 g37 g38 g39 g40 g41 g42 g43 g44 t)) : zCl zTab (d + 5) iX12_reads [.ref 14, .int (Int32.ofInt a1), .int (Int32.ofInt a2)] (zMi c0 c1 c2 c3 c4 c5 c6 c7 c8 c9 c10 c11 c12 c13 f0 f9 f10 f11 f12 f13 f15 f16 f17 f20 f21 f22 f23 f26 f28 f31 f32 f33 f38 f41 f44 x14 g15 g16 g17 g18 g19 g20 g21 g22 g23 g24 g25 g26 g27 g28 g29 g30 g31 g32 g33 g34 g35 g36 g37 g38 g39 g40 g41 g42 g43 g44 t) 0 0 Q := by
  refine zCl_i (M := kX12_reads) rfl (Nat.le_of_ble_eq_true rfl) fun R hR => ?_
  iterate 2 refine hR (?_ : R (_, _, _, _, _, _))
  refine hR (zcall_i 0 0 (Nat.le_of_ble_eq_true rfl) (Nat.le_of_ble_eq_true rfl) (m_isReader _ a2 (by omega) (by omega) _ fun v1 hp2 => ?_))
  refine (?_ : R (_, _, (.int (Int32.ofInt v1)) :: [], (zMi c0 c1 c2 c3 c4 c5 c6 c7 c8 c9 c10 c11 c12 c13 f0 f9 f10 f11 f12 f13 f15 f16 f17 f20 f21 f22 f23 f26 f28 f31 f32 f33 f38 f41 f44 x14 g15 g16 g17 g18 g19 g20 g21 g22 g23 g24 g25 g26 g27 g28 g29 g30 g31 g32 g33 g34 g35 g36 g37 g38 g39 g40 g41 g42 g43 g44 t), 0, 0))
  refine hR (k_ne (by omega) (fun hc3 => ?_) (fun hc3 => ?_))
  rotate_left
  · skip
    refine hR (?_ : R (_, _, _, _, _, _))
    exact hR (zret_i rfl (Nat.le_refl _) (zbo (by omega)) (h _ _ _ _ _ _ hb25 hb28 (by omega)))
  iterate 6 refine hR (?_ : R (_, _, _, _, _, _))
  refine hR (zcall_i 0 0 (Nat.le_of_ble_eq_true rfl) (Nat.le_of_ble_eq_true rfl) (m_has _ f33 a1 _ _ fun v4 hp5 => ?_))
  refine (?_ : R (_, _, (.int (Int32.ofInt v4)) :: (.int (Int32.ofInt a1)) :: (.ref 28) :: [], (zMi c0 c1 c2 c3 c4 c5 c6 c7 c8 c9 c10 c11 c12 c13 f0 f9 f10 f11 f12 f13 f15 f16 f17 f20 f21 f22 f23 f26 f28 f31 f32 f33 f38 f41 f44 x14 g15 g16 g17 g18 g19 g20 g21 g22 g23 g24 g25 g26 g27 g28 g29 g30 g31 g32 g33 g34 g35 g36 g37 g38 g39 g40 g41 g42 g43 g44 t), 0, 0))
  refine hR (k_eq (by omega) (fun hc6 => ?_) (fun hc6 => ?_))
  rotate_left
  · skip
    iterate 3 refine hR (?_ : R (_, _, _, _, _, _))
    refine hR (t_ldB hb28 (by omega) (by omega) (Nat.le_of_ble_eq_true rfl) fun v19 ev19 lv19 uv19 => ?_)
    clear ev19
    refine hR (?_ : R (_, _, _, _, _, _))
    refine hR (t_stB hb28 (by omega) (by omega) (by omega) (by omega) (by omega) (by omega) (Nat.le_of_ble_eq_true rfl) fun k28_20 hk28_20 => (?_ : R (_, _, _, (zMi c0 c1 c2 c3 c4 c5 c6 c7 c8 c9 c10 c11 c12 c13 f0 f9 f10 f11 f12 f13 f15 f16 f17 f20 f21 f22 f23 f26 f28 f31 f32 f33 f38 f41 f44 x14 g15 g16 g17 g18 g19 g20 g21 g22 g23 g24 g25 g26 g27 k28_20 g29 g30 g31 g32 g33 g34 g35 g36 g37 g38 g39 g40 g41 g42 g43 g44 t), _, _)))
    iterate 5 refine hR (?_ : R (_, _, _, _, _, _))
    obtain ⟨v21, lv21, uv21, qv21⟩ := zshl_r (e := a1) (by omega) (by omega)
    refine hR (t_c v21 qv21 ?_)
    refine hR (?_ : R (_, _, _, _, _, _))
    refine hR (t_o fun v22 rv22 => ?_)
    refine hR (t_o fun v23 rv23 => ?_)
    refine hR (?_ : R (_, _, _, (zMi c0 c1 c2 c3 c4 c5 c6 c7 c8 c9 c10 c11 c12 c13 f0 f9 f10 f11 f12 f13 f15 f16 f17 f20 f21 f22 f23 f26 f28 f31 f32 v23 f38 f41 f44 x14 g15 g16 g17 g18 g19 g20 g21 g22 g23 g24 g25 g26 g27 k28_20 g29 g30 g31 g32 g33 g34 g35 g36 g37 g38 g39 g40 g41 g42 g43 g44 t), _, _))
    iterate 4 refine hR (?_ : R (_, _, _, _, _, _))
    refine hR (t_ldo (by omega) (by omega) (Nat.le_of_ble_eq_true rfl) fun v24 rv24 => ?_)
    refine hR (?_ : R (_, _, _, _, _, _))
    refine hR (t_add ?_)
    refine hR (t_stx (by omega) (by omega) (Nat.le_of_ble_eq_true rfl) fun k29_25 => (?_ : R (_, _, _, (zMi c0 c1 c2 c3 c4 c5 c6 c7 c8 c9 c10 c11 c12 c13 f0 f9 f10 f11 f12 f13 f15 f16 f17 f20 f21 f22 f23 f26 f28 f31 f32 v23 f38 f41 f44 x14 g15 g16 g17 g18 g19 g20 g21 g22 g23 g24 g25 g26 g27 k28_20 k29_25 g30 g31 g32 g33 g34 g35 g36 g37 g38 g39 g40 g41 g42 g43 g44 t), _, _)))
    refine hR (?_ : R (_, _, _, _, _, _))
    exact hR (zret_i rfl (Nat.le_refl _) (zbo (by omega)) (h _ _ _ _ _ _ hb25 hk28_20 (by omega)))
  iterate 4 refine hR (?_ : R (_, _, _, _, _, _))
  refine hR (t_ldB hb28 (by omega) (by omega) (Nat.le_of_ble_eq_true rfl) fun v7 ev7 lv7 uv7 => ?_)
  clear ev7
  refine hR (?_ : R (_, _, _, _, _, _))
  refine hR (zcall_i 0 0 (Nat.le_of_ble_eq_true rfl) (Nat.le_of_ble_eq_true rfl) (m_readBy _ v7 a2 hb25 (by omega) hr2 (by omega) (by omega) _ fun v8 y26_9 k25_10 hp11 hp12 => ?_))
  refine (?_ : R (_, _, (.int (Int32.ofInt v8)) :: (.int (Int32.ofInt a1)) :: (.ref 28) :: [], (zMi c0 c1 c2 c3 c4 c5 c6 c7 c8 c9 c10 c11 c12 c13 f0 f9 f10 f11 f12 f13 f15 f16 f17 f20 f21 f22 f23 y26_9 f28 f31 f32 f33 f38 f41 f44 x14 g15 g16 g17 g18 g19 g20 g21 g22 g23 g24 k25_10 g26 g27 g28 g29 g30 g31 g32 g33 g34 g35 g36 g37 g38 g39 g40 g41 g42 g43 g44 t), 0, 0))
  refine hR (t_stB hb28 (by omega) (by omega) (by omega) (by omega) (by omega) (by omega) (Nat.le_of_ble_eq_true rfl) fun k28_13 hk28_13 => (?_ : R (_, _, _, (zMi c0 c1 c2 c3 c4 c5 c6 c7 c8 c9 c10 c11 c12 c13 f0 f9 f10 f11 f12 f13 f15 f16 f17 f20 f21 f22 f23 y26_9 f28 f31 f32 f33 f38 f41 f44 x14 g15 g16 g17 g18 g19 g20 g21 g22 g23 g24 k25_10 g26 g27 k28_13 g29 g30 g31 g32 g33 g34 g35 g36 g37 g38 g39 g40 g41 g42 g43 g44 t), _, _)))
  iterate 5 refine hR (?_ : R (_, _, _, _, _, _))
  obtain ⟨v14, lv14, uv14, qv14⟩ := zshl_r (e := a1) (by omega) (by omega)
  refine hR (t_c v14 qv14 ?_)
  refine hR (?_ : R (_, _, _, _, _, _))
  refine hR (t_o fun v15 rv15 => ?_)
  refine hR (t_o fun v16 rv16 => ?_)
  refine hR (?_ : R (_, _, _, (zMi c0 c1 c2 c3 c4 c5 c6 c7 c8 c9 c10 c11 c12 c13 f0 f9 f10 f11 f12 f13 f15 f16 f17 f20 f21 f22 f23 y26_9 f28 f31 f32 v16 f38 f41 f44 x14 g15 g16 g17 g18 g19 g20 g21 g22 g23 g24 k25_10 g26 g27 k28_13 g29 g30 g31 g32 g33 g34 g35 g36 g37 g38 g39 g40 g41 g42 g43 g44 t), _, _))
  iterate 4 refine hR (?_ : R (_, _, _, _, _, _))
  refine hR (t_ldo (by omega) (by omega) (Nat.le_of_ble_eq_true rfl) fun v17 rv17 => ?_)
  refine hR (?_ : R (_, _, _, _, _, _))
  refine hR (t_add ?_)
  refine hR (t_stx (by omega) (by omega) (Nat.le_of_ble_eq_true rfl) fun k29_18 => (?_ : R (_, _, _, (zMi c0 c1 c2 c3 c4 c5 c6 c7 c8 c9 c10 c11 c12 c13 f0 f9 f10 f11 f12 f13 f15 f16 f17 f20 f21 f22 f23 y26_9 f28 f31 f32 v16 f38 f41 f44 x14 g15 g16 g17 g18 g19 g20 g21 g22 g23 g24 k25_10 g26 g27 k28_13 k29_18 g30 g31 g32 g33 g34 g35 g36 g37 g38 g39 g40 g41 g42 g43 g44 t), _, _)))
  refine hR (?_ : R (_, _, _, _, _, _))
  exact hR (zret_i rfl (Nat.le_refl _) (zbo (by omega)) (h _ _ _ _ _ _ hp11 hk28_13 (by omega)))
theorem m_hushes (d : Nat) (a1 : Int) (hr0 : 0 ≤ a1 ∧ a1 ≤ 3) (Q : zQ) (h : ∀ (v : Int) (y33 : Int), (v = 0 ∨ v = 1) → Q (some (.int (Int32.ofInt v))) (zMi c0 c1 c2 c3 c4 c5 c6 c7 c8 c9 c10 c11 c12 c13 f0 f9 f10 f11 f12 f13 f15 f16 f17 f20 f21 f22 f23 f26 f28 f31 f32 y33 f38 f41 f44 x14 g15 g16 g17 g18 g19 g20 g21 g22 g23 g24 g25 g26 g27 g28 g29 g30 g31 g32 g33 g34 g35 g36 g37 g38 g39 g40 g41 g42 g43 g44 t)) : zCl zTab (d + 2) iX12_hushes [.ref 14, .int (Int32.ofInt a1)] (zMi c0 c1 c2 c3 c4 c5 c6 c7 c8 c9 c10 c11 c12 c13 f0 f9 f10 f11 f12 f13 f15 f16 f17 f20 f21 f22 f23 f26 f28 f31 f32 f33 f38 f41 f44 x14 g15 g16 g17 g18 g19 g20 g21 g22 g23 g24 g25 g26 g27 g28 g29 g30 g31 g32 g33 g34 g35 g36 g37 g38 g39 g40 g41 g42 g43 g44 t) 0 0 Q := by
  refine zCl_i (M := kX12_hushes) rfl (Nat.le_of_ble_eq_true rfl) fun R hR => ?_
  iterate 3 refine hR (?_ : R (_, _, _, _, _, _))
  refine hR (zcall_i 0 0 (Nat.le_of_ble_eq_true rfl) (Nat.le_of_ble_eq_true rfl) (m_has _ f33 a1 _ _ fun v1 hp2 => ?_))
  refine (?_ : R (_, _, (.int (Int32.ofInt v1)) :: [], (zMi c0 c1 c2 c3 c4 c5 c6 c7 c8 c9 c10 c11 c12 c13 f0 f9 f10 f11 f12 f13 f15 f16 f17 f20 f21 f22 f23 f26 f28 f31 f32 f33 f38 f41 f44 x14 g15 g16 g17 g18 g19 g20 g21 g22 g23 g24 g25 g26 g27 g28 g29 g30 g31 g32 g33 g34 g35 g36 g37 g38 g39 g40 g41 g42 g43 g44 t), 0, 0))
  refine hR (k_ne (by omega) (fun hc3 => ?_) (fun hc3 => ?_))
  · skip
    iterate 7 refine hR (?_ : R (_, _, _, _, _, _))
    obtain ⟨v4, lv4, uv4, qv4⟩ := zshl_r (e := a1) (by omega) (by omega)
    refine hR (t_c v4 qv4 ?_)
    refine hR (t_o fun v5 rv5 => ?_)
    refine hR (?_ : R (_, _, _, (zMi c0 c1 c2 c3 c4 c5 c6 c7 c8 c9 c10 c11 c12 c13 f0 f9 f10 f11 f12 f13 f15 f16 f17 f20 f21 f22 f23 f26 f28 f31 f32 v5 f38 f41 f44 x14 g15 g16 g17 g18 g19 g20 g21 g22 g23 g24 g25 g26 g27 g28 g29 g30 g31 g32 g33 g34 g35 g36 g37 g38 g39 g40 g41 g42 g43 g44 t), _, _))
    refine hR (?_ : R (_, _, _, _, _, _))
    exact hR (zret_i rfl (Nat.le_refl _) (zbo (by omega)) (h _ _ (by omega)))
  iterate 8 refine hR (?_ : R (_, _, _, _, _, _))
  obtain ⟨v6, lv6, uv6, qv6⟩ := zshl_r (e := a1) (by omega) (by omega)
  refine hR (t_c v6 qv6 ?_)
  refine hR (t_o fun v7 rv7 => ?_)
  refine hR (?_ : R (_, _, _, (zMi c0 c1 c2 c3 c4 c5 c6 c7 c8 c9 c10 c11 c12 c13 f0 f9 f10 f11 f12 f13 f15 f16 f17 f20 f21 f22 f23 f26 f28 f31 f32 v7 f38 f41 f44 x14 g15 g16 g17 g18 g19 g20 g21 g22 g23 g24 g25 g26 g27 g28 g29 g30 g31 g32 g33 g34 g35 g36 g37 g38 g39 g40 g41 g42 g43 g44 t), _, _))
  refine hR (?_ : R (_, _, _, _, _, _))
  exact hR (zret_i rfl (Nat.le_refl _) (zbo (by omega)) (h _ _ (by omega)))
theorem m_goesOn (d : Nat)  (Q : zQ) (h : ∀ (v : Int) (y31 : Int), (v = 0 ∨ v = 1) → Q (some (.int (Int32.ofInt v))) (zMi c0 c1 c2 c3 c4 c5 c6 c7 c8 c9 c10 c11 c12 c13 f0 f9 f10 f11 f12 f13 f15 f16 f17 f20 f21 f22 f23 f26 f28 y31 f32 f33 f38 f41 f44 x14 g15 g16 g17 g18 g19 g20 g21 g22 g23 g24 g25 g26 g27 g28 g29 g30 g31 g32 g33 g34 g35 g36 g37 g38 g39 g40 g41 g42 g43 g44 t)) : zCl zTab (d + 1) iX12_goesOn [.ref 14] (zMi c0 c1 c2 c3 c4 c5 c6 c7 c8 c9 c10 c11 c12 c13 f0 f9 f10 f11 f12 f13 f15 f16 f17 f20 f21 f22 f23 f26 f28 f31 f32 f33 f38 f41 f44 x14 g15 g16 g17 g18 g19 g20 g21 g22 g23 g24 g25 g26 g27 g28 g29 g30 g31 g32 g33 g34 g35 g36 g37 g38 g39 g40 g41 g42 g43 g44 t) 0 0 Q := by
  refine zCl_i (M := kX12_goesOn) rfl (Nat.le_of_ble_eq_true rfl) fun R hR => ?_
  iterate 2 refine hR (?_ : R (_, _, _, _, _, _))
  refine hR (t_c 99 (by decide) ?_)
  refine hR (j_any ?_ ?_)
  · skip
    iterate 6 refine hR (?_ : R (_, _, _, _, _, _))
    refine hR (k_eq (by omega) (fun _ => ?_) (fun hc => by omega))
    refine hR (?_ : R (_, _, _, _, _, _))
    refine hR (t_add ?_)
    refine hR (?_ : R (_, _, _, (zMi c0 c1 c2 c3 c4 c5 c6 c7 c8 c9 c10 c11 c12 c13 f0 f9 f10 f11 f12 f13 f15 f16 f17 f20 f21 f22 f23 f26 f28 (f31 + 0) f32 f33 f38 f41 f44 x14 g15 g16 g17 g18 g19 g20 g21 g22 g23 g24 g25 g26 g27 g28 g29 g30 g31 g32 g33 g34 g35 g36 g37 g38 g39 g40 g41 g42 g43 g44 t), _, _))
    refine hR (?_ : R (_, _, _, _, _, _))
    exact hR (zret_i rfl (Nat.le_refl _) (zbo (by omega)) (h _ _ (by omega)))
  iterate 7 refine hR (?_ : R (_, _, _, _, _, _))
  refine hR (k_eq (by omega) (fun hc => by omega) (fun _ => ?_))
  iterate 2 refine hR (?_ : R (_, _, _, _, _, _))
  refine hR (t_add ?_)
  refine hR (?_ : R (_, _, _, (zMi c0 c1 c2 c3 c4 c5 c6 c7 c8 c9 c10 c11 c12 c13 f0 f9 f10 f11 f12 f13 f15 f16 f17 f20 f21 f22 f23 f26 f28 (f31 + 1) f32 f33 f38 f41 f44 x14 g15 g16 g17 g18 g19 g20 g21 g22 g23 g24 g25 g26 g27 g28 g29 g30 g31 g32 g33 g34 g35 g36 g37 g38 g39 g40 g41 g42 g43 g44 t), _, _))
  refine hR (?_ : R (_, _, _, _, _, _))
  exact hR (zret_i rfl (Nat.le_refl _) (zbo (by omega)) (h _ _ (by omega)))
theorem m_does (d : Nat) (a1 : Int) (hb25 : zB 0 3 g25) (hb28 : zB 0 5460 g28) (hr2 : bkOK g20) (hr3 : yrOK g21) (hr4 : 0 ≤ f20 ∧ f20 ≤ 1) (hr5 : 0 ≤ f23 ∧ f23 ≤ 5) (hr6 : 0 ≤ f28 ∧ f28 ≤ 1) (hr7 : 0 ≤ f22 ∧ f22 ≤ 5460) (hr8 : 0 ≤ f32 ∧ f32 ≤ 3) (hr9 : 0 ≤ a1 ∧ a1 ≤ 39) (Q : zQ) (h : ∀ (v : Int) (y26 : Int) (y31 : Int) (y32 : Int) (y33 : Int) (k25 : Nat → Int32) (k28 : Nat → Int32) (k29 : Nat → Int32), zB 0 3 k25 → zB 0 5460 k28 → (v = 0 ∨ v = 1) → (0 ≤ y32 ∧ y32 ≤ 3) → Q (some (.int (Int32.ofInt v))) (zMi c0 c1 c2 c3 c4 c5 c6 c7 c8 c9 c10 c11 c12 c13 f0 f9 f10 f11 f12 f13 f15 f16 f17 f20 f21 f22 f23 y26 f28 y31 y32 y33 f38 f41 f44 x14 g15 g16 g17 g18 g19 g20 g21 g22 g23 g24 k25 g26 g27 k28 k29 g30 g31 g32 g33 g34 g35 g36 g37 g38 g39 g40 g41 g42 g43 g44 t)) : zCl zTab (d + 6) iX12_does [.ref 14, .int (Int32.ofInt a1)] (zMi c0 c1 c2 c3 c4 c5 c6 c7 c8 c9 c10 c11 c12 c13 f0 f9 f10 f11 f12 f13 f15 f16 f17 f20 f21 f22 f23 f26 f28 f31 f32 f33 f38 f41 f44 x14 g15 g16 g17 g18 g19 g20 g21 g22 g23 g24 g25 g26 g27 g28 g29 g30 g31 g32 g33 g34 g35 g36 g37 g38 g39 g40 g41 g42 g43 g44 t) 0 0 Q := by
  refine zCl_i (M := kX12_does) rfl (Nat.le_of_ble_eq_true rfl) fun R hR => ?_
  have hyx := yr_d hr3 (b := f28.toNat) (k := a1.toNat) (by omega) (by omega)
  iterate 3 refine hR (?_ : R (_, _, _, _, _, _))
  refine hR (zcall_i 0 0 (Nat.le_of_ble_eq_true rfl) (Nat.le_of_ble_eq_true rfl) (m_deedOf1 _ a1 (by omega) (by omega) _ fun v1 hp2 => ?_))
  refine (?_ : R (_, _, (.int (Int32.ofInt v1)) :: [], (zMi c0 c1 c2 c3 c4 c5 c6 c7 c8 c9 c10 c11 c12 c13 f0 f9 f10 f11 f12 f13 f15 f16 f17 f20 f21 f22 f23 f26 f28 f31 f32 f33 f38 f41 f44 x14 g15 g16 g17 g18 g19 g20 g21 g22 g23 g24 g25 g26 g27 g28 g29 g30 g31 g32 g33 g34 g35 g36 g37 g38 g39 g40 g41 g42 g43 g44 t), 0, 0))
  iterate 4 refine hR (?_ : R (_, _, _, _, _, _))
  refine hR (zcall_i 0 0 (Nat.le_of_ble_eq_true rfl) (Nat.le_of_ble_eq_true rfl) (m_deedOf0 _ a1 (by omega) (by omega) _ fun v3 hp4 => ?_))
  refine (?_ : R (_, _, (.int (Int32.ofInt v3)) :: [], (zMi c0 c1 c2 c3 c4 c5 c6 c7 c8 c9 c10 c11 c12 c13 f0 f9 f10 f11 f12 f13 f15 f16 f17 f20 f21 f22 f23 f26 f28 f31 f32 f33 f38 f41 f44 x14 g15 g16 g17 g18 g19 g20 g21 g22 g23 g24 g25 g26 g27 g28 g29 g30 g31 g32 g33 g34 g35 g36 g37 g38 g39 g40 g41 g42 g43 g44 t), 0, 0))
  refine hR (?_ : _ ∧ _)
  rw [zti (e := v3) (by omega) (by omega)]
  refine ⟨fun hs5 => ?_, fun hs5 => ?_⟩
  · skip
    refine hR (?_ : R (_, _, _, _, _, _))
    refine hR (zcall_i 0 0 (Nat.le_of_ble_eq_true rfl) (Nat.le_of_ble_eq_true rfl) (m_goesOn _ _ fun v6 y31_7 hp8 => ?_))
    refine (?_ : R (_, _, (.int (Int32.ofInt v6)) :: [], (zMi c0 c1 c2 c3 c4 c5 c6 c7 c8 c9 c10 c11 c12 c13 f0 f9 f10 f11 f12 f13 f15 f16 f17 f20 f21 f22 f23 f26 f28 y31_7 f32 f33 f38 f41 f44 x14 g15 g16 g17 g18 g19 g20 g21 g22 g23 g24 g25 g26 g27 g28 g29 g30 g31 g32 g33 g34 g35 g36 g37 g38 g39 g40 g41 g42 g43 g44 t), 0, 0))
    exact hR (zret_i rfl (Nat.le_refl _) (zbo (by omega)) (h _ _ _ _ _ _ _ _ hb25 hb28 (by omega) (by omega)))
  · skip
    have hs5d : v3 = 0 ∨ v3 = 1 ∨ v3 = 2 ∨ v3 = 3 ∨ v3 = 4 := by omega
    rcases hs5d with hs5e | hs5e | hs5e | hs5e | hs5e
    · refine ⟨35, by rw [hs5e]; rfl, (?_ : R (_, _, _, _, _, _))⟩
      iterate 5 refine hR (?_ : R (_, _, _, _, _, _))
      refine hR (zcall_i 0 0 (Nat.le_of_ble_eq_true rfl) (Nat.le_of_ble_eq_true rfl) (m_deedOf2 _ a1 (by omega) (by omega) _ fun v9 hp10 => ?_))
      refine (?_ : R (_, _, (.int (Int32.ofInt v9)) :: (.int (Int32.ofInt v1)) :: (.ref 14) :: [], (zMi c0 c1 c2 c3 c4 c5 c6 c7 c8 c9 c10 c11 c12 c13 f0 f9 f10 f11 f12 f13 f15 f16 f17 f20 f21 f22 f23 f26 f28 f31 f32 f33 f38 f41 f44 x14 g15 g16 g17 g18 g19 g20 g21 g22 g23 g24 g25 g26 g27 g28 g29 g30 g31 g32 g33 g34 g35 g36 g37 g38 g39 g40 g41 g42 g43 g44 t), 0, 0))
      refine hR (zcall_i 0 0 (Nat.le_of_ble_eq_true rfl) (Nat.le_of_ble_eq_true rfl) (m_reads _ v1 v9 hb25 hb28 hr2 (by omega) (by omega) (by omega) (by omega) _ fun v11 y26_12 y33_13 k25_14 k28_15 k29_16 hp17 hp18 hp19 => ?_))
      refine (?_ : R (_, _, (.int (Int32.ofInt v11)) :: [], (zMi c0 c1 c2 c3 c4 c5 c6 c7 c8 c9 c10 c11 c12 c13 f0 f9 f10 f11 f12 f13 f15 f16 f17 f20 f21 f22 f23 y26_12 f28 f31 f32 y33_13 f38 f41 f44 x14 g15 g16 g17 g18 g19 g20 g21 g22 g23 g24 k25_14 g26 g27 k28_15 k29_16 g30 g31 g32 g33 g34 g35 g36 g37 g38 g39 g40 g41 g42 g43 g44 t), 0, 0))
      exact hR (zret_i rfl (Nat.le_refl _) (zbo (by omega)) (h _ _ _ _ _ _ _ _ hp17 hp18 (by omega) (by omega)))
    · refine ⟨47, by rw [hs5e]; rfl, (?_ : R (_, _, _, _, _, _))⟩
      iterate 5 refine hR (?_ : R (_, _, _, _, _, _))
      refine hR (zcall_i 0 0 (Nat.le_of_ble_eq_true rfl) (Nat.le_of_ble_eq_true rfl) (m_deedOf2 _ a1 (by omega) (by omega) _ fun v20 hp21 => ?_))
      refine (?_ : R (_, _, (.int (Int32.ofInt v20)) :: (.ref 28) :: [], (zMi c0 c1 c2 c3 c4 c5 c6 c7 c8 c9 c10 c11 c12 c13 f0 f9 f10 f11 f12 f13 f15 f16 f17 f20 f21 f22 f23 f26 f28 f31 f32 f33 f38 f41 f44 x14 g15 g16 g17 g18 g19 g20 g21 g22 g23 g24 g25 g26 g27 g28 g29 g30 g31 g32 g33 g34 g35 g36 g37 g38 g39 g40 g41 g42 g43 g44 t), 0, 0))
      iterate 3 refine hR (?_ : R (_, _, _, _, _, _))
      refine hR (t_ldB hb28 (by omega) (by omega) (Nat.le_of_ble_eq_true rfl) fun v22 ev22 lv22 uv22 => ?_)
      clear ev22
      refine hR (t_stB hb28 (by omega) (by omega) (by omega) (by omega) (by omega) (by omega) (Nat.le_of_ble_eq_true rfl) fun k28_23 hk28_23 => (?_ : R (_, _, _, (zMi c0 c1 c2 c3 c4 c5 c6 c7 c8 c9 c10 c11 c12 c13 f0 f9 f10 f11 f12 f13 f15 f16 f17 f20 f21 f22 f23 f26 f28 f31 f32 f33 f38 f41 f44 x14 g15 g16 g17 g18 g19 g20 g21 g22 g23 g24 g25 g26 g27 k28_23 g29 g30 g31 g32 g33 g34 g35 g36 g37 g38 g39 g40 g41 g42 g43 g44 t), _, _)))
      refine hR (?_ : R (_, _, _, _, _, _))
      exact hR (zret_i rfl (Nat.le_refl _) (zbo (by omega)) (h _ _ _ _ _ _ _ _ hb25 hk28_23 (by omega) (by omega)))
    · refine ⟨66, by rw [hs5e]; rfl, (?_ : R (_, _, _, _, _, _))⟩
      iterate 2 refine hR (?_ : R (_, _, _, _, _, _))
      refine hR (?_ : R (_, _, _, (zMi c0 c1 c2 c3 c4 c5 c6 c7 c8 c9 c10 c11 c12 c13 f0 f9 f10 f11 f12 f13 f15 f16 f17 f20 f21 f22 f23 f26 f28 f31 v1 f33 f38 f41 f44 x14 g15 g16 g17 g18 g19 g20 g21 g22 g23 g24 g25 g26 g27 g28 g29 g30 g31 g32 g33 g34 g35 g36 g37 g38 g39 g40 g41 g42 g43 g44 t), _, _))
      refine hR (?_ : R (_, _, _, _, _, _))
      exact hR (zret_i rfl (Nat.le_refl _) (zbo (by omega)) (h _ _ _ _ _ _ _ _ hb25 hb28 (by omega) (by omega)))
    · refine ⟨73, by rw [hs5e]; rfl, (?_ : R (_, _, _, _, _, _))⟩
      iterate 6 refine hR (?_ : R (_, _, _, _, _, _))
      refine hR (j_ne (by omega) (by omega) (fun hc24 => ?_) (fun hc24 => ?_))
      · skip
        iterate 2 refine hR (?_ : R (_, _, _, _, _, _))
        refine hR (t_stB hb28 (by omega) (by omega) (by omega) (by omega) (by omega) (by omega) (Nat.le_of_ble_eq_true rfl) fun k28_25 hk28_25 => (?_ : R (_, _, _, (zMi c0 c1 c2 c3 c4 c5 c6 c7 c8 c9 c10 c11 c12 c13 f0 f9 f10 f11 f12 f13 f15 f16 f17 f20 f21 f22 f23 f26 f28 f31 f32 f33 f38 f41 f44 x14 g15 g16 g17 g18 g19 g20 g21 g22 g23 g24 g25 g26 g27 k28_25 g29 g30 g31 g32 g33 g34 g35 g36 g37 g38 g39 g40 g41 g42 g43 g44 t), _, _)))
        iterate 3 refine hR (?_ : R (_, _, _, _, _, _))
        refine hR (j_eq (by omega) (by omega) (fun hc26 => ?_) (fun hc26 => ?_))
        · skip
          refine hR (?_ : R (_, _, _, _, _, _))
          exact hR (zret_i rfl (Nat.le_refl _) (zbo (by omega)) (h _ _ _ _ _ _ _ _ hb25 hk28_25 (by omega) (by omega)))
        iterate 2 refine hR (?_ : R (_, _, _, _, _, _))
        exact hR (zret_i rfl (Nat.le_refl _) (zbo (by omega)) (h _ _ _ _ _ _ _ _ hb25 hk28_25 (by omega) (by omega)))
      iterate 3 refine hR (?_ : R (_, _, _, _, _, _))
      refine hR (t_ldB hb28 (by omega) (by omega) (Nat.le_of_ble_eq_true rfl) fun v27 ev27 lv27 uv27 => ?_)
      clear ev27
      refine hR (?_ : R (_, _, _, _, _, _))
      refine hR (t_stB hb28 (by omega) (by omega) (by omega) (by omega) (by omega) (by omega) (Nat.le_of_ble_eq_true rfl) fun k28_28 hk28_28 => (?_ : R (_, _, _, (zMi c0 c1 c2 c3 c4 c5 c6 c7 c8 c9 c10 c11 c12 c13 f0 f9 f10 f11 f12 f13 f15 f16 f17 f20 f21 f22 f23 f26 f28 f31 f32 f33 f38 f41 f44 x14 g15 g16 g17 g18 g19 g20 g21 g22 g23 g24 g25 g26 g27 k28_28 g29 g30 g31 g32 g33 g34 g35 g36 g37 g38 g39 g40 g41 g42 g43 g44 t), _, _)))
      iterate 3 refine hR (?_ : R (_, _, _, _, _, _))
      refine hR (j_eq (by omega) (by omega) (fun hc29 => ?_) (fun hc29 => ?_))
      · skip
        refine hR (?_ : R (_, _, _, _, _, _))
        exact hR (zret_i rfl (Nat.le_refl _) (zbo (by omega)) (h _ _ _ _ _ _ _ _ hb25 hk28_28 (by omega) (by omega)))
      iterate 2 refine hR (?_ : R (_, _, _, _, _, _))
      exact hR (zret_i rfl (Nat.le_refl _) (zbo (by omega)) (h _ _ _ _ _ _ _ _ hb25 hk28_28 (by omega) (by omega)))
    · refine ⟨114, by rw [hs5e]; rfl, (?_ : R (_, _, _, _, _, _))⟩
      iterate 2 refine hR (?_ : R (_, _, _, _, _, _))
      refine hR (zcall_i 0 0 (Nat.le_of_ble_eq_true rfl) (Nat.le_of_ble_eq_true rfl) (m_hushes _ v1 (by omega) _ fun v30 y33_31 hp32 => ?_))
      refine (?_ : R (_, _, (.int (Int32.ofInt v30)) :: [], (zMi c0 c1 c2 c3 c4 c5 c6 c7 c8 c9 c10 c11 c12 c13 f0 f9 f10 f11 f12 f13 f15 f16 f17 f20 f21 f22 f23 f26 f28 f31 f32 y33_31 f38 f41 f44 x14 g15 g16 g17 g18 g19 g20 g21 g22 g23 g24 g25 g26 g27 g28 g29 g30 g31 g32 g33 g34 g35 g36 g37 g38 g39 g40 g41 g42 g43 g44 t), 0, 0))
      exact hR (zret_i rfl (Nat.le_refl _) (zbo (by omega)) (h _ _ _ _ _ _ _ _ hb25 hb28 (by omega) (by omega)))
theorem m_play1 (d : Nat) (a1 : Int) (hb25 : zB 0 3 g25) (hb28 : zB 0 5460 g28) (hr2 : bkOK g20) (hr3 : yrOK g21) (hr4 : 0 ≤ f20 ∧ f20 ≤ 1) (hr5 : 0 ≤ f23 ∧ f23 ≤ 5) (hr6 : 0 ≤ f28 ∧ f28 ≤ 1) (hr7 : 0 ≤ f22 ∧ f22 ≤ 5460) (hr8 : 0 ≤ a1 ∧ a1 ≤ 40) (Q : zQ) (h : ∀ (v : Int) (y26 : Int) (y31 : Int) (y32 : Int) (y33 : Int) (k25 : Nat → Int32) (k28 : Nat → Int32) (k29 : Nat → Int32), zB 0 3 k25 → zB 0 5460 k28 → (0 ≤ v ∧ v ≤ a1) → (0 ≤ y32 ∧ y32 ≤ 3) → Q (some (.int (Int32.ofInt v))) (zMi c0 c1 c2 c3 c4 c5 c6 c7 c8 c9 c10 c11 c12 c13 f0 f9 f10 f11 f12 f13 f15 f16 f17 f20 f21 f22 f23 y26 f28 y31 y32 y33 f38 f41 f44 x14 g15 g16 g17 g18 g19 g20 g21 g22 g23 g24 k25 g26 g27 k28 k29 g30 g31 g32 g33 g34 g35 g36 g37 g38 g39 g40 g41 g42 g43 g44 t)) : zCl zTab (d + 7) iX12_play [.ref 14, .int (Int32.ofInt a1)] (zMi c0 c1 c2 c3 c4 c5 c6 c7 c8 c9 c10 c11 c12 c13 f0 f9 f10 f11 f12 f13 f15 f16 f17 f20 f21 f22 f23 f26 f28 f31 f32 f33 f38 f41 f44 x14 g15 g16 g17 g18 g19 g20 g21 g22 g23 g24 g25 g26 g27 g28 g29 g30 g31 g32 g33 g34 g35 g36 g37 g38 g39 g40 g41 g42 g43 g44 t) 0 0 Q := by
  refine zCl_i (M := kX12_play) rfl (Nat.le_of_ble_eq_true rfl) fun R hR => ?_
  refine hR (?_ : R (_, _, _, _, _, _))
  refine hR (zcall_i 0 0 (Nat.le_of_ble_eq_true rfl) (Nat.le_of_ble_eq_true rfl) (m_begin _ hb28 (by omega) _ fun y31_1 y32_2 y33_3 k28_4 k29_5 hp6 hp7 => ?_))
  refine (?_ : R (_, _, [], (zMi c0 c1 c2 c3 c4 c5 c6 c7 c8 c9 c10 c11 c12 c13 f0 f9 f10 f11 f12 f13 f15 f16 f17 f20 f21 f22 f23 f26 f28 y31_1 y32_2 y33_3 f38 f41 f44 x14 g15 g16 g17 g18 g19 g20 g21 g22 g23 g24 g25 g26 g27 k28_4 k29_5 g30 g31 g32 g33 g34 g35 g36 g37 g38 g39 g40 g41 g42 g43 g44 t), 0, 0))
  iterate 2 refine hR (?_ : R (_, _, _, _, _, _))
  have lp6 : ∀ (N : Nat) (i : Int) (e26_6 : Int) (e31_6 : Int) (e32_6 : Int) (e33_6 : Int) (q25_6 : Nat → Int32) (q28_6 : Nat → Int32) (q29_6 : Nat → Int32), (0 ≤ i ∧ i ≤ a1) → (0 ≤ e32_6 ∧ e32_6 ≤ 3) → (zB 0 3 q25_6) → (zB 0 5460 q28_6) → (a1 - i < N) → R (6, [some (.ref 14), some (.int (Int32.ofInt a1)), some (.int (Int32.ofInt i))], [], (zMi c0 c1 c2 c3 c4 c5 c6 c7 c8 c9 c10 c11 c12 c13 f0 f9 f10 f11 f12 f13 f15 f16 f17 f20 f21 f22 f23 e26_6 f28 e31_6 e32_6 e33_6 f38 f41 f44 x14 g15 g16 g17 g18 g19 g20 g21 g22 g23 g24 q25_6 g26 g27 q28_6 q29_6 g30 g31 g32 g33 g34 g35 g36 g37 g38 g39 g40 g41 g42 g43 g44 t), 0, 0) := by
    intro N
    induction N with
    | zero => intros; omega
    | succ N ih6 =>
      intro i e26_6 e31_6 e32_6 e33_6 q25_6 q28_6 q29_6 hf0_6 hp0_6 hq25_6 hq28_6 hN6
      iterate 2 refine hR (?_ : R (_, _, _, _, _, _))
      refine hR (j_ge (by omega) (by omega) (fun hc8 => ?_) (fun hc8 => ?_))
      · skip
        refine hR (?_ : R (_, _, _, _, _, _))
        exact hR (zret_i rfl (Nat.le_refl _) trivial (h _ _ _ _ _ _ _ _ hq25_6 hq28_6 (by omega) (by omega)))
      iterate 2 refine hR (?_ : R (_, _, _, _, _, _))
      refine hR (zcall_i 0 0 (Nat.le_of_ble_eq_true rfl) (Nat.le_of_ble_eq_true rfl) (m_does _ i hq25_6 hq28_6 hr2 hr3 (by omega) (by omega) (by omega) (by omega) (by omega) (by omega) _ fun v9 y26_10 y31_11 y32_12 y33_13 k25_14 k28_15 k29_16 hp17 hp18 hp19 hp20 => ?_))
      refine (?_ : R (_, _, (.int (Int32.ofInt v9)) :: [], (zMi c0 c1 c2 c3 c4 c5 c6 c7 c8 c9 c10 c11 c12 c13 f0 f9 f10 f11 f12 f13 f15 f16 f17 f20 f21 f22 f23 y26_10 f28 y31_11 y32_12 y33_13 f38 f41 f44 x14 g15 g16 g17 g18 g19 g20 g21 g22 g23 g24 k25_14 g26 g27 k28_15 k29_16 g30 g31 g32 g33 g34 g35 g36 g37 g38 g39 g40 g41 g42 g43 g44 t), 0, 0))
      refine hR (k_eq (by omega) (fun hc21 => ?_) (fun hc21 => ?_))
      · skip
        refine hR (?_ : R (_, _, _, _, _, _))
        exact hR (zret_i rfl (Nat.le_refl _) trivial (h _ _ _ _ _ _ _ _ hp17 hp18 (by omega) (by omega)))
      refine hR (t_inc ?_)
      refine hR (?_ : R (_, _, _, _, _, _))
      exact ih6 _ _ _ _ _ _ _ _ (by omega) (by omega) hp17 hp18 (by omega)
  exact lp6 400000000 _ _ _ _ _ _ _ _ (by omega) (by omega) hb25 hp6 (by omega)
theorem m_layAll (d : Nat) (a1 a2 : Int) (hb19 : zB 0 2 g19) (hr1 : bkOK g20) (hr2 : -2147483648 ≤ a1 ∧ a1 ≤ 2147483647) (hr3 : -2147483648 ≤ a2 ∧ a2 ≤ 2147483647) (Q : zQ) (h : ∀ (v : Int) (y20 : Int) (y22 : Int) (y23 : Int) (y28 : Int), ((v = 1 ∧ 0 ≤ y28 ∧ y28 ≤ 1 ∧ 0 ≤ y20 ∧ y20 ≤ 1 ∧ 0 ≤ y22 ∧ y22 ≤ 5460 ∧ 0 ≤ y23 ∧ y23 ≤ 5) ∨ v = 0) → Q (some (.int (Int32.ofInt v))) (zMi c0 c1 c2 c3 c4 c5 c6 c7 c8 c9 c10 c11 c12 c13 f0 f9 f10 f11 f12 f13 f15 f16 f17 y20 f21 y22 y23 f26 y28 f31 f32 f33 f38 f41 f44 x14 g15 g16 g17 g18 g19 g20 g21 g22 g23 g24 g25 g26 g27 g28 g29 g30 g31 g32 g33 g34 g35 g36 g37 g38 g39 g40 g41 g42 g43 g44 t)) : zCl zTab (d + 4) iX12_layAll [.ref 14, .int (Int32.ofInt a1), .int (Int32.ofInt a2)] (zMi c0 c1 c2 c3 c4 c5 c6 c7 c8 c9 c10 c11 c12 c13 f0 f9 f10 f11 f12 f13 f15 f16 f17 f20 f21 f22 f23 f26 f28 f31 f32 f33 f38 f41 f44 x14 g15 g16 g17 g18 g19 g20 g21 g22 g23 g24 g25 g26 g27 g28 g29 g30 g31 g32 g33 g34 g35 g36 g37 g38 g39 g40 g41 g42 g43 g44 t) 0 0 Q := by
  refine zCl_i (M := kX12_layAll) rfl (Nat.le_of_ble_eq_true rfl) fun R hR => ?_
  iterate 2 refine hR (?_ : R (_, _, _, _, _, _))
  refine hR (zcall_i 0 0 (Nat.le_of_ble_eq_true rfl) (Nat.le_of_ble_eq_true rfl) (m_hasYear _ a2 hb19 (by omega) _ fun v1 y28_2 hp3 hp4 => ?_))
  refine (?_ : R (_, _, (.int (Int32.ofInt v1)) :: [], (zMi c0 c1 c2 c3 c4 c5 c6 c7 c8 c9 c10 c11 c12 c13 f0 f9 f10 f11 f12 f13 f15 f16 f17 f20 f21 f22 f23 f26 y28_2 f31 f32 f33 f38 f41 f44 x14 g15 g16 g17 g18 g19 g20 g21 g22 g23 g24 g25 g26 g27 g28 g29 g30 g31 g32 g33 g34 g35 g36 g37 g38 g39 g40 g41 g42 g43 g44 t), 0, 0))
  refine hR (k_eq (by omega) (fun hc5 => ?_) (fun hc5 => ?_))
  · skip
    refine hR (?_ : R (_, _, _, _, _, _))
    exact hR (zret_i rfl (Nat.le_refl _) (zbo (by omega)) (h _ _ _ _ _ (by omega)))
  iterate 2 refine hR (?_ : R (_, _, _, _, _, _))
  refine hR (zcall_i 0 0 (Nat.le_of_ble_eq_true rfl) (Nat.le_of_ble_eq_true rfl) (m_hand _ a1 hb19 hr1 (by omega) _ fun v6 y20_7 y22_8 y23_9 hp10 => ?_))
  refine (?_ : R (_, _, (.int (Int32.ofInt v6)) :: [], (zMi c0 c1 c2 c3 c4 c5 c6 c7 c8 c9 c10 c11 c12 c13 f0 f9 f10 f11 f12 f13 f15 f16 f17 y20_7 f21 y22_8 y23_9 f26 y28_2 f31 f32 f33 f38 f41 f44 x14 g15 g16 g17 g18 g19 g20 g21 g22 g23 g24 g25 g26 g27 g28 g29 g30 g31 g32 g33 g34 g35 g36 g37 g38 g39 g40 g41 g42 g43 g44 t), 0, 0))
  refine hR (k_eq (by omega) (fun hc11 => ?_) (fun hc11 => ?_))
  · skip
    refine hR (?_ : R (_, _, _, _, _, _))
    exact hR (zret_i rfl (Nat.le_refl _) (zbo (by omega)) (h _ _ _ _ _ (by omega)))
  iterate 2 refine hR (?_ : R (_, _, _, _, _, _))
  exact hR (zret_i rfl (Nat.le_refl _) (zbo (by omega)) (h _ _ _ _ _ (by omega)))
theorem m_stop (d : Nat) (a1 a2 : Int) (hb19 : zB 0 2 g19) (hb25 : zB 0 3 g25) (hb28 : zB 0 5460 g28) (hr3 : bkOK g20) (hr4 : yrOK g21) (hr5 : -2147483648 ≤ a1 ∧ a1 ≤ 2147483647) (hr6 : -2147483648 ≤ a2 ∧ a2 ≤ 2147483647) (Q : zQ) (h : ∀ (v : Int) (y0 : Int) (y20 : Int) (y22 : Int) (y23 : Int) (y26 : Int) (y28 : Int) (y31 : Int) (y32 : Int) (y33 : Int) (k25 : Nat → Int32) (k28 : Nat → Int32) (k29 : Nat → Int32), zB 0 3 k25 → zB 0 5460 k28 → Q (some (.int (Int32.ofInt v))) (zMi c0 c1 c2 c3 c4 c5 c6 c7 c8 c9 c10 c11 c12 c13 y0 f9 f10 f11 f12 f13 f15 f16 f17 y20 f21 y22 y23 y26 y28 y31 y32 y33 f38 f41 f44 x14 g15 g16 g17 g18 g19 g20 g21 g22 g23 g24 k25 g26 g27 k28 k29 g30 g31 g32 g33 g34 g35 g36 g37 g38 g39 g40 g41 g42 g43 g44 t)) : zCl zTab (d + 8) iX12_stop [.ref 14, .int (Int32.ofInt a1), .int (Int32.ofInt a2)] (zMi c0 c1 c2 c3 c4 c5 c6 c7 c8 c9 c10 c11 c12 c13 f0 f9 f10 f11 f12 f13 f15 f16 f17 f20 f21 f22 f23 f26 f28 f31 f32 f33 f38 f41 f44 x14 g15 g16 g17 g18 g19 g20 g21 g22 g23 g24 g25 g26 g27 g28 g29 g30 g31 g32 g33 g34 g35 g36 g37 g38 g39 g40 g41 g42 g43 g44 t) 0 0 Q := by
  refine zCl_i (M := kX12_stop) rfl (Nat.le_of_ble_eq_true rfl) fun R hR => ?_
  iterate 2 refine hR (?_ : R (_, _, _, _, _, _))
  refine hR (?_ : R (_, _, _, (zMi c0 c1 c2 c3 c4 c5 c6 c7 c8 c9 c10 c11 c12 c13 0 f9 f10 f11 f12 f13 f15 f16 f17 f20 f21 f22 f23 f26 f28 f31 f32 f33 f38 f41 f44 x14 g15 g16 g17 g18 g19 g20 g21 g22 g23 g24 g25 g26 g27 g28 g29 g30 g31 g32 g33 g34 g35 g36 g37 g38 g39 g40 g41 g42 g43 g44 t), _, _))
  iterate 3 refine hR (?_ : R (_, _, _, _, _, _))
  refine hR (zcall_i 0 0 (Nat.le_of_ble_eq_true rfl) (Nat.le_of_ble_eq_true rfl) (m_layAll _ a1 a2 hb19 hr3 (by omega) (by omega) _ fun v1 y20_2 y22_3 y23_4 y28_5 hp6 => ?_))
  refine (?_ : R (_, _, (.int (Int32.ofInt v1)) :: [], (zMi c0 c1 c2 c3 c4 c5 c6 c7 c8 c9 c10 c11 c12 c13 0 f9 f10 f11 f12 f13 f15 f16 f17 y20_2 f21 y22_3 y23_4 f26 y28_5 f31 f32 f33 f38 f41 f44 x14 g15 g16 g17 g18 g19 g20 g21 g22 g23 g24 g25 g26 g27 g28 g29 g30 g31 g32 g33 g34 g35 g36 g37 g38 g39 g40 g41 g42 g43 g44 t), 0, 0))
  refine hR (k_eq (by omega) (fun hc7 => ?_) (fun hc7 => ?_))
  · skip
    refine hR (?_ : R (_, _, _, _, _, _))
    exact hR (zret_i rfl (Nat.le_refl _) trivial (h _ _ _ _ _ _ _ _ _ _ _ _ _ hb25 hb28))
  iterate 2 refine hR (?_ : R (_, _, _, _, _, _))
  refine hR (zcall_i 0 0 (Nat.le_of_ble_eq_true rfl) (Nat.le_of_ble_eq_true rfl) (m_deeds _ hr4 (by omega) _ fun v8 hp9 hp10 => ?_))
  refine (?_ : R (_, _, (.int (Int32.ofInt v8)) :: (.ref 14) :: [], (zMi c0 c1 c2 c3 c4 c5 c6 c7 c8 c9 c10 c11 c12 c13 0 f9 f10 f11 f12 f13 f15 f16 f17 y20_2 f21 y22_3 y23_4 f26 y28_5 f31 f32 f33 f38 f41 f44 x14 g15 g16 g17 g18 g19 g20 g21 g22 g23 g24 g25 g26 g27 g28 g29 g30 g31 g32 g33 g34 g35 g36 g37 g38 g39 g40 g41 g42 g43 g44 t), 0, 0))
  refine hR (zcall_i 0 0 (Nat.le_of_ble_eq_true rfl) (Nat.le_of_ble_eq_true rfl) (m_play1 _ v8 hb25 hb28 hr3 hr4 (by omega) (by omega) (by omega) (by omega) (by omega) _ fun v11 y26_12 y31_13 y32_14 y33_15 k25_16 k28_17 k29_18 hp19 hp20 hp21 hp22 => ?_))
  refine (?_ : R (_, _, (.int (Int32.ofInt v11)) :: [], (zMi c0 c1 c2 c3 c4 c5 c6 c7 c8 c9 c10 c11 c12 c13 0 f9 f10 f11 f12 f13 f15 f16 f17 y20_2 f21 y22_3 y23_4 y26_12 y28_5 y31_13 y32_14 y33_15 f38 f41 f44 x14 g15 g16 g17 g18 g19 g20 g21 g22 g23 g24 k25_16 g26 g27 k28_17 k29_18 g30 g31 g32 g33 g34 g35 g36 g37 g38 g39 g40 g41 g42 g43 g44 t), 0, 0))
  refine hR (?_ : R (_, _, _, _, _, _))
  exact hR (zret_i rfl (Nat.le_refl _) trivial (h _ _ _ _ _ _ _ _ _ _ _ _ _ hp19 hp20))
theorem m_ofState (d : Nat) (a1 : Int) (hb25 : zB 0 3 g25) (hb26 : zB 0 3 g26) (hb28 : zB 0 5460 g28) (hr3 : -2147483648 ≤ a1 ∧ a1 ≤ 2147483647) (hr4 : 0 ≤ f23 ∧ f23 ≤ 5) (hr5 : 0 ≤ f22 ∧ f22 ≤ 5460) (hr6 : 0 ≤ f32 ∧ f32 ≤ 3) (Q : zQ) (h : ∀ (v : Int) (k25 : Nat → Int32) (k26 : Nat → Int32) (k27 : Nat → Int32), zB 0 3 k25 → zB 0 3 k26 → Q (some (.int (Int32.ofInt v))) (zMi c0 c1 c2 c3 c4 c5 c6 c7 c8 c9 c10 c11 c12 c13 f0 f9 f10 f11 f12 f13 f15 f16 f17 f20 f21 f22 f23 f26 f28 f31 f32 f33 f38 f41 f44 x14 g15 g16 g17 g18 g19 g20 g21 g22 g23 g24 k25 k26 k27 g28 g29 g30 g31 g32 g33 g34 g35 g36 g37 g38 g39 g40 g41 g42 g43 g44 t)) : zCl zTab (d + 5) iX12_ofState [.ref 14, .int (Int32.ofInt a1)] (zMi c0 c1 c2 c3 c4 c5 c6 c7 c8 c9 c10 c11 c12 c13 f0 f9 f10 f11 f12 f13 f15 f16 f17 f20 f21 f22 f23 f26 f28 f31 f32 f33 f38 f41 f44 x14 g15 g16 g17 g18 g19 g20 g21 g22 g23 g24 g25 g26 g27 g28 g29 g30 g31 g32 g33 g34 g35 g36 g37 g38 g39 g40 g41 g42 g43 g44 t) 0 0 Q := by
  refine zCl_i (M := kX12_ofState) rfl (Nat.le_of_ble_eq_true rfl) fun R hR => ?_
  refine hR (?_ : R (_, _, _, _, _, _))
  refine hR (t_c 10 (by decide) ?_)
  refine hR (t_c 13 (by decide) ?_)
  refine hR (zcall_i 0 0 (Nat.le_of_ble_eq_true rfl) (Nat.le_of_ble_eq_true rfl) (m_in _ a1 10 13 _ (by omega) (by omega) (by omega) _ fun v1 hp2 => ?_))
  refine (?_ : R (_, _, (.int (Int32.ofInt v1)) :: [], (zMi c0 c1 c2 c3 c4 c5 c6 c7 c8 c9 c10 c11 c12 c13 f0 f9 f10 f11 f12 f13 f15 f16 f17 f20 f21 f22 f23 f26 f28 f31 f32 f33 f38 f41 f44 x14 g15 g16 g17 g18 g19 g20 g21 g22 g23 g24 g25 g26 g27 g28 g29 g30 g31 g32 g33 g34 g35 g36 g37 g38 g39 g40 g41 g42 g43 g44 t), 0, 0))
  refine hR (k_eq (by omega) (fun hc3 => ?_) (fun hc3 => ?_))
  rotate_left
  · skip
    iterate 3 refine hR (?_ : R (_, _, _, _, _, _))
    refine hR (t_c 10 (by decide) ?_)
    refine hR (t_sub ?_)
    refine hR (t_ldB hb28 (by omega) (by omega) (Nat.le_of_ble_eq_true rfl) fun v60 ev60 lv60 uv60 => ?_)
    clear ev60
    exact hR (zret_i rfl (Nat.le_refl _) trivial (h _ _ _ _ hb25 hb26))
  refine hR (?_ : R (_, _, _, _, _, _))
  refine hR (t_c 20 (by decide) ?_)
  refine hR (t_c 19 (by decide) ?_)
  iterate 2 refine hR (?_ : R (_, _, _, _, _, _))
  refine hR (t_add ?_)
  refine hR (zcall_i 0 0 (Nat.le_of_ble_eq_true rfl) (Nat.le_of_ble_eq_true rfl) (m_in _ a1 20 (19 + f23) _ (by omega) (by omega) (by omega) _ fun v4 hp5 => ?_))
  refine (?_ : R (_, _, (.int (Int32.ofInt v4)) :: [], (zMi c0 c1 c2 c3 c4 c5 c6 c7 c8 c9 c10 c11 c12 c13 f0 f9 f10 f11 f12 f13 f15 f16 f17 f20 f21 f22 f23 f26 f28 f31 f32 f33 f38 f41 f44 x14 g15 g16 g17 g18 g19 g20 g21 g22 g23 g24 g25 g26 g27 g28 g29 g30 g31 g32 g33 g34 g35 g36 g37 g38 g39 g40 g41 g42 g43 g44 t), 0, 0))
  refine hR (k_eq (by omega) (fun hc6 => ?_) (fun hc6 => ?_))
  rotate_left
  · skip
    iterate 3 refine hR (?_ : R (_, _, _, _, _, _))
    refine hR (t_c 20 (by decide) ?_)
    refine hR (t_sub ?_)
    refine hR (t_ldo (by omega) (by omega) (Nat.le_of_ble_eq_true rfl) fun v59 rv59 => ?_)
    exact hR (zret_i rfl (Nat.le_refl _) trivial (h _ _ _ _ hb25 hb26))
  iterate 6 refine hR (?_ : R (_, _, _, _, _, _))
  have lp54 : ∀ (N : Nat) (su : Int) (wo : Int) (c : Int) (q25_54 : Nat → Int32) (q26_54 : Nat → Int32) (q27_54 : Nat → Int32), (0 ≤ wo ∧ wo ≤ 3) → (0 ≤ c ∧ c ≤ 4) → (zB 0 3 q25_54) → (zB 0 3 q26_54) → (4 - c < N) → R (54, [some (.ref 14), some (.int (Int32.ofInt a1)), some (.int (Int32.ofInt su)), some (.int (Int32.ofInt wo)), some (.int (Int32.ofInt c))], [], (zMi c0 c1 c2 c3 c4 c5 c6 c7 c8 c9 c10 c11 c12 c13 f0 f9 f10 f11 f12 f13 f15 f16 f17 f20 f21 f22 f23 f26 f28 f31 f32 f33 f38 f41 f44 x14 g15 g16 g17 g18 g19 g20 g21 g22 g23 g24 q25_54 q26_54 q27_54 g28 g29 g30 g31 g32 g33 g34 g35 g36 g37 g38 g39 g40 g41 g42 g43 g44 t), 0, 0) := by
    intro N
    induction N with
    | zero => intros; omega
    | succ N ih54 =>
      intro su wo c q25_54 q26_54 q27_54 hf0_54 hf1_54 hq25_54 hq26_54 hN54
      iterate 2 refine hR (?_ : R (_, _, _, _, _, _))
      refine hR (j_ge (by omega) (by omega) (fun hc7 => ?_) (fun hc7 => ?_))
      · skip
        refine hR (?_ : R (_, _, _, _, _, _))
        refine hR (?_ : _ ∧ _)
        rw [zti (e := a1) (by omega) (by omega)]
        refine ⟨fun hs8 => ?_, fun hs8 => ?_⟩
        · skip
          refine hR (t_c (-2) (by decide) ?_)
          exact hR (zret_i rfl (Nat.le_refl _) trivial (h _ _ _ _ hq25_54 hq26_54))
        · skip
          have hs8d : a1 = 0 ∨ a1 = 1 ∨ a1 = 2 ∨ a1 = 3 ∨ a1 = 4 ∨ a1 = 5 := by omega
          rcases hs8d with hs8e | hs8e | hs8e | hs8e | hs8e | hs8e
          · refine ⟨39, by rw [hs8e]; rfl, (?_ : R (_, _, _, _, _, _))⟩
            iterate 2 refine hR (?_ : R (_, _, _, _, _, _))
            exact hR (zret_i rfl (Nat.le_refl _) trivial (h _ _ _ _ hq25_54 hq26_54))
          · refine ⟨44, by rw [hs8e]; rfl, (?_ : R (_, _, _, _, _, _))⟩
            iterate 2 refine hR (?_ : R (_, _, _, _, _, _))
            exact hR (zret_i rfl (Nat.le_refl _) trivial (h _ _ _ _ hq25_54 hq26_54))
          · refine ⟨49, by rw [hs8e]; rfl, (?_ : R (_, _, _, _, _, _))⟩
            refine hR (?_ : R (_, _, _, _, _, _))
            exact hR (zret_i rfl (Nat.le_refl _) trivial (h _ _ _ _ hq25_54 hq26_54))
          · refine ⟨51, by rw [hs8e]; rfl, (?_ : R (_, _, _, _, _, _))⟩
            refine hR (?_ : R (_, _, _, _, _, _))
            exact hR (zret_i rfl (Nat.le_refl _) trivial (h _ _ _ _ hq25_54 hq26_54))
          · refine ⟨53, by rw [hs8e]; rfl, (?_ : R (_, _, _, _, _, _))⟩
            iterate 4 refine hR (?_ : R (_, _, _, _, _, _))
            refine hR (t_ldB hb28 (by omega) (by omega) (Nat.le_of_ble_eq_true rfl) fun v9 ev9 lv9 uv9 => ?_)
            clear ev9
            iterate 2 refine hR (?_ : R (_, _, _, _, _, _))
            refine hR (zcall_i 0 0 (Nat.le_of_ble_eq_true rfl) (Nat.le_of_ble_eq_true rfl) (m_apart _ v9 f22 hq25_54 hq26_54 (by omega) (by omega) _ fun v10 k25_11 k26_12 k27_13 hp14 hp15 hp16 hp17 => ?_))
            refine (?_ : R (_, _, (.int (Int32.ofInt v10)) :: [], (zMi c0 c1 c2 c3 c4 c5 c6 c7 c8 c9 c10 c11 c12 c13 f0 f9 f10 f11 f12 f13 f15 f16 f17 f20 f21 f22 f23 f26 f28 f31 f32 f33 f38 f41 f44 x14 g15 g16 g17 g18 g19 g20 g21 g22 g23 g24 k25_11 k26_12 k27_13 g28 g29 g30 g31 g32 g33 g34 g35 g36 g37 g38 g39 g40 g41 g42 g43 g44 t), 0, 0))
            exact hR (zret_i rfl (Nat.le_refl _) trivial (h _ _ _ _ hp14 hp15))
          · refine ⟨68, by rw [hs8e]; rfl, (?_ : R (_, _, _, _, _, _))⟩
            iterate 2 refine hR (?_ : R (_, _, _, _, _, _))
            exact hR (zret_i rfl (Nat.le_refl _) trivial (h _ _ _ _ hq25_54 hq26_54))
      iterate 4 refine hR (?_ : R (_, _, _, _, _, _))
      refine hR (t_ldB hb28 (by omega) (by omega) (Nat.le_of_ble_eq_true rfl) fun v18 ev18 lv18 uv18 => ?_)
      clear ev18
      iterate 4 refine hR (?_ : R (_, _, _, _, _, _))
      refine hR (t_ldB hb28 (by omega) (by omega) (Nat.le_of_ble_eq_true rfl) fun v19 ev19 lv19 uv19 => ?_)
      clear ev19
      refine hR (j_eq (by omega) (by omega) (fun hc20 => ?_) (fun hc20 => ?_))
      · skip
        refine hR (?_ : R (_, _, _, _, _, _))
        refine hR (t_add ?_)
        iterate 5 refine hR (?_ : R (_, _, _, _, _, _))
        refine hR (t_ldB hb28 (by omega) (by omega) (Nat.le_of_ble_eq_true rfl) fun v21 ev21 lv21 uv21 => ?_)
        clear ev21
        iterate 2 refine hR (?_ : R (_, _, _, _, _, _))
        refine hR (zcall_i 0 0 (Nat.le_of_ble_eq_true rfl) (Nat.le_of_ble_eq_true rfl) (m_apart _ v21 f22 hq25_54 hq26_54 (by omega) (by omega) _ fun v22 k25_23 k26_24 k27_25 hp26 hp27 hp28 hp29 => ?_))
        refine (?_ : R (_, _, (.int (Int32.ofInt v22)) :: [], (zMi c0 c1 c2 c3 c4 c5 c6 c7 c8 c9 c10 c11 c12 c13 f0 f9 f10 f11 f12 f13 f15 f16 f17 f20 f21 f22 f23 f26 f28 f31 f32 f33 f38 f41 f44 x14 g15 g16 g17 g18 g19 g20 g21 g22 g23 g24 k25_23 k26_24 k27_25 g28 g29 g30 g31 g32 g33 g34 g35 g36 g37 g38 g39 g40 g41 g42 g43 g44 t), 0, 0))
        iterate 4 refine hR (?_ : R (_, _, _, _, _, _))
        refine hR (t_ldB hb28 (by omega) (by omega) (Nat.le_of_ble_eq_true rfl) fun v30 ev30 lv30 uv30 => ?_)
        clear ev30
        iterate 2 refine hR (?_ : R (_, _, _, _, _, _))
        refine hR (zcall_i 0 0 (Nat.le_of_ble_eq_true rfl) (Nat.le_of_ble_eq_true rfl) (m_apart _ v30 f22 hp26 hp27 (by omega) (by omega) _ fun v31 k25_32 k26_33 k27_34 hp35 hp36 hp37 hp38 => ?_))
        refine (?_ : R (_, _, (.int (Int32.ofInt v31)) :: (.int (Int32.ofInt v22)) :: [], (zMi c0 c1 c2 c3 c4 c5 c6 c7 c8 c9 c10 c11 c12 c13 f0 f9 f10 f11 f12 f13 f15 f16 f17 f20 f21 f22 f23 f26 f28 f31 f32 f33 f38 f41 f44 x14 g15 g16 g17 g18 g19 g20 g21 g22 g23 g24 k25_32 k26_33 k27_34 g28 g29 g30 g31 g32 g33 g34 g35 g36 g37 g38 g39 g40 g41 g42 g43 g44 t), 0, 0))
        refine hR (j_le (by omega) (by omega) (fun hc39 => ?_) (fun hc39 => ?_))
        · skip
          iterate 2 refine hR (?_ : R (_, _, _, _, _, _))
          refine hR (t_inc ?_)
          refine hR (?_ : R (_, _, _, _, _, _))
          exact ih54 _ _ _ _ _ _ (by omega) (by omega) hp35 hp36 (by omega)
        iterate 3 refine hR (?_ : R (_, _, _, _, _, _))
        refine hR (t_inc ?_)
        refine hR (?_ : R (_, _, _, _, _, _))
        exact ih54 _ _ _ _ _ _ (by omega) (by omega) hp35 hp36 (by omega)
      iterate 2 refine hR (?_ : R (_, _, _, _, _, _))
      refine hR (t_add ?_)
      iterate 5 refine hR (?_ : R (_, _, _, _, _, _))
      refine hR (t_ldB hb28 (by omega) (by omega) (Nat.le_of_ble_eq_true rfl) fun v40 ev40 lv40 uv40 => ?_)
      clear ev40
      iterate 2 refine hR (?_ : R (_, _, _, _, _, _))
      refine hR (zcall_i 0 0 (Nat.le_of_ble_eq_true rfl) (Nat.le_of_ble_eq_true rfl) (m_apart _ v40 f22 hq25_54 hq26_54 (by omega) (by omega) _ fun v41 k25_42 k26_43 k27_44 hp45 hp46 hp47 hp48 => ?_))
      refine (?_ : R (_, _, (.int (Int32.ofInt v41)) :: [], (zMi c0 c1 c2 c3 c4 c5 c6 c7 c8 c9 c10 c11 c12 c13 f0 f9 f10 f11 f12 f13 f15 f16 f17 f20 f21 f22 f23 f26 f28 f31 f32 f33 f38 f41 f44 x14 g15 g16 g17 g18 g19 g20 g21 g22 g23 g24 k25_42 k26_43 k27_44 g28 g29 g30 g31 g32 g33 g34 g35 g36 g37 g38 g39 g40 g41 g42 g43 g44 t), 0, 0))
      iterate 4 refine hR (?_ : R (_, _, _, _, _, _))
      refine hR (t_ldB hb28 (by omega) (by omega) (Nat.le_of_ble_eq_true rfl) fun v49 ev49 lv49 uv49 => ?_)
      clear ev49
      iterate 2 refine hR (?_ : R (_, _, _, _, _, _))
      refine hR (zcall_i 0 0 (Nat.le_of_ble_eq_true rfl) (Nat.le_of_ble_eq_true rfl) (m_apart _ v49 f22 hp45 hp46 (by omega) (by omega) _ fun v50 k25_51 k26_52 k27_53 hp54 hp55 hp56 hp57 => ?_))
      refine (?_ : R (_, _, (.int (Int32.ofInt v50)) :: (.int (Int32.ofInt v41)) :: [], (zMi c0 c1 c2 c3 c4 c5 c6 c7 c8 c9 c10 c11 c12 c13 f0 f9 f10 f11 f12 f13 f15 f16 f17 f20 f21 f22 f23 f26 f28 f31 f32 f33 f38 f41 f44 x14 g15 g16 g17 g18 g19 g20 g21 g22 g23 g24 k25_51 k26_52 k27_53 g28 g29 g30 g31 g32 g33 g34 g35 g36 g37 g38 g39 g40 g41 g42 g43 g44 t), 0, 0))
      refine hR (j_le (by omega) (by omega) (fun hc58 => ?_) (fun hc58 => ?_))
      · skip
        iterate 2 refine hR (?_ : R (_, _, _, _, _, _))
        refine hR (t_inc ?_)
        refine hR (?_ : R (_, _, _, _, _, _))
        exact ih54 _ _ _ _ _ _ (by omega) (by omega) hp54 hp55 (by omega)
      iterate 3 refine hR (?_ : R (_, _, _, _, _, _))
      refine hR (t_inc ?_)
      refine hR (?_ : R (_, _, _, _, _, _))
      exact ih54 _ _ _ _ _ _ (by omega) (by omega) hp54 hp55 (by omega)
  exact lp54 400000000 _ _ _ _ _ _ (by omega) (by omega) hb25 hb26 (by omega)
theorem m_state (d : Nat) (a1 a2 a3 a4 : Int) (hb19 : zB 0 2 g19) (hb25 : zB 0 3 g25) (hb26 : zB 0 3 g26) (hb28 : zB 0 5460 g28) (hr4 : bkOK g20) (hr5 : yrOK g21) (hr6 : -2147483648 ≤ a1 ∧ a1 ≤ 2147483647) (hr7 : -2147483648 ≤ a2 ∧ a2 ≤ 2147483647) (hr8 : -2147483648 ≤ a3 ∧ a3 ≤ 2147483647) (hr9 : -2147483648 ≤ a4 ∧ a4 ≤ 2147483647) (Q : zQ) (h : ∀ (v : Int) (y0 : Int) (y20 : Int) (y22 : Int) (y23 : Int) (y26 : Int) (y28 : Int) (y31 : Int) (y32 : Int) (y33 : Int) (k25 : Nat → Int32) (k26 : Nat → Int32) (k27 : Nat → Int32) (k28 : Nat → Int32) (k29 : Nat → Int32), zB 0 3 k25 → zB 0 3 k26 → zB 0 5460 k28 → Q (some (.int (Int32.ofInt v))) (zMi c0 c1 c2 c3 c4 c5 c6 c7 c8 c9 c10 c11 c12 c13 y0 f9 f10 f11 f12 f13 f15 f16 f17 y20 f21 y22 y23 y26 y28 y31 y32 y33 f38 f41 f44 x14 g15 g16 g17 g18 g19 g20 g21 g22 g23 g24 k25 k26 k27 k28 k29 g30 g31 g32 g33 g34 g35 g36 g37 g38 g39 g40 g41 g42 g43 g44 t)) : zCl zTab (d + 8) iX12_state [.ref 14, .int (Int32.ofInt a1), .int (Int32.ofInt a2), .int (Int32.ofInt a3), .int (Int32.ofInt a4)] (zMi c0 c1 c2 c3 c4 c5 c6 c7 c8 c9 c10 c11 c12 c13 f0 f9 f10 f11 f12 f13 f15 f16 f17 f20 f21 f22 f23 f26 f28 f31 f32 f33 f38 f41 f44 x14 g15 g16 g17 g18 g19 g20 g21 g22 g23 g24 g25 g26 g27 g28 g29 g30 g31 g32 g33 g34 g35 g36 g37 g38 g39 g40 g41 g42 g43 g44 t) 0 0 Q := by
  refine zCl_i (M := kX12_state) rfl (Nat.le_of_ble_eq_true rfl) fun R hR => ?_
  iterate 2 refine hR (?_ : R (_, _, _, _, _, _))
  refine hR (?_ : R (_, _, _, (zMi c0 c1 c2 c3 c4 c5 c6 c7 c8 c9 c10 c11 c12 c13 0 f9 f10 f11 f12 f13 f15 f16 f17 f20 f21 f22 f23 f26 f28 f31 f32 f33 f38 f41 f44 x14 g15 g16 g17 g18 g19 g20 g21 g22 g23 g24 g25 g26 g27 g28 g29 g30 g31 g32 g33 g34 g35 g36 g37 g38 g39 g40 g41 g42 g43 g44 t), _, _))
  iterate 3 refine hR (?_ : R (_, _, _, _, _, _))
  refine hR (zcall_i 0 0 (Nat.le_of_ble_eq_true rfl) (Nat.le_of_ble_eq_true rfl) (m_layAll _ a1 a2 hb19 hr4 (by omega) (by omega) _ fun v1 y20_2 y22_3 y23_4 y28_5 hp6 => ?_))
  refine (?_ : R (_, _, (.int (Int32.ofInt v1)) :: [], (zMi c0 c1 c2 c3 c4 c5 c6 c7 c8 c9 c10 c11 c12 c13 0 f9 f10 f11 f12 f13 f15 f16 f17 y20_2 f21 y22_3 y23_4 f26 y28_5 f31 f32 f33 f38 f41 f44 x14 g15 g16 g17 g18 g19 g20 g21 g22 g23 g24 g25 g26 g27 g28 g29 g30 g31 g32 g33 g34 g35 g36 g37 g38 g39 g40 g41 g42 g43 g44 t), 0, 0))
  refine hR (k_eq (by omega) (fun hc7 => ?_) (fun hc7 => ?_))
  · skip
    refine hR (t_c (-2) (by decide) ?_)
    exact hR (zret_i rfl (Nat.le_refl _) trivial (h _ _ _ _ _ _ _ _ _ _ _ _ _ _ _ hb25 hb26 hb28))
  iterate 3 refine hR (?_ : R (_, _, _, _, _, _))
  refine hR (zcall_i 0 0 (Nat.le_of_ble_eq_true rfl) (Nat.le_of_ble_eq_true rfl) (m_deeds _ hr5 (by omega) _ fun v8 hp9 hp10 => ?_))
  refine (?_ : R (_, _, (.int (Int32.ofInt v8)) :: (.int (Int32.ofInt 0)) :: (.int (Int32.ofInt a3)) :: [], (zMi c0 c1 c2 c3 c4 c5 c6 c7 c8 c9 c10 c11 c12 c13 0 f9 f10 f11 f12 f13 f15 f16 f17 y20_2 f21 y22_3 y23_4 f26 y28_5 f31 f32 f33 f38 f41 f44 x14 g15 g16 g17 g18 g19 g20 g21 g22 g23 g24 g25 g26 g27 g28 g29 g30 g31 g32 g33 g34 g35 g36 g37 g38 g39 g40 g41 g42 g43 g44 t), 0, 0))
  refine hR (zcall_i 0 0 (Nat.le_of_ble_eq_true rfl) (Nat.le_of_ble_eq_true rfl) (m_in _ a3 0 v8 _ (by omega) (by omega) (by omega) _ fun v11 hp12 => ?_))
  refine (?_ : R (_, _, (.int (Int32.ofInt v11)) :: [], (zMi c0 c1 c2 c3 c4 c5 c6 c7 c8 c9 c10 c11 c12 c13 0 f9 f10 f11 f12 f13 f15 f16 f17 y20_2 f21 y22_3 y23_4 f26 y28_5 f31 f32 f33 f38 f41 f44 x14 g15 g16 g17 g18 g19 g20 g21 g22 g23 g24 g25 g26 g27 g28 g29 g30 g31 g32 g33 g34 g35 g36 g37 g38 g39 g40 g41 g42 g43 g44 t), 0, 0))
  refine hR (k_eq (by omega) (fun hc13 => ?_) (fun hc13 => ?_))
  · skip
    refine hR (t_c (-2) (by decide) ?_)
    exact hR (zret_i rfl (Nat.le_refl _) trivial (h _ _ _ _ _ _ _ _ _ _ _ _ _ _ _ hb25 hb26 hb28))
  iterate 2 refine hR (?_ : R (_, _, _, _, _, _))
  refine hR (zcall_i 0 0 (Nat.le_of_ble_eq_true rfl) (Nat.le_of_ble_eq_true rfl) (m_play1 _ a3 hb25 hb28 hr4 hr5 (by omega) (by omega) (by omega) (by omega) (by omega) _ fun v14 y26_15 y31_16 y32_17 y33_18 k25_19 k28_20 k29_21 hp22 hp23 hp24 hp25 => ?_))
  refine (?_ : R (_, _, (.int (Int32.ofInt v14)) :: [], (zMi c0 c1 c2 c3 c4 c5 c6 c7 c8 c9 c10 c11 c12 c13 0 f9 f10 f11 f12 f13 f15 f16 f17 y20_2 f21 y22_3 y23_4 y26_15 y28_5 y31_16 y32_17 y33_18 f38 f41 f44 x14 g15 g16 g17 g18 g19 g20 g21 g22 g23 g24 k25_19 g26 g27 k28_20 k29_21 g30 g31 g32 g33 g34 g35 g36 g37 g38 g39 g40 g41 g42 g43 g44 t), 0, 0))
  refine hR (?_ : R (_, _, _, _, _, _))
  refine hR (j_ne (by omega) (by omega) (fun hc26 => ?_) (fun hc26 => ?_))
  · skip
    refine hR (t_c (-2) (by decide) ?_)
    exact hR (zret_i rfl (Nat.le_refl _) trivial (h _ _ _ _ _ _ _ _ _ _ _ _ _ _ _ hp22 hb26 hp23))
  iterate 2 refine hR (?_ : R (_, _, _, _, _, _))
  refine hR (zcall_i 0 0 (Nat.le_of_ble_eq_true rfl) (Nat.le_of_ble_eq_true rfl) (m_ofState _ a4 hp22 hb26 hp23 (by omega) (by omega) (by omega) (by omega) _ fun v27 k25_28 k26_29 k27_30 hp31 hp32 => ?_))
  refine (?_ : R (_, _, (.int (Int32.ofInt v27)) :: [], (zMi c0 c1 c2 c3 c4 c5 c6 c7 c8 c9 c10 c11 c12 c13 0 f9 f10 f11 f12 f13 f15 f16 f17 y20_2 f21 y22_3 y23_4 y26_15 y28_5 y31_16 y32_17 y33_18 f38 f41 f44 x14 g15 g16 g17 g18 g19 g20 g21 g22 g23 g24 k25_28 k26_29 k27_30 k28_20 k29_21 g30 g31 g32 g33 g34 g35 g36 g37 g38 g39 g40 g41 g42 g43 g44 t), 0, 0))
  refine hR (?_ : R (_, _, _, _, _, _))
  exact hR (zret_i rfl (Nat.le_refl _) trivial (h _ _ _ _ _ _ _ _ _ _ _ _ _ _ _ hp31 hp32 hp23))
theorem m_draw (d : Nat) (a1 : Int) (hr0 : 1 ≤ a1 ∧ a1 ≤ 8) (Q : zQ) (h : ∀ (v : Int) (y44 : Int), (0 ≤ v ∧ v < a1) → Q (some (.int (Int32.ofInt v))) (zMi c0 c1 c2 c3 c4 c5 c6 c7 c8 c9 c10 c11 c12 c13 f0 f9 f10 f11 f12 f13 f15 f16 f17 f20 f21 f22 f23 f26 f28 f31 f32 f33 f38 f41 y44 x14 g15 g16 g17 g18 g19 g20 g21 g22 g23 g24 g25 g26 g27 g28 g29 g30 g31 g32 g33 g34 g35 g36 g37 g38 g39 g40 g41 g42 g43 g44 t)) : zCl zTab (d + 1) iX12_draw [.ref 14, .int (Int32.ofInt a1)] (zMi c0 c1 c2 c3 c4 c5 c6 c7 c8 c9 c10 c11 c12 c13 f0 f9 f10 f11 f12 f13 f15 f16 f17 f20 f21 f22 f23 f26 f28 f31 f32 f33 f38 f41 f44 x14 g15 g16 g17 g18 g19 g20 g21 g22 g23 g24 g25 g26 g27 g28 g29 g30 g31 g32 g33 g34 g35 g36 g37 g38 g39 g40 g41 g42 g43 g44 t) 0 0 Q := by
  refine zCl_i (M := kX12_draw) rfl (Nat.le_of_ble_eq_true rfl) fun R hR => ?_
  iterate 3 refine hR (?_ : R (_, _, _, _, _, _))
  refine hR (t_c 1103515245 (by decide) ?_)
  refine hR (t_mul ?_)
  refine hR (t_c 12345 (by decide) ?_)
  refine hR (t_add ?_)
  refine hR (?_ : R (_, _, _, (zMi c0 c1 c2 c3 c4 c5 c6 c7 c8 c9 c10 c11 c12 c13 f0 f9 f10 f11 f12 f13 f15 f16 f17 f20 f21 f22 f23 f26 f28 f31 f32 f33 f38 f41 ((f44 * 1103515245) + 12345) x14 g15 g16 g17 g18 g19 g20 g21 g22 g23 g24 g25 g26 g27 g28 g29 g30 g31 g32 g33 g34 g35 g36 g37 g38 g39 g40 g41 g42 g43 g44 t), _, _))
  iterate 2 refine hR (?_ : R (_, _, _, _, _, _))
  refine hR (t_c 16 (by decide) ?_)
  obtain ⟨v1, lv1, uv1, qv1⟩ := zushr_r (Int32.ofInt ((f44 * 1103515245) + 12345))
  refine hR (t_c v1 qv1 ?_)
  refine hR (?_ : R (_, _, _, _, _, _))
  refine hR (t_remv (by omega) (by omega) (by omega) (by omega) fun v2 ev2 lv2 uv2 => ?_)
  clear ev2
  exact hR (zret_i rfl (Nat.le_refl _) trivial (h _ _ (by omega)))
theorem m_drawDeed (d : Nat) (hb25 : zB 0 3 g25) (hb28 : zB 0 5460 g28) (hr2 : bkOK g20) (hr3 : 0 ≤ f20 ∧ f20 ≤ 1) (hr4 : 0 ≤ f23 ∧ f23 ≤ 5) (Q : zQ) (h : ∀ (y26 : Int) (y31 : Int) (y33 : Int) (y44 : Int) (k25 : Nat → Int32) (k28 : Nat → Int32) (k29 : Nat → Int32), zB 0 3 k25 → zB 0 5460 k28 → Q (none) (zMi c0 c1 c2 c3 c4 c5 c6 c7 c8 c9 c10 c11 c12 c13 f0 f9 f10 f11 f12 f13 f15 f16 f17 f20 f21 f22 f23 y26 f28 y31 f32 y33 f38 f41 y44 x14 g15 g16 g17 g18 g19 g20 g21 g22 g23 g24 k25 g26 g27 k28 k29 g30 g31 g32 g33 g34 g35 g36 g37 g38 g39 g40 g41 g42 g43 g44 t)) : zCl zTab (d + 6) iX12_drawDeed [.ref 14] (zMi c0 c1 c2 c3 c4 c5 c6 c7 c8 c9 c10 c11 c12 c13 f0 f9 f10 f11 f12 f13 f15 f16 f17 f20 f21 f22 f23 f26 f28 f31 f32 f33 f38 f41 f44 x14 g15 g16 g17 g18 g19 g20 g21 g22 g23 g24 g25 g26 g27 g28 g29 g30 g31 g32 g33 g34 g35 g36 g37 g38 g39 g40 g41 g42 g43 g44 t) 0 0 Q := by
  refine zCl_i (M := kX12_drawDeed) rfl (Nat.le_of_ble_eq_true rfl) fun R hR => ?_
  iterate 2 refine hR (?_ : R (_, _, _, _, _, _))
  refine hR (zcall_i 0 0 (Nat.le_of_ble_eq_true rfl) (Nat.le_of_ble_eq_true rfl) (m_draw _ 4 (by omega) _ fun v1 y44_2 hp3 => ?_))
  refine (?_ : R (_, _, (.int (Int32.ofInt v1)) :: [], (zMi c0 c1 c2 c3 c4 c5 c6 c7 c8 c9 c10 c11 c12 c13 f0 f9 f10 f11 f12 f13 f15 f16 f17 f20 f21 f22 f23 f26 f28 f31 f32 f33 f38 f41 y44_2 x14 g15 g16 g17 g18 g19 g20 g21 g22 g23 g24 g25 g26 g27 g28 g29 g30 g31 g32 g33 g34 g35 g36 g37 g38 g39 g40 g41 g42 g43 g44 t), 0, 0))
  iterate 2 refine hR (?_ : R (_, _, _, _, _, _))
  refine hR (t_c 8 (by decide) ?_)
  refine hR (zcall_i 0 0 (Nat.le_of_ble_eq_true rfl) (Nat.le_of_ble_eq_true rfl) (m_draw _ 8 (by omega) _ fun v4 y44_5 hp6 => ?_))
  refine (?_ : R (_, _, (.int (Int32.ofInt v4)) :: [], (zMi c0 c1 c2 c3 c4 c5 c6 c7 c8 c9 c10 c11 c12 c13 f0 f9 f10 f11 f12 f13 f15 f16 f17 f20 f21 f22 f23 f26 f28 f31 f32 f33 f38 f41 y44_5 x14 g15 g16 g17 g18 g19 g20 g21 g22 g23 g24 g25 g26 g27 g28 g29 g30 g31 g32 g33 g34 g35 g36 g37 g38 g39 g40 g41 g42 g43 g44 t), 0, 0))
  iterate 3 refine hR (?_ : R (_, _, _, _, _, _))
  refine hR (j_ge (by omega) (by omega) (fun hc7 => ?_) (fun hc7 => ?_))
  · skip
    iterate 2 refine hR (?_ : R (_, _, _, _, _, _))
    refine hR (j_ne (by omega) (by omega) (fun hc8 => ?_) (fun hc8 => ?_))
    rotate_left
    · skip
      iterate 4 refine hR (?_ : R (_, _, _, _, _, _))
      refine hR (zcall_i 0 0 (Nat.le_of_ble_eq_true rfl) (Nat.le_of_ble_eq_true rfl) (m_draw _ 4 (by omega) _ fun v17 y44_18 hp19 => ?_))
      refine (?_ : R (_, _, (.int (Int32.ofInt v17)) :: (.ref 28) :: [], (zMi c0 c1 c2 c3 c4 c5 c6 c7 c8 c9 c10 c11 c12 c13 f0 f9 f10 f11 f12 f13 f15 f16 f17 f20 f21 f22 f23 f26 f28 f31 f32 f33 f38 f41 y44_18 x14 g15 g16 g17 g18 g19 g20 g21 g22 g23 g24 g25 g26 g27 g28 g29 g30 g31 g32 g33 g34 g35 g36 g37 g38 g39 g40 g41 g42 g43 g44 t), 0, 0))
      iterate 3 refine hR (?_ : R (_, _, _, _, _, _))
      refine hR (t_ldB hb28 (by omega) (by omega) (Nat.le_of_ble_eq_true rfl) fun v20 ev20 lv20 uv20 => ?_)
      clear ev20
      refine hR (t_stB hb28 (by omega) (by omega) (by omega) (by omega) (by omega) (by omega) (Nat.le_of_ble_eq_true rfl) fun k28_21 hk28_21 => (?_ : R (_, _, _, (zMi c0 c1 c2 c3 c4 c5 c6 c7 c8 c9 c10 c11 c12 c13 f0 f9 f10 f11 f12 f13 f15 f16 f17 f20 f21 f22 f23 f26 f28 f31 f32 f33 f38 f41 y44_18 x14 g15 g16 g17 g18 g19 g20 g21 g22 g23 g24 g25 g26 g27 k28_21 g29 g30 g31 g32 g33 g34 g35 g36 g37 g38 g39 g40 g41 g42 g43 g44 t), _, _)))
      refine hR (?_ : R (_, _, _, _, _, _))
      exact hR (zret_i rfl (Nat.le_refl _) rfl (h _ _ _ _ _ _ _ hb25 hk28_21))
    refine hR (?_ : R (_, _, _, _, _, _))
    refine hR (t_c 6 (by decide) ?_)
    refine hR (j_ne (by omega) (by omega) (fun hc9 => ?_) (fun hc9 => ?_))
    rotate_left
    · skip
      iterate 2 refine hR (?_ : R (_, _, _, _, _, _))
      refine hR (zcall_i 0 0 (Nat.le_of_ble_eq_true rfl) (Nat.le_of_ble_eq_true rfl) (m_hushes _ v1 (by omega) _ fun v14 y33_15 hp16 => ?_))
      refine (?_ : R (_, _, (.int (Int32.ofInt v14)) :: [], (zMi c0 c1 c2 c3 c4 c5 c6 c7 c8 c9 c10 c11 c12 c13 f0 f9 f10 f11 f12 f13 f15 f16 f17 f20 f21 f22 f23 f26 f28 f31 f32 y33_15 f38 f41 y44_5 x14 g15 g16 g17 g18 g19 g20 g21 g22 g23 g24 g25 g26 g27 g28 g29 g30 g31 g32 g33 g34 g35 g36 g37 g38 g39 g40 g41 g42 g43 g44 t), 0, 0))
      iterate 2 refine hR (?_ : R (_, _, _, _, _, _))
      exact hR (zret_i rfl (Nat.le_refl _) rfl (h _ _ _ _ _ _ _ hb25 hb28))
    refine hR (?_ : R (_, _, _, _, _, _))
    refine hR (t_c 7 (by decide) ?_)
    refine hR (j_ne (by omega) (by omega) (fun hc10 => ?_) (fun hc10 => ?_))
    · skip
      exact hR (zret_i rfl (Nat.le_refl _) rfl (h _ _ _ _ _ _ _ hb25 hb28))
    refine hR (?_ : R (_, _, _, _, _, _))
    refine hR (zcall_i 0 0 (Nat.le_of_ble_eq_true rfl) (Nat.le_of_ble_eq_true rfl) (m_goesOn _ _ fun v11 y31_12 hp13 => ?_))
    refine (?_ : R (_, _, (.int (Int32.ofInt v11)) :: [], (zMi c0 c1 c2 c3 c4 c5 c6 c7 c8 c9 c10 c11 c12 c13 f0 f9 f10 f11 f12 f13 f15 f16 f17 f20 f21 f22 f23 f26 f28 y31_12 f32 f33 f38 f41 y44_5 x14 g15 g16 g17 g18 g19 g20 g21 g22 g23 g24 g25 g26 g27 g28 g29 g30 g31 g32 g33 g34 g35 g36 g37 g38 g39 g40 g41 g42 g43 g44 t), 0, 0))
    refine hR (?_ : R (_, _, _, _, _, _))
    exact hR (zret_i rfl (Nat.le_refl _) rfl (h _ _ _ _ _ _ _ hb25 hb28))
  iterate 2 refine hR (?_ : R (_, _, _, _, _, _))
  refine hR (k_le (by omega) (fun hc22 => ?_) (fun hc22 => ?_))
  rotate_left
  · skip
    iterate 5 refine hR (?_ : R (_, _, _, _, _, _))
    refine hR (zcall_i 0 0 (Nat.le_of_ble_eq_true rfl) (Nat.le_of_ble_eq_true rfl) (m_draw _ f23 (by omega) _ fun v37 y44_38 hp39 => ?_))
    refine (?_ : R (_, _, (.int (Int32.ofInt v37)) :: (.int (Int32.ofInt v1)) :: (.ref 14) :: [], (zMi c0 c1 c2 c3 c4 c5 c6 c7 c8 c9 c10 c11 c12 c13 f0 f9 f10 f11 f12 f13 f15 f16 f17 f20 f21 f22 f23 f26 f28 f31 f32 f33 f38 f41 y44_38 x14 g15 g16 g17 g18 g19 g20 g21 g22 g23 g24 g25 g26 g27 g28 g29 g30 g31 g32 g33 g34 g35 g36 g37 g38 g39 g40 g41 g42 g43 g44 t), 0, 0))
    refine hR (zcall_i 0 0 (Nat.le_of_ble_eq_true rfl) (Nat.le_of_ble_eq_true rfl) (m_reads _ v1 v37 hb25 hb28 hr2 (by omega) (by omega) (by omega) (by omega) _ fun v40 y26_41 y33_42 k25_43 k28_44 k29_45 hp46 hp47 hp48 => ?_))
    refine (?_ : R (_, _, (.int (Int32.ofInt v40)) :: [], (zMi c0 c1 c2 c3 c4 c5 c6 c7 c8 c9 c10 c11 c12 c13 f0 f9 f10 f11 f12 f13 f15 f16 f17 f20 f21 f22 f23 y26_41 f28 f31 f32 y33_42 f38 f41 y44_38 x14 g15 g16 g17 g18 g19 g20 g21 g22 g23 g24 k25_43 g26 g27 k28_44 k29_45 g30 g31 g32 g33 g34 g35 g36 g37 g38 g39 g40 g41 g42 g43 g44 t), 0, 0))
    iterate 2 refine hR (?_ : R (_, _, _, _, _, _))
    exact hR (zret_i rfl (Nat.le_refl _) rfl (h _ _ _ _ _ _ _ hp46 hp47))
  iterate 2 refine hR (?_ : R (_, _, _, _, _, _))
  refine hR (j_ne (by omega) (by omega) (fun hc23 => ?_) (fun hc23 => ?_))
  rotate_left
  · skip
    iterate 4 refine hR (?_ : R (_, _, _, _, _, _))
    refine hR (zcall_i 0 0 (Nat.le_of_ble_eq_true rfl) (Nat.le_of_ble_eq_true rfl) (m_draw _ 4 (by omega) _ fun v32 y44_33 hp34 => ?_))
    refine (?_ : R (_, _, (.int (Int32.ofInt v32)) :: (.ref 28) :: [], (zMi c0 c1 c2 c3 c4 c5 c6 c7 c8 c9 c10 c11 c12 c13 f0 f9 f10 f11 f12 f13 f15 f16 f17 f20 f21 f22 f23 f26 f28 f31 f32 f33 f38 f41 y44_33 x14 g15 g16 g17 g18 g19 g20 g21 g22 g23 g24 g25 g26 g27 g28 g29 g30 g31 g32 g33 g34 g35 g36 g37 g38 g39 g40 g41 g42 g43 g44 t), 0, 0))
    iterate 3 refine hR (?_ : R (_, _, _, _, _, _))
    refine hR (t_ldB hb28 (by omega) (by omega) (Nat.le_of_ble_eq_true rfl) fun v35 ev35 lv35 uv35 => ?_)
    clear ev35
    refine hR (t_stB hb28 (by omega) (by omega) (by omega) (by omega) (by omega) (by omega) (Nat.le_of_ble_eq_true rfl) fun k28_36 hk28_36 => (?_ : R (_, _, _, (zMi c0 c1 c2 c3 c4 c5 c6 c7 c8 c9 c10 c11 c12 c13 f0 f9 f10 f11 f12 f13 f15 f16 f17 f20 f21 f22 f23 f26 f28 f31 f32 f33 f38 f41 y44_33 x14 g15 g16 g17 g18 g19 g20 g21 g22 g23 g24 g25 g26 g27 k28_36 g29 g30 g31 g32 g33 g34 g35 g36 g37 g38 g39 g40 g41 g42 g43 g44 t), _, _)))
    refine hR (?_ : R (_, _, _, _, _, _))
    exact hR (zret_i rfl (Nat.le_refl _) rfl (h _ _ _ _ _ _ _ hb25 hk28_36))
  refine hR (?_ : R (_, _, _, _, _, _))
  refine hR (t_c 6 (by decide) ?_)
  refine hR (j_ne (by omega) (by omega) (fun hc24 => ?_) (fun hc24 => ?_))
  rotate_left
  · skip
    iterate 2 refine hR (?_ : R (_, _, _, _, _, _))
    refine hR (zcall_i 0 0 (Nat.le_of_ble_eq_true rfl) (Nat.le_of_ble_eq_true rfl) (m_hushes _ v1 (by omega) _ fun v29 y33_30 hp31 => ?_))
    refine (?_ : R (_, _, (.int (Int32.ofInt v29)) :: [], (zMi c0 c1 c2 c3 c4 c5 c6 c7 c8 c9 c10 c11 c12 c13 f0 f9 f10 f11 f12 f13 f15 f16 f17 f20 f21 f22 f23 f26 f28 f31 f32 y33_30 f38 f41 y44_5 x14 g15 g16 g17 g18 g19 g20 g21 g22 g23 g24 g25 g26 g27 g28 g29 g30 g31 g32 g33 g34 g35 g36 g37 g38 g39 g40 g41 g42 g43 g44 t), 0, 0))
    iterate 2 refine hR (?_ : R (_, _, _, _, _, _))
    exact hR (zret_i rfl (Nat.le_refl _) rfl (h _ _ _ _ _ _ _ hb25 hb28))
  refine hR (?_ : R (_, _, _, _, _, _))
  refine hR (t_c 7 (by decide) ?_)
  refine hR (j_ne (by omega) (by omega) (fun hc25 => ?_) (fun hc25 => ?_))
  · skip
    exact hR (zret_i rfl (Nat.le_refl _) rfl (h _ _ _ _ _ _ _ hb25 hb28))
  refine hR (?_ : R (_, _, _, _, _, _))
  refine hR (zcall_i 0 0 (Nat.le_of_ble_eq_true rfl) (Nat.le_of_ble_eq_true rfl) (m_goesOn _ _ fun v26 y31_27 hp28 => ?_))
  refine (?_ : R (_, _, (.int (Int32.ofInt v26)) :: [], (zMi c0 c1 c2 c3 c4 c5 c6 c7 c8 c9 c10 c11 c12 c13 f0 f9 f10 f11 f12 f13 f15 f16 f17 f20 f21 f22 f23 f26 f28 y31_27 f32 f33 f38 f41 y44_5 x14 g15 g16 g17 g18 g19 g20 g21 g22 g23 g24 g25 g26 g27 g28 g29 g30 g31 g32 g33 g34 g35 g36 g37 g38 g39 g40 g41 g42 g43 g44 t), 0, 0))
  refine hR (?_ : R (_, _, _, _, _, _))
  exact hR (zret_i rfl (Nat.le_refl _) rfl (h _ _ _ _ _ _ _ hb25 hb28))
theorem m_drawn (d : Nat) (a1 a2 a3 a4 : Int) (hb19 : zB 0 2 g19) (hb25 : zB 0 3 g25) (hb26 : zB 0 3 g26) (hb28 : zB 0 5460 g28) (hr4 : bkOK g20) (hr5 : -2147483648 ≤ a1 ∧ a1 ≤ 2147483647) (hr6 : -2147483648 ≤ a2 ∧ a2 ≤ 2147483647) (hr7 : -2147483648 ≤ a3 ∧ a3 ≤ 2147483647) (hr8 : -2147483648 ≤ a4 ∧ a4 ≤ 2147483647) (Q : zQ) (h : ∀ (v : Int) (y0 : Int) (y20 : Int) (y22 : Int) (y23 : Int) (y26 : Int) (y31 : Int) (y32 : Int) (y33 : Int) (y44 : Int) (k25 : Nat → Int32) (k26 : Nat → Int32) (k27 : Nat → Int32) (k28 : Nat → Int32) (k29 : Nat → Int32), zB 0 3 k25 → zB 0 3 k26 → zB 0 5460 k28 → Q (some (.int (Int32.ofInt v))) (zMi c0 c1 c2 c3 c4 c5 c6 c7 c8 c9 c10 c11 c12 c13 y0 f9 f10 f11 f12 f13 f15 f16 f17 y20 f21 y22 y23 y26 f28 y31 y32 y33 f38 f41 y44 x14 g15 g16 g17 g18 g19 g20 g21 g22 g23 g24 k25 k26 k27 k28 k29 g30 g31 g32 g33 g34 g35 g36 g37 g38 g39 g40 g41 g42 g43 g44 t)) : zCl zTab (d + 7) iX12_drawn [.ref 14, .int (Int32.ofInt a1), .int (Int32.ofInt a2), .int (Int32.ofInt a3), .int (Int32.ofInt a4)] (zMi c0 c1 c2 c3 c4 c5 c6 c7 c8 c9 c10 c11 c12 c13 f0 f9 f10 f11 f12 f13 f15 f16 f17 f20 f21 f22 f23 f26 f28 f31 f32 f33 f38 f41 f44 x14 g15 g16 g17 g18 g19 g20 g21 g22 g23 g24 g25 g26 g27 g28 g29 g30 g31 g32 g33 g34 g35 g36 g37 g38 g39 g40 g41 g42 g43 g44 t) 0 0 Q := by
  refine zCl_i (M := kX12_drawn) rfl (Nat.le_of_ble_eq_true rfl) fun R hR => ?_
  iterate 2 refine hR (?_ : R (_, _, _, _, _, _))
  refine hR (?_ : R (_, _, _, (zMi c0 c1 c2 c3 c4 c5 c6 c7 c8 c9 c10 c11 c12 c13 0 f9 f10 f11 f12 f13 f15 f16 f17 f20 f21 f22 f23 f26 f28 f31 f32 f33 f38 f41 f44 x14 g15 g16 g17 g18 g19 g20 g21 g22 g23 g24 g25 g26 g27 g28 g29 g30 g31 g32 g33 g34 g35 g36 g37 g38 g39 g40 g41 g42 g43 g44 t), _, _))
  iterate 2 refine hR (?_ : R (_, _, _, _, _, _))
  refine hR (t_c 60 (by decide) ?_)
  refine hR (zcall_i 0 0 (Nat.le_of_ble_eq_true rfl) (Nat.le_of_ble_eq_true rfl) (m_in _ a3 0 60 _ (by omega) (by omega) (by omega) _ fun v1 hp2 => ?_))
  refine (?_ : R (_, _, (.int (Int32.ofInt v1)) :: [], (zMi c0 c1 c2 c3 c4 c5 c6 c7 c8 c9 c10 c11 c12 c13 0 f9 f10 f11 f12 f13 f15 f16 f17 f20 f21 f22 f23 f26 f28 f31 f32 f33 f38 f41 f44 x14 g15 g16 g17 g18 g19 g20 g21 g22 g23 g24 g25 g26 g27 g28 g29 g30 g31 g32 g33 g34 g35 g36 g37 g38 g39 g40 g41 g42 g43 g44 t), 0, 0))
  refine hR (k_eq (by omega) (fun hc3 => ?_) (fun hc3 => ?_))
  · skip
    refine hR (t_c (-2) (by decide) ?_)
    exact hR (zret_i rfl (Nat.le_refl _) trivial (h _ _ _ _ _ _ _ _ _ _ _ _ _ _ _ hb25 hb26 hb28))
  iterate 2 refine hR (?_ : R (_, _, _, _, _, _))
  refine hR (zcall_i 0 0 (Nat.le_of_ble_eq_true rfl) (Nat.le_of_ble_eq_true rfl) (m_hand _ a1 hb19 hr4 (by omega) _ fun v4 y20_5 y22_6 y23_7 hp8 => ?_))
  refine (?_ : R (_, _, (.int (Int32.ofInt v4)) :: [], (zMi c0 c1 c2 c3 c4 c5 c6 c7 c8 c9 c10 c11 c12 c13 0 f9 f10 f11 f12 f13 f15 f16 f17 y20_5 f21 y22_6 y23_7 f26 f28 f31 f32 f33 f38 f41 f44 x14 g15 g16 g17 g18 g19 g20 g21 g22 g23 g24 g25 g26 g27 g28 g29 g30 g31 g32 g33 g34 g35 g36 g37 g38 g39 g40 g41 g42 g43 g44 t), 0, 0))
  refine hR (k_ne (by omega) (fun hc9 => ?_) (fun hc9 => ?_))
  rotate_left
  · skip
    refine hR (t_c (-2) (by decide) ?_)
    exact hR (zret_i rfl (Nat.le_refl _) trivial (h _ _ _ _ _ _ _ _ _ _ _ _ _ _ _ hb25 hb26 hb28))
  iterate 2 refine hR (?_ : R (_, _, _, _, _, _))
  refine hR (?_ : R (_, _, _, (zMi c0 c1 c2 c3 c4 c5 c6 c7 c8 c9 c10 c11 c12 c13 0 f9 f10 f11 f12 f13 f15 f16 f17 y20_5 f21 y22_6 y23_7 f26 f28 f31 f32 f33 f38 f41 a2 x14 g15 g16 g17 g18 g19 g20 g21 g22 g23 g24 g25 g26 g27 g28 g29 g30 g31 g32 g33 g34 g35 g36 g37 g38 g39 g40 g41 g42 g43 g44 t), _, _))
  refine hR (?_ : R (_, _, _, _, _, _))
  refine hR (zcall_i 0 0 (Nat.le_of_ble_eq_true rfl) (Nat.le_of_ble_eq_true rfl) (m_begin _ hb28 (by omega) _ fun y31_10 y32_11 y33_12 k28_13 k29_14 hp15 hp16 => ?_))
  refine (?_ : R (_, _, [], (zMi c0 c1 c2 c3 c4 c5 c6 c7 c8 c9 c10 c11 c12 c13 0 f9 f10 f11 f12 f13 f15 f16 f17 y20_5 f21 y22_6 y23_7 f26 f28 y31_10 y32_11 y33_12 f38 f41 a2 x14 g15 g16 g17 g18 g19 g20 g21 g22 g23 g24 g25 g26 g27 k28_13 k29_14 g30 g31 g32 g33 g34 g35 g36 g37 g38 g39 g40 g41 g42 g43 g44 t), 0, 0))
  iterate 2 refine hR (?_ : R (_, _, _, _, _, _))
  have lp38 : ∀ (N : Nat) (i : Int) (e26_38 : Int) (e31_38 : Int) (e33_38 : Int) (e44_38 : Int) (q25_38 : Nat → Int32) (q28_38 : Nat → Int32) (q29_38 : Nat → Int32), (0 ≤ i ∧ i ≤ a3) → (zB 0 3 q25_38) → (zB 0 5460 q28_38) → (a3 - i < N) → R (38, [some (.ref 14), some (.int (Int32.ofInt a1)), some (.int (Int32.ofInt a2)), some (.int (Int32.ofInt a3)), some (.int (Int32.ofInt a4)), some (.int (Int32.ofInt i))], [], (zMi c0 c1 c2 c3 c4 c5 c6 c7 c8 c9 c10 c11 c12 c13 0 f9 f10 f11 f12 f13 f15 f16 f17 y20_5 f21 y22_6 y23_7 e26_38 f28 e31_38 y32_11 e33_38 f38 f41 e44_38 x14 g15 g16 g17 g18 g19 g20 g21 g22 g23 g24 q25_38 g26 g27 q28_38 q29_38 g30 g31 g32 g33 g34 g35 g36 g37 g38 g39 g40 g41 g42 g43 g44 t), 0, 0) := by
    intro N
    induction N with
    | zero => intros; omega
    | succ N ih38 =>
      intro i e26_38 e31_38 e33_38 e44_38 q25_38 q28_38 q29_38 hf0_38 hq25_38 hq28_38 hN38
      iterate 2 refine hR (?_ : R (_, _, _, _, _, _))
      refine hR (j_ge (by omega) (by omega) (fun hc17 => ?_) (fun hc17 => ?_))
      · skip
        iterate 2 refine hR (?_ : R (_, _, _, _, _, _))
        refine hR (zcall_i 0 0 (Nat.le_of_ble_eq_true rfl) (Nat.le_of_ble_eq_true rfl) (m_ofState _ a4 hq25_38 hb26 hq28_38 (by omega) (by omega) (by omega) (by omega) _ fun v18 k25_19 k26_20 k27_21 hp22 hp23 => ?_))
        refine (?_ : R (_, _, (.int (Int32.ofInt v18)) :: [], (zMi c0 c1 c2 c3 c4 c5 c6 c7 c8 c9 c10 c11 c12 c13 0 f9 f10 f11 f12 f13 f15 f16 f17 y20_5 f21 y22_6 y23_7 e26_38 f28 e31_38 y32_11 e33_38 f38 f41 e44_38 x14 g15 g16 g17 g18 g19 g20 g21 g22 g23 g24 k25_19 k26_20 k27_21 q28_38 q29_38 g30 g31 g32 g33 g34 g35 g36 g37 g38 g39 g40 g41 g42 g43 g44 t), 0, 0))
        exact hR (zret_i rfl (Nat.le_refl _) trivial (h _ _ _ _ _ _ _ _ _ _ _ _ _ _ _ hp22 hp23 hq28_38))
      refine hR (?_ : R (_, _, _, _, _, _))
      refine hR (zcall_i 0 0 (Nat.le_of_ble_eq_true rfl) (Nat.le_of_ble_eq_true rfl) (m_drawDeed _ hq25_38 hq28_38 hr4 (by omega) (by omega) _ fun y26_24 y31_25 y33_26 y44_27 k25_28 k28_29 k29_30 hp31 hp32 => ?_))
      refine (?_ : R (_, _, [], (zMi c0 c1 c2 c3 c4 c5 c6 c7 c8 c9 c10 c11 c12 c13 0 f9 f10 f11 f12 f13 f15 f16 f17 y20_5 f21 y22_6 y23_7 y26_24 f28 y31_25 y32_11 y33_26 f38 f41 y44_27 x14 g15 g16 g17 g18 g19 g20 g21 g22 g23 g24 k25_28 g26 g27 k28_29 k29_30 g30 g31 g32 g33 g34 g35 g36 g37 g38 g39 g40 g41 g42 g43 g44 t), 0, 0))
      refine hR (t_inc ?_)
      refine hR (?_ : R (_, _, _, _, _, _))
      exact ih38 _ _ _ _ _ _ _ _ (by omega) hp31 hp32 (by omega)
  exact lp38 400000000 _ _ _ _ _ _ _ _ (by omega) hb25 hp15 (by omega)
theorem m_book (d : Nat) (a1 a2 : Int) (hb19 : zB 0 2 g19) (hr1 : bkOK g20) (hr2 : -2147483648 ≤ a1 ∧ a1 ≤ 2147483647) (hr3 : -2147483648 ≤ a2 ∧ a2 ≤ 2147483647) (Q : zQ) (h : ∀ (v : Int) (y0 : Int) (y20 : Int) (y22 : Int) (y23 : Int), Q (some (.int (Int32.ofInt v))) (zMi c0 c1 c2 c3 c4 c5 c6 c7 c8 c9 c10 c11 c12 c13 y0 f9 f10 f11 f12 f13 f15 f16 f17 y20 f21 y22 y23 f26 f28 f31 f32 f33 f38 f41 f44 x14 g15 g16 g17 g18 g19 g20 g21 g22 g23 g24 g25 g26 g27 g28 g29 g30 g31 g32 g33 g34 g35 g36 g37 g38 g39 g40 g41 g42 g43 g44 t)) : zCl zTab (d + 4) iX12_book [.ref 14, .int (Int32.ofInt a1), .int (Int32.ofInt a2)] (zMi c0 c1 c2 c3 c4 c5 c6 c7 c8 c9 c10 c11 c12 c13 f0 f9 f10 f11 f12 f13 f15 f16 f17 f20 f21 f22 f23 f26 f28 f31 f32 f33 f38 f41 f44 x14 g15 g16 g17 g18 g19 g20 g21 g22 g23 g24 g25 g26 g27 g28 g29 g30 g31 g32 g33 g34 g35 g36 g37 g38 g39 g40 g41 g42 g43 g44 t) 0 0 Q := by
  refine zCl_i (M := kX12_book) rfl (Nat.le_of_ble_eq_true rfl) fun R hR => ?_
  iterate 2 refine hR (?_ : R (_, _, _, _, _, _))
  refine hR (?_ : R (_, _, _, (zMi c0 c1 c2 c3 c4 c5 c6 c7 c8 c9 c10 c11 c12 c13 0 f9 f10 f11 f12 f13 f15 f16 f17 f20 f21 f22 f23 f26 f28 f31 f32 f33 f38 f41 f44 x14 g15 g16 g17 g18 g19 g20 g21 g22 g23 g24 g25 g26 g27 g28 g29 g30 g31 g32 g33 g34 g35 g36 g37 g38 g39 g40 g41 g42 g43 g44 t), _, _))
  iterate 2 refine hR (?_ : R (_, _, _, _, _, _))
  refine hR (zcall_i 0 0 (Nat.le_of_ble_eq_true rfl) (Nat.le_of_ble_eq_true rfl) (m_hand _ a1 hb19 hr1 (by omega) _ fun v1 y20_2 y22_3 y23_4 hp5 => ?_))
  refine (?_ : R (_, _, (.int (Int32.ofInt v1)) :: [], (zMi c0 c1 c2 c3 c4 c5 c6 c7 c8 c9 c10 c11 c12 c13 0 f9 f10 f11 f12 f13 f15 f16 f17 y20_2 f21 y22_3 y23_4 f26 f28 f31 f32 f33 f38 f41 f44 x14 g15 g16 g17 g18 g19 g20 g21 g22 g23 g24 g25 g26 g27 g28 g29 g30 g31 g32 g33 g34 g35 g36 g37 g38 g39 g40 g41 g42 g43 g44 t), 0, 0))
  refine hR (k_ne (by omega) (fun hc6 => ?_) (fun hc6 => ?_))
  rotate_left
  · skip
    refine hR (?_ : R (_, _, _, _, _, _))
    exact hR (zret_i rfl (Nat.le_refl _) trivial (h _ _ _ _ _))
  refine hR (?_ : R (_, _, _, _, _, _))
  refine hR (t_c 10 (by decide) ?_)
  refine hR (t_c 13 (by decide) ?_)
  refine hR (zcall_i 0 0 (Nat.le_of_ble_eq_true rfl) (Nat.le_of_ble_eq_true rfl) (m_in _ a2 10 13 _ (by omega) (by omega) (by omega) _ fun v7 hp8 => ?_))
  refine (?_ : R (_, _, (.int (Int32.ofInt v7)) :: [], (zMi c0 c1 c2 c3 c4 c5 c6 c7 c8 c9 c10 c11 c12 c13 0 f9 f10 f11 f12 f13 f15 f16 f17 y20_2 f21 y22_3 y23_4 f26 f28 f31 f32 f33 f38 f41 f44 x14 g15 g16 g17 g18 g19 g20 g21 g22 g23 g24 g25 g26 g27 g28 g29 g30 g31 g32 g33 g34 g35 g36 g37 g38 g39 g40 g41 g42 g43 g44 t), 0, 0))
  refine hR (k_eq (by omega) (fun hc9 => ?_) (fun hc9 => ?_))
  rotate_left
  · skip
    iterate 3 refine hR (?_ : R (_, _, _, _, _, _))
    refine hR (t_add ?_)
    refine hR (t_c 10 (by decide) ?_)
    refine hR (t_sub ?_)
    refine hR (zcall_i 0 0 (Nat.le_of_ble_eq_true rfl) (Nat.le_of_ble_eq_true rfl) (m_ofK _ ((2 + a2) - 10) hr1 (by omega) (by omega) _ fun v28 hp29 hp30 => ?_))
    refine (?_ : R (_, _, (.int (Int32.ofInt v28)) :: [], (zMi c0 c1 c2 c3 c4 c5 c6 c7 c8 c9 c10 c11 c12 c13 0 f9 f10 f11 f12 f13 f15 f16 f17 y20_2 f21 y22_3 y23_4 f26 f28 f31 f32 f33 f38 f41 f44 x14 g15 g16 g17 g18 g19 g20 g21 g22 g23 g24 g25 g26 g27 g28 g29 g30 g31 g32 g33 g34 g35 g36 g37 g38 g39 g40 g41 g42 g43 g44 t), 0, 0))
    exact hR (zret_i rfl (Nat.le_refl _) trivial (h _ _ _ _ _))
  refine hR (?_ : R (_, _, _, _, _, _))
  refine hR (t_c 20 (by decide) ?_)
  refine hR (t_c 19 (by decide) ?_)
  iterate 2 refine hR (?_ : R (_, _, _, _, _, _))
  refine hR (t_add ?_)
  refine hR (zcall_i 0 0 (Nat.le_of_ble_eq_true rfl) (Nat.le_of_ble_eq_true rfl) (m_in _ a2 20 (19 + y23_4) _ (by omega) (by omega) (by omega) _ fun v10 hp11 => ?_))
  refine (?_ : R (_, _, (.int (Int32.ofInt v10)) :: [], (zMi c0 c1 c2 c3 c4 c5 c6 c7 c8 c9 c10 c11 c12 c13 0 f9 f10 f11 f12 f13 f15 f16 f17 y20_2 f21 y22_3 y23_4 f26 f28 f31 f32 f33 f38 f41 f44 x14 g15 g16 g17 g18 g19 g20 g21 g22 g23 g24 g25 g26 g27 g28 g29 g30 g31 g32 g33 g34 g35 g36 g37 g38 g39 g40 g41 g42 g43 g44 t), 0, 0))
  refine hR (k_eq (by omega) (fun hc12 => ?_) (fun hc12 => ?_))
  rotate_left
  · skip
    refine hR (?_ : R (_, _, _, _, _, _))
    refine hR (t_c 6 (by decide) ?_)
    refine hR (?_ : R (_, _, _, _, _, _))
    refine hR (t_add ?_)
    refine hR (t_c 20 (by decide) ?_)
    refine hR (t_sub ?_)
    refine hR (zcall_i 0 0 (Nat.le_of_ble_eq_true rfl) (Nat.le_of_ble_eq_true rfl) (m_ofM _ ((6 + a2) - 20) hr1 (by omega) (by omega) _ fun v25 hp26 hp27 => ?_))
    refine (?_ : R (_, _, (.int (Int32.ofInt v25)) :: [], (zMi c0 c1 c2 c3 c4 c5 c6 c7 c8 c9 c10 c11 c12 c13 0 f9 f10 f11 f12 f13 f15 f16 f17 y20_2 f21 y22_3 y23_4 f26 f28 f31 f32 f33 f38 f41 f44 x14 g15 g16 g17 g18 g19 g20 g21 g22 g23 g24 g25 g26 g27 g28 g29 g30 g31 g32 g33 g34 g35 g36 g37 g38 g39 g40 g41 g42 g43 g44 t), 0, 0))
    exact hR (zret_i rfl (Nat.le_refl _) trivial (h _ _ _ _ _))
  refine hR (?_ : R (_, _, _, _, _, _))
  refine hR (t_c 30 (by decide) ?_)
  refine hR (t_c 29 (by decide) ?_)
  refine hR (t_c 10 (by decide) ?_)
  iterate 2 refine hR (?_ : R (_, _, _, _, _, _))
  refine hR (t_mul ?_)
  refine hR (t_add ?_)
  refine hR (zcall_i 0 0 (Nat.le_of_ble_eq_true rfl) (Nat.le_of_ble_eq_true rfl) (m_in _ a2 30 (29 + (10 * y23_4)) _ (by omega) (by omega) (by omega) _ fun v13 hp14 => ?_))
  refine (?_ : R (_, _, (.int (Int32.ofInt v13)) :: [], (zMi c0 c1 c2 c3 c4 c5 c6 c7 c8 c9 c10 c11 c12 c13 0 f9 f10 f11 f12 f13 f15 f16 f17 y20_2 f21 y22_3 y23_4 f26 f28 f31 f32 f33 f38 f41 f44 x14 g15 g16 g17 g18 g19 g20 g21 g22 g23 g24 g25 g26 g27 g28 g29 g30 g31 g32 g33 g34 g35 g36 g37 g38 g39 g40 g41 g42 g43 g44 t), 0, 0))
  refine hR (k_eq (by omega) (fun hc15 => ?_) (fun hc15 => ?_))
  · skip
    refine hR (?_ : R (_, _, _, _, _, _))
    refine hR (k_ne (by omega) (fun hc16 => ?_) (fun hc16 => ?_))
    rotate_left
    · skip
      iterate 3 refine hR (?_ : R (_, _, _, _, _, _))
      exact hR (zret_i rfl (Nat.le_refl _) trivial (h _ _ _ _ _))
    iterate 2 refine hR (?_ : R (_, _, _, _, _, _))
    refine hR (j_ne (by omega) (by omega) (fun hc17 => ?_) (fun hc17 => ?_))
    · skip
      refine hR (?_ : R (_, _, _, _, _, _))
      exact hR (zret_i rfl (Nat.le_refl _) trivial (h _ _ _ _ _))
    iterate 3 refine hR (?_ : R (_, _, _, _, _, _))
    exact hR (zret_i rfl (Nat.le_refl _) trivial (h _ _ _ _ _))
  refine hR (?_ : R (_, _, _, _, _, _))
  refine hR (t_c 30 (by decide) ?_)
  refine hR (t_sub ?_)
  refine hR (t_c 10 (by decide) ?_)
  refine hR (t_div (by omega) (by omega) (by omega) (by omega) ?_)
  iterate 2 refine hR (?_ : R (_, _, _, _, _, _))
  refine hR (t_c 10 (by decide) ?_)
  refine hR (t_rem (by omega) (by omega) (by omega) (by omega) ?_)
  iterate 4 refine hR (?_ : R (_, _, _, _, _, _))
  refine hR (t_c 6 (by decide) ?_)
  refine hR (?_ : R (_, _, _, _, _, _))
  refine hR (t_add ?_)
  refine hR (zcall_i 0 0 (Nat.le_of_ble_eq_true rfl) (Nat.le_of_ble_eq_true rfl) (m_ofM _ (6 + ((a2 - 30) / 10)) hr1 (by omega) (by omega) _ fun v18 hp19 hp20 => ?_))
  refine (?_ : R (_, _, (.int (Int32.ofInt v18)) :: (.int (Int32.ofInt 2)) :: (.int (Int32.ofInt (a2 % 10))) :: [], (zMi c0 c1 c2 c3 c4 c5 c6 c7 c8 c9 c10 c11 c12 c13 0 f9 f10 f11 f12 f13 f15 f16 f17 y20_2 f21 y22_3 y23_4 f26 f28 f31 f32 f33 f38 f41 f44 x14 g15 g16 g17 g18 g19 g20 g21 g22 g23 g24 g25 g26 g27 g28 g29 g30 g31 g32 g33 g34 g35 g36 g37 g38 g39 g40 g41 g42 g43 g44 t), 0, 0))
  refine hR (t_mul ?_)
  refine hR (j_ge (by omega) (by omega) (fun hc21 => ?_) (fun hc21 => ?_))
  · skip
    refine hR (?_ : R (_, _, _, _, _, _))
    exact hR (zret_i rfl (Nat.le_refl _) trivial (h _ _ _ _ _))
  refine hR (?_ : R (_, _, _, _, _, _))
  refine hR (t_c 11 (by decide) ?_)
  refine hR (t_c 8 (by decide) ?_)
  refine hR (?_ : R (_, _, _, _, _, _))
  refine hR (t_mul ?_)
  refine hR (t_add ?_)
  refine hR (?_ : R (_, _, _, _, _, _))
  refine hR (t_add ?_)
  refine hR (zcall_i 0 0 (Nat.le_of_ble_eq_true rfl) (Nat.le_of_ble_eq_true rfl) (m_ofS _ ((11 + (8 * ((a2 - 30) / 10))) + (a2 % 10)) hr1 (by omega) (by omega) _ fun v22 hp23 hp24 => ?_))
  refine (?_ : R (_, _, (.int (Int32.ofInt v22)) :: [], (zMi c0 c1 c2 c3 c4 c5 c6 c7 c8 c9 c10 c11 c12 c13 0 f9 f10 f11 f12 f13 f15 f16 f17 y20_2 f21 y22_3 y23_4 f26 f28 f31 f32 f33 f38 f41 f44 x14 g15 g16 g17 g18 g19 g20 g21 g22 g23 g24 g25 g26 g27 g28 g29 g30 g31 g32 g33 g34 g35 g36 g37 g38 g39 g40 g41 g42 g43 g44 t), 0, 0))
  refine hR (?_ : R (_, _, _, _, _, _))
  exact hR (zret_i rfl (Nat.le_refl _) trivial (h _ _ _ _ _))
theorem m_read (d : Nat) (a1 a2 a3 : Int) (hb19 : zB 0 2 g19) (hb25 : zB 0 3 g25) (hr2 : bkOK g20) (hr3 : -2147483648 ≤ a1 ∧ a1 ≤ 2147483647) (hr4 : -2147483648 ≤ a2 ∧ a2 ≤ 2147483647) (hr5 : -2147483648 ≤ a3 ∧ a3 ≤ 2147483647) (Q : zQ) (h : ∀ (v : Int) (y0 : Int) (y20 : Int) (y22 : Int) (y23 : Int) (y26 : Int) (k25 : Nat → Int32), zB 0 3 k25 → Q (some (.int (Int32.ofInt v))) (zMi c0 c1 c2 c3 c4 c5 c6 c7 c8 c9 c10 c11 c12 c13 y0 f9 f10 f11 f12 f13 f15 f16 f17 y20 f21 y22 y23 y26 f28 f31 f32 f33 f38 f41 f44 x14 g15 g16 g17 g18 g19 g20 g21 g22 g23 g24 k25 g26 g27 g28 g29 g30 g31 g32 g33 g34 g35 g36 g37 g38 g39 g40 g41 g42 g43 g44 t)) : zCl zTab (d + 5) iX12_read [.ref 14, .int (Int32.ofInt a1), .int (Int32.ofInt a2), .int (Int32.ofInt a3)] (zMi c0 c1 c2 c3 c4 c5 c6 c7 c8 c9 c10 c11 c12 c13 f0 f9 f10 f11 f12 f13 f15 f16 f17 f20 f21 f22 f23 f26 f28 f31 f32 f33 f38 f41 f44 x14 g15 g16 g17 g18 g19 g20 g21 g22 g23 g24 g25 g26 g27 g28 g29 g30 g31 g32 g33 g34 g35 g36 g37 g38 g39 g40 g41 g42 g43 g44 t) 0 0 Q := by
  refine zCl_i (M := kX12_read) rfl (Nat.le_of_ble_eq_true rfl) fun R hR => ?_
  iterate 2 refine hR (?_ : R (_, _, _, _, _, _))
  refine hR (?_ : R (_, _, _, (zMi c0 c1 c2 c3 c4 c5 c6 c7 c8 c9 c10 c11 c12 c13 0 f9 f10 f11 f12 f13 f15 f16 f17 f20 f21 f22 f23 f26 f28 f31 f32 f33 f38 f41 f44 x14 g15 g16 g17 g18 g19 g20 g21 g22 g23 g24 g25 g26 g27 g28 g29 g30 g31 g32 g33 g34 g35 g36 g37 g38 g39 g40 g41 g42 g43 g44 t), _, _))
  iterate 2 refine hR (?_ : R (_, _, _, _, _, _))
  refine hR (zcall_i 0 0 (Nat.le_of_ble_eq_true rfl) (Nat.le_of_ble_eq_true rfl) (m_hand _ a1 hb19 hr2 (by omega) _ fun v1 y20_2 y22_3 y23_4 hp5 => ?_))
  refine (?_ : R (_, _, (.int (Int32.ofInt v1)) :: [], (zMi c0 c1 c2 c3 c4 c5 c6 c7 c8 c9 c10 c11 c12 c13 0 f9 f10 f11 f12 f13 f15 f16 f17 y20_2 f21 y22_3 y23_4 f26 f28 f31 f32 f33 f38 f41 f44 x14 g15 g16 g17 g18 g19 g20 g21 g22 g23 g24 g25 g26 g27 g28 g29 g30 g31 g32 g33 g34 g35 g36 g37 g38 g39 g40 g41 g42 g43 g44 t), 0, 0))
  refine hR (k_eq (by omega) (fun hc6 => ?_) (fun hc6 => ?_))
  · skip
    refine hR (?_ : R (_, _, _, _, _, _))
    exact hR (zret_i rfl (Nat.le_refl _) trivial (h _ _ _ _ _ _ _ hb25))
  refine hR (?_ : R (_, _, _, _, _, _))
  refine hR (zcall_i 0 0 (Nat.le_of_ble_eq_true rfl) (Nat.le_of_ble_eq_true rfl) (m_isText _ a2 _ (by omega) _ fun v7 hp8 => ?_))
  refine (?_ : R (_, _, (.int (Int32.ofInt v7)) :: [], (zMi c0 c1 c2 c3 c4 c5 c6 c7 c8 c9 c10 c11 c12 c13 0 f9 f10 f11 f12 f13 f15 f16 f17 y20_2 f21 y22_3 y23_4 f26 f28 f31 f32 f33 f38 f41 f44 x14 g15 g16 g17 g18 g19 g20 g21 g22 g23 g24 g25 g26 g27 g28 g29 g30 g31 g32 g33 g34 g35 g36 g37 g38 g39 g40 g41 g42 g43 g44 t), 0, 0))
  refine hR (k_eq (by omega) (fun hc9 => ?_) (fun hc9 => ?_))
  · skip
    refine hR (?_ : R (_, _, _, _, _, _))
    exact hR (zret_i rfl (Nat.le_refl _) trivial (h _ _ _ _ _ _ _ hb25))
  iterate 2 refine hR (?_ : R (_, _, _, _, _, _))
  refine hR (zcall_i 0 0 (Nat.le_of_ble_eq_true rfl) (Nat.le_of_ble_eq_true rfl) (m_isReader _ a3 (by omega) (by omega) _ fun v10 hp11 => ?_))
  refine (?_ : R (_, _, (.int (Int32.ofInt v10)) :: [], (zMi c0 c1 c2 c3 c4 c5 c6 c7 c8 c9 c10 c11 c12 c13 0 f9 f10 f11 f12 f13 f15 f16 f17 y20_2 f21 y22_3 y23_4 f26 f28 f31 f32 f33 f38 f41 f44 x14 g15 g16 g17 g18 g19 g20 g21 g22 g23 g24 g25 g26 g27 g28 g29 g30 g31 g32 g33 g34 g35 g36 g37 g38 g39 g40 g41 g42 g43 g44 t), 0, 0))
  refine hR (k_eq (by omega) (fun hc12 => ?_) (fun hc12 => ?_))
  · skip
    refine hR (?_ : R (_, _, _, _, _, _))
    exact hR (zret_i rfl (Nat.le_refl _) trivial (h _ _ _ _ _ _ _ hb25))
  iterate 3 refine hR (?_ : R (_, _, _, _, _, _))
  refine hR (zcall_i 0 0 (Nat.le_of_ble_eq_true rfl) (Nat.le_of_ble_eq_true rfl) (m_readBy _ a2 a3 hb25 (by omega) hr2 (by omega) (by omega) _ fun v13 y26_14 k25_15 hp16 hp17 => ?_))
  refine (?_ : R (_, _, (.int (Int32.ofInt v13)) :: [], (zMi c0 c1 c2 c3 c4 c5 c6 c7 c8 c9 c10 c11 c12 c13 0 f9 f10 f11 f12 f13 f15 f16 f17 y20_2 f21 y22_3 y23_4 y26_14 f28 f31 f32 f33 f38 f41 f44 x14 g15 g16 g17 g18 g19 g20 g21 g22 g23 g24 k25_15 g26 g27 g28 g29 g30 g31 g32 g33 g34 g35 g36 g37 g38 g39 g40 g41 g42 g43 g44 t), 0, 0))
  refine hR (?_ : R (_, _, _, _, _, _))
  exact hR (zret_i rfl (Nat.le_refl _) trivial (h _ _ _ _ _ _ _ hp16))
theorem m_word (d : Nat) (a1 a2 : Int) (hb25 : zB 0 3 g25) (hr1 : -2147483648 ≤ a1 ∧ a1 ≤ 2147483647) (hr2 : -2147483648 ≤ a2 ∧ a2 ≤ 2147483647) (Q : zQ) (h : ∀ (v : Int) (y0 : Int) (k25 : Nat → Int32), zB 0 3 k25 → Q (some (.int (Int32.ofInt v))) (zMi c0 c1 c2 c3 c4 c5 c6 c7 c8 c9 c10 c11 c12 c13 y0 f9 f10 f11 f12 f13 f15 f16 f17 f20 f21 f22 f23 f26 f28 f31 f32 f33 f38 f41 f44 x14 g15 g16 g17 g18 g19 g20 g21 g22 g23 g24 k25 g26 g27 g28 g29 g30 g31 g32 g33 g34 g35 g36 g37 g38 g39 g40 g41 g42 g43 g44 t)) : zCl zTab (d + 4) iX12_word [.ref 14, .int (Int32.ofInt a1), .int (Int32.ofInt a2)] (zMi c0 c1 c2 c3 c4 c5 c6 c7 c8 c9 c10 c11 c12 c13 f0 f9 f10 f11 f12 f13 f15 f16 f17 f20 f21 f22 f23 f26 f28 f31 f32 f33 f38 f41 f44 x14 g15 g16 g17 g18 g19 g20 g21 g22 g23 g24 g25 g26 g27 g28 g29 g30 g31 g32 g33 g34 g35 g36 g37 g38 g39 g40 g41 g42 g43 g44 t) 0 0 Q := by
  refine zCl_i (M := kX12_word) rfl (Nat.le_of_ble_eq_true rfl) fun R hR => ?_
  iterate 2 refine hR (?_ : R (_, _, _, _, _, _))
  refine hR (?_ : R (_, _, _, (zMi c0 c1 c2 c3 c4 c5 c6 c7 c8 c9 c10 c11 c12 c13 0 f9 f10 f11 f12 f13 f15 f16 f17 f20 f21 f22 f23 f26 f28 f31 f32 f33 f38 f41 f44 x14 g15 g16 g17 g18 g19 g20 g21 g22 g23 g24 g25 g26 g27 g28 g29 g30 g31 g32 g33 g34 g35 g36 g37 g38 g39 g40 g41 g42 g43 g44 t), _, _))
  refine hR (?_ : R (_, _, _, _, _, _))
  refine hR (zcall_i 0 0 (Nat.le_of_ble_eq_true rfl) (Nat.le_of_ble_eq_true rfl) (m_isText _ a1 _ (by omega) _ fun v1 hp2 => ?_))
  refine (?_ : R (_, _, (.int (Int32.ofInt v1)) :: [], (zMi c0 c1 c2 c3 c4 c5 c6 c7 c8 c9 c10 c11 c12 c13 0 f9 f10 f11 f12 f13 f15 f16 f17 f20 f21 f22 f23 f26 f28 f31 f32 f33 f38 f41 f44 x14 g15 g16 g17 g18 g19 g20 g21 g22 g23 g24 g25 g26 g27 g28 g29 g30 g31 g32 g33 g34 g35 g36 g37 g38 g39 g40 g41 g42 g43 g44 t), 0, 0))
  refine hR (k_eq (by omega) (fun hc3 => ?_) (fun hc3 => ?_))
  · skip
    refine hR (?_ : R (_, _, _, _, _, _))
    exact hR (zret_i rfl (Nat.le_refl _) trivial (h _ _ _ hb25))
  iterate 3 refine hR (?_ : R (_, _, _, _, _, _))
  refine hR (zcall_i 0 0 (Nat.le_of_ble_eq_true rfl) (Nat.le_of_ble_eq_true rfl) (m_sizeOf _ a1 _ (by omega) _ fun v4 hp5 hp6 => ?_))
  refine (?_ : R (_, _, (.int (Int32.ofInt v4)) :: (.int (Int32.ofInt ((-1)))) :: (.int (Int32.ofInt a2)) :: [], (zMi c0 c1 c2 c3 c4 c5 c6 c7 c8 c9 c10 c11 c12 c13 0 f9 f10 f11 f12 f13 f15 f16 f17 f20 f21 f22 f23 f26 f28 f31 f32 f33 f38 f41 f44 x14 g15 g16 g17 g18 g19 g20 g21 g22 g23 g24 g25 g26 g27 g28 g29 g30 g31 g32 g33 g34 g35 g36 g37 g38 g39 g40 g41 g42 g43 g44 t), 0, 0))
  refine hR (?_ : R (_, _, _, _, _, _))
  refine hR (t_sub ?_)
  refine hR (zcall_i 0 0 (Nat.le_of_ble_eq_true rfl) (Nat.le_of_ble_eq_true rfl) (m_in _ a2 ((-1)) (v4 - 1) _ (by omega) (by omega) (by omega) _ fun v7 hp8 => ?_))
  refine (?_ : R (_, _, (.int (Int32.ofInt v7)) :: [], (zMi c0 c1 c2 c3 c4 c5 c6 c7 c8 c9 c10 c11 c12 c13 0 f9 f10 f11 f12 f13 f15 f16 f17 f20 f21 f22 f23 f26 f28 f31 f32 f33 f38 f41 f44 x14 g15 g16 g17 g18 g19 g20 g21 g22 g23 g24 g25 g26 g27 g28 g29 g30 g31 g32 g33 g34 g35 g36 g37 g38 g39 g40 g41 g42 g43 g44 t), 0, 0))
  refine hR (k_ne (by omega) (fun hc9 => ?_) (fun hc9 => ?_))
  rotate_left
  · skip
    refine hR (?_ : R (_, _, _, _, _, _))
    exact hR (zret_i rfl (Nat.le_refl _) trivial (h _ _ _ hb25))
  iterate 3 refine hR (?_ : R (_, _, _, _, _, _))
  refine hR (zcall_i 0 0 (Nat.le_of_ble_eq_true rfl) (Nat.le_of_ble_eq_true rfl) (m_spell25 _ a1 hb25 (by omega) _ fun k25_10 hp11 => ?_))
  refine (?_ : R (_, _, [], (zMi c0 c1 c2 c3 c4 c5 c6 c7 c8 c9 c10 c11 c12 c13 0 f9 f10 f11 f12 f13 f15 f16 f17 f20 f21 f22 f23 f26 f28 f31 f32 f33 f38 f41 f44 x14 g15 g16 g17 g18 g19 g20 g21 g22 g23 g24 k25_10 g26 g27 g28 g29 g30 g31 g32 g33 g34 g35 g36 g37 g38 g39 g40 g41 g42 g43 g44 t), 0, 0))
  iterate 2 refine hR (?_ : R (_, _, _, _, _, _))
  refine hR (j_ne (by omega) (by omega) (fun hc12 => ?_) (fun hc12 => ?_))
  · skip
    iterate 3 refine hR (?_ : R (_, _, _, _, _, _))
    refine hR (t_ldB hp11 (by omega) (by omega) (Nat.le_of_ble_eq_true rfl) fun v13 ev13 lv13 uv13 => ?_)
    clear ev13
    exact hR (zret_i rfl (Nat.le_refl _) trivial (h _ _ _ hp11))
  refine hR (?_ : R (_, _, _, _, _, _))
  refine hR (zcall_i 0 0 (Nat.le_of_ble_eq_true rfl) (Nat.le_of_ble_eq_true rfl) (m_sizeOf _ a1 _ (by omega) _ fun v14 hp15 hp16 => ?_))
  refine (?_ : R (_, _, (.int (Int32.ofInt v14)) :: [], (zMi c0 c1 c2 c3 c4 c5 c6 c7 c8 c9 c10 c11 c12 c13 0 f9 f10 f11 f12 f13 f15 f16 f17 f20 f21 f22 f23 f26 f28 f31 f32 f33 f38 f41 f44 x14 g15 g16 g17 g18 g19 g20 g21 g22 g23 g24 k25_10 g26 g27 g28 g29 g30 g31 g32 g33 g34 g35 g36 g37 g38 g39 g40 g41 g42 g43 g44 t), 0, 0))
  refine hR (?_ : R (_, _, _, _, _, _))
  exact hR (zret_i rfl (Nat.le_refl _) trivial (h _ _ _ hp11))
theorem m_drift (d : Nat) (a1 a2 : Int) (hb25 : zB 0 3 g25) (hb26 : zB 0 3 g26) (hr2 : -2147483648 ≤ a1 ∧ a1 ≤ 2147483647) (hr3 : -2147483648 ≤ a2 ∧ a2 ≤ 2147483647) (Q : zQ) (h : ∀ (v : Int) (y0 : Int) (k25 : Nat → Int32) (k26 : Nat → Int32) (k27 : Nat → Int32), zB 0 3 k25 → zB 0 3 k26 → Q (some (.int (Int32.ofInt v))) (zMi c0 c1 c2 c3 c4 c5 c6 c7 c8 c9 c10 c11 c12 c13 y0 f9 f10 f11 f12 f13 f15 f16 f17 f20 f21 f22 f23 f26 f28 f31 f32 f33 f38 f41 f44 x14 g15 g16 g17 g18 g19 g20 g21 g22 g23 g24 k25 k26 k27 g28 g29 g30 g31 g32 g33 g34 g35 g36 g37 g38 g39 g40 g41 g42 g43 g44 t)) : zCl zTab (d + 5) iX12_drift [.ref 14, .int (Int32.ofInt a1), .int (Int32.ofInt a2)] (zMi c0 c1 c2 c3 c4 c5 c6 c7 c8 c9 c10 c11 c12 c13 f0 f9 f10 f11 f12 f13 f15 f16 f17 f20 f21 f22 f23 f26 f28 f31 f32 f33 f38 f41 f44 x14 g15 g16 g17 g18 g19 g20 g21 g22 g23 g24 g25 g26 g27 g28 g29 g30 g31 g32 g33 g34 g35 g36 g37 g38 g39 g40 g41 g42 g43 g44 t) 0 0 Q := by
  refine zCl_i (M := kX12_drift) rfl (Nat.le_of_ble_eq_true rfl) fun R hR => ?_
  iterate 2 refine hR (?_ : R (_, _, _, _, _, _))
  refine hR (?_ : R (_, _, _, (zMi c0 c1 c2 c3 c4 c5 c6 c7 c8 c9 c10 c11 c12 c13 0 f9 f10 f11 f12 f13 f15 f16 f17 f20 f21 f22 f23 f26 f28 f31 f32 f33 f38 f41 f44 x14 g15 g16 g17 g18 g19 g20 g21 g22 g23 g24 g25 g26 g27 g28 g29 g30 g31 g32 g33 g34 g35 g36 g37 g38 g39 g40 g41 g42 g43 g44 t), _, _))
  refine hR (?_ : R (_, _, _, _, _, _))
  refine hR (zcall_i 0 0 (Nat.le_of_ble_eq_true rfl) (Nat.le_of_ble_eq_true rfl) (m_isText _ a1 _ (by omega) _ fun v1 hp2 => ?_))
  refine (?_ : R (_, _, (.int (Int32.ofInt v1)) :: [], (zMi c0 c1 c2 c3 c4 c5 c6 c7 c8 c9 c10 c11 c12 c13 0 f9 f10 f11 f12 f13 f15 f16 f17 f20 f21 f22 f23 f26 f28 f31 f32 f33 f38 f41 f44 x14 g15 g16 g17 g18 g19 g20 g21 g22 g23 g24 g25 g26 g27 g28 g29 g30 g31 g32 g33 g34 g35 g36 g37 g38 g39 g40 g41 g42 g43 g44 t), 0, 0))
  refine hR (k_eq (by omega) (fun hc3 => ?_) (fun hc3 => ?_))
  · skip
    refine hR (?_ : R (_, _, _, _, _, _))
    exact hR (zret_i rfl (Nat.le_refl _) trivial (h _ _ _ _ _ hb25 hb26))
  refine hR (?_ : R (_, _, _, _, _, _))
  refine hR (zcall_i 0 0 (Nat.le_of_ble_eq_true rfl) (Nat.le_of_ble_eq_true rfl) (m_isText _ a2 _ (by omega) _ fun v4 hp5 => ?_))
  refine (?_ : R (_, _, (.int (Int32.ofInt v4)) :: [], (zMi c0 c1 c2 c3 c4 c5 c6 c7 c8 c9 c10 c11 c12 c13 0 f9 f10 f11 f12 f13 f15 f16 f17 f20 f21 f22 f23 f26 f28 f31 f32 f33 f38 f41 f44 x14 g15 g16 g17 g18 g19 g20 g21 g22 g23 g24 g25 g26 g27 g28 g29 g30 g31 g32 g33 g34 g35 g36 g37 g38 g39 g40 g41 g42 g43 g44 t), 0, 0))
  refine hR (k_eq (by omega) (fun hc6 => ?_) (fun hc6 => ?_))
  · skip
    refine hR (?_ : R (_, _, _, _, _, _))
    exact hR (zret_i rfl (Nat.le_refl _) trivial (h _ _ _ _ _ hb25 hb26))
  iterate 3 refine hR (?_ : R (_, _, _, _, _, _))
  refine hR (zcall_i 0 0 (Nat.le_of_ble_eq_true rfl) (Nat.le_of_ble_eq_true rfl) (m_apart _ a1 a2 hb25 hb26 (by omega) (by omega) _ fun v7 k25_8 k26_9 k27_10 hp11 hp12 hp13 hp14 => ?_))
  refine (?_ : R (_, _, (.int (Int32.ofInt v7)) :: [], (zMi c0 c1 c2 c3 c4 c5 c6 c7 c8 c9 c10 c11 c12 c13 0 f9 f10 f11 f12 f13 f15 f16 f17 f20 f21 f22 f23 f26 f28 f31 f32 f33 f38 f41 f44 x14 g15 g16 g17 g18 g19 g20 g21 g22 g23 g24 k25_8 k26_9 k27_10 g28 g29 g30 g31 g32 g33 g34 g35 g36 g37 g38 g39 g40 g41 g42 g43 g44 t), 0, 0))
  refine hR (?_ : R (_, _, _, _, _, _))
  exact hR (zret_i rfl (Nat.le_refl _) trivial (h _ _ _ _ _ hp11 hp12))
end MZ
