/-! THE REFERENCE'S IMAGES, with their tapes. -/
theorem t_stb {R : zS → Prop} {np : Nat} {L : zL} {S : List Value} {w : zW} {k n : Nat} {q ti : Nat} {i v : Int} {len : Nat} {g : Nat → Int32} (hv : -128 ≤ v ∧ v ≤ 127) (h0 : 0 ≤ i) (h1 : i < len) (hl : len ≤ 60000) (h : R (np, L, S, zst w q (.inl (ti, len, .inl (upd g i.toNat (Int32.ofInt v)))), k, n)) : vp_in (Int32.ofInt i) len ∧ R (np, L, S, zst w q (.inl (ti, len, .inl (upd g (Int32.ofInt i).toNatClampNeg (vp_nar .byte (Int32.ofInt v))))), k, n) := by
  refine ⟨zvin h0 h1 hl, ?_⟩
  rw [zcl h0 (by omega), vp_nar_byte, x_i2b, byt8_i hv]
  exact h
theorem cpR_by {g : Nat → Int32} {fr to c j : Nat} (h : ∀ j : Nat, j < 2400 → -128 ≤ (g j).toInt ∧ (g j).toInt ≤ 127) (hf : fr ≤ 3) (hc : c ≤ 600) (hj : j < 2400) : -128 ≤ (cpR g 600 fr to c j).toInt ∧ (cpR g 600 fr to c j).toInt ≤ 127 := by
  unfold cpR
  split
  · exact h _ (by omega)
  · exact h _ hj
section MZ
variable {c0 c1 c2 c3 c4 c5 c6 c7 c8 c9 c10 c11 c12 c13 : va_E} {f0 f9 f10 f11 f12 f13 f15 f16 f17 f20 f21 f22 f23 f26 f28 f31 f32 f33 f38 f41 f44 : Int} {x14 : Int64} {g15 g16 g17 g18 g19 g20 g21 g22 g23 g24 g25 g26 g27 g28 g29 g30 g31 g32 g33 g34 g35 g36 g37 g38 g39 g40 g41 g42 g43 g44 : Nat → Int32} {t : zW}
theorem m_copyAllT (d : Nat) (a1 a2 : Int) (hr0 : 0 ≤ a1 ∧ a1 ≤ 3) (hr1 : 0 ≤ a2 ∧ a2 ≤ 3) (hr2 : a1 ≠ a2) (hr3 : ∀ j : Nat, j < 2400 → -128 ≤ (g15 j).toInt ∧ (g15 j).toInt ≤ 127) (Q : zQ) (h : ∀ (k15 : Nat → Int32) (k16 : Nat → Int32) (k17 : Nat → Int32) (k18 : Nat → Int32) (k19 : Nat → Int32) (k20 : Nat → Int32) (k21 : Nat → Int32) (k22 : Nat → Int32), (k15 = cpR g15 600 a1.toNat a2.toNat 600) → (k16 = cpR g16 1 a1.toNat a2.toNat 1) → (k17 = cpR g17 1 a1.toNat a2.toNat 1) → (k18 = cpR g18 1 a1.toNat a2.toNat 1) → (k19 = cpR g19 3 a1.toNat a2.toNat 3) → (k20 = cpR g20 102 a1.toNat a2.toNat 102) → (k21 = cpR g21 242 a1.toNat a2.toNat 242) → (k22 = cpR g22 26 a1.toNat a2.toNat 26) → Q (none) (zMi c0 c1 c2 c3 c4 c5 c6 c7 c8 c9 c10 c11 c12 c13 f0 f9 f10 f11 f12 f13 f15 f16 f17 f20 f21 f22 f23 f26 f28 f31 f32 f33 f38 f41 f44 x14 k15 k16 k17 k18 k19 k20 k21 k22 g23 g24 g25 g26 g27 g28 g29 g30 g31 g32 g33 g34 g35 g36 g37 g38 g39 g40 g41 g42 g43 g44 t)) : zCl zTab (d + 2) iX12_copyAll [.ref 14, .int (Int32.ofInt a1), .int (Int32.ofInt a2)] (zMi c0 c1 c2 c3 c4 c5 c6 c7 c8 c9 c10 c11 c12 c13 f0 f9 f10 f11 f12 f13 f15 f16 f17 f20 f21 f22 f23 f26 f28 f31 f32 f33 f38 f41 f44 x14 g15 g16 g17 g18 g19 g20 g21 g22 g23 g24 g25 g26 g27 g28 g29 g30 g31 g32 g33 g34 g35 g36 g37 g38 g39 g40 g41 g42 g43 g44 t) 0 0 Q := by
  refine zCl_i (M := kX12_copyAll) rfl (Nat.le_of_ble_eq_true rfl) fun R hR => ?_
  iterate 2 refine hR (?_ : R (_, _, _, _, _, _))
  have lp2 : ∀ (N : Nat) (i : Int) (q15_2 : Nat → Int32), (0 ≤ i ∧ i ≤ 600) → (q15_2 = cpR g15 600 a1.toNat a2.toNat i.toNat) → (600 - i < N) → R (2, [some (.ref 14), some (.int (Int32.ofInt a1)), some (.int (Int32.ofInt a2)), some (.int (Int32.ofInt i))], [], (zMi c0 c1 c2 c3 c4 c5 c6 c7 c8 c9 c10 c11 c12 c13 f0 f9 f10 f11 f12 f13 f15 f16 f17 f20 f21 f22 f23 f26 f28 f31 f32 f33 f38 f41 f44 x14 q15_2 g16 g17 g18 g19 g20 g21 g22 g23 g24 g25 g26 g27 g28 g29 g30 g31 g32 g33 g34 g35 g36 g37 g38 g39 g40 g41 g42 g43 g44 t), 0, 0) := by
    intro N
    induction N with
    | zero => intros; omega
    | succ N ih2 =>
      intro i q15_2 hf0_2 hp0_2 hN2
      refine hR (?_ : R (_, _, _, _, _, _))
      refine hR (t_c 600 (by decide) ?_)
      refine hR (j_ge (by omega) (by omega) (fun hc1 => ?_) (fun hc1 => ?_))
      rotate_left
      · skip
        iterate 2 refine hR (?_ : R (_, _, _, _, _, _))
        refine hR (t_c 600 (by decide) ?_)
        refine hR (?_ : R (_, _, _, _, _, _))
        refine hR (t_mul ?_)
        refine hR (?_ : R (_, _, _, _, _, _))
        refine hR (t_add ?_)
        iterate 2 refine hR (?_ : R (_, _, _, _, _, _))
        refine hR (t_c 600 (by decide) ?_)
        refine hR (?_ : R (_, _, _, _, _, _))
        refine hR (t_mul ?_)
        refine hR (?_ : R (_, _, _, _, _, _))
        refine hR (t_add ?_)
        refine hR (t_ldE (by omega) (by omega) (Nat.le_of_ble_eq_true rfl) fun v16 ev16 rv16 => ?_)
        have hby : -128 ≤ v16 ∧ v16 ≤ 127 := by rw [ev16, hp0_2]; exact cpR_by hr3 (by omega) (by omega) (by omega)
        refine hR (t_stb (by omega) (by omega) (by omega) (Nat.le_of_ble_eq_true rfl) (?_ : R (_, _, _, (zMi c0 c1 c2 c3 c4 c5 c6 c7 c8 c9 c10 c11 c12 c13 f0 f9 f10 f11 f12 f13 f15 f16 f17 f20 f21 f22 f23 f26 f28 f31 f32 f33 f38 f41 f44 x14 (upd q15_2 ((600 * a2) + i).toNat (Int32.ofInt v16)) g16 g17 g18 g19 g20 g21 g22 g23 g24 g25 g26 g27 g28 g29 g30 g31 g32 g33 g34 g35 g36 g37 g38 g39 g40 g41 g42 g43 g44 t), _, _)))
        refine hR (t_inc ?_)
        refine hR (?_ : R (_, _, _, _, _, _))
        exact ih2 _ _ (by omega) (cpR_s hp0_2 (by omega) (by omega) (by omega) (by omega) (by omega) ev16) (by omega)
      iterate 5 refine hR (?_ : R (_, _, _, _, _, _))
      refine hR (zcall_i 0 0 (Nat.le_of_ble_eq_true rfl) (Nat.le_of_ble_eq_true rfl) (m_copyRow16 _ a1 a2 (by omega) (by omega) (by omega) _ fun k16_2 hp3 => ?_))
      refine (?_ : R (_, _, [], (zMi c0 c1 c2 c3 c4 c5 c6 c7 c8 c9 c10 c11 c12 c13 f0 f9 f10 f11 f12 f13 f15 f16 f17 f20 f21 f22 f23 f26 f28 f31 f32 f33 f38 f41 f44 x14 q15_2 k16_2 g17 g18 g19 g20 g21 g22 g23 g24 g25 g26 g27 g28 g29 g30 g31 g32 g33 g34 g35 g36 g37 g38 g39 g40 g41 g42 g43 g44 t), 0, 0))
      iterate 5 refine hR (?_ : R (_, _, _, _, _, _))
      refine hR (zcall_i 0 0 (Nat.le_of_ble_eq_true rfl) (Nat.le_of_ble_eq_true rfl) (m_copyRow17 _ a1 a2 (by omega) (by omega) (by omega) _ fun k17_4 hp5 => ?_))
      refine (?_ : R (_, _, [], (zMi c0 c1 c2 c3 c4 c5 c6 c7 c8 c9 c10 c11 c12 c13 f0 f9 f10 f11 f12 f13 f15 f16 f17 f20 f21 f22 f23 f26 f28 f31 f32 f33 f38 f41 f44 x14 q15_2 k16_2 k17_4 g18 g19 g20 g21 g22 g23 g24 g25 g26 g27 g28 g29 g30 g31 g32 g33 g34 g35 g36 g37 g38 g39 g40 g41 g42 g43 g44 t), 0, 0))
      iterate 5 refine hR (?_ : R (_, _, _, _, _, _))
      refine hR (zcall_i 0 0 (Nat.le_of_ble_eq_true rfl) (Nat.le_of_ble_eq_true rfl) (m_copyRow18 _ a1 a2 (by omega) (by omega) (by omega) _ fun k18_6 hp7 => ?_))
      refine (?_ : R (_, _, [], (zMi c0 c1 c2 c3 c4 c5 c6 c7 c8 c9 c10 c11 c12 c13 f0 f9 f10 f11 f12 f13 f15 f16 f17 f20 f21 f22 f23 f26 f28 f31 f32 f33 f38 f41 f44 x14 q15_2 k16_2 k17_4 k18_6 g19 g20 g21 g22 g23 g24 g25 g26 g27 g28 g29 g30 g31 g32 g33 g34 g35 g36 g37 g38 g39 g40 g41 g42 g43 g44 t), 0, 0))
      iterate 5 refine hR (?_ : R (_, _, _, _, _, _))
      refine hR (zcall_i 0 0 (Nat.le_of_ble_eq_true rfl) (Nat.le_of_ble_eq_true rfl) (m_copyRow19 _ a1 a2 (by omega) (by omega) (by omega) _ fun k19_8 hp9 => ?_))
      refine (?_ : R (_, _, [], (zMi c0 c1 c2 c3 c4 c5 c6 c7 c8 c9 c10 c11 c12 c13 f0 f9 f10 f11 f12 f13 f15 f16 f17 f20 f21 f22 f23 f26 f28 f31 f32 f33 f38 f41 f44 x14 q15_2 k16_2 k17_4 k18_6 k19_8 g20 g21 g22 g23 g24 g25 g26 g27 g28 g29 g30 g31 g32 g33 g34 g35 g36 g37 g38 g39 g40 g41 g42 g43 g44 t), 0, 0))
      iterate 2 refine hR (?_ : R (_, _, _, _, _, _))
      refine hR (t_c 102 (by decide) ?_)
      iterate 2 refine hR (?_ : R (_, _, _, _, _, _))
      refine hR (zcall_i 0 0 (Nat.le_of_ble_eq_true rfl) (Nat.le_of_ble_eq_true rfl) (m_copyRow20 _ a1 a2 (by omega) (by omega) (by omega) _ fun k20_10 hp11 => ?_))
      refine (?_ : R (_, _, [], (zMi c0 c1 c2 c3 c4 c5 c6 c7 c8 c9 c10 c11 c12 c13 f0 f9 f10 f11 f12 f13 f15 f16 f17 f20 f21 f22 f23 f26 f28 f31 f32 f33 f38 f41 f44 x14 q15_2 k16_2 k17_4 k18_6 k19_8 k20_10 g21 g22 g23 g24 g25 g26 g27 g28 g29 g30 g31 g32 g33 g34 g35 g36 g37 g38 g39 g40 g41 g42 g43 g44 t), 0, 0))
      iterate 2 refine hR (?_ : R (_, _, _, _, _, _))
      refine hR (t_c 242 (by decide) ?_)
      iterate 2 refine hR (?_ : R (_, _, _, _, _, _))
      refine hR (zcall_i 0 0 (Nat.le_of_ble_eq_true rfl) (Nat.le_of_ble_eq_true rfl) (m_copyRow21 _ a1 a2 (by omega) (by omega) (by omega) _ fun k21_12 hp13 => ?_))
      refine (?_ : R (_, _, [], (zMi c0 c1 c2 c3 c4 c5 c6 c7 c8 c9 c10 c11 c12 c13 f0 f9 f10 f11 f12 f13 f15 f16 f17 f20 f21 f22 f23 f26 f28 f31 f32 f33 f38 f41 f44 x14 q15_2 k16_2 k17_4 k18_6 k19_8 k20_10 k21_12 g22 g23 g24 g25 g26 g27 g28 g29 g30 g31 g32 g33 g34 g35 g36 g37 g38 g39 g40 g41 g42 g43 g44 t), 0, 0))
      iterate 2 refine hR (?_ : R (_, _, _, _, _, _))
      refine hR (t_c 26 (by decide) ?_)
      iterate 2 refine hR (?_ : R (_, _, _, _, _, _))
      refine hR (zcall_i 0 0 (Nat.le_of_ble_eq_true rfl) (Nat.le_of_ble_eq_true rfl) (m_copyRow22 _ a1 a2 (by omega) (by omega) (by omega) _ fun k22_14 hp15 => ?_))
      refine (?_ : R (_, _, [], (zMi c0 c1 c2 c3 c4 c5 c6 c7 c8 c9 c10 c11 c12 c13 f0 f9 f10 f11 f12 f13 f15 f16 f17 f20 f21 f22 f23 f26 f28 f31 f32 f33 f38 f41 f44 x14 q15_2 k16_2 k17_4 k18_6 k19_8 k20_10 k21_12 k22_14 g23 g24 g25 g26 g27 g28 g29 g30 g31 g32 g33 g34 g35 g36 g37 g38 g39 g40 g41 g42 g43 g44 t), 0, 0))
      exact hR (zret_i rfl (Nat.le_refl _) rfl (h _ _ _ _ _ _ _ _ (cpR_e hp0_2 (by omega)) hp3 hp5 hp7 hp9 hp11 hp13 hp15))
  exact lp2 400000000 _ _ (by omega) (cpR_0 _ _ _ _) (by omega)
theorem m_imageT (d : Nat) (a1 : Int) (hr0 : ∀ j : Nat, j < 2400 → -128 ≤ (g15 j).toInt ∧ (g15 j).toInt ≤ 127) (hr1 : -2147483648 ≤ a1 ∧ a1 ≤ 2147483647) (Q : zQ) (h : ∀ (v : Int) (y0 : Int) (k15 : Nat → Int32) (k16 : Nat → Int32) (k17 : Nat → Int32) (k18 : Nat → Int32) (k19 : Nat → Int32) (k20 : Nat → Int32) (k21 : Nat → Int32) (k22 : Nat → Int32) (k44 : Nat → Int32), ((v = 1 ∧ 0 ≤ a1 ∧ a1 ≤ 2) ∨ (v = 0 ∧ (a1 < 0 ∨ 2 < a1))) → ((v = 0 ∧ k44 = g44) ∨ (v = 1 ∧ k44 = upd g44 a1.toNat (Int32.ofInt 1))) → ((v = 0 ∧ k15 = g15) ∨ (v = 1 ∧ k15 = cpR g15 600 0 (a1 + 1).toNat 600)) → ((v = 0 ∧ k16 = g16) ∨ (v = 1 ∧ k16 = cpR g16 1 0 (a1 + 1).toNat 1)) → ((v = 0 ∧ k17 = g17) ∨ (v = 1 ∧ k17 = cpR g17 1 0 (a1 + 1).toNat 1)) → ((v = 0 ∧ k18 = g18) ∨ (v = 1 ∧ k18 = cpR g18 1 0 (a1 + 1).toNat 1)) → ((v = 0 ∧ k19 = g19) ∨ (v = 1 ∧ k19 = cpR g19 3 0 (a1 + 1).toNat 3)) → ((v = 0 ∧ k20 = g20) ∨ (v = 1 ∧ k20 = cpR g20 102 0 (a1 + 1).toNat 102)) → ((v = 0 ∧ k21 = g21) ∨ (v = 1 ∧ k21 = cpR g21 242 0 (a1 + 1).toNat 242)) → ((v = 0 ∧ k22 = g22) ∨ (v = 1 ∧ k22 = cpR g22 26 0 (a1 + 1).toNat 26)) → Q (some (.int (Int32.ofInt v))) (zMi c0 c1 c2 c3 c4 c5 c6 c7 c8 c9 c10 c11 c12 c13 y0 f9 f10 f11 f12 f13 f15 f16 f17 f20 f21 f22 f23 f26 f28 f31 f32 f33 f38 f41 f44 x14 k15 k16 k17 k18 k19 k20 k21 k22 g23 g24 g25 g26 g27 g28 g29 g30 g31 g32 g33 g34 g35 g36 g37 g38 g39 g40 g41 g42 g43 k44 t)) : zCl zTab (d + 3) iX12_image [.ref 14, .int (Int32.ofInt a1)] (zMi c0 c1 c2 c3 c4 c5 c6 c7 c8 c9 c10 c11 c12 c13 f0 f9 f10 f11 f12 f13 f15 f16 f17 f20 f21 f22 f23 f26 f28 f31 f32 f33 f38 f41 f44 x14 g15 g16 g17 g18 g19 g20 g21 g22 g23 g24 g25 g26 g27 g28 g29 g30 g31 g32 g33 g34 g35 g36 g37 g38 g39 g40 g41 g42 g43 g44 t) 0 0 Q := by
  refine zCl_i (M := kX12_image) rfl (Nat.le_of_ble_eq_true rfl) fun R hR => ?_
  iterate 2 refine hR (?_ : R (_, _, _, _, _, _))
  refine hR (?_ : R (_, _, _, (zMi c0 c1 c2 c3 c4 c5 c6 c7 c8 c9 c10 c11 c12 c13 0 f9 f10 f11 f12 f13 f15 f16 f17 f20 f21 f22 f23 f26 f28 f31 f32 f33 f38 f41 f44 x14 g15 g16 g17 g18 g19 g20 g21 g22 g23 g24 g25 g26 g27 g28 g29 g30 g31 g32 g33 g34 g35 g36 g37 g38 g39 g40 g41 g42 g43 g44 t), _, _))
  iterate 3 refine hR (?_ : R (_, _, _, _, _, _))
  refine hR (zcall_i 0 0 (Nat.le_of_ble_eq_true rfl) (Nat.le_of_ble_eq_true rfl) (m_in _ a1 0 2 _ (by omega) (by omega) (by omega) _ fun v1 hp2 => ?_))
  refine (?_ : R (_, _, (.int (Int32.ofInt v1)) :: [], (zMi c0 c1 c2 c3 c4 c5 c6 c7 c8 c9 c10 c11 c12 c13 0 f9 f10 f11 f12 f13 f15 f16 f17 f20 f21 f22 f23 f26 f28 f31 f32 f33 f38 f41 f44 x14 g15 g16 g17 g18 g19 g20 g21 g22 g23 g24 g25 g26 g27 g28 g29 g30 g31 g32 g33 g34 g35 g36 g37 g38 g39 g40 g41 g42 g43 g44 t), 0, 0))
  refine hR (k_ne (by omega) (fun hc3 => ?_) (fun hc3 => ?_))
  rotate_left
  · skip
    refine hR (?_ : R (_, _, _, _, _, _))
    exact hR (zret_i rfl (Nat.le_refl _) (zbo (by omega)) (h _ _ _ _ _ _ _ _ _ _ _ (by omega) (Or.inl ⟨rfl, rfl⟩) (Or.inl ⟨rfl, rfl⟩) (Or.inl ⟨rfl, rfl⟩) (Or.inl ⟨rfl, rfl⟩) (Or.inl ⟨rfl, rfl⟩) (Or.inl ⟨rfl, rfl⟩) (Or.inl ⟨rfl, rfl⟩) (Or.inl ⟨rfl, rfl⟩) (Or.inl ⟨rfl, rfl⟩)))
  iterate 4 refine hR (?_ : R (_, _, _, _, _, _))
  refine hR (t_add ?_)
  refine hR (zcall_i 0 0 (Nat.le_of_ble_eq_true rfl) (Nat.le_of_ble_eq_true rfl) (m_copyAllT _ 0 (a1 + 1) (by omega) (by omega) (by omega) (by omega) _ fun k15_4 k16_5 k17_6 k18_7 k19_8 k20_9 k21_10 k22_11 hp12 hp13 hp14 hp15 hp16 hp17 hp18 hp19 => ?_))
  refine (?_ : R (_, _, [], (zMi c0 c1 c2 c3 c4 c5 c6 c7 c8 c9 c10 c11 c12 c13 0 f9 f10 f11 f12 f13 f15 f16 f17 f20 f21 f22 f23 f26 f28 f31 f32 f33 f38 f41 f44 x14 k15_4 k16_5 k17_6 k18_7 k19_8 k20_9 k21_10 k22_11 g23 g24 g25 g26 g27 g28 g29 g30 g31 g32 g33 g34 g35 g36 g37 g38 g39 g40 g41 g42 g43 g44 t), 0, 0))
  iterate 4 refine hR (?_ : R (_, _, _, _, _, _))
  refine hR (t_st (by omega) (by omega) (Nat.le_of_ble_eq_true rfl) (?_ : R (_, _, _, (zMi c0 c1 c2 c3 c4 c5 c6 c7 c8 c9 c10 c11 c12 c13 0 f9 f10 f11 f12 f13 f15 f16 f17 f20 f21 f22 f23 f26 f28 f31 f32 f33 f38 f41 f44 x14 k15_4 k16_5 k17_6 k18_7 k19_8 k20_9 k21_10 k22_11 g23 g24 g25 g26 g27 g28 g29 g30 g31 g32 g33 g34 g35 g36 g37 g38 g39 g40 g41 g42 g43 (upd g44 a1.toNat (Int32.ofInt 1)) t), _, _)))
  refine hR (?_ : R (_, _, _, _, _, _))
  exact hR (zret_i rfl (Nat.le_refl _) (zbo (by omega)) (h _ _ _ _ _ _ _ _ _ _ _ (by omega) (Or.inr ⟨rfl, rfl⟩) (Or.inr ⟨rfl, hp12⟩) (Or.inr ⟨rfl, hp13⟩) (Or.inr ⟨rfl, hp14⟩) (Or.inr ⟨rfl, hp15⟩) (Or.inr ⟨rfl, hp16⟩) (Or.inr ⟨rfl, hp17⟩) (Or.inr ⟨rfl, hp18⟩) (Or.inr ⟨rfl, hp19⟩)))
theorem m_againT (d : Nat) (a1 : Int) (hr0 : ∀ j : Nat, j < 2400 → -128 ≤ (g15 j).toInt ∧ (g15 j).toInt ≤ 127) (hr1 : -2147483648 ≤ a1 ∧ a1 ≤ 2147483647) (Q : zQ) (h : ∀ (v : Int) (y0 : Int) (y21 : Int) (k15 : Nat → Int32) (k16 : Nat → Int32) (k17 : Nat → Int32) (k18 : Nat → Int32) (k19 : Nat → Int32) (k20 : Nat → Int32) (k21 : Nat → Int32) (k22 : Nat → Int32), ((v = 1 ∧ 0 ≤ a1 ∧ a1 ≤ 2 ∧ (g44 a1.toNat).toInt ≠ 0) ∨ (v = 0 ∧ (a1 < 0 ∨ 2 < a1 ∨ (g44 a1.toNat).toInt = 0))) → ((v = 0 ∧ k15 = g15) ∨ (v = 1 ∧ k15 = cpR g15 600 (a1 + 1).toNat 0 600)) → ((v = 0 ∧ k16 = g16) ∨ (v = 1 ∧ k16 = cpR g16 1 (a1 + 1).toNat 0 1)) → ((v = 0 ∧ k17 = g17) ∨ (v = 1 ∧ k17 = cpR g17 1 (a1 + 1).toNat 0 1)) → ((v = 0 ∧ k18 = g18) ∨ (v = 1 ∧ k18 = cpR g18 1 (a1 + 1).toNat 0 1)) → ((v = 0 ∧ k19 = g19) ∨ (v = 1 ∧ k19 = cpR g19 3 (a1 + 1).toNat 0 3)) → ((v = 0 ∧ k20 = g20) ∨ (v = 1 ∧ k20 = cpR g20 102 (a1 + 1).toNat 0 102)) → ((v = 0 ∧ k21 = g21) ∨ (v = 1 ∧ k21 = cpR g21 242 (a1 + 1).toNat 0 242)) → ((v = 0 ∧ k22 = g22) ∨ (v = 1 ∧ k22 = cpR g22 26 (a1 + 1).toNat 0 26)) → Q (some (.int (Int32.ofInt v))) (zMi c0 c1 c2 c3 c4 c5 c6 c7 c8 c9 c10 c11 c12 c13 y0 f9 f10 f11 f12 f13 f15 f16 f17 f20 y21 f22 f23 f26 f28 f31 f32 f33 f38 f41 f44 x14 k15 k16 k17 k18 k19 k20 k21 k22 g23 g24 g25 g26 g27 g28 g29 g30 g31 g32 g33 g34 g35 g36 g37 g38 g39 g40 g41 g42 g43 g44 t)) : zCl zTab (d + 3) iX12_again [.ref 14, .int (Int32.ofInt a1)] (zMi c0 c1 c2 c3 c4 c5 c6 c7 c8 c9 c10 c11 c12 c13 f0 f9 f10 f11 f12 f13 f15 f16 f17 f20 f21 f22 f23 f26 f28 f31 f32 f33 f38 f41 f44 x14 g15 g16 g17 g18 g19 g20 g21 g22 g23 g24 g25 g26 g27 g28 g29 g30 g31 g32 g33 g34 g35 g36 g37 g38 g39 g40 g41 g42 g43 g44 t) 0 0 Q := by
  refine zCl_i (M := kX12_again) rfl (Nat.le_of_ble_eq_true rfl) fun R hR => ?_
  iterate 2 refine hR (?_ : R (_, _, _, _, _, _))
  refine hR (?_ : R (_, _, _, (zMi c0 c1 c2 c3 c4 c5 c6 c7 c8 c9 c10 c11 c12 c13 0 f9 f10 f11 f12 f13 f15 f16 f17 f20 f21 f22 f23 f26 f28 f31 f32 f33 f38 f41 f44 x14 g15 g16 g17 g18 g19 g20 g21 g22 g23 g24 g25 g26 g27 g28 g29 g30 g31 g32 g33 g34 g35 g36 g37 g38 g39 g40 g41 g42 g43 g44 t), _, _))
  iterate 3 refine hR (?_ : R (_, _, _, _, _, _))
  refine hR (zcall_i 0 0 (Nat.le_of_ble_eq_true rfl) (Nat.le_of_ble_eq_true rfl) (m_in _ a1 0 2 _ (by omega) (by omega) (by omega) _ fun v1 hp2 => ?_))
  refine (?_ : R (_, _, (.int (Int32.ofInt v1)) :: [], (zMi c0 c1 c2 c3 c4 c5 c6 c7 c8 c9 c10 c11 c12 c13 0 f9 f10 f11 f12 f13 f15 f16 f17 f20 f21 f22 f23 f26 f28 f31 f32 f33 f38 f41 f44 x14 g15 g16 g17 g18 g19 g20 g21 g22 g23 g24 g25 g26 g27 g28 g29 g30 g31 g32 g33 g34 g35 g36 g37 g38 g39 g40 g41 g42 g43 g44 t), 0, 0))
  refine hR (k_eq (by omega) (fun hc3 => ?_) (fun hc3 => ?_))
  · skip
    refine hR (?_ : R (_, _, _, _, _, _))
    exact hR (zret_i rfl (Nat.le_refl _) (zbo (by omega)) (h _ _ _ _ _ _ _ _ _ _ _ (by omega) (Or.inl ⟨rfl, rfl⟩) (Or.inl ⟨rfl, rfl⟩) (Or.inl ⟨rfl, rfl⟩) (Or.inl ⟨rfl, rfl⟩) (Or.inl ⟨rfl, rfl⟩) (Or.inl ⟨rfl, rfl⟩) (Or.inl ⟨rfl, rfl⟩) (Or.inl ⟨rfl, rfl⟩)))
  iterate 3 refine hR (?_ : R (_, _, _, _, _, _))
  refine hR (t_ldE (by omega) (by omega) (Nat.le_of_ble_eq_true rfl) fun v4 ev4 rv4 => ?_)
  refine hR (k_ne (by omega) (fun hc5 => ?_) (fun hc5 => ?_))
  rotate_left
  · skip
    refine hR (?_ : R (_, _, _, _, _, _))
    exact hR (zret_i rfl (Nat.le_refl _) (zbo (by omega)) (h _ _ _ _ _ _ _ _ _ _ _ (by omega) (Or.inl ⟨rfl, rfl⟩) (Or.inl ⟨rfl, rfl⟩) (Or.inl ⟨rfl, rfl⟩) (Or.inl ⟨rfl, rfl⟩) (Or.inl ⟨rfl, rfl⟩) (Or.inl ⟨rfl, rfl⟩) (Or.inl ⟨rfl, rfl⟩) (Or.inl ⟨rfl, rfl⟩)))
  iterate 3 refine hR (?_ : R (_, _, _, _, _, _))
  refine hR (t_add ?_)
  refine hR (?_ : R (_, _, _, _, _, _))
  refine hR (zcall_i 0 0 (Nat.le_of_ble_eq_true rfl) (Nat.le_of_ble_eq_true rfl) (m_copyAllT _ (a1 + 1) 0 (by omega) (by omega) (by omega) (by omega) _ fun k15_6 k16_7 k17_8 k18_9 k19_10 k20_11 k21_12 k22_13 hp14 hp15 hp16 hp17 hp18 hp19 hp20 hp21 => ?_))
  refine (?_ : R (_, _, [], (zMi c0 c1 c2 c3 c4 c5 c6 c7 c8 c9 c10 c11 c12 c13 0 f9 f10 f11 f12 f13 f15 f16 f17 f20 f21 f22 f23 f26 f28 f31 f32 f33 f38 f41 f44 x14 k15_6 k16_7 k17_8 k18_9 k19_10 k20_11 k21_12 k22_13 g23 g24 g25 g26 g27 g28 g29 g30 g31 g32 g33 g34 g35 g36 g37 g38 g39 g40 g41 g42 g43 g44 t), 0, 0))
  iterate 2 refine hR (?_ : R (_, _, _, _, _, _))
  refine hR (?_ : R (_, _, _, (zMi c0 c1 c2 c3 c4 c5 c6 c7 c8 c9 c10 c11 c12 c13 0 f9 f10 f11 f12 f13 f15 f16 f17 f20 ((-1)) f22 f23 f26 f28 f31 f32 f33 f38 f41 f44 x14 k15_6 k16_7 k17_8 k18_9 k19_10 k20_11 k21_12 k22_13 g23 g24 g25 g26 g27 g28 g29 g30 g31 g32 g33 g34 g35 g36 g37 g38 g39 g40 g41 g42 g43 g44 t), _, _))
  refine hR (?_ : R (_, _, _, _, _, _))
  exact hR (zret_i rfl (Nat.le_refl _) (zbo (by omega)) (h _ _ _ _ _ _ _ _ _ _ _ (by omega) (Or.inr ⟨rfl, hp14⟩) (Or.inr ⟨rfl, hp15⟩) (Or.inr ⟨rfl, hp16⟩) (Or.inr ⟨rfl, hp17⟩) (Or.inr ⟨rfl, hp18⟩) (Or.inr ⟨rfl, hp19⟩) (Or.inr ⟨rfl, hp20⟩) (Or.inr ⟨rfl, hp21⟩)))
end MZ
