section MZ
variable {c0 c1 c2 c3 c4 c5 c6 c7 c8 c9 c10 c11 c12 c13 : va_E} {f0 f9 f10 f11 f12 f13 f15 f16 f17 f20 f21 f22 f23 f26 f28 f31 f32 f33 f38 f41 f44 : Int} {x14 : Int64} {g15 g16 g17 g18 g19 g20 g21 g22 g23 g24 g25 g26 g27 g28 g29 g30 g31 g32 g33 g34 g35 g36 g37 g38 g39 g40 g41 g42 g43 g44 : Nat → Int32} {t : zW}
theorem m_keep3 (d : Nat) (hr0 : 0 ≤ (g23 0).toInt ∧ (g23 0).toInt ≤ 40) (Q : zQ) (h : ∀ (k23 : Nat → Int32), (0 ≤ (k23 0).toInt ∧ (k23 0).toInt ≤ 40) → ((g23 0).toInt ≠ 40 → rdOK g24 → yrR g23 → yrR k23) → Q (none) (zMi c0 c1 c2 c3 c4 c5 c6 c7 c8 c9 c10 c11 c12 c13 f0 f9 f10 f11 f12 f13 f15 f16 f17 f20 f21 f22 f23 f26 f28 f31 f32 f33 f38 f41 f44 x14 g15 g16 g17 g18 g19 g20 g21 g22 k23 g24 g25 g26 g27 g28 g29 g30 g31 g32 g33 g34 g35 g36 g37 g38 g39 g40 g41 g42 g43 g44 t)) : zCl zTab (d + 1) iX12_keep [.ref 14, .int (Int32.ofInt 3), .int (Int32.ofInt 40)] (zMi c0 c1 c2 c3 c4 c5 c6 c7 c8 c9 c10 c11 c12 c13 f0 f9 f10 f11 f12 f13 f15 f16 f17 f20 f21 f22 f23 f26 f28 f31 f32 f33 f38 f41 f44 x14 g15 g16 g17 g18 g19 g20 g21 g22 g23 g24 g25 g26 g27 g28 g29 g30 g31 g32 g33 g34 g35 g36 g37 g38 g39 g40 g41 g42 g43 g44 t) 0 0 Q := by
  refine zCl_i (M := kX12_keep) rfl (Nat.le_of_ble_eq_true rfl) fun R hR => ?_
  iterate 3 refine hR (?_ : R (_, _, _, _, _, _))
  refine hR (t_ldE (by omega) (by omega) (Nat.le_of_ble_eq_true rfl) fun v1 ev1 rv1 => ?_)
  have bv1 : v1 = (g23 0).toInt := ev1
  clear ev1
  iterate 3 refine hR (?_ : R (_, _, _, _, _, _))
  refine hR (j_ne (by omega) (by omega) (fun hc2 => ?_) (fun hc2 => ?_))
  rotate_left
  · skip
    exact hR (zret_i rfl (Nat.le_refl _) rfl (h _ (by omega) (fun h => by omega)))
  iterate 2 refine hR (?_ : R (_, _, _, _, _, _))
  have lp16 : ∀ (N : Nat) (i : Int) (q23_16 : Nat → Int32), (0 ≤ i ∧ i ≤ 3) → (q23_16 = kpR g23 (1 + 3 * (g23 0).toInt.toNat) g24 i.toNat) → (3 - i < N) → R (16, [some (.ref 14), some (.int (Int32.ofInt 3)), some (.int (Int32.ofInt 40)), some (.int (Int32.ofInt v1)), some (.int (Int32.ofInt i))], [], (zMi c0 c1 c2 c3 c4 c5 c6 c7 c8 c9 c10 c11 c12 c13 f0 f9 f10 f11 f12 f13 f15 f16 f17 f20 f21 f22 f23 f26 f28 f31 f32 f33 f38 f41 f44 x14 g15 g16 g17 g18 g19 g20 g21 g22 q23_16 g24 g25 g26 g27 g28 g29 g30 g31 g32 g33 g34 g35 g36 g37 g38 g39 g40 g41 g42 g43 g44 t), 0, 0) := by
    intro N
    induction N with
    | zero => intros; omega
    | succ N ih16 =>
      intro i q23_16 hf0_16 hp0_16 hN16
      iterate 2 refine hR (?_ : R (_, _, _, _, _, _))
      refine hR (j_ge (by omega) (by omega) (fun hc3 => ?_) (fun hc3 => ?_))
      · skip
        iterate 4 refine hR (?_ : R (_, _, _, _, _, _))
        refine hR (t_ldE (by omega) (by omega) (Nat.le_of_ble_eq_true rfl) fun v4 ev4 rv4 => ?_)
        refine hR (?_ : R (_, _, _, _, _, _))
        refine hR (t_add ?_)
        refine hR (t_st (by omega) (by omega) (Nat.le_of_ble_eq_true rfl) (?_ : R (_, _, _, (zMi c0 c1 c2 c3 c4 c5 c6 c7 c8 c9 c10 c11 c12 c13 f0 f9 f10 f11 f12 f13 f15 f16 f17 f20 f21 f22 f23 f26 f28 f31 f32 f33 f38 f41 f44 x14 g15 g16 g17 g18 g19 g20 g21 g22 (upd q23_16 (0 : Int).toNat (Int32.ofInt (v4 + 1))) g24 g25 g26 g27 g28 g29 g30 g31 g32 g33 g34 g35 g36 g37 g38 g39 g40 g41 g42 g43 g44 t), _, _)))
        exact hR (zret_i rfl (Nat.le_refl _) rfl (h _ (kp_0 hp0_16 (by omega) ev4 (by omega)) (fun _ h1 h2 => kp_y hp0_16 (by omega) (by omega) (by omega) ev4 h1 h2)))
      iterate 5 refine hR (?_ : R (_, _, _, _, _, _))
      refine hR (t_mul ?_)
      refine hR (t_add ?_)
      refine hR (?_ : R (_, _, _, _, _, _))
      refine hR (t_add ?_)
      iterate 3 refine hR (?_ : R (_, _, _, _, _, _))
      refine hR (t_ldE (by omega) (by omega) (Nat.le_of_ble_eq_true rfl) fun v6 ev6 rv6 => ?_)
      refine hR (t_st (by omega) (by omega) (Nat.le_of_ble_eq_true rfl) (?_ : R (_, _, _, (zMi c0 c1 c2 c3 c4 c5 c6 c7 c8 c9 c10 c11 c12 c13 f0 f9 f10 f11 f12 f13 f15 f16 f17 f20 f21 f22 f23 f26 f28 f31 f32 f33 f38 f41 f44 x14 g15 g16 g17 g18 g19 g20 g21 g22 (upd q23_16 ((1 + (3 * v1)) + i).toNat (Int32.ofInt v6)) g24 g25 g26 g27 g28 g29 g30 g31 g32 g33 g34 g35 g36 g37 g38 g39 g40 g41 g42 g43 g44 t), _, _)))
      refine hR (t_inc ?_)
      refine hR (?_ : R (_, _, _, _, _, _))
      exact ih16 _ _ (by omega) (kpR_s hp0_16 (by omega) (by omega) (by omega) ev6) (by omega)
  exact lp16 400000000 _ _ (by omega) (kpR_0 _ _ _) (by omega)
theorem m_keep2 (d : Nat) (hr0 : 0 ≤ (g23 0).toInt ∧ (g23 0).toInt ≤ 6) (Q : zQ) (h : ∀ (k23 : Nat → Int32), (0 ≤ (k23 0).toInt ∧ (k23 0).toInt ≤ 6) → Q (none) (zMi c0 c1 c2 c3 c4 c5 c6 c7 c8 c9 c10 c11 c12 c13 f0 f9 f10 f11 f12 f13 f15 f16 f17 f20 f21 f22 f23 f26 f28 f31 f32 f33 f38 f41 f44 x14 g15 g16 g17 g18 g19 g20 g21 g22 k23 g24 g25 g26 g27 g28 g29 g30 g31 g32 g33 g34 g35 g36 g37 g38 g39 g40 g41 g42 g43 g44 t)) : zCl zTab (d + 1) iX12_keep [.ref 14, .int (Int32.ofInt 2), .int (Int32.ofInt 6)] (zMi c0 c1 c2 c3 c4 c5 c6 c7 c8 c9 c10 c11 c12 c13 f0 f9 f10 f11 f12 f13 f15 f16 f17 f20 f21 f22 f23 f26 f28 f31 f32 f33 f38 f41 f44 x14 g15 g16 g17 g18 g19 g20 g21 g22 g23 g24 g25 g26 g27 g28 g29 g30 g31 g32 g33 g34 g35 g36 g37 g38 g39 g40 g41 g42 g43 g44 t) 0 0 Q := by
  refine zCl_i (M := kX12_keep) rfl (Nat.le_of_ble_eq_true rfl) fun R hR => ?_
  iterate 3 refine hR (?_ : R (_, _, _, _, _, _))
  refine hR (t_ldE (by omega) (by omega) (Nat.le_of_ble_eq_true rfl) fun v1 ev1 rv1 => ?_)
  have bv1 : v1 = (g23 0).toInt := ev1
  clear ev1
  iterate 3 refine hR (?_ : R (_, _, _, _, _, _))
  refine hR (j_ne (by omega) (by omega) (fun hc2 => ?_) (fun hc2 => ?_))
  rotate_left
  · skip
    exact hR (zret_i rfl (Nat.le_refl _) rfl (h _ (by omega)))
  iterate 2 refine hR (?_ : R (_, _, _, _, _, _))
  have lp16 : ∀ (N : Nat) (i : Int) (q23_16 : Nat → Int32), (0 ≤ i ∧ i ≤ 2) → (q23_16 = kpR g23 (1 + 2 * (g23 0).toInt.toNat) g24 i.toNat) → (2 - i < N) → R (16, [some (.ref 14), some (.int (Int32.ofInt 2)), some (.int (Int32.ofInt 6)), some (.int (Int32.ofInt v1)), some (.int (Int32.ofInt i))], [], (zMi c0 c1 c2 c3 c4 c5 c6 c7 c8 c9 c10 c11 c12 c13 f0 f9 f10 f11 f12 f13 f15 f16 f17 f20 f21 f22 f23 f26 f28 f31 f32 f33 f38 f41 f44 x14 g15 g16 g17 g18 g19 g20 g21 g22 q23_16 g24 g25 g26 g27 g28 g29 g30 g31 g32 g33 g34 g35 g36 g37 g38 g39 g40 g41 g42 g43 g44 t), 0, 0) := by
    intro N
    induction N with
    | zero => intros; omega
    | succ N ih16 =>
      intro i q23_16 hf0_16 hp0_16 hN16
      iterate 2 refine hR (?_ : R (_, _, _, _, _, _))
      refine hR (j_ge (by omega) (by omega) (fun hc3 => ?_) (fun hc3 => ?_))
      · skip
        iterate 4 refine hR (?_ : R (_, _, _, _, _, _))
        refine hR (t_ldE (by omega) (by omega) (Nat.le_of_ble_eq_true rfl) fun v4 ev4 rv4 => ?_)
        refine hR (?_ : R (_, _, _, _, _, _))
        refine hR (t_add ?_)
        refine hR (t_st (by omega) (by omega) (Nat.le_of_ble_eq_true rfl) (?_ : R (_, _, _, (zMi c0 c1 c2 c3 c4 c5 c6 c7 c8 c9 c10 c11 c12 c13 f0 f9 f10 f11 f12 f13 f15 f16 f17 f20 f21 f22 f23 f26 f28 f31 f32 f33 f38 f41 f44 x14 g15 g16 g17 g18 g19 g20 g21 g22 (upd q23_16 (0 : Int).toNat (Int32.ofInt (v4 + 1))) g24 g25 g26 g27 g28 g29 g30 g31 g32 g33 g34 g35 g36 g37 g38 g39 g40 g41 g42 g43 g44 t), _, _)))
        exact hR (zret_i rfl (Nat.le_refl _) rfl (h _ (kp_0 hp0_16 (by omega) ev4 (by omega))))
      iterate 5 refine hR (?_ : R (_, _, _, _, _, _))
      refine hR (t_mul ?_)
      refine hR (t_add ?_)
      refine hR (?_ : R (_, _, _, _, _, _))
      refine hR (t_add ?_)
      iterate 3 refine hR (?_ : R (_, _, _, _, _, _))
      refine hR (t_ldE (by omega) (by omega) (Nat.le_of_ble_eq_true rfl) fun v6 ev6 rv6 => ?_)
      refine hR (t_st (by omega) (by omega) (Nat.le_of_ble_eq_true rfl) (?_ : R (_, _, _, (zMi c0 c1 c2 c3 c4 c5 c6 c7 c8 c9 c10 c11 c12 c13 f0 f9 f10 f11 f12 f13 f15 f16 f17 f20 f21 f22 f23 f26 f28 f31 f32 f33 f38 f41 f44 x14 g15 g16 g17 g18 g19 g20 g21 g22 (upd q23_16 ((1 + (2 * v1)) + i).toNat (Int32.ofInt v6)) g24 g25 g26 g27 g28 g29 g30 g31 g32 g33 g34 g35 g36 g37 g38 g39 g40 g41 g42 g43 g44 t), _, _)))
      refine hR (t_inc ?_)
      refine hR (?_ : R (_, _, _, _, _, _))
      exact ih16 _ _ (by omega) (kpR_s hp0_16 (by omega) (by omega) (by omega) ev6) (by omega)
  exact lp16 400000000 _ _ (by omega) (kpR_0 _ _ _) (by omega)
theorem m_yearLine (d : Nat) (a2 : Int) (lw : Int64) (hr0 : 0 ≤ f9 ∧ f9 ≤ f10 ∧ f10 ≤ 600) (hr1 : 0 ≤ f12 ∧ f12 ≤ 4 ∧ (f12 = 3 → 0 ≤ f13 ∧ f13 ≤ 99)) (hr2 : 0 ≤ f16 ∧ f16 ≤ 4) (hr3 : 0 ≤ (g23 0).toInt ∧ (g23 0).toInt ≤ 40) (hr4 : f16 = 0 → yrR g23) (Q : zQ) (h : ∀ (v : Int) (y9 : Int) (y11 : Int) (y12 : Int) (y13 : Int) (y14 : Int64) (y15 : Int) (y16 : Int) (y17 : Int) (k23 : Nat → Int32) (k24 : Nat → Int32), (f9 ≤ y9 ∧ y9 ≤ f10) → (0 ≤ y12 ∧ y12 ≤ 4 ∧ (y12 = 3 → 0 ≤ y13 ∧ y13 ≤ 99)) → (0 ≤ y16 ∧ y16 ≤ 4) → (v = 0 ∨ v = 1) → (v = 1 → y12 = 0 ∨ f9 < y9) → (v = 1 → (0 ≤ (k23 0).toInt ∧ (k23 0).toInt ≤ 40) ∧ (y16 = 0 → yrR k23)) → Q (some (.int (Int32.ofInt v))) (zMi c0 c1 c2 c3 c4 c5 c6 c7 c8 c9 c10 c11 c12 c13 f0 y9 f10 y11 y12 y13 y15 y16 y17 f20 f21 f22 f23 f26 f28 f31 f32 f33 f38 f41 f44 y14 g15 g16 g17 g18 g19 g20 g21 g22 k23 k24 g25 g26 g27 g28 g29 g30 g31 g32 g33 g34 g35 g36 g37 g38 g39 g40 g41 g42 g43 g44 t)) : zCl zTab (d + 5) iX12_yearLine [.ref 14, .long lw, .int (Int32.ofInt a2)] (zMi c0 c1 c2 c3 c4 c5 c6 c7 c8 c9 c10 c11 c12 c13 f0 f9 f10 f11 f12 f13 f15 f16 f17 f20 f21 f22 f23 f26 f28 f31 f32 f33 f38 f41 f44 x14 g15 g16 g17 g18 g19 g20 g21 g22 g23 g24 g25 g26 g27 g28 g29 g30 g31 g32 g33 g34 g35 g36 g37 g38 g39 g40 g41 g42 g43 g44 t) 0 0 Q := by
  refine zCl_i (M := kX12_yearLine) rfl (Nat.le_of_ble_eq_true rfl) fun R hR => ?_
  refine hR (?_ : R (_, _, _, _, _, _))
  refine hR (zcall_i 0 0 (Nat.le_of_ble_eq_true rfl) (Nat.le_of_ble_eq_true rfl) (m_deedBy _ _ _ _ fun v1 hp2 => ?_))
  refine (?_ : R (_, _, (.int (Int32.ofInt v1)) :: [], (zMi c0 c1 c2 c3 c4 c5 c6 c7 c8 c9 c10 c11 c12 c13 f0 f9 f10 f11 f12 f13 f15 f16 f17 f20 f21 f22 f23 f26 f28 f31 f32 f33 f38 f41 f44 x14 g15 g16 g17 g18 g19 g20 g21 g22 g23 g24 g25 g26 g27 g28 g29 g30 g31 g32 g33 g34 g35 g36 g37 g38 g39 g40 g41 g42 g43 g44 t), 0, 0))
  iterate 3 refine hR (?_ : R (_, _, _, _, _, _))
  refine hR (j_ne (by omega) (by omega) (fun hc3 => ?_) (fun hc3 => ?_))
  rotate_left
  · skip
    refine hR (?_ : R (_, _, _, _, _, _))
    refine hR (zcall_i 0 0 (Nat.le_of_ble_eq_true rfl) (Nat.le_of_ble_eq_true rfl) (m_fails _ _ fun v181 y15_182 hp183 => ?_))
    refine (?_ : R (_, _, (.int (Int32.ofInt v181)) :: [], (zMi c0 c1 c2 c3 c4 c5 c6 c7 c8 c9 c10 c11 c12 c13 f0 f9 f10 f11 f12 f13 y15_182 f16 f17 f20 f21 f22 f23 f26 f28 f31 f32 f33 f38 f41 f44 x14 g15 g16 g17 g18 g19 g20 g21 g22 g23 g24 g25 g26 g27 g28 g29 g30 g31 g32 g33 g34 g35 g36 g37 g38 g39 g40 g41 g42 g43 g44 t), 0, 0))
    exact hR (zret_i rfl (Nat.le_refl _) (zbo (by omega)) (h _ _ _ _ _ _ _ _ _ _ _ (by omega) (by omega) (by omega) (by omega) (by omega) (fun h => by omega)))
  iterate 2 refine hR (?_ : R (_, _, _, _, _, _))
  refine hR (t_c 40 (by decide) ?_)
  refine hR (?_ : R (_, _, _, _, _, _))
  refine hR (zcall_i 0 0 (Nat.le_of_ble_eq_true rfl) (Nat.le_of_ble_eq_true rfl) (m_full0 _ 40 a2 (by omega) (by omega) _ fun y16_4 y17_5 hp6 hp7 => ?_))
  refine (?_ : R (_, _, [], (zMi c0 c1 c2 c3 c4 c5 c6 c7 c8 c9 c10 c11 c12 c13 f0 f9 f10 f11 f12 f13 f15 y16_4 y17_5 f20 f21 f22 f23 f26 f28 f31 f32 f33 f38 f41 f44 x14 g15 g16 g17 g18 g19 g20 g21 g22 g23 g24 g25 g26 g27 g28 g29 g30 g31 g32 g33 g34 g35 g36 g37 g38 g39 g40 g41 g42 g43 g44 t), 0, 0))
  refine hR (?_ : R (_, _, _, _, _, _))
  refine hR (zcall_i 0 0 (Nat.le_of_ble_eq_true rfl) (Nat.le_of_ble_eq_true rfl) (m_token _ (by omega) _ fun y9_8 y11_9 y12_10 y13_11 y14_12 hp13 hp14 hp15 hp16 => ?_))
  refine (?_ : R (_, _, [], (zMi c0 c1 c2 c3 c4 c5 c6 c7 c8 c9 c10 c11 c12 c13 f0 y9_8 f10 y11_9 y12_10 y13_11 f15 y16_4 y17_5 f20 f21 f22 f23 f26 f28 f31 f32 f33 f38 f41 f44 y14_12 g15 g16 g17 g18 g19 g20 g21 g22 g23 g24 g25 g26 g27 g28 g29 g30 g31 g32 g33 g34 g35 g36 g37 g38 g39 g40 g41 g42 g43 g44 t), 0, 0))
  iterate 4 refine hR (?_ : R (_, _, _, _, _, _))
  refine hR (t_stV 1 rfl (by omega) (by omega) (by omega) (by omega) (Nat.le_of_ble_eq_true rfl) fun k24_17 hvk24_17 hwk24_17 => (?_ : R (_, _, _, (zMi c0 c1 c2 c3 c4 c5 c6 c7 c8 c9 c10 c11 c12 c13 f0 y9_8 f10 y11_9 y12_10 y13_11 f15 y16_4 y17_5 f20 f21 f22 f23 f26 f28 f31 f32 f33 f38 f41 f44 y14_12 g15 g16 g17 g18 g19 g20 g21 g22 g23 k24_17 g25 g26 g27 g28 g29 g30 g31 g32 g33 g34 g35 g36 g37 g38 g39 g40 g41 g42 g43 g44 t), _, _)))
  have hxk24_17_0 : (k24_17 0).toInt = (g24 0).toInt := by rw [hwk24_17 0 (by decide)]
  have hxk24_17_2 : (k24_17 2).toInt = (g24 2).toInt := by rw [hwk24_17 2 (by decide)]
  iterate 4 refine hR (?_ : R (_, _, _, _, _, _))
  refine hR (t_stV 2 rfl (by omega) (by omega) (by omega) (by omega) (Nat.le_of_ble_eq_true rfl) fun k24_18 hvk24_18 hwk24_18 => (?_ : R (_, _, _, (zMi c0 c1 c2 c3 c4 c5 c6 c7 c8 c9 c10 c11 c12 c13 f0 y9_8 f10 y11_9 y12_10 y13_11 f15 y16_4 y17_5 f20 f21 f22 f23 f26 f28 f31 f32 f33 f38 f41 f44 y14_12 g15 g16 g17 g18 g19 g20 g21 g22 g23 k24_18 g25 g26 g27 g28 g29 g30 g31 g32 g33 g34 g35 g36 g37 g38 g39 g40 g41 g42 g43 g44 t), _, _)))
  have hxk24_18_0 : (k24_18 0).toInt = (k24_17 0).toInt := by rw [hwk24_18 0 (by decide)]
  have hxk24_18_1 : (k24_18 1).toInt = (k24_17 1).toInt := by rw [hwk24_18 1 (by decide)]
  iterate 2 refine hR (?_ : R (_, _, _, _, _, _))
  refine hR (j_eq (by omega) (by omega) (fun hc19 => ?_) (fun hc19 => ?_))
  · skip
    refine hR (?_ : R (_, _, _, _, _, _))
    refine hR (k_ne (by omega) (fun hc20 => ?_) (fun hc20 => ?_))
    · skip
      iterate 2 refine hR (?_ : R (_, _, _, _, _, _))
      refine hR (j_ne (by omega) (by omega) (fun hc21 => ?_) (fun hc21 => ?_))
      · skip
        iterate 4 refine hR (?_ : R (_, _, _, _, _, _))
        refine hR (t_stV 0 rfl (by omega) (by omega) (by omega) (by omega) (Nat.le_of_ble_eq_true rfl) fun k24_22 hvk24_22 hwk24_22 => (?_ : R (_, _, _, (zMi c0 c1 c2 c3 c4 c5 c6 c7 c8 c9 c10 c11 c12 c13 f0 y9_8 f10 y11_9 y12_10 y13_11 f15 y16_4 y17_5 f20 f21 f22 f23 f26 f28 f31 f32 f33 f38 f41 f44 y14_12 g15 g16 g17 g18 g19 g20 g21 g22 g23 k24_22 g25 g26 g27 g28 g29 g30 g31 g32 g33 g34 g35 g36 g37 g38 g39 g40 g41 g42 g43 g44 t), _, _)))
        have hxk24_22_1 : (k24_22 1).toInt = (k24_18 1).toInt := by rw [hwk24_22 1 (by decide)]
        have hxk24_22_2 : (k24_22 2).toInt = (k24_18 2).toInt := by rw [hwk24_22 2 (by decide)]
        iterate 2 refine hR (?_ : R (_, _, _, _, _, _))
        refine hR (t_c 40 (by decide) ?_)
        refine hR (zcall_i 0 0 (Nat.le_of_ble_eq_true rfl) (Nat.le_of_ble_eq_true rfl) (m_keep3 _ (by omega) _ fun k23_23 hp24 hp25 => ?_))
        refine (?_ : R (_, _, [], (zMi c0 c1 c2 c3 c4 c5 c6 c7 c8 c9 c10 c11 c12 c13 f0 y9_8 f10 y11_9 y12_10 y13_11 f15 y16_4 y17_5 f20 f21 f22 f23 f26 f28 f31 f32 f33 f38 f41 f44 y14_12 g15 g16 g17 g18 g19 g20 g21 g22 k23_23 k24_22 g25 g26 g27 g28 g29 g30 g31 g32 g33 g34 g35 g36 g37 g38 g39 g40 g41 g42 g43 g44 t), 0, 0))
        refine hR (?_ : R (_, _, _, _, _, _))
        exact hR (zret_i rfl (Nat.le_refl _) (zbo (by omega)) (h _ _ _ _ _ _ _ _ _ _ _ (by omega) (by omega) (by omega) (by omega) (by omega) (fun _ => ⟨by omega, fun hz => hp25 (by omega) (yl_r (by omega) (by omega) (by omega) (by omega) (by omega)) (hr4 (by omega))⟩)))
      iterate 7 refine hR (?_ : R (_, _, _, _, _, _))
      refine hR (t_ldE (by omega) (by omega) (Nat.le_of_ble_eq_true rfl) fun v26 ev26 rv26 => ?_)
      have bv26 : v26 = (k24_18 1).toInt := ev26
      clear ev26
      refine hR (zcall_i 0 0 (Nat.le_of_ble_eq_true rfl) (Nat.le_of_ble_eq_true rfl) (m_takeBut2 _ 0 3 v26 (by omega) (by omega) (by omega) (by omega) (by omega) (by omega) _ fun v27 y9_28 y11_29 y12_30 y13_31 y14_32 y15_33 y16_34 y17_35 k24_36 hp37 hp38 hp39 hp40 hp41 hp42 => ?_))
      refine (?_ : R (_, _, (.int (Int32.ofInt v27)) :: [], (zMi c0 c1 c2 c3 c4 c5 c6 c7 c8 c9 c10 c11 c12 c13 f0 y9_28 f10 y11_29 y12_30 y13_31 y15_33 y16_34 y17_35 f20 f21 f22 f23 f26 f28 f31 f32 f33 f38 f41 f44 y14_32 g15 g16 g17 g18 g19 g20 g21 g22 g23 k24_36 g25 g26 g27 g28 g29 g30 g31 g32 g33 g34 g35 g36 g37 g38 g39 g40 g41 g42 g43 g44 t), 0, 0))
      refine hR (k_ne (by omega) (fun hc43 => ?_) (fun hc43 => ?_))
      rotate_left
      · skip
        refine hR (?_ : R (_, _, _, _, _, _))
        exact hR (zret_i rfl (Nat.le_refl _) (zbo (by omega)) (h _ _ _ _ _ _ _ _ _ _ _ (by omega) (by omega) (by omega) (by omega) (by omega) (fun h => by omega)))
      iterate 4 refine hR (?_ : R (_, _, _, _, _, _))
      refine hR (t_stV 0 rfl (by omega) (by omega) (by omega) (by omega) (Nat.le_of_ble_eq_true rfl) fun k24_44 hvk24_44 hwk24_44 => (?_ : R (_, _, _, (zMi c0 c1 c2 c3 c4 c5 c6 c7 c8 c9 c10 c11 c12 c13 f0 y9_28 f10 y11_29 y12_30 y13_31 y15_33 y16_34 y17_35 f20 f21 f22 f23 f26 f28 f31 f32 f33 f38 f41 f44 y14_32 g15 g16 g17 g18 g19 g20 g21 g22 g23 k24_44 g25 g26 g27 g28 g29 g30 g31 g32 g33 g34 g35 g36 g37 g38 g39 g40 g41 g42 g43 g44 t), _, _)))
      have hxk24_44_1 : (k24_44 1).toInt = (k24_36 1).toInt := by rw [hwk24_44 1 (by decide)]
      have hxk24_44_2 : (k24_44 2).toInt = (k24_36 2).toInt := by rw [hwk24_44 2 (by decide)]
      iterate 2 refine hR (?_ : R (_, _, _, _, _, _))
      refine hR (t_c 40 (by decide) ?_)
      refine hR (zcall_i 0 0 (Nat.le_of_ble_eq_true rfl) (Nat.le_of_ble_eq_true rfl) (m_keep3 _ (by omega) _ fun k23_45 hp46 hp47 => ?_))
      refine (?_ : R (_, _, [], (zMi c0 c1 c2 c3 c4 c5 c6 c7 c8 c9 c10 c11 c12 c13 f0 y9_28 f10 y11_29 y12_30 y13_31 y15_33 y16_34 y17_35 f20 f21 f22 f23 f26 f28 f31 f32 f33 f38 f41 f44 y14_32 g15 g16 g17 g18 g19 g20 g21 g22 k23_45 k24_44 g25 g26 g27 g28 g29 g30 g31 g32 g33 g34 g35 g36 g37 g38 g39 g40 g41 g42 g43 g44 t), 0, 0))
      refine hR (?_ : R (_, _, _, _, _, _))
      exact hR (zret_i rfl (Nat.le_refl _) (zbo (by omega)) (h _ _ _ _ _ _ _ _ _ _ _ (by omega) (by omega) (by omega) (by omega) (by omega) (fun _ => ⟨by omega, fun hz => hp47 (by omega) (yl_r (by omega) (by omega) (by omega) (by omega) (by omega)) (hr4 (by omega))⟩)))
    iterate 4 refine hR (?_ : R (_, _, _, _, _, _))
    refine hR (zcall_i 0 0 (Nat.le_of_ble_eq_true rfl) (Nat.le_of_ble_eq_true rfl) (m_take2 _ 0 4 (by omega) (by omega) (by omega) (by omega) (by omega) _ fun v48 y9_49 y11_50 y12_51 y13_52 y14_53 y15_54 y16_55 y17_56 k24_57 hp58 hp59 hp60 hp61 hp62 hp63 => ?_))
    refine (?_ : R (_, _, (.int (Int32.ofInt v48)) :: [], (zMi c0 c1 c2 c3 c4 c5 c6 c7 c8 c9 c10 c11 c12 c13 f0 y9_49 f10 y11_50 y12_51 y13_52 y15_54 y16_55 y17_56 f20 f21 f22 f23 f26 f28 f31 f32 f33 f38 f41 f44 y14_53 g15 g16 g17 g18 g19 g20 g21 g22 g23 k24_57 g25 g26 g27 g28 g29 g30 g31 g32 g33 g34 g35 g36 g37 g38 g39 g40 g41 g42 g43 g44 t), 0, 0))
    refine hR (k_eq (by omega) (fun hc64 => ?_) (fun hc64 => ?_))
    · skip
      refine hR (?_ : R (_, _, _, _, _, _))
      exact hR (zret_i rfl (Nat.le_refl _) (zbo (by omega)) (h _ _ _ _ _ _ _ _ _ _ _ (by omega) (by omega) (by omega) (by omega) (by omega) (fun h => by omega)))
    iterate 2 refine hR (?_ : R (_, _, _, _, _, _))
    refine hR (j_ne (by omega) (by omega) (fun hc65 => ?_) (fun hc65 => ?_))
    · skip
      iterate 4 refine hR (?_ : R (_, _, _, _, _, _))
      refine hR (t_stV 0 rfl (by omega) (by omega) (by omega) (by omega) (Nat.le_of_ble_eq_true rfl) fun k24_66 hvk24_66 hwk24_66 => (?_ : R (_, _, _, (zMi c0 c1 c2 c3 c4 c5 c6 c7 c8 c9 c10 c11 c12 c13 f0 y9_49 f10 y11_50 y12_51 y13_52 y15_54 y16_55 y17_56 f20 f21 f22 f23 f26 f28 f31 f32 f33 f38 f41 f44 y14_53 g15 g16 g17 g18 g19 g20 g21 g22 g23 k24_66 g25 g26 g27 g28 g29 g30 g31 g32 g33 g34 g35 g36 g37 g38 g39 g40 g41 g42 g43 g44 t), _, _)))
      have hxk24_66_1 : (k24_66 1).toInt = (k24_57 1).toInt := by rw [hwk24_66 1 (by decide)]
      have hxk24_66_2 : (k24_66 2).toInt = (k24_57 2).toInt := by rw [hwk24_66 2 (by decide)]
      iterate 2 refine hR (?_ : R (_, _, _, _, _, _))
      refine hR (t_c 40 (by decide) ?_)
      refine hR (zcall_i 0 0 (Nat.le_of_ble_eq_true rfl) (Nat.le_of_ble_eq_true rfl) (m_keep3 _ (by omega) _ fun k23_67 hp68 hp69 => ?_))
      refine (?_ : R (_, _, [], (zMi c0 c1 c2 c3 c4 c5 c6 c7 c8 c9 c10 c11 c12 c13 f0 y9_49 f10 y11_50 y12_51 y13_52 y15_54 y16_55 y17_56 f20 f21 f22 f23 f26 f28 f31 f32 f33 f38 f41 f44 y14_53 g15 g16 g17 g18 g19 g20 g21 g22 k23_67 k24_66 g25 g26 g27 g28 g29 g30 g31 g32 g33 g34 g35 g36 g37 g38 g39 g40 g41 g42 g43 g44 t), 0, 0))
      refine hR (?_ : R (_, _, _, _, _, _))
      exact hR (zret_i rfl (Nat.le_refl _) (zbo (by omega)) (h _ _ _ _ _ _ _ _ _ _ _ (by omega) (by omega) (by omega) (by omega) (by omega) (fun _ => ⟨by omega, fun hz => hp69 (by omega) (yl_r (by omega) (by omega) (by omega) (by omega) (by omega)) (hr4 (by omega))⟩)))
    iterate 7 refine hR (?_ : R (_, _, _, _, _, _))
    refine hR (t_ldE (by omega) (by omega) (Nat.le_of_ble_eq_true rfl) fun v70 ev70 rv70 => ?_)
    have bv70 : v70 = (k24_57 1).toInt := ev70
    clear ev70
    refine hR (zcall_i 0 0 (Nat.le_of_ble_eq_true rfl) (Nat.le_of_ble_eq_true rfl) (m_takeBut2 _ 0 3 v70 (by omega) (by omega) (by omega) (by omega) (by omega) (by omega) _ fun v71 y9_72 y11_73 y12_74 y13_75 y14_76 y15_77 y16_78 y17_79 k24_80 hp81 hp82 hp83 hp84 hp85 hp86 => ?_))
    refine (?_ : R (_, _, (.int (Int32.ofInt v71)) :: [], (zMi c0 c1 c2 c3 c4 c5 c6 c7 c8 c9 c10 c11 c12 c13 f0 y9_72 f10 y11_73 y12_74 y13_75 y15_77 y16_78 y17_79 f20 f21 f22 f23 f26 f28 f31 f32 f33 f38 f41 f44 y14_76 g15 g16 g17 g18 g19 g20 g21 g22 g23 k24_80 g25 g26 g27 g28 g29 g30 g31 g32 g33 g34 g35 g36 g37 g38 g39 g40 g41 g42 g43 g44 t), 0, 0))
    refine hR (k_ne (by omega) (fun hc87 => ?_) (fun hc87 => ?_))
    rotate_left
    · skip
      refine hR (?_ : R (_, _, _, _, _, _))
      exact hR (zret_i rfl (Nat.le_refl _) (zbo (by omega)) (h _ _ _ _ _ _ _ _ _ _ _ (by omega) (by omega) (by omega) (by omega) (by omega) (fun h => by omega)))
    iterate 4 refine hR (?_ : R (_, _, _, _, _, _))
    refine hR (t_stV 0 rfl (by omega) (by omega) (by omega) (by omega) (Nat.le_of_ble_eq_true rfl) fun k24_88 hvk24_88 hwk24_88 => (?_ : R (_, _, _, (zMi c0 c1 c2 c3 c4 c5 c6 c7 c8 c9 c10 c11 c12 c13 f0 y9_72 f10 y11_73 y12_74 y13_75 y15_77 y16_78 y17_79 f20 f21 f22 f23 f26 f28 f31 f32 f33 f38 f41 f44 y14_76 g15 g16 g17 g18 g19 g20 g21 g22 g23 k24_88 g25 g26 g27 g28 g29 g30 g31 g32 g33 g34 g35 g36 g37 g38 g39 g40 g41 g42 g43 g44 t), _, _)))
    have hxk24_88_1 : (k24_88 1).toInt = (k24_80 1).toInt := by rw [hwk24_88 1 (by decide)]
    have hxk24_88_2 : (k24_88 2).toInt = (k24_80 2).toInt := by rw [hwk24_88 2 (by decide)]
    iterate 2 refine hR (?_ : R (_, _, _, _, _, _))
    refine hR (t_c 40 (by decide) ?_)
    refine hR (zcall_i 0 0 (Nat.le_of_ble_eq_true rfl) (Nat.le_of_ble_eq_true rfl) (m_keep3 _ (by omega) _ fun k23_89 hp90 hp91 => ?_))
    refine (?_ : R (_, _, [], (zMi c0 c1 c2 c3 c4 c5 c6 c7 c8 c9 c10 c11 c12 c13 f0 y9_72 f10 y11_73 y12_74 y13_75 y15_77 y16_78 y17_79 f20 f21 f22 f23 f26 f28 f31 f32 f33 f38 f41 f44 y14_76 g15 g16 g17 g18 g19 g20 g21 g22 k23_89 k24_88 g25 g26 g27 g28 g29 g30 g31 g32 g33 g34 g35 g36 g37 g38 g39 g40 g41 g42 g43 g44 t), 0, 0))
    refine hR (?_ : R (_, _, _, _, _, _))
    exact hR (zret_i rfl (Nat.le_refl _) (zbo (by omega)) (h _ _ _ _ _ _ _ _ _ _ _ (by omega) (by omega) (by omega) (by omega) (by omega) (fun _ => ⟨by omega, fun hz => hp91 (by omega) (yl_r (by omega) (by omega) (by omega) (by omega) (by omega)) (hr4 (by omega))⟩)))
  iterate 4 refine hR (?_ : R (_, _, _, _, _, _))
  refine hR (zcall_i 0 0 (Nat.le_of_ble_eq_true rfl) (Nat.le_of_ble_eq_true rfl) (m_take1 _ 0 3 (by omega) (by omega) (by omega) (by omega) (by omega) _ fun v92 y9_93 y11_94 y12_95 y13_96 y14_97 y15_98 y16_99 y17_100 k24_101 hp102 hp103 hp104 hp105 hp106 hp107 => ?_))
  refine (?_ : R (_, _, (.int (Int32.ofInt v92)) :: [], (zMi c0 c1 c2 c3 c4 c5 c6 c7 c8 c9 c10 c11 c12 c13 f0 y9_93 f10 y11_94 y12_95 y13_96 y15_98 y16_99 y17_100 f20 f21 f22 f23 f26 f28 f31 f32 f33 f38 f41 f44 y14_97 g15 g16 g17 g18 g19 g20 g21 g22 g23 k24_101 g25 g26 g27 g28 g29 g30 g31 g32 g33 g34 g35 g36 g37 g38 g39 g40 g41 g42 g43 g44 t), 0, 0))
  refine hR (k_eq (by omega) (fun hc108 => ?_) (fun hc108 => ?_))
  · skip
    refine hR (?_ : R (_, _, _, _, _, _))
    exact hR (zret_i rfl (Nat.le_refl _) (zbo (by omega)) (h _ _ _ _ _ _ _ _ _ _ _ (by omega) (by omega) (by omega) (by omega) (by omega) (fun h => by omega)))
  refine hR (?_ : R (_, _, _, _, _, _))
  refine hR (k_ne (by omega) (fun hc109 => ?_) (fun hc109 => ?_))
  · skip
    iterate 2 refine hR (?_ : R (_, _, _, _, _, _))
    refine hR (j_ne (by omega) (by omega) (fun hc110 => ?_) (fun hc110 => ?_))
    · skip
      iterate 4 refine hR (?_ : R (_, _, _, _, _, _))
      refine hR (t_stV 0 rfl (by omega) (by omega) (by omega) (by omega) (Nat.le_of_ble_eq_true rfl) fun k24_111 hvk24_111 hwk24_111 => (?_ : R (_, _, _, (zMi c0 c1 c2 c3 c4 c5 c6 c7 c8 c9 c10 c11 c12 c13 f0 y9_93 f10 y11_94 y12_95 y13_96 y15_98 y16_99 y17_100 f20 f21 f22 f23 f26 f28 f31 f32 f33 f38 f41 f44 y14_97 g15 g16 g17 g18 g19 g20 g21 g22 g23 k24_111 g25 g26 g27 g28 g29 g30 g31 g32 g33 g34 g35 g36 g37 g38 g39 g40 g41 g42 g43 g44 t), _, _)))
      have hxk24_111_1 : (k24_111 1).toInt = (k24_101 1).toInt := by rw [hwk24_111 1 (by decide)]
      have hxk24_111_2 : (k24_111 2).toInt = (k24_101 2).toInt := by rw [hwk24_111 2 (by decide)]
      iterate 2 refine hR (?_ : R (_, _, _, _, _, _))
      refine hR (t_c 40 (by decide) ?_)
      refine hR (zcall_i 0 0 (Nat.le_of_ble_eq_true rfl) (Nat.le_of_ble_eq_true rfl) (m_keep3 _ (by omega) _ fun k23_112 hp113 hp114 => ?_))
      refine (?_ : R (_, _, [], (zMi c0 c1 c2 c3 c4 c5 c6 c7 c8 c9 c10 c11 c12 c13 f0 y9_93 f10 y11_94 y12_95 y13_96 y15_98 y16_99 y17_100 f20 f21 f22 f23 f26 f28 f31 f32 f33 f38 f41 f44 y14_97 g15 g16 g17 g18 g19 g20 g21 g22 k23_112 k24_111 g25 g26 g27 g28 g29 g30 g31 g32 g33 g34 g35 g36 g37 g38 g39 g40 g41 g42 g43 g44 t), 0, 0))
      refine hR (?_ : R (_, _, _, _, _, _))
      exact hR (zret_i rfl (Nat.le_refl _) (zbo (by omega)) (h _ _ _ _ _ _ _ _ _ _ _ (by omega) (by omega) (by omega) (by omega) (by omega) (fun _ => ⟨by omega, fun hz => hp114 (by omega) (yl_r (by omega) (by omega) (by omega) (by omega) (by omega)) (hr4 (by omega))⟩)))
    iterate 7 refine hR (?_ : R (_, _, _, _, _, _))
    refine hR (t_ldE (by omega) (by omega) (Nat.le_of_ble_eq_true rfl) fun v115 ev115 rv115 => ?_)
    have bv115 : v115 = (k24_101 1).toInt := ev115
    clear ev115
    refine hR (zcall_i 0 0 (Nat.le_of_ble_eq_true rfl) (Nat.le_of_ble_eq_true rfl) (m_takeBut2 _ 0 3 v115 (by omega) (by omega) (by omega) (by omega) (by omega) (by omega) _ fun v116 y9_117 y11_118 y12_119 y13_120 y14_121 y15_122 y16_123 y17_124 k24_125 hp126 hp127 hp128 hp129 hp130 hp131 => ?_))
    refine (?_ : R (_, _, (.int (Int32.ofInt v116)) :: [], (zMi c0 c1 c2 c3 c4 c5 c6 c7 c8 c9 c10 c11 c12 c13 f0 y9_117 f10 y11_118 y12_119 y13_120 y15_122 y16_123 y17_124 f20 f21 f22 f23 f26 f28 f31 f32 f33 f38 f41 f44 y14_121 g15 g16 g17 g18 g19 g20 g21 g22 g23 k24_125 g25 g26 g27 g28 g29 g30 g31 g32 g33 g34 g35 g36 g37 g38 g39 g40 g41 g42 g43 g44 t), 0, 0))
    refine hR (k_ne (by omega) (fun hc132 => ?_) (fun hc132 => ?_))
    rotate_left
    · skip
      refine hR (?_ : R (_, _, _, _, _, _))
      exact hR (zret_i rfl (Nat.le_refl _) (zbo (by omega)) (h _ _ _ _ _ _ _ _ _ _ _ (by omega) (by omega) (by omega) (by omega) (by omega) (fun h => by omega)))
    iterate 4 refine hR (?_ : R (_, _, _, _, _, _))
    refine hR (t_stV 0 rfl (by omega) (by omega) (by omega) (by omega) (Nat.le_of_ble_eq_true rfl) fun k24_133 hvk24_133 hwk24_133 => (?_ : R (_, _, _, (zMi c0 c1 c2 c3 c4 c5 c6 c7 c8 c9 c10 c11 c12 c13 f0 y9_117 f10 y11_118 y12_119 y13_120 y15_122 y16_123 y17_124 f20 f21 f22 f23 f26 f28 f31 f32 f33 f38 f41 f44 y14_121 g15 g16 g17 g18 g19 g20 g21 g22 g23 k24_133 g25 g26 g27 g28 g29 g30 g31 g32 g33 g34 g35 g36 g37 g38 g39 g40 g41 g42 g43 g44 t), _, _)))
    have hxk24_133_1 : (k24_133 1).toInt = (k24_125 1).toInt := by rw [hwk24_133 1 (by decide)]
    have hxk24_133_2 : (k24_133 2).toInt = (k24_125 2).toInt := by rw [hwk24_133 2 (by decide)]
    iterate 2 refine hR (?_ : R (_, _, _, _, _, _))
    refine hR (t_c 40 (by decide) ?_)
    refine hR (zcall_i 0 0 (Nat.le_of_ble_eq_true rfl) (Nat.le_of_ble_eq_true rfl) (m_keep3 _ (by omega) _ fun k23_134 hp135 hp136 => ?_))
    refine (?_ : R (_, _, [], (zMi c0 c1 c2 c3 c4 c5 c6 c7 c8 c9 c10 c11 c12 c13 f0 y9_117 f10 y11_118 y12_119 y13_120 y15_122 y16_123 y17_124 f20 f21 f22 f23 f26 f28 f31 f32 f33 f38 f41 f44 y14_121 g15 g16 g17 g18 g19 g20 g21 g22 k23_134 k24_133 g25 g26 g27 g28 g29 g30 g31 g32 g33 g34 g35 g36 g37 g38 g39 g40 g41 g42 g43 g44 t), 0, 0))
    refine hR (?_ : R (_, _, _, _, _, _))
    exact hR (zret_i rfl (Nat.le_refl _) (zbo (by omega)) (h _ _ _ _ _ _ _ _ _ _ _ (by omega) (by omega) (by omega) (by omega) (by omega) (fun _ => ⟨by omega, fun hz => hp136 (by omega) (yl_r (by omega) (by omega) (by omega) (by omega) (by omega)) (hr4 (by omega))⟩)))
  iterate 4 refine hR (?_ : R (_, _, _, _, _, _))
  refine hR (zcall_i 0 0 (Nat.le_of_ble_eq_true rfl) (Nat.le_of_ble_eq_true rfl) (m_take2 _ 0 4 (by omega) (by omega) (by omega) (by omega) (by omega) _ fun v137 y9_138 y11_139 y12_140 y13_141 y14_142 y15_143 y16_144 y17_145 k24_146 hp147 hp148 hp149 hp150 hp151 hp152 => ?_))
  refine (?_ : R (_, _, (.int (Int32.ofInt v137)) :: [], (zMi c0 c1 c2 c3 c4 c5 c6 c7 c8 c9 c10 c11 c12 c13 f0 y9_138 f10 y11_139 y12_140 y13_141 y15_143 y16_144 y17_145 f20 f21 f22 f23 f26 f28 f31 f32 f33 f38 f41 f44 y14_142 g15 g16 g17 g18 g19 g20 g21 g22 g23 k24_146 g25 g26 g27 g28 g29 g30 g31 g32 g33 g34 g35 g36 g37 g38 g39 g40 g41 g42 g43 g44 t), 0, 0))
  refine hR (k_eq (by omega) (fun hc153 => ?_) (fun hc153 => ?_))
  · skip
    refine hR (?_ : R (_, _, _, _, _, _))
    exact hR (zret_i rfl (Nat.le_refl _) (zbo (by omega)) (h _ _ _ _ _ _ _ _ _ _ _ (by omega) (by omega) (by omega) (by omega) (by omega) (fun h => by omega)))
  iterate 2 refine hR (?_ : R (_, _, _, _, _, _))
  refine hR (j_ne (by omega) (by omega) (fun hc154 => ?_) (fun hc154 => ?_))
  · skip
    iterate 4 refine hR (?_ : R (_, _, _, _, _, _))
    refine hR (t_stV 0 rfl (by omega) (by omega) (by omega) (by omega) (Nat.le_of_ble_eq_true rfl) fun k24_155 hvk24_155 hwk24_155 => (?_ : R (_, _, _, (zMi c0 c1 c2 c3 c4 c5 c6 c7 c8 c9 c10 c11 c12 c13 f0 y9_138 f10 y11_139 y12_140 y13_141 y15_143 y16_144 y17_145 f20 f21 f22 f23 f26 f28 f31 f32 f33 f38 f41 f44 y14_142 g15 g16 g17 g18 g19 g20 g21 g22 g23 k24_155 g25 g26 g27 g28 g29 g30 g31 g32 g33 g34 g35 g36 g37 g38 g39 g40 g41 g42 g43 g44 t), _, _)))
    have hxk24_155_1 : (k24_155 1).toInt = (k24_146 1).toInt := by rw [hwk24_155 1 (by decide)]
    have hxk24_155_2 : (k24_155 2).toInt = (k24_146 2).toInt := by rw [hwk24_155 2 (by decide)]
    iterate 2 refine hR (?_ : R (_, _, _, _, _, _))
    refine hR (t_c 40 (by decide) ?_)
    refine hR (zcall_i 0 0 (Nat.le_of_ble_eq_true rfl) (Nat.le_of_ble_eq_true rfl) (m_keep3 _ (by omega) _ fun k23_156 hp157 hp158 => ?_))
    refine (?_ : R (_, _, [], (zMi c0 c1 c2 c3 c4 c5 c6 c7 c8 c9 c10 c11 c12 c13 f0 y9_138 f10 y11_139 y12_140 y13_141 y15_143 y16_144 y17_145 f20 f21 f22 f23 f26 f28 f31 f32 f33 f38 f41 f44 y14_142 g15 g16 g17 g18 g19 g20 g21 g22 k23_156 k24_155 g25 g26 g27 g28 g29 g30 g31 g32 g33 g34 g35 g36 g37 g38 g39 g40 g41 g42 g43 g44 t), 0, 0))
    refine hR (?_ : R (_, _, _, _, _, _))
    exact hR (zret_i rfl (Nat.le_refl _) (zbo (by omega)) (h _ _ _ _ _ _ _ _ _ _ _ (by omega) (by omega) (by omega) (by omega) (by omega) (fun _ => ⟨by omega, fun hz => hp158 (by omega) (yl_r (by omega) (by omega) (by omega) (by omega) (by omega)) (hr4 (by omega))⟩)))
  iterate 7 refine hR (?_ : R (_, _, _, _, _, _))
  refine hR (t_ldE (by omega) (by omega) (Nat.le_of_ble_eq_true rfl) fun v159 ev159 rv159 => ?_)
  have bv159 : v159 = (k24_146 1).toInt := ev159
  clear ev159
  refine hR (zcall_i 0 0 (Nat.le_of_ble_eq_true rfl) (Nat.le_of_ble_eq_true rfl) (m_takeBut2 _ 0 3 v159 (by omega) (by omega) (by omega) (by omega) (by omega) (by omega) _ fun v160 y9_161 y11_162 y12_163 y13_164 y14_165 y15_166 y16_167 y17_168 k24_169 hp170 hp171 hp172 hp173 hp174 hp175 => ?_))
  refine (?_ : R (_, _, (.int (Int32.ofInt v160)) :: [], (zMi c0 c1 c2 c3 c4 c5 c6 c7 c8 c9 c10 c11 c12 c13 f0 y9_161 f10 y11_162 y12_163 y13_164 y15_166 y16_167 y17_168 f20 f21 f22 f23 f26 f28 f31 f32 f33 f38 f41 f44 y14_165 g15 g16 g17 g18 g19 g20 g21 g22 g23 k24_169 g25 g26 g27 g28 g29 g30 g31 g32 g33 g34 g35 g36 g37 g38 g39 g40 g41 g42 g43 g44 t), 0, 0))
  refine hR (k_ne (by omega) (fun hc176 => ?_) (fun hc176 => ?_))
  rotate_left
  · skip
    refine hR (?_ : R (_, _, _, _, _, _))
    exact hR (zret_i rfl (Nat.le_refl _) (zbo (by omega)) (h _ _ _ _ _ _ _ _ _ _ _ (by omega) (by omega) (by omega) (by omega) (by omega) (fun h => by omega)))
  iterate 4 refine hR (?_ : R (_, _, _, _, _, _))
  refine hR (t_stV 0 rfl (by omega) (by omega) (by omega) (by omega) (Nat.le_of_ble_eq_true rfl) fun k24_177 hvk24_177 hwk24_177 => (?_ : R (_, _, _, (zMi c0 c1 c2 c3 c4 c5 c6 c7 c8 c9 c10 c11 c12 c13 f0 y9_161 f10 y11_162 y12_163 y13_164 y15_166 y16_167 y17_168 f20 f21 f22 f23 f26 f28 f31 f32 f33 f38 f41 f44 y14_165 g15 g16 g17 g18 g19 g20 g21 g22 g23 k24_177 g25 g26 g27 g28 g29 g30 g31 g32 g33 g34 g35 g36 g37 g38 g39 g40 g41 g42 g43 g44 t), _, _)))
  have hxk24_177_1 : (k24_177 1).toInt = (k24_169 1).toInt := by rw [hwk24_177 1 (by decide)]
  have hxk24_177_2 : (k24_177 2).toInt = (k24_169 2).toInt := by rw [hwk24_177 2 (by decide)]
  iterate 2 refine hR (?_ : R (_, _, _, _, _, _))
  refine hR (t_c 40 (by decide) ?_)
  refine hR (zcall_i 0 0 (Nat.le_of_ble_eq_true rfl) (Nat.le_of_ble_eq_true rfl) (m_keep3 _ (by omega) _ fun k23_178 hp179 hp180 => ?_))
  refine (?_ : R (_, _, [], (zMi c0 c1 c2 c3 c4 c5 c6 c7 c8 c9 c10 c11 c12 c13 f0 y9_161 f10 y11_162 y12_163 y13_164 y15_166 y16_167 y17_168 f20 f21 f22 f23 f26 f28 f31 f32 f33 f38 f41 f44 y14_165 g15 g16 g17 g18 g19 g20 g21 g22 k23_178 k24_177 g25 g26 g27 g28 g29 g30 g31 g32 g33 g34 g35 g36 g37 g38 g39 g40 g41 g42 g43 g44 t), 0, 0))
  refine hR (?_ : R (_, _, _, _, _, _))
  exact hR (zret_i rfl (Nat.le_refl _) (zbo (by omega)) (h _ _ _ _ _ _ _ _ _ _ _ (by omega) (by omega) (by omega) (by omega) (by omega) (fun _ => ⟨by omega, fun hz => hp180 (by omega) (yl_r (by omega) (by omega) (by omega) (by omega) (by omega)) (hr4 (by omega))⟩)))
theorem m_sightLine (d : Nat) (a2 : Int) (lw : Int64) (hr0 : 0 ≤ f9 ∧ f9 ≤ f10 ∧ f10 ≤ 600) (hr1 : 0 ≤ f12 ∧ f12 ≤ 4 ∧ (f12 = 3 → 0 ≤ f13 ∧ f13 ≤ 99)) (hr2 : 0 ≤ f16 ∧ f16 ≤ 4) (hr3 : 0 ≤ (g23 0).toInt ∧ (g23 0).toInt ≤ 6) (Q : zQ) (h : ∀ (v : Int) (y9 : Int) (y11 : Int) (y12 : Int) (y13 : Int) (y14 : Int64) (y15 : Int) (y16 : Int) (y17 : Int) (k23 : Nat → Int32) (k24 : Nat → Int32), (f9 ≤ y9 ∧ y9 ≤ f10) → (0 ≤ y12 ∧ y12 ≤ 4 ∧ (y12 = 3 → 0 ≤ y13 ∧ y13 ≤ 99)) → (0 ≤ y16 ∧ y16 ≤ 4) → (v = 0 ∨ v = 1) → (v = 1 → y12 = 0 ∨ f9 < y9) → (0 ≤ (k23 0).toInt ∧ (k23 0).toInt ≤ 6) → Q (some (.int (Int32.ofInt v))) (zMi c0 c1 c2 c3 c4 c5 c6 c7 c8 c9 c10 c11 c12 c13 f0 y9 f10 y11 y12 y13 y15 y16 y17 f20 f21 f22 f23 f26 f28 f31 f32 f33 f38 f41 f44 y14 g15 g16 g17 g18 g19 g20 g21 g22 k23 k24 g25 g26 g27 g28 g29 g30 g31 g32 g33 g34 g35 g36 g37 g38 g39 g40 g41 g42 g43 g44 t)) : zCl zTab (d + 6) iX12_sightLine [.ref 14, .long lw, .int (Int32.ofInt a2)] (zMi c0 c1 c2 c3 c4 c5 c6 c7 c8 c9 c10 c11 c12 c13 f0 f9 f10 f11 f12 f13 f15 f16 f17 f20 f21 f22 f23 f26 f28 f31 f32 f33 f38 f41 f44 x14 g15 g16 g17 g18 g19 g20 g21 g22 g23 g24 g25 g26 g27 g28 g29 g30 g31 g32 g33 g34 g35 g36 g37 g38 g39 g40 g41 g42 g43 g44 t) 0 0 Q := by
  refine zCl_i (M := kX12_sightLine) rfl (Nat.le_of_ble_eq_true rfl) fun R hR => ?_
  iterate 2 refine hR (?_ : R (_, _, _, _, _, _))
  refine hR (t_o fun v1 rv1 => ?_)
  refine hR (j_any ?_ ?_)
  rotate_left
  · skip
    refine hR (?_ : R (_, _, _, _, _, _))
    refine hR (zcall_i 0 0 (Nat.le_of_ble_eq_true rfl) (Nat.le_of_ble_eq_true rfl) (m_fails _ _ fun v49 y15_50 hp51 => ?_))
    refine (?_ : R (_, _, (.int (Int32.ofInt v49)) :: [], (zMi c0 c1 c2 c3 c4 c5 c6 c7 c8 c9 c10 c11 c12 c13 f0 f9 f10 f11 f12 f13 y15_50 f16 f17 f20 f21 f22 f23 f26 f28 f31 f32 f33 f38 f41 f44 x14 g15 g16 g17 g18 g19 g20 g21 g22 g23 g24 g25 g26 g27 g28 g29 g30 g31 g32 g33 g34 g35 g36 g37 g38 g39 g40 g41 g42 g43 g44 t), 0, 0))
    exact hR (zret_i rfl (Nat.le_refl _) (zbo (by omega)) (h _ _ _ _ _ _ _ _ _ _ _ (by omega) (by omega) (by omega) (by omega) (by omega) (by omega)))
  iterate 2 refine hR (?_ : R (_, _, _, _, _, _))
  refine hR (t_c 6 (by decide) ?_)
  refine hR (?_ : R (_, _, _, _, _, _))
  refine hR (zcall_i 0 0 (Nat.le_of_ble_eq_true rfl) (Nat.le_of_ble_eq_true rfl) (m_full0 _ 6 a2 (by omega) (by omega) _ fun y16_2 y17_3 hp4 hp5 => ?_))
  refine (?_ : R (_, _, [], (zMi c0 c1 c2 c3 c4 c5 c6 c7 c8 c9 c10 c11 c12 c13 f0 f9 f10 f11 f12 f13 f15 y16_2 y17_3 f20 f21 f22 f23 f26 f28 f31 f32 f33 f38 f41 f44 x14 g15 g16 g17 g18 g19 g20 g21 g22 g23 g24 g25 g26 g27 g28 g29 g30 g31 g32 g33 g34 g35 g36 g37 g38 g39 g40 g41 g42 g43 g44 t), 0, 0))
  refine hR (?_ : R (_, _, _, _, _, _))
  refine hR (zcall_i 0 0 (Nat.le_of_ble_eq_true rfl) (Nat.le_of_ble_eq_true rfl) (m_token _ (by omega) _ fun y9_6 y11_7 y12_8 y13_9 y14_10 hp11 hp12 hp13 hp14 => ?_))
  refine (?_ : R (_, _, [], (zMi c0 c1 c2 c3 c4 c5 c6 c7 c8 c9 c10 c11 c12 c13 f0 y9_6 f10 y11_7 y12_8 y13_9 f15 y16_2 y17_3 f20 f21 f22 f23 f26 f28 f31 f32 f33 f38 f41 f44 y14_10 g15 g16 g17 g18 g19 g20 g21 g22 g23 g24 g25 g26 g27 g28 g29 g30 g31 g32 g33 g34 g35 g36 g37 g38 g39 g40 g41 g42 g43 g44 t), 0, 0))
  iterate 3 refine hR (?_ : R (_, _, _, _, _, _))
  refine hR (t_c 9 (by decide) ?_)
  refine hR (zcall_i 0 0 (Nat.le_of_ble_eq_true rfl) (Nat.le_of_ble_eq_true rfl) (m_take0 _ 0 9 (by omega) (by omega) (by omega) (by omega) (by omega) _ fun v15 y9_16 y11_17 y12_18 y13_19 y14_20 y15_21 y16_22 y17_23 k24_24 hp25 hp26 hp27 hp28 hp29 hp30 => ?_))
  refine (?_ : R (_, _, (.int (Int32.ofInt v15)) :: [], (zMi c0 c1 c2 c3 c4 c5 c6 c7 c8 c9 c10 c11 c12 c13 f0 y9_16 f10 y11_17 y12_18 y13_19 y15_21 y16_22 y17_23 f20 f21 f22 f23 f26 f28 f31 f32 f33 f38 f41 f44 y14_20 g15 g16 g17 g18 g19 g20 g21 g22 g23 k24_24 g25 g26 g27 g28 g29 g30 g31 g32 g33 g34 g35 g36 g37 g38 g39 g40 g41 g42 g43 g44 t), 0, 0))
  refine hR (k_ne (by omega) (fun hc31 => ?_) (fun hc31 => ?_))
  rotate_left
  · skip
    refine hR (?_ : R (_, _, _, _, _, _))
    exact hR (zret_i rfl (Nat.le_refl _) (zbo (by omega)) (h _ _ _ _ _ _ _ _ _ _ _ (by omega) (by omega) (by omega) (by omega) (by omega) (by omega)))
  iterate 2 refine hR (?_ : R (_, _, _, _, _, _))
  refine hR (zcall_i 0 0 (Nat.le_of_ble_eq_true rfl) (Nat.le_of_ble_eq_true rfl) (m_takeText1 _ (by omega) (by omega) (by omega) _ fun y9_32 y11_33 y12_34 y13_35 y14_36 y15_37 y16_38 y17_39 k24_40 hp41 hp42 hp43 hp44 hp45 hp46 => ?_))
  refine (?_ : R (_, _, [], (zMi c0 c1 c2 c3 c4 c5 c6 c7 c8 c9 c10 c11 c12 c13 f0 y9_32 f10 y11_33 y12_34 y13_35 y15_37 y16_38 y17_39 f20 f21 f22 f23 f26 f28 f31 f32 f33 f38 f41 f44 y14_36 g15 g16 g17 g18 g19 g20 g21 g22 g23 k24_40 g25 g26 g27 g28 g29 g30 g31 g32 g33 g34 g35 g36 g37 g38 g39 g40 g41 g42 g43 g44 t), 0, 0))
  iterate 2 refine hR (?_ : R (_, _, _, _, _, _))
  refine hR (t_c 6 (by decide) ?_)
  refine hR (zcall_i 0 0 (Nat.le_of_ble_eq_true rfl) (Nat.le_of_ble_eq_true rfl) (m_keep2 _ (by omega) _ fun k23_47 hp48 => ?_))
  refine (?_ : R (_, _, [], (zMi c0 c1 c2 c3 c4 c5 c6 c7 c8 c9 c10 c11 c12 c13 f0 y9_32 f10 y11_33 y12_34 y13_35 y15_37 y16_38 y17_39 f20 f21 f22 f23 f26 f28 f31 f32 f33 f38 f41 f44 y14_36 g15 g16 g17 g18 g19 g20 g21 g22 k23_47 k24_40 g25 g26 g27 g28 g29 g30 g31 g32 g33 g34 g35 g36 g37 g38 g39 g40 g41 g42 g43 g44 t), 0, 0))
  refine hR (?_ : R (_, _, _, _, _, _))
  exact hR (zret_i rfl (Nat.le_refl _) (zbo (by omega)) (h _ _ _ _ _ _ _ _ _ _ _ (by omega) (by omega) (by omega) (by omega) (by omega) (by omega)))
theorem m_lineOf (d : Nat) (a1 a2 : Int) (lw : Int64) (hr0 : 0 ≤ f9 ∧ f9 ≤ f10 ∧ f10 ≤ 600) (hr1 : 0 ≤ f12 ∧ f12 ≤ 4 ∧ (f12 = 3 → 0 ≤ f13 ∧ f13 ≤ 99)) (hr2 : 0 ≤ f16 ∧ f16 ≤ 4) (hr3 : 0 ≤ a1 ∧ a1 ≤ 2) (hr4 : tI a1 g23 f16) (Q : zQ) (h : ∀ (v : Int) (y9 : Int) (y11 : Int) (y12 : Int) (y13 : Int) (y14 : Int64) (y15 : Int) (y16 : Int) (y17 : Int) (k23 : Nat → Int32) (k24 : Nat → Int32), (f9 ≤ y9 ∧ y9 ≤ f10) → (0 ≤ y12 ∧ y12 ≤ 4 ∧ (y12 = 3 → 0 ≤ y13 ∧ y13 ≤ 99)) → (0 ≤ y16 ∧ y16 ≤ 4) → (v = 0 ∨ v = 1) → (v = 1 → y12 = 0 ∨ f9 < y9) → (v = 1 → tI a1 k23 y16) → Q (some (.int (Int32.ofInt v))) (zMi c0 c1 c2 c3 c4 c5 c6 c7 c8 c9 c10 c11 c12 c13 f0 y9 f10 y11 y12 y13 y15 y16 y17 f20 f21 f22 f23 f26 f28 f31 f32 f33 f38 f41 f44 y14 g15 g16 g17 g18 g19 g20 g21 g22 k23 k24 g25 g26 g27 g28 g29 g30 g31 g32 g33 g34 g35 g36 g37 g38 g39 g40 g41 g42 g43 g44 t)) : zCl zTab (d + 7) iX12_lineOf [.ref 14, .int (Int32.ofInt a1), .long lw, .int (Int32.ofInt a2)] (zMi c0 c1 c2 c3 c4 c5 c6 c7 c8 c9 c10 c11 c12 c13 f0 f9 f10 f11 f12 f13 f15 f16 f17 f20 f21 f22 f23 f26 f28 f31 f32 f33 f38 f41 f44 x14 g15 g16 g17 g18 g19 g20 g21 g22 g23 g24 g25 g26 g27 g28 g29 g30 g31 g32 g33 g34 g35 g36 g37 g38 g39 g40 g41 g42 g43 g44 t) 0 0 Q := by
  refine zCl_i (M := kX12_lineOf) rfl (Nat.le_of_ble_eq_true rfl) fun R hR => ?_
  refine hR (?_ : R (_, _, _, _, _, _))
  refine hR (k_ne (by omega) (fun hc1 => ?_) (fun hc1 => ?_))
  rotate_left
  · skip
    iterate 3 refine hR (?_ : R (_, _, _, _, _, _))
    refine hR (zcall_i 0 0 (Nat.le_of_ble_eq_true rfl) (Nat.le_of_ble_eq_true rfl) (m_bookLine _ a2 _ (by omega) (by omega) (by omega) (hr4.1 (by omega)).1 (hr4.1 (by omega)).2 _ fun v37 y9_38 y11_39 y12_40 y13_41 y14_42 y15_43 y16_44 y17_45 k23_46 k24_47 hp48 hp49 hp50 hp51 hp52 hp53 => ?_))
    refine (?_ : R (_, _, (.int (Int32.ofInt v37)) :: [], (zMi c0 c1 c2 c3 c4 c5 c6 c7 c8 c9 c10 c11 c12 c13 f0 y9_38 f10 y11_39 y12_40 y13_41 y15_43 y16_44 y17_45 f20 f21 f22 f23 f26 f28 f31 f32 f33 f38 f41 f44 y14_42 g15 g16 g17 g18 g19 g20 g21 g22 k23_46 k24_47 g25 g26 g27 g28 g29 g30 g31 g32 g33 g34 g35 g36 g37 g38 g39 g40 g41 g42 g43 g44 t), 0, 0))
    refine hR (?_ : R (_, _, _, _, _, _))
    exact hR (zret_i rfl (Nat.le_refl _) (zbo (by omega)) (h _ _ _ _ _ _ _ _ _ _ _ (by omega) (by omega) (by omega) (by omega) (by omega) (fun h => tI_b (by omega) (hp53 h))))
  iterate 2 refine hR (?_ : R (_, _, _, _, _, _))
  refine hR (j_ne (by omega) (by omega) (fun hc2 => ?_) (fun hc2 => ?_))
  · skip
    iterate 3 refine hR (?_ : R (_, _, _, _, _, _))
    refine hR (zcall_i 0 0 (Nat.le_of_ble_eq_true rfl) (Nat.le_of_ble_eq_true rfl) (m_sightLine _ a2 _ (by omega) (by omega) (by omega) (hr4.2.2 (by omega)) _ fun v3 y9_4 y11_5 y12_6 y13_7 y14_8 y15_9 y16_10 y17_11 k23_12 k24_13 hp14 hp15 hp16 hp17 hp18 hp19 => ?_))
    refine (?_ : R (_, _, (.int (Int32.ofInt v3)) :: [], (zMi c0 c1 c2 c3 c4 c5 c6 c7 c8 c9 c10 c11 c12 c13 f0 y9_4 f10 y11_5 y12_6 y13_7 y15_9 y16_10 y17_11 f20 f21 f22 f23 f26 f28 f31 f32 f33 f38 f41 f44 y14_8 g15 g16 g17 g18 g19 g20 g21 g22 k23_12 k24_13 g25 g26 g27 g28 g29 g30 g31 g32 g33 g34 g35 g36 g37 g38 g39 g40 g41 g42 g43 g44 t), 0, 0))
    exact hR (zret_i rfl (Nat.le_refl _) (zbo (by omega)) (h _ _ _ _ _ _ _ _ _ _ _ (by omega) (by omega) (by omega) (by omega) (by omega) (fun h => tI_s (by omega) hp19)))
  iterate 3 refine hR (?_ : R (_, _, _, _, _, _))
  refine hR (zcall_i 0 0 (Nat.le_of_ble_eq_true rfl) (Nat.le_of_ble_eq_true rfl) (m_yearLine _ a2 _ (by omega) (by omega) (by omega) (hr4.2.1 (by omega)).1 (hr4.2.1 (by omega)).2 _ fun v20 y9_21 y11_22 y12_23 y13_24 y14_25 y15_26 y16_27 y17_28 k23_29 k24_30 hp31 hp32 hp33 hp34 hp35 hp36 => ?_))
  refine (?_ : R (_, _, (.int (Int32.ofInt v20)) :: [], (zMi c0 c1 c2 c3 c4 c5 c6 c7 c8 c9 c10 c11 c12 c13 f0 y9_21 f10 y11_22 y12_23 y13_24 y15_26 y16_27 y17_28 f20 f21 f22 f23 f26 f28 f31 f32 f33 f38 f41 f44 y14_25 g15 g16 g17 g18 g19 g20 g21 g22 k23_29 k24_30 g25 g26 g27 g28 g29 g30 g31 g32 g33 g34 g35 g36 g37 g38 g39 g40 g41 g42 g43 g44 t), 0, 0))
  refine hR (?_ : R (_, _, _, _, _, _))
  exact hR (zret_i rfl (Nat.le_refl _) (zbo (by omega)) (h _ _ _ _ _ _ _ _ _ _ _ (by omega) (by omega) (by omega) (by omega) (by omega) (fun h => tI_y (by omega) (hp36 h))))
theorem m_lines (d : Nat) (a1 : Int) (hr0 : 0 ≤ f9 ∧ f9 ≤ f10 ∧ f10 ≤ 600) (hr1 : 0 ≤ f12 ∧ f12 ≤ 4 ∧ (f12 = 3 → 0 ≤ f13 ∧ f13 ≤ 99)) (hr2 : 0 ≤ f16 ∧ f16 ≤ 4) (hr3 : 0 ≤ a1 ∧ a1 ≤ 2) (hr4 : tI a1 g23 f16) (Q : zQ) (h : ∀ (v : Int) (y9 : Int) (y11 : Int) (y12 : Int) (y13 : Int) (y14 : Int64) (y15 : Int) (y16 : Int) (y17 : Int) (k23 : Nat → Int32) (k24 : Nat → Int32), (f9 ≤ y9 ∧ y9 ≤ f10) → (0 ≤ y12 ∧ y12 ≤ 4 ∧ (y12 = 3 → 0 ≤ y13 ∧ y13 ≤ 99)) → (0 ≤ y16 ∧ y16 ≤ 4) → (v = 0 ∨ v = 1) → (v = 1 → tI a1 k23 y16) → Q (some (.int (Int32.ofInt v))) (zMi c0 c1 c2 c3 c4 c5 c6 c7 c8 c9 c10 c11 c12 c13 f0 y9 f10 y11 y12 y13 y15 y16 y17 f20 f21 f22 f23 f26 f28 f31 f32 f33 f38 f41 f44 y14 g15 g16 g17 g18 g19 g20 g21 g22 k23 k24 g25 g26 g27 g28 g29 g30 g31 g32 g33 g34 g35 g36 g37 g38 g39 g40 g41 g42 g43 g44 t)) : zCl zTab (d + 8) iX12_lines [.ref 14, .int (Int32.ofInt a1)] (zMi c0 c1 c2 c3 c4 c5 c6 c7 c8 c9 c10 c11 c12 c13 f0 f9 f10 f11 f12 f13 f15 f16 f17 f20 f21 f22 f23 f26 f28 f31 f32 f33 f38 f41 f44 x14 g15 g16 g17 g18 g19 g20 g21 g22 g23 g24 g25 g26 g27 g28 g29 g30 g31 g32 g33 g34 g35 g36 g37 g38 g39 g40 g41 g42 g43 g44 t) 0 0 Q := by
  refine zCl_i (M := kX12_lines) rfl (Nat.le_of_ble_eq_true rfl) fun R hR => ?_
  iterate 2 refine hR (?_ : R (_, _, _, _, _, _))
  have lp2 : ∀ (N : Nat) (fi : Int) (e9_2 : Int) (e11_2 : Int) (e12_2 : Int) (e13_2 : Int) (e14_2 : Int64) (e15_2 : Int) (e16_2 : Int) (e17_2 : Int) (q23_2 : Nat → Int32) (q24_2 : Nat → Int32), (0 ≤ fi ∧ fi ≤ 1) → (f9 ≤ e9_2 ∧ e9_2 ≤ f10) → (0 ≤ e12_2 ∧ e12_2 ≤ 4 ∧ (e12_2 = 3 → 0 ≤ e13_2 ∧ e13_2 ≤ 99)) → (0 ≤ e16_2 ∧ e16_2 ≤ 4) → (fi = 1 → tI a1 q23_2 e16_2) → (2 * (f10 - e9_2) + fi < N) → R (2, [some (.ref 14), some (.int (Int32.ofInt a1)), some (.int (Int32.ofInt fi))], [], (zMi c0 c1 c2 c3 c4 c5 c6 c7 c8 c9 c10 c11 c12 c13 f0 e9_2 f10 e11_2 e12_2 e13_2 e15_2 e16_2 e17_2 f20 f21 f22 f23 f26 f28 f31 f32 f33 f38 f41 f44 e14_2 g15 g16 g17 g18 g19 g20 g21 g22 q23_2 q24_2 g25 g26 g27 g28 g29 g30 g31 g32 g33 g34 g35 g36 g37 g38 g39 g40 g41 g42 g43 g44 t), 0, 0) := by
    intro N
    induction N with
    | zero => intros; omega
    | succ N ih2 =>
      intro fi e9_2 e11_2 e12_2 e13_2 e14_2 e15_2 e16_2 e17_2 q23_2 q24_2 hf0_2 hp0_2 hp1_2 hp2_2 hp3_2 hN2
      refine hR (?_ : R (_, _, _, _, _, _))
      refine hR (k_eq (by omega) (fun hc1 => ?_) (fun hc1 => ?_))
      · skip
        refine hR (?_ : R (_, _, _, _, _, _))
        exact hR (zret_i rfl (Nat.le_refl _) (zbo (by omega)) (h _ _ _ _ _ _ _ _ _ _ _ (by omega) (by omega) (by omega) (by omega) (fun h => hp3_2 (by omega))))
      iterate 2 refine hR (?_ : R (_, _, _, _, _, _))
      refine hR (k_eq (by omega) (fun hc2 => ?_) (fun hc2 => ?_))
      · skip
        refine hR (?_ : R (_, _, _, _, _, _))
        exact hR (zret_i rfl (Nat.le_refl _) (zbo (by omega)) (h _ _ _ _ _ _ _ _ _ _ _ (by omega) (by omega) (by omega) (by omega) (fun h => hp3_2 (by omega))))
      iterate 5 refine hR (?_ : R (_, _, _, _, _, _))
      refine hR (j_ne (by omega) (by omega) (fun hc3 => ?_) (fun hc3 => ?_))
      · skip
        iterate 3 refine hR (?_ : R (_, _, _, _, _, _))
        refine hR (zcall_i 0 0 (Nat.le_of_ble_eq_true rfl) (Nat.le_of_ble_eq_true rfl) (m_lineOf _ a1 e11_2 _ (by omega) (by omega) (by omega) (by omega) (hp3_2 (by omega)) _ fun v4 y9_5 y11_6 y12_7 y13_8 y14_9 y15_10 y16_11 y17_12 k23_13 k24_14 hp15 hp16 hp17 hp18 hp19 hp20 => ?_))
        refine (?_ : R (_, _, (.int (Int32.ofInt v4)) :: [], (zMi c0 c1 c2 c3 c4 c5 c6 c7 c8 c9 c10 c11 c12 c13 f0 y9_5 f10 y11_6 y12_7 y13_8 y15_10 y16_11 y17_12 f20 f21 f22 f23 f26 f28 f31 f32 f33 f38 f41 f44 y14_9 g15 g16 g17 g18 g19 g20 g21 g22 k23_13 k24_14 g25 g26 g27 g28 g29 g30 g31 g32 g33 g34 g35 g36 g37 g38 g39 g40 g41 g42 g43 g44 t), 0, 0))
        iterate 2 refine hR (?_ : R (_, _, _, _, _, _))
        refine hR (k_eq (by omega) (fun hc21 => ?_) (fun hc21 => ?_))
        · skip
          refine hR (?_ : R (_, _, _, _, _, _))
          refine hR (k_eq (by omega) (fun _ => ?_) (fun hc => by omega))
          exact ih2 _ _ _ _ _ _ _ _ _ _ _ (by omega) (by omega) (by omega) (by omega) (fun h => hp20 (by omega)) (by omega)
        iterate 3 refine hR (?_ : R (_, _, _, _, _, _))
        refine hR (j_eq (by omega) (by omega) (fun hc22 => ?_) (fun hc22 => ?_))
        · skip
          refine hR (?_ : R (_, _, _, _, _, _))
          refine hR (k_eq (by omega) (fun hc => by omega) (fun _ => ?_))
          refine hR (?_ : R (_, _, _, _, _, _))
          refine hR (zcall_i 0 0 (Nat.le_of_ble_eq_true rfl) (Nat.le_of_ble_eq_true rfl) (m_token _ (by omega) _ fun y9_23 y11_24 y12_25 y13_26 y14_27 hp28 hp29 hp30 hp31 => ?_))
          refine (?_ : R (_, _, [], (zMi c0 c1 c2 c3 c4 c5 c6 c7 c8 c9 c10 c11 c12 c13 f0 y9_23 f10 y11_24 y12_25 y13_26 y15_10 y16_11 y17_12 f20 f21 f22 f23 f26 f28 f31 f32 f33 f38 f41 f44 y14_27 g15 g16 g17 g18 g19 g20 g21 g22 k23_13 k24_14 g25 g26 g27 g28 g29 g30 g31 g32 g33 g34 g35 g36 g37 g38 g39 g40 g41 g42 g43 g44 t), 0, 0))
          refine hR (?_ : R (_, _, _, _, _, _))
          exact ih2 _ _ _ _ _ _ _ _ _ _ _ (by omega) (by omega) (by omega) (by omega) (fun h => hp20 (by omega)) (by omega)
        refine hR (?_ : R (_, _, _, _, _, _))
        refine hR (zcall_i 0 0 (Nat.le_of_ble_eq_true rfl) (Nat.le_of_ble_eq_true rfl) (m_fails _ _ fun v32 y15_33 hp34 => ?_))
        refine (?_ : R (_, _, (.int (Int32.ofInt v32)) :: [], (zMi c0 c1 c2 c3 c4 c5 c6 c7 c8 c9 c10 c11 c12 c13 f0 y9_5 f10 y11_6 y12_7 y13_8 y15_33 y16_11 y17_12 f20 f21 f22 f23 f26 f28 f31 f32 f33 f38 f41 f44 y14_9 g15 g16 g17 g18 g19 g20 g21 g22 k23_13 k24_14 g25 g26 g27 g28 g29 g30 g31 g32 g33 g34 g35 g36 g37 g38 g39 g40 g41 g42 g43 g44 t), 0, 0))
        iterate 2 refine hR (?_ : R (_, _, _, _, _, _))
        refine hR (k_eq (by omega) (fun hc35 => ?_) (fun hc35 => ?_))
        · skip
          exact ih2 _ _ _ _ _ _ _ _ _ _ _ (by omega) (by omega) (by omega) (by omega) (fun h => by omega) (by omega)
        refine hR (?_ : R (_, _, _, _, _, _))
        refine hR (zcall_i 0 0 (Nat.le_of_ble_eq_true rfl) (Nat.le_of_ble_eq_true rfl) (m_token _ (by omega) _ fun y9_36 y11_37 y12_38 y13_39 y14_40 hp41 hp42 hp43 hp44 => ?_))
        refine (?_ : R (_, _, [], (zMi c0 c1 c2 c3 c4 c5 c6 c7 c8 c9 c10 c11 c12 c13 f0 y9_36 f10 y11_37 y12_38 y13_39 y15_33 y16_11 y17_12 f20 f21 f22 f23 f26 f28 f31 f32 f33 f38 f41 f44 y14_40 g15 g16 g17 g18 g19 g20 g21 g22 k23_13 k24_14 g25 g26 g27 g28 g29 g30 g31 g32 g33 g34 g35 g36 g37 g38 g39 g40 g41 g42 g43 g44 t), 0, 0))
        refine hR (?_ : R (_, _, _, _, _, _))
        exact ih2 _ _ _ _ _ _ _ _ _ _ _ (by omega) (by omega) (by omega) (by omega) (fun h => by omega) (by omega)
      iterate 5 refine hR (?_ : R (_, _, _, _, _, _))
      refine hR (zcall_i 0 0 (Nat.le_of_ble_eq_true rfl) (Nat.le_of_ble_eq_true rfl) (m_lineOf _ a1 e11_2 _ (by omega) (by omega) (by omega) (by omega) (hp3_2 (by omega)) _ fun v45 y9_46 y11_47 y12_48 y13_49 y14_50 y15_51 y16_52 y17_53 k23_54 k24_55 hp56 hp57 hp58 hp59 hp60 hp61 => ?_))
      refine (?_ : R (_, _, (.int (Int32.ofInt v45)) :: [], (zMi c0 c1 c2 c3 c4 c5 c6 c7 c8 c9 c10 c11 c12 c13 f0 y9_46 f10 y11_47 y12_48 y13_49 y15_51 y16_52 y17_53 f20 f21 f22 f23 f26 f28 f31 f32 f33 f38 f41 f44 y14_50 g15 g16 g17 g18 g19 g20 g21 g22 k23_54 k24_55 g25 g26 g27 g28 g29 g30 g31 g32 g33 g34 g35 g36 g37 g38 g39 g40 g41 g42 g43 g44 t), 0, 0))
      iterate 2 refine hR (?_ : R (_, _, _, _, _, _))
      refine hR (k_eq (by omega) (fun hc62 => ?_) (fun hc62 => ?_))
      · skip
        refine hR (?_ : R (_, _, _, _, _, _))
        refine hR (k_eq (by omega) (fun _ => ?_) (fun hc => by omega))
        exact ih2 _ _ _ _ _ _ _ _ _ _ _ (by omega) (by omega) (by omega) (by omega) (fun h => hp61 (by omega)) (by omega)
      iterate 3 refine hR (?_ : R (_, _, _, _, _, _))
      refine hR (j_eq (by omega) (by omega) (fun hc63 => ?_) (fun hc63 => ?_))
      · skip
        refine hR (?_ : R (_, _, _, _, _, _))
        refine hR (k_eq (by omega) (fun hc => by omega) (fun _ => ?_))
        refine hR (?_ : R (_, _, _, _, _, _))
        refine hR (zcall_i 0 0 (Nat.le_of_ble_eq_true rfl) (Nat.le_of_ble_eq_true rfl) (m_token _ (by omega) _ fun y9_64 y11_65 y12_66 y13_67 y14_68 hp69 hp70 hp71 hp72 => ?_))
        refine (?_ : R (_, _, [], (zMi c0 c1 c2 c3 c4 c5 c6 c7 c8 c9 c10 c11 c12 c13 f0 y9_64 f10 y11_65 y12_66 y13_67 y15_51 y16_52 y17_53 f20 f21 f22 f23 f26 f28 f31 f32 f33 f38 f41 f44 y14_68 g15 g16 g17 g18 g19 g20 g21 g22 k23_54 k24_55 g25 g26 g27 g28 g29 g30 g31 g32 g33 g34 g35 g36 g37 g38 g39 g40 g41 g42 g43 g44 t), 0, 0))
        refine hR (?_ : R (_, _, _, _, _, _))
        exact ih2 _ _ _ _ _ _ _ _ _ _ _ (by omega) (by omega) (by omega) (by omega) (fun h => hp61 (by omega)) (by omega)
      refine hR (?_ : R (_, _, _, _, _, _))
      refine hR (zcall_i 0 0 (Nat.le_of_ble_eq_true rfl) (Nat.le_of_ble_eq_true rfl) (m_fails _ _ fun v73 y15_74 hp75 => ?_))
      refine (?_ : R (_, _, (.int (Int32.ofInt v73)) :: [], (zMi c0 c1 c2 c3 c4 c5 c6 c7 c8 c9 c10 c11 c12 c13 f0 y9_46 f10 y11_47 y12_48 y13_49 y15_74 y16_52 y17_53 f20 f21 f22 f23 f26 f28 f31 f32 f33 f38 f41 f44 y14_50 g15 g16 g17 g18 g19 g20 g21 g22 k23_54 k24_55 g25 g26 g27 g28 g29 g30 g31 g32 g33 g34 g35 g36 g37 g38 g39 g40 g41 g42 g43 g44 t), 0, 0))
      iterate 2 refine hR (?_ : R (_, _, _, _, _, _))
      refine hR (k_eq (by omega) (fun hc76 => ?_) (fun hc76 => ?_))
      · skip
        exact ih2 _ _ _ _ _ _ _ _ _ _ _ (by omega) (by omega) (by omega) (by omega) (fun h => by omega) (by omega)
      refine hR (?_ : R (_, _, _, _, _, _))
      refine hR (zcall_i 0 0 (Nat.le_of_ble_eq_true rfl) (Nat.le_of_ble_eq_true rfl) (m_token _ (by omega) _ fun y9_77 y11_78 y12_79 y13_80 y14_81 hp82 hp83 hp84 hp85 => ?_))
      refine (?_ : R (_, _, [], (zMi c0 c1 c2 c3 c4 c5 c6 c7 c8 c9 c10 c11 c12 c13 f0 y9_77 f10 y11_78 y12_79 y13_80 y15_74 y16_52 y17_53 f20 f21 f22 f23 f26 f28 f31 f32 f33 f38 f41 f44 y14_81 g15 g16 g17 g18 g19 g20 g21 g22 k23_54 k24_55 g25 g26 g27 g28 g29 g30 g31 g32 g33 g34 g35 g36 g37 g38 g39 g40 g41 g42 g43 g44 t), 0, 0))
      refine hR (?_ : R (_, _, _, _, _, _))
      exact ih2 _ _ _ _ _ _ _ _ _ _ _ (by omega) (by omega) (by omega) (by omega) (fun h => by omega) (by omega)
  exact lp2 400000000 _ _ _ _ _ _ _ _ _ _ _ (by omega) (by omega) (by omega) (by omega) (fun _ => hr4) (by omega)
theorem m_readText (d : Nat) (a1 : Int) (hr0 : 0 ≤ f10 ∧ f10 ≤ 600) (hr1 : 0 ≤ a1 ∧ a1 ≤ 2) (Q : zQ) (h : ∀ (v : Int) (y9 : Int) (y11 : Int) (y12 : Int) (y13 : Int) (y14 : Int64) (y15 : Int) (y16 : Int) (y17 : Int) (k17 : Nat → Int32) (k18 : Nat → Int32) (k23 : Nat → Int32) (k24 : Nat → Int32), (v = 0 ∨ v = 1) → (v = 1 → tOK a1 k23) → Q (some (.int (Int32.ofInt v))) (zMi c0 c1 c2 c3 c4 c5 c6 c7 c8 c9 c10 c11 c12 c13 f0 y9 f10 y11 y12 y13 y15 y16 y17 f20 f21 f22 f23 f26 f28 f31 f32 f33 f38 f41 f44 y14 g15 g16 k17 k18 g19 g20 g21 g22 k23 k24 g25 g26 g27 g28 g29 g30 g31 g32 g33 g34 g35 g36 g37 g38 g39 g40 g41 g42 g43 g44 t)) : zCl zTab (d + 9) iX12_readText [.ref 14, .int (Int32.ofInt a1)] (zMi c0 c1 c2 c3 c4 c5 c6 c7 c8 c9 c10 c11 c12 c13 f0 f9 f10 f11 f12 f13 f15 f16 f17 f20 f21 f22 f23 f26 f28 f31 f32 f33 f38 f41 f44 x14 g15 g16 g17 g18 g19 g20 g21 g22 g23 g24 g25 g26 g27 g28 g29 g30 g31 g32 g33 g34 g35 g36 g37 g38 g39 g40 g41 g42 g43 g44 t) 0 0 Q := by
  refine zCl_i (M := kX12_readText) rfl (Nat.le_of_ble_eq_true rfl) fun R hR => ?_
  iterate 2 refine hR (?_ : R (_, _, _, _, _, _))
  have lp2 : ∀ (N : Nat) (i : Int) (q23_2 : Nat → Int32), (0 ≤ i ∧ i ≤ 121) → (∀ j : Nat, (j : Int) < i → (q23_2 j).toInt = if a1 = 0 ∧ 2 ≤ j ∧ j ≤ 5 then (j : Int) - 2 else 0) → (121 - i < N) → R (2, [some (.ref 14), some (.int (Int32.ofInt a1)), some (.int (Int32.ofInt i))], [], (zMi c0 c1 c2 c3 c4 c5 c6 c7 c8 c9 c10 c11 c12 c13 f0 f9 f10 f11 f12 f13 f15 f16 f17 f20 f21 f22 f23 f26 f28 f31 f32 f33 f38 f41 f44 x14 g15 g16 g17 g18 g19 g20 g21 g22 q23_2 g24 g25 g26 g27 g28 g29 g30 g31 g32 g33 g34 g35 g36 g37 g38 g39 g40 g41 g42 g43 g44 t), 0, 0) := by
    intro N
    induction N with
    | zero => intros; omega
    | succ N ih2 =>
      intro i q23_2 hf0_2 hp0_2 hN2
      refine hR (?_ : R (_, _, _, _, _, _))
      refine hR (t_c 121 (by decide) ?_)
      refine hR (j_ge (by omega) (by omega) (fun hc1 => ?_) (fun hc1 => ?_))
      rotate_left
      · skip
        iterate 4 refine hR (?_ : R (_, _, _, _, _, _))
        refine hR (k_ne (by omega) (fun hc40 => ?_) (fun hc40 => ?_))
        · skip
          refine hR (?_ : R (_, _, _, _, _, _))
          refine hR (t_st (by omega) (by omega) (Nat.le_of_ble_eq_true rfl) (?_ : R (_, _, _, (zMi c0 c1 c2 c3 c4 c5 c6 c7 c8 c9 c10 c11 c12 c13 f0 f9 f10 f11 f12 f13 f15 f16 f17 f20 f21 f22 f23 f26 f28 f31 f32 f33 f38 f41 f44 x14 g15 g16 g17 g18 g19 g20 g21 g22 (upd q23_2 i.toNat (Int32.ofInt 0)) g24 g25 g26 g27 g28 g29 g30 g31 g32 g33 g34 g35 g36 g37 g38 g39 g40 g41 g42 g43 g44 t), _, _)))
          refine hR (t_inc ?_)
          refine hR (?_ : R (_, _, _, _, _, _))
          exact ih2 _ _ (by omega) (rt_i hp0_2 (by omega) (by omega)) (by omega)
        iterate 3 refine hR (?_ : R (_, _, _, _, _, _))
        refine hR (zcall_i 0 0 (Nat.le_of_ble_eq_true rfl) (Nat.le_of_ble_eq_true rfl) (m_in _ i 2 5 _ (by omega) (by omega) (by omega) _ fun v42 hp43 => ?_))
        refine (?_ : R (_, _, (.int (Int32.ofInt v42)) :: (.int (Int32.ofInt i)) :: (.ref 23) :: [], (zMi c0 c1 c2 c3 c4 c5 c6 c7 c8 c9 c10 c11 c12 c13 f0 f9 f10 f11 f12 f13 f15 f16 f17 f20 f21 f22 f23 f26 f28 f31 f32 f33 f38 f41 f44 x14 g15 g16 g17 g18 g19 g20 g21 g22 q23_2 g24 g25 g26 g27 g28 g29 g30 g31 g32 g33 g34 g35 g36 g37 g38 g39 g40 g41 g42 g43 g44 t), 0, 0))
        refine hR (k_eq (by omega) (fun hc44 => ?_) (fun hc44 => ?_))
        · skip
          refine hR (?_ : R (_, _, _, _, _, _))
          refine hR (t_st (by omega) (by omega) (Nat.le_of_ble_eq_true rfl) (?_ : R (_, _, _, (zMi c0 c1 c2 c3 c4 c5 c6 c7 c8 c9 c10 c11 c12 c13 f0 f9 f10 f11 f12 f13 f15 f16 f17 f20 f21 f22 f23 f26 f28 f31 f32 f33 f38 f41 f44 x14 g15 g16 g17 g18 g19 g20 g21 g22 (upd q23_2 i.toNat (Int32.ofInt 0)) g24 g25 g26 g27 g28 g29 g30 g31 g32 g33 g34 g35 g36 g37 g38 g39 g40 g41 g42 g43 g44 t), _, _)))
          refine hR (t_inc ?_)
          refine hR (?_ : R (_, _, _, _, _, _))
          exact ih2 _ _ (by omega) (rt_i hp0_2 (by omega) (by omega)) (by omega)
        iterate 2 refine hR (?_ : R (_, _, _, _, _, _))
        refine hR (t_sub ?_)
        refine hR (?_ : R (_, _, _, _, _, _))
        refine hR (t_st (by omega) (by omega) (Nat.le_of_ble_eq_true rfl) (?_ : R (_, _, _, (zMi c0 c1 c2 c3 c4 c5 c6 c7 c8 c9 c10 c11 c12 c13 f0 f9 f10 f11 f12 f13 f15 f16 f17 f20 f21 f22 f23 f26 f28 f31 f32 f33 f38 f41 f44 x14 g15 g16 g17 g18 g19 g20 g21 g22 (upd q23_2 i.toNat (Int32.ofInt (i - 2))) g24 g25 g26 g27 g28 g29 g30 g31 g32 g33 g34 g35 g36 g37 g38 g39 g40 g41 g42 g43 g44 t), _, _)))
        refine hR (t_inc ?_)
        refine hR (?_ : R (_, _, _, _, _, _))
        exact ih2 _ _ (by omega) (rt_i hp0_2 (by omega) (by omega)) (by omega)
      iterate 2 refine hR (?_ : R (_, _, _, _, _, _))
      refine hR (?_ : R (_, _, _, (zMi c0 c1 c2 c3 c4 c5 c6 c7 c8 c9 c10 c11 c12 c13 f0 0 f10 f11 f12 f13 f15 f16 f17 f20 f21 f22 f23 f26 f28 f31 f32 f33 f38 f41 f44 x14 g15 g16 g17 g18 g19 g20 g21 g22 q23_2 g24 g25 g26 g27 g28 g29 g30 g31 g32 g33 g34 g35 g36 g37 g38 g39 g40 g41 g42 g43 g44 t), _, _))
      iterate 2 refine hR (?_ : R (_, _, _, _, _, _))
      refine hR (?_ : R (_, _, _, (zMi c0 c1 c2 c3 c4 c5 c6 c7 c8 c9 c10 c11 c12 c13 f0 0 f10 f11 f12 f13 f15 0 f17 f20 f21 f22 f23 f26 f28 f31 f32 f33 f38 f41 f44 x14 g15 g16 g17 g18 g19 g20 g21 g22 q23_2 g24 g25 g26 g27 g28 g29 g30 g31 g32 g33 g34 g35 g36 g37 g38 g39 g40 g41 g42 g43 g44 t), _, _))
      refine hR (?_ : R (_, _, _, _, _, _))
      refine hR (zcall_i 0 0 (Nat.le_of_ble_eq_true rfl) (Nat.le_of_ble_eq_true rfl) (m_token _ (by omega) _ fun y9_2 y11_3 y12_4 y13_5 y14_6 hp7 hp8 hp9 hp10 => ?_))
      refine (?_ : R (_, _, [], (zMi c0 c1 c2 c3 c4 c5 c6 c7 c8 c9 c10 c11 c12 c13 f0 y9_2 f10 y11_3 y12_4 y13_5 f15 0 f17 f20 f21 f22 f23 f26 f28 f31 f32 f33 f38 f41 f44 y14_6 g15 g16 g17 g18 g19 g20 g21 g22 q23_2 g24 g25 g26 g27 g28 g29 g30 g31 g32 g33 g34 g35 g36 g37 g38 g39 g40 g41 g42 g43 g44 t), 0, 0))
      have hti := tI_0 (o := a1) (lf := 0) hp0_2 (by omega)
      iterate 2 refine hR (?_ : R (_, _, _, _, _, _))
      refine hR (zcall_i 0 0 (Nat.le_of_ble_eq_true rfl) (Nat.le_of_ble_eq_true rfl) (m_lines _ a1 (by omega) (by omega) (by omega) (by omega) hti _ fun v11 y9_12 y11_13 y12_14 y13_15 y14_16 y15_17 y16_18 y17_19 k23_20 k24_21 hp22 hp23 hp24 hp25 hp26 => ?_))
      refine (?_ : R (_, _, (.int (Int32.ofInt v11)) :: [], (zMi c0 c1 c2 c3 c4 c5 c6 c7 c8 c9 c10 c11 c12 c13 f0 y9_12 f10 y11_13 y12_14 y13_15 y15_17 y16_18 y17_19 f20 f21 f22 f23 f26 f28 f31 f32 f33 f38 f41 f44 y14_16 g15 g16 g17 g18 g19 g20 g21 g22 k23_20 k24_21 g25 g26 g27 g28 g29 g30 g31 g32 g33 g34 g35 g36 g37 g38 g39 g40 g41 g42 g43 g44 t), 0, 0))
      iterate 5 refine hR (?_ : R (_, _, _, _, _, _))
      refine hR (k_eq (by omega) (fun hc27 => ?_) (fun hc27 => ?_))
      · skip
        refine hR (?_ : R (_, _, _, _, _, _))
        refine hR (t_st (by omega) (by omega) (Nat.le_of_ble_eq_true rfl) (?_ : R (_, _, _, (zMi c0 c1 c2 c3 c4 c5 c6 c7 c8 c9 c10 c11 c12 c13 f0 y9_12 f10 y11_13 y12_14 y13_15 y15_17 y16_18 y17_19 f20 f21 f22 f23 f26 f28 f31 f32 f33 f38 f41 f44 y14_16 g15 g16 (upd g17 (0 : Int).toNat (Int32.ofInt 1)) g18 g19 g20 g21 g22 k23_20 k24_21 g25 g26 g27 g28 g29 g30 g31 g32 g33 g34 g35 g36 g37 g38 g39 g40 g41 g42 g43 g44 t), _, _)))
        iterate 4 refine hR (?_ : R (_, _, _, _, _, _))
        refine hR (k_ne (by omega) (fun hc => by omega) (fun _ => ?_))
        iterate 3 refine hR (?_ : R (_, _, _, _, _, _))
        refine hR (t_stx (by omega) (by omega) (Nat.le_of_ble_eq_true rfl) fun k18_29 => (?_ : R (_, _, _, (zMi c0 c1 c2 c3 c4 c5 c6 c7 c8 c9 c10 c11 c12 c13 f0 y9_12 f10 y11_13 y12_14 y13_15 y15_17 y16_18 y17_19 f20 f21 f22 f23 f26 f28 f31 f32 f33 f38 f41 f44 y14_16 g15 g16 (upd g17 (0 : Int).toNat (Int32.ofInt 1)) k18_29 g19 g20 g21 g22 k23_20 k24_21 g25 g26 g27 g28 g29 g30 g31 g32 g33 g34 g35 g36 g37 g38 g39 g40 g41 g42 g43 g44 t), _, _)))
        iterate 3 refine hR (?_ : R (_, _, _, _, _, _))
        refine hR (t_ldE (by omega) (by omega) (Nat.le_of_ble_eq_true rfl) fun v30 ev30 rv30 => ?_)
        have bv30 : v30 = 1 := by rw [ev30]; show (Int32.ofInt _).toInt = _; exact zti (by omega) (by omega)
        clear ev30
        refine hR (k_ne (by omega) (fun hc31 => ?_) (fun hc31 => ?_))
        · skip
          refine hR (?_ : R (_, _, _, _, _, _))
          exact hR (zret_i rfl (Nat.le_refl _) (zbo (by omega)) (h _ _ _ _ _ _ _ _ _ _ _ _ _ (by omega) (fun h => by omega)))
        iterate 2 refine hR (?_ : R (_, _, _, _, _, _))
        exact hR (zret_i rfl (Nat.le_refl _) (zbo (by omega)) (h _ _ _ _ _ _ _ _ _ _ _ _ _ (by omega) (fun _ => tOK_i (hp26 (by omega)) (by omega))))
      iterate 3 refine hR (?_ : R (_, _, _, _, _, _))
      refine hR (t_st (by omega) (by omega) (Nat.le_of_ble_eq_true rfl) (?_ : R (_, _, _, (zMi c0 c1 c2 c3 c4 c5 c6 c7 c8 c9 c10 c11 c12 c13 f0 y9_12 f10 y11_13 y12_14 y13_15 y15_17 y16_18 y17_19 f20 f21 f22 f23 f26 f28 f31 f32 f33 f38 f41 f44 y14_16 g15 g16 (upd g17 (0 : Int).toNat (Int32.ofInt y16_18)) g18 g19 g20 g21 g22 k23_20 k24_21 g25 g26 g27 g28 g29 g30 g31 g32 g33 g34 g35 g36 g37 g38 g39 g40 g41 g42 g43 g44 t), _, _)))
      iterate 4 refine hR (?_ : R (_, _, _, _, _, _))
      refine hR (k_ne (by omega) (fun _ => ?_) (fun hc => by omega))
      iterate 2 refine hR (?_ : R (_, _, _, _, _, _))
      refine hR (k_le (by omega) (fun hc33 => ?_) (fun hc33 => ?_))
      · skip
        refine hR (?_ : R (_, _, _, _, _, _))
        refine hR (t_stx (by omega) (by omega) (Nat.le_of_ble_eq_true rfl) fun k18_34 => (?_ : R (_, _, _, (zMi c0 c1 c2 c3 c4 c5 c6 c7 c8 c9 c10 c11 c12 c13 f0 y9_12 f10 y11_13 y12_14 y13_15 y15_17 y16_18 y17_19 f20 f21 f22 f23 f26 f28 f31 f32 f33 f38 f41 f44 y14_16 g15 g16 (upd g17 (0 : Int).toNat (Int32.ofInt y16_18)) k18_34 g19 g20 g21 g22 k23_20 k24_21 g25 g26 g27 g28 g29 g30 g31 g32 g33 g34 g35 g36 g37 g38 g39 g40 g41 g42 g43 g44 t), _, _)))
        iterate 3 refine hR (?_ : R (_, _, _, _, _, _))
        refine hR (t_ldE (by omega) (by omega) (Nat.le_of_ble_eq_true rfl) fun v35 ev35 rv35 => ?_)
        have bv35 : v35 = y16_18 := by rw [ev35]; show (Int32.ofInt _).toInt = _; exact zti (by omega) (by omega)
        clear ev35
        refine hR (k_ne (by omega) (fun hc36 => ?_) (fun hc36 => ?_))
        · skip
          refine hR (?_ : R (_, _, _, _, _, _))
          exact hR (zret_i rfl (Nat.le_refl _) (zbo (by omega)) (h _ _ _ _ _ _ _ _ _ _ _ _ _ (by omega) (fun h => by omega)))
        iterate 2 refine hR (?_ : R (_, _, _, _, _, _))
        exact hR (zret_i rfl (Nat.le_refl _) (zbo (by omega)) (h _ _ _ _ _ _ _ _ _ _ _ _ _ (by omega) (fun _ => tOK_i (hp26 (by omega)) (by omega))))
      iterate 3 refine hR (?_ : R (_, _, _, _, _, _))
      refine hR (t_stx (by omega) (by omega) (Nat.le_of_ble_eq_true rfl) fun k18_37 => (?_ : R (_, _, _, (zMi c0 c1 c2 c3 c4 c5 c6 c7 c8 c9 c10 c11 c12 c13 f0 y9_12 f10 y11_13 y12_14 y13_15 y15_17 y16_18 y17_19 f20 f21 f22 f23 f26 f28 f31 f32 f33 f38 f41 f44 y14_16 g15 g16 (upd g17 (0 : Int).toNat (Int32.ofInt y16_18)) k18_37 g19 g20 g21 g22 k23_20 k24_21 g25 g26 g27 g28 g29 g30 g31 g32 g33 g34 g35 g36 g37 g38 g39 g40 g41 g42 g43 g44 t), _, _)))
      iterate 3 refine hR (?_ : R (_, _, _, _, _, _))
      refine hR (t_ldE (by omega) (by omega) (Nat.le_of_ble_eq_true rfl) fun v38 ev38 rv38 => ?_)
      have bv38 : v38 = y16_18 := by rw [ev38]; show (Int32.ofInt _).toInt = _; exact zti (by omega) (by omega)
      clear ev38
      refine hR (k_ne (by omega) (fun hc39 => ?_) (fun hc39 => ?_))
      · skip
        refine hR (?_ : R (_, _, _, _, _, _))
        exact hR (zret_i rfl (Nat.le_refl _) (zbo (by omega)) (h _ _ _ _ _ _ _ _ _ _ _ _ _ (by omega) (fun h => by omega)))
      iterate 2 refine hR (?_ : R (_, _, _, _, _, _))
      exact hR (zret_i rfl (Nat.le_refl _) (zbo (by omega)) (h _ _ _ _ _ _ _ _ _ _ _ _ _ (by omega) (fun _ => tOK_i (hp26 (by omega)) (by omega))))
  exact lp2 400000000 _ _ (by omega) (fun j hj => by omega) (by omega)
theorem m_store20 (d : Nat) (a3 : Int) (hr0 : 0 ≤ a3 ∧ a3 ≤ 1) (Q : zQ) (h : ∀ (k20 : Nat → Int32), (k20 = kpR g20 (51 * a3.toNat) g23 51) → Q (none) (zMi c0 c1 c2 c3 c4 c5 c6 c7 c8 c9 c10 c11 c12 c13 f0 f9 f10 f11 f12 f13 f15 f16 f17 f20 f21 f22 f23 f26 f28 f31 f32 f33 f38 f41 f44 x14 g15 g16 g17 g18 g19 k20 g21 g22 g23 g24 g25 g26 g27 g28 g29 g30 g31 g32 g33 g34 g35 g36 g37 g38 g39 g40 g41 g42 g43 g44 t)) : zCl zTab (d + 1) iX12_store [.ref 14, .ref 20, .int (Int32.ofInt 51), .int (Int32.ofInt a3)] (zMi c0 c1 c2 c3 c4 c5 c6 c7 c8 c9 c10 c11 c12 c13 f0 f9 f10 f11 f12 f13 f15 f16 f17 f20 f21 f22 f23 f26 f28 f31 f32 f33 f38 f41 f44 x14 g15 g16 g17 g18 g19 g20 g21 g22 g23 g24 g25 g26 g27 g28 g29 g30 g31 g32 g33 g34 g35 g36 g37 g38 g39 g40 g41 g42 g43 g44 t) 0 0 Q := by
  refine zCl_i (M := kX12_store) rfl (Nat.le_of_ble_eq_true rfl) fun R hR => ?_
  iterate 2 refine hR (?_ : R (_, _, _, _, _, _))
  have lp3 : ∀ (N : Nat) (i : Int) (q20_3 : Nat → Int32), (0 ≤ i ∧ i ≤ 51) → (q20_3 = kpR g20 (51 * a3.toNat) g23 i.toNat) → (51 - i < N) → R (3, [some (.ref 14), some (.ref 20), some (.int (Int32.ofInt 51)), some (.int (Int32.ofInt a3)), some (.int (Int32.ofInt i))], [], (zMi c0 c1 c2 c3 c4 c5 c6 c7 c8 c9 c10 c11 c12 c13 f0 f9 f10 f11 f12 f13 f15 f16 f17 f20 f21 f22 f23 f26 f28 f31 f32 f33 f38 f41 f44 x14 g15 g16 g17 g18 g19 q20_3 g21 g22 g23 g24 g25 g26 g27 g28 g29 g30 g31 g32 g33 g34 g35 g36 g37 g38 g39 g40 g41 g42 g43 g44 t), 0, 0) := by
    intro N
    induction N with
    | zero => intros; omega
    | succ N ih3 =>
      intro i q20_3 hf0_3 hp0_3 hN3
      iterate 2 refine hR (?_ : R (_, _, _, _, _, _))
      refine hR (j_ge (by omega) (by omega) (fun hc1 => ?_) (fun hc1 => ?_))
      · skip
        exact hR (zret_i rfl (Nat.le_refl _) rfl (h _ (kpR_e hp0_3 (by omega))))
      iterate 3 refine hR (?_ : R (_, _, _, _, _, _))
      refine hR (t_mul ?_)
      refine hR (?_ : R (_, _, _, _, _, _))
      refine hR (t_add ?_)
      iterate 3 refine hR (?_ : R (_, _, _, _, _, _))
      refine hR (t_ldE (by omega) (by omega) (Nat.le_of_ble_eq_true rfl) fun v2 ev2 rv2 => ?_)
      refine hR (t_st (by omega) (by omega) (Nat.le_of_ble_eq_true rfl) (?_ : R (_, _, _, (zMi c0 c1 c2 c3 c4 c5 c6 c7 c8 c9 c10 c11 c12 c13 f0 f9 f10 f11 f12 f13 f15 f16 f17 f20 f21 f22 f23 f26 f28 f31 f32 f33 f38 f41 f44 x14 g15 g16 g17 g18 g19 (upd q20_3 ((51 * a3) + i).toNat (Int32.ofInt v2)) g21 g22 g23 g24 g25 g26 g27 g28 g29 g30 g31 g32 g33 g34 g35 g36 g37 g38 g39 g40 g41 g42 g43 g44 t), _, _)))
      refine hR (t_inc ?_)
      refine hR (?_ : R (_, _, _, _, _, _))
      exact ih3 _ _ (by omega) (kpR_s hp0_3 (by omega) (by omega) (by omega) ev2) (by omega)
  exact lp3 400000000 _ _ (by omega) (kpR_0 _ _ _) (by omega)
theorem m_store21 (d : Nat) (a3 : Int) (hr0 : 0 ≤ a3 ∧ a3 ≤ 1) (Q : zQ) (h : ∀ (k21 : Nat → Int32), (k21 = kpR g21 (121 * a3.toNat) g23 121) → Q (none) (zMi c0 c1 c2 c3 c4 c5 c6 c7 c8 c9 c10 c11 c12 c13 f0 f9 f10 f11 f12 f13 f15 f16 f17 f20 f21 f22 f23 f26 f28 f31 f32 f33 f38 f41 f44 x14 g15 g16 g17 g18 g19 g20 k21 g22 g23 g24 g25 g26 g27 g28 g29 g30 g31 g32 g33 g34 g35 g36 g37 g38 g39 g40 g41 g42 g43 g44 t)) : zCl zTab (d + 1) iX12_store [.ref 14, .ref 21, .int (Int32.ofInt 121), .int (Int32.ofInt a3)] (zMi c0 c1 c2 c3 c4 c5 c6 c7 c8 c9 c10 c11 c12 c13 f0 f9 f10 f11 f12 f13 f15 f16 f17 f20 f21 f22 f23 f26 f28 f31 f32 f33 f38 f41 f44 x14 g15 g16 g17 g18 g19 g20 g21 g22 g23 g24 g25 g26 g27 g28 g29 g30 g31 g32 g33 g34 g35 g36 g37 g38 g39 g40 g41 g42 g43 g44 t) 0 0 Q := by
  refine zCl_i (M := kX12_store) rfl (Nat.le_of_ble_eq_true rfl) fun R hR => ?_
  iterate 2 refine hR (?_ : R (_, _, _, _, _, _))
  have lp3 : ∀ (N : Nat) (i : Int) (q21_3 : Nat → Int32), (0 ≤ i ∧ i ≤ 121) → (q21_3 = kpR g21 (121 * a3.toNat) g23 i.toNat) → (121 - i < N) → R (3, [some (.ref 14), some (.ref 21), some (.int (Int32.ofInt 121)), some (.int (Int32.ofInt a3)), some (.int (Int32.ofInt i))], [], (zMi c0 c1 c2 c3 c4 c5 c6 c7 c8 c9 c10 c11 c12 c13 f0 f9 f10 f11 f12 f13 f15 f16 f17 f20 f21 f22 f23 f26 f28 f31 f32 f33 f38 f41 f44 x14 g15 g16 g17 g18 g19 g20 q21_3 g22 g23 g24 g25 g26 g27 g28 g29 g30 g31 g32 g33 g34 g35 g36 g37 g38 g39 g40 g41 g42 g43 g44 t), 0, 0) := by
    intro N
    induction N with
    | zero => intros; omega
    | succ N ih3 =>
      intro i q21_3 hf0_3 hp0_3 hN3
      iterate 2 refine hR (?_ : R (_, _, _, _, _, _))
      refine hR (j_ge (by omega) (by omega) (fun hc1 => ?_) (fun hc1 => ?_))
      · skip
        exact hR (zret_i rfl (Nat.le_refl _) rfl (h _ (kpR_e hp0_3 (by omega))))
      iterate 3 refine hR (?_ : R (_, _, _, _, _, _))
      refine hR (t_mul ?_)
      refine hR (?_ : R (_, _, _, _, _, _))
      refine hR (t_add ?_)
      iterate 3 refine hR (?_ : R (_, _, _, _, _, _))
      refine hR (t_ldE (by omega) (by omega) (Nat.le_of_ble_eq_true rfl) fun v2 ev2 rv2 => ?_)
      refine hR (t_st (by omega) (by omega) (Nat.le_of_ble_eq_true rfl) (?_ : R (_, _, _, (zMi c0 c1 c2 c3 c4 c5 c6 c7 c8 c9 c10 c11 c12 c13 f0 f9 f10 f11 f12 f13 f15 f16 f17 f20 f21 f22 f23 f26 f28 f31 f32 f33 f38 f41 f44 x14 g15 g16 g17 g18 g19 g20 (upd q21_3 ((121 * a3) + i).toNat (Int32.ofInt v2)) g22 g23 g24 g25 g26 g27 g28 g29 g30 g31 g32 g33 g34 g35 g36 g37 g38 g39 g40 g41 g42 g43 g44 t), _, _)))
      refine hR (t_inc ?_)
      refine hR (?_ : R (_, _, _, _, _, _))
      exact ih3 _ _ (by omega) (kpR_s hp0_3 (by omega) (by omega) (by omega) ev2) (by omega)
  exact lp3 400000000 _ _ (by omega) (kpR_0 _ _ _) (by omega)
theorem m_store22 (d : Nat) (a3 : Int) (hr0 : 0 ≤ a3 ∧ a3 ≤ 1) (Q : zQ) (h : ∀ (k22 : Nat → Int32), (k22 = kpR g22 (13 * a3.toNat) g23 13) → Q (none) (zMi c0 c1 c2 c3 c4 c5 c6 c7 c8 c9 c10 c11 c12 c13 f0 f9 f10 f11 f12 f13 f15 f16 f17 f20 f21 f22 f23 f26 f28 f31 f32 f33 f38 f41 f44 x14 g15 g16 g17 g18 g19 g20 g21 k22 g23 g24 g25 g26 g27 g28 g29 g30 g31 g32 g33 g34 g35 g36 g37 g38 g39 g40 g41 g42 g43 g44 t)) : zCl zTab (d + 1) iX12_store [.ref 14, .ref 22, .int (Int32.ofInt 13), .int (Int32.ofInt a3)] (zMi c0 c1 c2 c3 c4 c5 c6 c7 c8 c9 c10 c11 c12 c13 f0 f9 f10 f11 f12 f13 f15 f16 f17 f20 f21 f22 f23 f26 f28 f31 f32 f33 f38 f41 f44 x14 g15 g16 g17 g18 g19 g20 g21 g22 g23 g24 g25 g26 g27 g28 g29 g30 g31 g32 g33 g34 g35 g36 g37 g38 g39 g40 g41 g42 g43 g44 t) 0 0 Q := by
  refine zCl_i (M := kX12_store) rfl (Nat.le_of_ble_eq_true rfl) fun R hR => ?_
  iterate 2 refine hR (?_ : R (_, _, _, _, _, _))
  have lp3 : ∀ (N : Nat) (i : Int) (q22_3 : Nat → Int32), (0 ≤ i ∧ i ≤ 13) → (q22_3 = kpR g22 (13 * a3.toNat) g23 i.toNat) → (13 - i < N) → R (3, [some (.ref 14), some (.ref 22), some (.int (Int32.ofInt 13)), some (.int (Int32.ofInt a3)), some (.int (Int32.ofInt i))], [], (zMi c0 c1 c2 c3 c4 c5 c6 c7 c8 c9 c10 c11 c12 c13 f0 f9 f10 f11 f12 f13 f15 f16 f17 f20 f21 f22 f23 f26 f28 f31 f32 f33 f38 f41 f44 x14 g15 g16 g17 g18 g19 g20 g21 q22_3 g23 g24 g25 g26 g27 g28 g29 g30 g31 g32 g33 g34 g35 g36 g37 g38 g39 g40 g41 g42 g43 g44 t), 0, 0) := by
    intro N
    induction N with
    | zero => intros; omega
    | succ N ih3 =>
      intro i q22_3 hf0_3 hp0_3 hN3
      iterate 2 refine hR (?_ : R (_, _, _, _, _, _))
      refine hR (j_ge (by omega) (by omega) (fun hc1 => ?_) (fun hc1 => ?_))
      · skip
        exact hR (zret_i rfl (Nat.le_refl _) rfl (h _ (kpR_e hp0_3 (by omega))))
      iterate 3 refine hR (?_ : R (_, _, _, _, _, _))
      refine hR (t_mul ?_)
      refine hR (?_ : R (_, _, _, _, _, _))
      refine hR (t_add ?_)
      iterate 3 refine hR (?_ : R (_, _, _, _, _, _))
      refine hR (t_ldE (by omega) (by omega) (Nat.le_of_ble_eq_true rfl) fun v2 ev2 rv2 => ?_)
      refine hR (t_st (by omega) (by omega) (Nat.le_of_ble_eq_true rfl) (?_ : R (_, _, _, (zMi c0 c1 c2 c3 c4 c5 c6 c7 c8 c9 c10 c11 c12 c13 f0 f9 f10 f11 f12 f13 f15 f16 f17 f20 f21 f22 f23 f26 f28 f31 f32 f33 f38 f41 f44 x14 g15 g16 g17 g18 g19 g20 g21 (upd q22_3 ((13 * a3) + i).toNat (Int32.ofInt v2)) g23 g24 g25 g26 g27 g28 g29 g30 g31 g32 g33 g34 g35 g36 g37 g38 g39 g40 g41 g42 g43 g44 t), _, _)))
      refine hR (t_inc ?_)
      refine hR (?_ : R (_, _, _, _, _, _))
      exact ih3 _ _ (by omega) (kpR_s hp0_3 (by omega) (by omega) (by omega) ev2) (by omega)
  exact lp3 400000000 _ _ (by omega) (kpR_0 _ _ _) (by omega)
end MZ
