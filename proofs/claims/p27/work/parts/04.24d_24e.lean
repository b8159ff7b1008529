theorem si_i0 {g : Nat → Int32} {f v : Int} (hf : 0 ≤ f) (h : v = (g (13 * f).toNat).toInt) : v = (g (13 * f.toNat)).toInt := by
  rw [h, show (13 * f).toNat = 13 * f.toNat by omega]
theorem si_0 {g : Nat → Int32} {f v : Int} (hg : siOK g) (hf : 0 ≤ f) (hf1 : f ≤ 7) (h : v = (g (13 * f.toNat)).toInt) : 0 ≤ v ∧ v ≤ 6 := by
  rw [h]; exact hg f.toNat (by omega)
section MZ
variable {c0 c1 c2 c3 c4 c5 c6 c7 c8 c9 c10 c11 c12 c13 : va_E} {f0 f9 f10 f11 f12 f13 f15 f16 f17 f20 f21 f22 f23 f26 f28 f31 f32 f33 f38 f41 f44 : Int} {x14 : Int64} {g15 g16 g17 g18 g19 g20 g21 g22 g23 g24 g25 g26 g27 g28 g29 g30 g31 g32 g33 g34 g35 g36 g37 g38 g39 g40 g41 g42 g43 g44 : Nat → Int32} {t : zW}
theorem m_layMade (d : Nat) (hb25 : zB 0 3 g25) (hb30 : zB 0 5460 g30) (hr2 : bkOK g20) (hr3 : 0 ≤ f20 ∧ f20 ≤ 1) (hr4 : 0 ≤ f23 ∧ f23 ≤ 5) (Q : zQ) (h : ∀ (y21 : Int) (y26 : Int) (k25 : Nat → Int32) (k30 : Nat → Int32), zB 0 3 k25 → zB 0 5460 k30 → Q (none) (zMi c0 c1 c2 c3 c4 c5 c6 c7 c8 c9 c10 c11 c12 c13 f0 f9 f10 f11 f12 f13 f15 f16 f17 f20 y21 f22 f23 y26 f28 f31 f32 f33 f38 f41 f44 x14 g15 g16 g17 g18 g19 g20 g21 g22 g23 g24 k25 g26 g27 g28 g29 k30 g31 g32 g33 g34 g35 g36 g37 g38 g39 g40 g41 g42 g43 g44 t)) : zCl zTab (d + 5) iX12_layMade [.ref 14] (zMi c0 c1 c2 c3 c4 c5 c6 c7 c8 c9 c10 c11 c12 c13 f0 f9 f10 f11 f12 f13 f15 f16 f17 f20 f21 f22 f23 f26 f28 f31 f32 f33 f38 f41 f44 x14 g15 g16 g17 g18 g19 g20 g21 g22 g23 g24 g25 g26 g27 g28 g29 g30 g31 g32 g33 g34 g35 g36 g37 g38 g39 g40 g41 g42 g43 g44 t) 0 0 Q := by
  refine zCl_i (M := kX12_layMade) rfl (Nat.le_of_ble_eq_true rfl) fun R hR => ?_
  iterate 2 refine hR (?_ : R (_, _, _, _, _, _))
  have lp2 : ∀ (N : Nat) (r : Int) (o2_2 : Option Value) (e26_2 : Int) (q25_2 : Nat → Int32) (q30_2 : Nat → Int32), (zc2 o2_2 = false) → (0 ≤ r ∧ r ≤ f23) → (zB 0 3 q25_2) → (zB 0 5460 q30_2) → (f23 - r < N) → R (2, [some (.ref 14), some (.int (Int32.ofInt r)), o2_2], [], (zMi c0 c1 c2 c3 c4 c5 c6 c7 c8 c9 c10 c11 c12 c13 f0 f9 f10 f11 f12 f13 f15 f16 f17 f20 f21 f22 f23 e26_2 f28 f31 f32 f33 f38 f41 f44 x14 g15 g16 g17 g18 g19 g20 g21 g22 g23 g24 q25_2 g26 g27 g28 g29 q30_2 g31 g32 g33 g34 g35 g36 g37 g38 g39 g40 g41 g42 g43 g44 t), 0, 0) := by
    intro N
    induction N with
    | zero => intros; omega
    | succ N ih2 =>
      intro r o2_2 e26_2 q25_2 q30_2 hzo2_2 hf0_2 hq25_2 hq30_2 hN2
      iterate 3 refine hR (?_ : R (_, _, _, _, _, _))
      refine hR (j_ge (by omega) (by omega) (fun hc1 => ?_) (fun hc1 => ?_))
      · skip
        iterate 3 refine hR (?_ : R (_, _, _, _, _, _))
        refine hR (?_ : R (_, _, _, (zMi c0 c1 c2 c3 c4 c5 c6 c7 c8 c9 c10 c11 c12 c13 f0 f9 f10 f11 f12 f13 f15 f16 f17 f20 f20 f22 f23 e26_2 f28 f31 f32 f33 f38 f41 f44 x14 g15 g16 g17 g18 g19 g20 g21 g22 g23 g24 q25_2 g26 g27 g28 g29 q30_2 g31 g32 g33 g34 g35 g36 g37 g38 g39 g40 g41 g42 g43 g44 t), _, _))
        exact hR (zret_i rfl (Nat.le_refl _) rfl (h _ _ _ _ hq25_2 hq30_2))
      iterate 4 refine hR (?_ : R (_, _, _, _, _, _))
      refine hR (j_any ?_ ?_)
      · skip
        iterate 3 refine hR (?_ : R (_, _, _, _, _, _))
        refine hR (?_ : R (_, _, _, (zMi c0 c1 c2 c3 c4 c5 c6 c7 c8 c9 c10 c11 c12 c13 f0 f9 f10 f11 f12 f13 f15 f16 f17 f20 f20 f22 f23 e26_2 f28 f31 f32 f33 f38 f41 f44 x14 g15 g16 g17 g18 g19 g20 g21 g22 g23 g24 q25_2 g26 g27 g28 g29 q30_2 g31 g32 g33 g34 g35 g36 g37 g38 g39 g40 g41 g42 g43 g44 t), _, _))
        exact hR (zret_i rfl (Nat.le_refl _) rfl (h _ _ _ _ hq25_2 hq30_2))
      iterate 2 refine hR (?_ : R (_, _, _, _, _, _))
      have lp23 : ∀ (N : Nat) (i : Int) (e26_23 : Int) (q25_23 : Nat → Int32) (q30_23 : Nat → Int32), (0 ≤ i ∧ i ≤ 5461) → (zB 0 3 q25_23) → (zB 0 5460 q30_23) → (5461 - i < N) → R (23, [some (.ref 14), some (.int (Int32.ofInt r)), some (.int (Int32.ofInt i))], [], (zMi c0 c1 c2 c3 c4 c5 c6 c7 c8 c9 c10 c11 c12 c13 f0 f9 f10 f11 f12 f13 f15 f16 f17 f20 f21 f22 f23 e26_23 f28 f31 f32 f33 f38 f41 f44 x14 g15 g16 g17 g18 g19 g20 g21 g22 g23 g24 q25_23 g26 g27 g28 g29 q30_23 g31 g32 g33 g34 g35 g36 g37 g38 g39 g40 g41 g42 g43 g44 t), 0, 0) := by
        intro N
        induction N with
        | zero => intros; omega
        | succ N ih23 =>
          intro i e26_23 q25_23 q30_23 hf0_23 hq25_23 hq30_23 hN23
          refine hR (?_ : R (_, _, _, _, _, _))
          refine hR (t_c 5461 (by decide) ?_)
          refine hR (j_ge (by omega) (by omega) (fun hc2 => ?_) (fun hc2 => ?_))
          · skip
            refine hR (t_inc ?_)
            refine hR (?_ : R (_, _, _, _, _, _))
            exact ih2 _ _ _ _ _ (by rfl) (by omega) hq25_23 hq30_23 (by omega)
          iterate 2 refine hR (?_ : R (_, _, _, _, _, _))
          refine hR (t_c 5461 (by decide) ?_)
          refine hR (?_ : R (_, _, _, _, _, _))
          refine hR (t_mul ?_)
          refine hR (?_ : R (_, _, _, _, _, _))
          refine hR (t_add ?_)
          iterate 3 refine hR (?_ : R (_, _, _, _, _, _))
          refine hR (zcall_i 0 0 (Nat.le_of_ble_eq_true rfl) (Nat.le_of_ble_eq_true rfl) (m_readBy _ i r hq25_23 (by omega) hr2 (by omega) (by omega) _ fun v3 y26_4 k25_5 hp6 hp7 => ?_))
          refine (?_ : R (_, _, (.int (Int32.ofInt v3)) :: (.int (Int32.ofInt ((5461 * r) + i))) :: (.ref 30) :: [], (zMi c0 c1 c2 c3 c4 c5 c6 c7 c8 c9 c10 c11 c12 c13 f0 f9 f10 f11 f12 f13 f15 f16 f17 f20 f21 f22 f23 y26_4 f28 f31 f32 f33 f38 f41 f44 x14 g15 g16 g17 g18 g19 g20 g21 g22 g23 g24 k25_5 g26 g27 g28 g29 q30_23 g31 g32 g33 g34 g35 g36 g37 g38 g39 g40 g41 g42 g43 g44 t), 0, 0))
          refine hR (t_stB hq30_23 (by omega) (by omega) (by omega) (by omega) (by omega) (by omega) (Nat.le_of_ble_eq_true rfl) fun k30_8 hk30_8 => (?_ : R (_, _, _, (zMi c0 c1 c2 c3 c4 c5 c6 c7 c8 c9 c10 c11 c12 c13 f0 f9 f10 f11 f12 f13 f15 f16 f17 f20 f21 f22 f23 y26_4 f28 f31 f32 f33 f38 f41 f44 x14 g15 g16 g17 g18 g19 g20 g21 g22 g23 g24 k25_5 g26 g27 g28 g29 k30_8 g31 g32 g33 g34 g35 g36 g37 g38 g39 g40 g41 g42 g43 g44 t), _, _)))
          refine hR (t_inc ?_)
          refine hR (?_ : R (_, _, _, _, _, _))
          exact ih23 _ _ _ _ (by omega) hp6 hk30_8 (by omega)
      exact lp23 400000000 _ _ _ _ (by omega) hq25_2 hq30_2 (by omega)
  exact lp2 400000000 _ _ _ _ _ (by rfl) (by omega) hb25 hb30 (by omega)
theorem m_handAll (d : Nat) (a1 : Int) (hb19 : zB 0 2 g19) (hb25 : zB 0 3 g25) (hb30 : zB 0 5460 g30) (hr3 : bkOK g20) (hr4 : -2147483648 ≤ a1 ∧ a1 ≤ 2147483647) (Q : zQ) (h : ∀ (v : Int) (y20 : Int) (y21 : Int) (y22 : Int) (y23 : Int) (y26 : Int) (k25 : Nat → Int32) (k30 : Nat → Int32), zB 0 3 k25 → zB 0 5460 k30 → ((v = 1 ∧ 0 ≤ a1 ∧ a1 ≤ 1 ∧ y20 = a1 ∧ 0 ≤ y22 ∧ y22 ≤ 5460 ∧ 0 ≤ y23 ∧ y23 ≤ 5) ∨ v = 0) → Q (some (.int (Int32.ofInt v))) (zMi c0 c1 c2 c3 c4 c5 c6 c7 c8 c9 c10 c11 c12 c13 f0 f9 f10 f11 f12 f13 f15 f16 f17 y20 y21 y22 y23 y26 f28 f31 f32 f33 f38 f41 f44 x14 g15 g16 g17 g18 g19 g20 g21 g22 g23 g24 k25 g26 g27 g28 g29 k30 g31 g32 g33 g34 g35 g36 g37 g38 g39 g40 g41 g42 g43 g44 t)) : zCl zTab (d + 6) iX12_handAll [.ref 14, .int (Int32.ofInt a1)] (zMi c0 c1 c2 c3 c4 c5 c6 c7 c8 c9 c10 c11 c12 c13 f0 f9 f10 f11 f12 f13 f15 f16 f17 f20 f21 f22 f23 f26 f28 f31 f32 f33 f38 f41 f44 x14 g15 g16 g17 g18 g19 g20 g21 g22 g23 g24 g25 g26 g27 g28 g29 g30 g31 g32 g33 g34 g35 g36 g37 g38 g39 g40 g41 g42 g43 g44 t) 0 0 Q := by
  refine zCl_i (M := kX12_handAll) rfl (Nat.le_of_ble_eq_true rfl) fun R hR => ?_
  iterate 2 refine hR (?_ : R (_, _, _, _, _, _))
  refine hR (zcall_i 0 0 (Nat.le_of_ble_eq_true rfl) (Nat.le_of_ble_eq_true rfl) (m_hand _ a1 hb19 hr3 (by omega) _ fun v1 y20_2 y22_3 y23_4 hp5 => ?_))
  refine (?_ : R (_, _, (.int (Int32.ofInt v1)) :: [], (zMi c0 c1 c2 c3 c4 c5 c6 c7 c8 c9 c10 c11 c12 c13 f0 f9 f10 f11 f12 f13 f15 f16 f17 y20_2 f21 y22_3 y23_4 f26 f28 f31 f32 f33 f38 f41 f44 x14 g15 g16 g17 g18 g19 g20 g21 g22 g23 g24 g25 g26 g27 g28 g29 g30 g31 g32 g33 g34 g35 g36 g37 g38 g39 g40 g41 g42 g43 g44 t), 0, 0))
  refine hR (k_ne (by omega) (fun hc6 => ?_) (fun hc6 => ?_))
  rotate_left
  · skip
    refine hR (?_ : R (_, _, _, _, _, _))
    exact hR (zret_i rfl (Nat.le_refl _) (zbo (by omega)) (h _ _ _ _ _ _ _ _ hb25 hb30 (by omega)))
  refine hR (?_ : R (_, _, _, _, _, _))
  refine hR (zcall_i 0 0 (Nat.le_of_ble_eq_true rfl) (Nat.le_of_ble_eq_true rfl) (m_layMade _ hb25 hb30 hr3 (by omega) (by omega) _ fun y21_7 y26_8 k25_9 k30_10 hp11 hp12 => ?_))
  refine (?_ : R (_, _, [], (zMi c0 c1 c2 c3 c4 c5 c6 c7 c8 c9 c10 c11 c12 c13 f0 f9 f10 f11 f12 f13 f15 f16 f17 y20_2 y21_7 y22_3 y23_4 y26_8 f28 f31 f32 f33 f38 f41 f44 x14 g15 g16 g17 g18 g19 g20 g21 g22 g23 g24 k25_9 g26 g27 g28 g29 k30_10 g31 g32 g33 g34 g35 g36 g37 g38 g39 g40 g41 g42 g43 g44 t), 0, 0))
  refine hR (?_ : R (_, _, _, _, _, _))
  exact hR (zret_i rfl (Nat.le_refl _) (zbo (by omega)) (h _ _ _ _ _ _ _ _ hp11 hp12 (by omega)))
theorem m_isKept (d : Nat) (a1 a2 : Int) (hb30 : zB 0 5460 g30) (hr1 : 0 ≤ f23 ∧ f23 ≤ 5) (hr2 : 0 ≤ a1 ∧ a1 ≤ 5460) (Q : zQ) (h : ∀ (v : Int), (v = 0 ∨ v = 1) → Q (some (.int (Int32.ofInt v))) (zMi c0 c1 c2 c3 c4 c5 c6 c7 c8 c9 c10 c11 c12 c13 f0 f9 f10 f11 f12 f13 f15 f16 f17 f20 f21 f22 f23 f26 f28 f31 f32 f33 f38 f41 f44 x14 g15 g16 g17 g18 g19 g20 g21 g22 g23 g24 g25 g26 g27 g28 g29 g30 g31 g32 g33 g34 g35 g36 g37 g38 g39 g40 g41 g42 g43 g44 t)) : zCl zTab (d + 2) iX12_isKept [.ref 14, .int (Int32.ofInt a1), .int (Int32.ofInt a2)] (zMi c0 c1 c2 c3 c4 c5 c6 c7 c8 c9 c10 c11 c12 c13 f0 f9 f10 f11 f12 f13 f15 f16 f17 f20 f21 f22 f23 f26 f28 f31 f32 f33 f38 f41 f44 x14 g15 g16 g17 g18 g19 g20 g21 g22 g23 g24 g25 g26 g27 g28 g29 g30 g31 g32 g33 g34 g35 g36 g37 g38 g39 g40 g41 g42 g43 g44 t) 0 0 Q := by
  refine zCl_i (M := kX12_isKept) rfl (Nat.le_of_ble_eq_true rfl) fun R hR => ?_
  iterate 2 refine hR (?_ : R (_, _, _, _, _, _))
  have lp2 : ∀ (N : Nat) (r : Int), (0 ≤ r ∧ r ≤ f23) → (f23 - r < N) → R (2, [some (.ref 14), some (.int (Int32.ofInt a1)), some (.int (Int32.ofInt a2)), some (.int (Int32.ofInt r))], [], (zMi c0 c1 c2 c3 c4 c5 c6 c7 c8 c9 c10 c11 c12 c13 f0 f9 f10 f11 f12 f13 f15 f16 f17 f20 f21 f22 f23 f26 f28 f31 f32 f33 f38 f41 f44 x14 g15 g16 g17 g18 g19 g20 g21 g22 g23 g24 g25 g26 g27 g28 g29 g30 g31 g32 g33 g34 g35 g36 g37 g38 g39 g40 g41 g42 g43 g44 t), 0, 0) := by
    intro N
    induction N with
    | zero => intros; omega
    | succ N ih2 =>
      intro r hf0_2 hN2
      iterate 3 refine hR (?_ : R (_, _, _, _, _, _))
      refine hR (j_ge (by omega) (by omega) (fun hc1 => ?_) (fun hc1 => ?_))
      · skip
        refine hR (?_ : R (_, _, _, _, _, _))
        exact hR (zret_i rfl (Nat.le_refl _) (zbo (by omega)) (h _ (by omega)))
      iterate 2 refine hR (?_ : R (_, _, _, _, _, _))
      refine hR (zcall_i 0 0 (Nat.le_of_ble_eq_true rfl) (Nat.le_of_ble_eq_true rfl) (m_has _ a2 r _ _ fun v2 hp3 => ?_))
      refine (?_ : R (_, _, (.int (Int32.ofInt v2)) :: [], (zMi c0 c1 c2 c3 c4 c5 c6 c7 c8 c9 c10 c11 c12 c13 f0 f9 f10 f11 f12 f13 f15 f16 f17 f20 f21 f22 f23 f26 f28 f31 f32 f33 f38 f41 f44 x14 g15 g16 g17 g18 g19 g20 g21 g22 g23 g24 g25 g26 g27 g28 g29 g30 g31 g32 g33 g34 g35 g36 g37 g38 g39 g40 g41 g42 g43 g44 t), 0, 0))
      refine hR (k_eq (by omega) (fun hc4 => ?_) (fun hc4 => ?_))
      · skip
        refine hR (t_inc ?_)
        refine hR (?_ : R (_, _, _, _, _, _))
        exact ih2 _ (by omega) (by omega)
      iterate 2 refine hR (?_ : R (_, _, _, _, _, _))
      refine hR (t_c 5461 (by decide) ?_)
      refine hR (?_ : R (_, _, _, _, _, _))
      refine hR (t_mul ?_)
      refine hR (?_ : R (_, _, _, _, _, _))
      refine hR (t_add ?_)
      refine hR (t_ldB hb30 (by omega) (by omega) (Nat.le_of_ble_eq_true rfl) fun v5 ev5 lv5 uv5 => ?_)
      clear ev5
      refine hR (?_ : R (_, _, _, _, _, _))
      refine hR (j_eq (by omega) (by omega) (fun hc6 => ?_) (fun hc6 => ?_))
      rotate_left
      · skip
        refine hR (?_ : R (_, _, _, _, _, _))
        exact hR (zret_i rfl (Nat.le_refl _) (zbo (by omega)) (h _ (by omega)))
      refine hR (t_inc ?_)
      refine hR (?_ : R (_, _, _, _, _, _))
      exact ih2 _ (by omega) (by omega)
  exact lp2 400000000 _ (by omega) (by omega)
theorem m_sound (d : Nat) (a1 a2 : Int) (hb19 : zB 0 2 g19) (hb25 : zB 0 3 g25) (hb30 : zB 0 5460 g30) (hr3 : bkOK g20) (hr4 : -2147483648 ≤ a1 ∧ a1 ≤ 2147483647) (hr5 : -2147483648 ≤ a2 ∧ a2 ≤ 2147483647) (Q : zQ) (h : ∀ (v : Int) (y0 : Int) (y20 : Int) (y21 : Int) (y22 : Int) (y23 : Int) (y26 : Int) (k25 : Nat → Int32) (k30 : Nat → Int32), zB 0 3 k25 → zB 0 5460 k30 → Q (some (.int (Int32.ofInt v))) (zMi c0 c1 c2 c3 c4 c5 c6 c7 c8 c9 c10 c11 c12 c13 y0 f9 f10 f11 f12 f13 f15 f16 f17 y20 y21 y22 y23 y26 f28 f31 f32 f33 f38 f41 f44 x14 g15 g16 g17 g18 g19 g20 g21 g22 g23 g24 k25 g26 g27 g28 g29 k30 g31 g32 g33 g34 g35 g36 g37 g38 g39 g40 g41 g42 g43 g44 t)) : zCl zTab (d + 6) iX12_sound [.ref 14, .int (Int32.ofInt a1), .int (Int32.ofInt a2)] (zMi c0 c1 c2 c3 c4 c5 c6 c7 c8 c9 c10 c11 c12 c13 f0 f9 f10 f11 f12 f13 f15 f16 f17 f20 f21 f22 f23 f26 f28 f31 f32 f33 f38 f41 f44 x14 g15 g16 g17 g18 g19 g20 g21 g22 g23 g24 g25 g26 g27 g28 g29 g30 g31 g32 g33 g34 g35 g36 g37 g38 g39 g40 g41 g42 g43 g44 t) 0 0 Q := by
  refine zCl_i (M := kX12_sound) rfl (Nat.le_of_ble_eq_true rfl) fun R hR => ?_
  iterate 2 refine hR (?_ : R (_, _, _, _, _, _))
  refine hR (?_ : R (_, _, _, (zMi c0 c1 c2 c3 c4 c5 c6 c7 c8 c9 c10 c11 c12 c13 0 f9 f10 f11 f12 f13 f15 f16 f17 f20 f21 f22 f23 f26 f28 f31 f32 f33 f38 f41 f44 x14 g15 g16 g17 g18 g19 g20 g21 g22 g23 g24 g25 g26 g27 g28 g29 g30 g31 g32 g33 g34 g35 g36 g37 g38 g39 g40 g41 g42 g43 g44 t), _, _))
  iterate 2 refine hR (?_ : R (_, _, _, _, _, _))
  refine hR (zcall_i 0 0 (Nat.le_of_ble_eq_true rfl) (Nat.le_of_ble_eq_true rfl) (m_hand _ a1 hb19 hr3 (by omega) _ fun v1 y20_2 y22_3 y23_4 hp5 => ?_))
  refine (?_ : R (_, _, (.int (Int32.ofInt v1)) :: [], (zMi c0 c1 c2 c3 c4 c5 c6 c7 c8 c9 c10 c11 c12 c13 0 f9 f10 f11 f12 f13 f15 f16 f17 y20_2 f21 y22_3 y23_4 f26 f28 f31 f32 f33 f38 f41 f44 x14 g15 g16 g17 g18 g19 g20 g21 g22 g23 g24 g25 g26 g27 g28 g29 g30 g31 g32 g33 g34 g35 g36 g37 g38 g39 g40 g41 g42 g43 g44 t), 0, 0))
  refine hR (k_eq (by omega) (fun hc6 => ?_) (fun hc6 => ?_))
  · skip
    refine hR (?_ : R (_, _, _, _, _, _))
    exact hR (zret_i rfl (Nat.le_refl _) trivial (h _ _ _ _ _ _ _ _ _ hb25 hb30))
  iterate 5 refine hR (?_ : R (_, _, _, _, _, _))
  obtain ⟨v7, lv7, uv7, qv7⟩ := zshl_r (e := y23_4) (by omega) (by omega)
  refine hR (t_c v7 qv7 ?_)
  refine hR (?_ : R (_, _, _, _, _, _))
  refine hR (t_sub ?_)
  refine hR (zcall_i 0 0 (Nat.le_of_ble_eq_true rfl) (Nat.le_of_ble_eq_true rfl) (m_in _ a2 0 (v7 - 1) _ (by omega) (by omega) (by omega) _ fun v8 hp9 => ?_))
  refine (?_ : R (_, _, (.int (Int32.ofInt v8)) :: [], (zMi c0 c1 c2 c3 c4 c5 c6 c7 c8 c9 c10 c11 c12 c13 0 f9 f10 f11 f12 f13 f15 f16 f17 y20_2 f21 y22_3 y23_4 f26 f28 f31 f32 f33 f38 f41 f44 x14 g15 g16 g17 g18 g19 g20 g21 g22 g23 g24 g25 g26 g27 g28 g29 g30 g31 g32 g33 g34 g35 g36 g37 g38 g39 g40 g41 g42 g43 g44 t), 0, 0))
  refine hR (k_ne (by omega) (fun hc10 => ?_) (fun hc10 => ?_))
  rotate_left
  · skip
    refine hR (?_ : R (_, _, _, _, _, _))
    exact hR (zret_i rfl (Nat.le_refl _) trivial (h _ _ _ _ _ _ _ _ _ hb25 hb30))
  refine hR (?_ : R (_, _, _, _, _, _))
  refine hR (zcall_i 0 0 (Nat.le_of_ble_eq_true rfl) (Nat.le_of_ble_eq_true rfl) (m_layMade _ hb25 hb30 hr3 (by omega) (by omega) _ fun y21_11 y26_12 k25_13 k30_14 hp15 hp16 => ?_))
  refine (?_ : R (_, _, [], (zMi c0 c1 c2 c3 c4 c5 c6 c7 c8 c9 c10 c11 c12 c13 0 f9 f10 f11 f12 f13 f15 f16 f17 y20_2 y21_11 y22_3 y23_4 y26_12 f28 f31 f32 f33 f38 f41 f44 x14 g15 g16 g17 g18 g19 g20 g21 g22 g23 g24 k25_13 g26 g27 g28 g29 k30_14 g31 g32 g33 g34 g35 g36 g37 g38 g39 g40 g41 g42 g43 g44 t), 0, 0))
  iterate 4 refine hR (?_ : R (_, _, _, _, _, _))
  have lp40 : ∀ (N : Nat) (n : Int) (i : Int), (0 ≤ i ∧ i ≤ 5461) → (5461 - i < N) → R (40, [some (.ref 14), some (.int (Int32.ofInt a1)), some (.int (Int32.ofInt a2)), some (.int (Int32.ofInt n)), some (.int (Int32.ofInt i))], [], (zMi c0 c1 c2 c3 c4 c5 c6 c7 c8 c9 c10 c11 c12 c13 0 f9 f10 f11 f12 f13 f15 f16 f17 y20_2 y21_11 y22_3 y23_4 y26_12 f28 f31 f32 f33 f38 f41 f44 x14 g15 g16 g17 g18 g19 g20 g21 g22 g23 g24 k25_13 g26 g27 g28 g29 k30_14 g31 g32 g33 g34 g35 g36 g37 g38 g39 g40 g41 g42 g43 g44 t), 0, 0) := by
    intro N
    induction N with
    | zero => intros; omega
    | succ N ih40 =>
      intro n i hf0_40 hN40
      refine hR (?_ : R (_, _, _, _, _, _))
      refine hR (t_c 5461 (by decide) ?_)
      refine hR (j_ge (by omega) (by omega) (fun hc17 => ?_) (fun hc17 => ?_))
      · skip
        refine hR (?_ : R (_, _, _, _, _, _))
        exact hR (zret_i rfl (Nat.le_refl _) trivial (h _ _ _ _ _ _ _ _ _ hp15 hp16))
      iterate 4 refine hR (?_ : R (_, _, _, _, _, _))
      refine hR (zcall_i 0 0 (Nat.le_of_ble_eq_true rfl) (Nat.le_of_ble_eq_true rfl) (m_isKept _ i a2 hp16 (by omega) (by omega) _ fun v18 hp19 => ?_))
      refine (?_ : R (_, _, (.int (Int32.ofInt v18)) :: (.int (Int32.ofInt n)) :: [], (zMi c0 c1 c2 c3 c4 c5 c6 c7 c8 c9 c10 c11 c12 c13 0 f9 f10 f11 f12 f13 f15 f16 f17 y20_2 y21_11 y22_3 y23_4 y26_12 f28 f31 f32 f33 f38 f41 f44 x14 g15 g16 g17 g18 g19 g20 g21 g22 g23 g24 k25_13 g26 g27 g28 g29 k30_14 g31 g32 g33 g34 g35 g36 g37 g38 g39 g40 g41 g42 g43 g44 t), 0, 0))
      refine hR (k_eq (by omega) (fun hc20 => ?_) (fun hc20 => ?_))
      · skip
        refine hR (?_ : R (_, _, _, _, _, _))
        refine hR (t_add ?_)
        refine hR (?_ : R (_, _, _, _, _, _))
        refine hR (t_inc ?_)
        refine hR (?_ : R (_, _, _, _, _, _))
        exact ih40 _ _ (by omega) (by omega)
      iterate 2 refine hR (?_ : R (_, _, _, _, _, _))
      refine hR (t_add ?_)
      refine hR (?_ : R (_, _, _, _, _, _))
      refine hR (t_inc ?_)
      refine hR (?_ : R (_, _, _, _, _, _))
      exact ih40 _ _ (by omega) (by omega)
  exact lp40 400000000 _ _ (by omega) (by omega)
theorem m_like (d : Nat) (a1 a2 a3 : Int) (hb19 : zB 0 2 g19) (hb25 : zB 0 3 g25) (hb30 : zB 0 5460 g30) (hr3 : bkOK g20) (hr4 : -2147483648 ≤ a1 ∧ a1 ≤ 2147483647) (hr5 : -2147483648 ≤ a2 ∧ a2 ≤ 2147483647) (hr6 : -2147483648 ≤ a3 ∧ a3 ≤ 2147483647) (Q : zQ) (h : ∀ (v : Int) (y0 : Int) (y20 : Int) (y21 : Int) (y22 : Int) (y23 : Int) (y26 : Int) (k25 : Nat → Int32) (k30 : Nat → Int32), zB 0 3 k25 → zB 0 5460 k30 → Q (some (.int (Int32.ofInt v))) (zMi c0 c1 c2 c3 c4 c5 c6 c7 c8 c9 c10 c11 c12 c13 y0 f9 f10 f11 f12 f13 f15 f16 f17 y20 y21 y22 y23 y26 f28 f31 f32 f33 f38 f41 f44 x14 g15 g16 g17 g18 g19 g20 g21 g22 g23 g24 k25 g26 g27 g28 g29 k30 g31 g32 g33 g34 g35 g36 g37 g38 g39 g40 g41 g42 g43 g44 t)) : zCl zTab (d + 6) iX12_like [.ref 14, .int (Int32.ofInt a1), .int (Int32.ofInt a2), .int (Int32.ofInt a3)] (zMi c0 c1 c2 c3 c4 c5 c6 c7 c8 c9 c10 c11 c12 c13 f0 f9 f10 f11 f12 f13 f15 f16 f17 f20 f21 f22 f23 f26 f28 f31 f32 f33 f38 f41 f44 x14 g15 g16 g17 g18 g19 g20 g21 g22 g23 g24 g25 g26 g27 g28 g29 g30 g31 g32 g33 g34 g35 g36 g37 g38 g39 g40 g41 g42 g43 g44 t) 0 0 Q := by
  refine zCl_i (M := kX12_like) rfl (Nat.le_of_ble_eq_true rfl) fun R hR => ?_
  iterate 2 refine hR (?_ : R (_, _, _, _, _, _))
  refine hR (?_ : R (_, _, _, (zMi c0 c1 c2 c3 c4 c5 c6 c7 c8 c9 c10 c11 c12 c13 0 f9 f10 f11 f12 f13 f15 f16 f17 f20 f21 f22 f23 f26 f28 f31 f32 f33 f38 f41 f44 x14 g15 g16 g17 g18 g19 g20 g21 g22 g23 g24 g25 g26 g27 g28 g29 g30 g31 g32 g33 g34 g35 g36 g37 g38 g39 g40 g41 g42 g43 g44 t), _, _))
  iterate 2 refine hR (?_ : R (_, _, _, _, _, _))
  refine hR (zcall_i 0 0 (Nat.le_of_ble_eq_true rfl) (Nat.le_of_ble_eq_true rfl) (m_hand _ a1 hb19 hr3 (by omega) _ fun v1 y20_2 y22_3 y23_4 hp5 => ?_))
  refine (?_ : R (_, _, (.int (Int32.ofInt v1)) :: [], (zMi c0 c1 c2 c3 c4 c5 c6 c7 c8 c9 c10 c11 c12 c13 0 f9 f10 f11 f12 f13 f15 f16 f17 y20_2 f21 y22_3 y23_4 f26 f28 f31 f32 f33 f38 f41 f44 x14 g15 g16 g17 g18 g19 g20 g21 g22 g23 g24 g25 g26 g27 g28 g29 g30 g31 g32 g33 g34 g35 g36 g37 g38 g39 g40 g41 g42 g43 g44 t), 0, 0))
  refine hR (k_eq (by omega) (fun hc6 => ?_) (fun hc6 => ?_))
  · skip
    refine hR (?_ : R (_, _, _, _, _, _))
    exact hR (zret_i rfl (Nat.le_refl _) trivial (h _ _ _ _ _ _ _ _ _ hb25 hb30))
  iterate 2 refine hR (?_ : R (_, _, _, _, _, _))
  refine hR (zcall_i 0 0 (Nat.le_of_ble_eq_true rfl) (Nat.le_of_ble_eq_true rfl) (m_isReader _ a2 (by omega) (by omega) _ fun v7 hp8 => ?_))
  refine (?_ : R (_, _, (.int (Int32.ofInt v7)) :: [], (zMi c0 c1 c2 c3 c4 c5 c6 c7 c8 c9 c10 c11 c12 c13 0 f9 f10 f11 f12 f13 f15 f16 f17 y20_2 f21 y22_3 y23_4 f26 f28 f31 f32 f33 f38 f41 f44 x14 g15 g16 g17 g18 g19 g20 g21 g22 g23 g24 g25 g26 g27 g28 g29 g30 g31 g32 g33 g34 g35 g36 g37 g38 g39 g40 g41 g42 g43 g44 t), 0, 0))
  refine hR (k_eq (by omega) (fun hc9 => ?_) (fun hc9 => ?_))
  · skip
    refine hR (?_ : R (_, _, _, _, _, _))
    exact hR (zret_i rfl (Nat.le_refl _) trivial (h _ _ _ _ _ _ _ _ _ hb25 hb30))
  iterate 2 refine hR (?_ : R (_, _, _, _, _, _))
  refine hR (zcall_i 0 0 (Nat.le_of_ble_eq_true rfl) (Nat.le_of_ble_eq_true rfl) (m_isReader _ a3 (by omega) (by omega) _ fun v10 hp11 => ?_))
  refine (?_ : R (_, _, (.int (Int32.ofInt v10)) :: [], (zMi c0 c1 c2 c3 c4 c5 c6 c7 c8 c9 c10 c11 c12 c13 0 f9 f10 f11 f12 f13 f15 f16 f17 y20_2 f21 y22_3 y23_4 f26 f28 f31 f32 f33 f38 f41 f44 x14 g15 g16 g17 g18 g19 g20 g21 g22 g23 g24 g25 g26 g27 g28 g29 g30 g31 g32 g33 g34 g35 g36 g37 g38 g39 g40 g41 g42 g43 g44 t), 0, 0))
  refine hR (k_ne (by omega) (fun hc12 => ?_) (fun hc12 => ?_))
  rotate_left
  · skip
    refine hR (?_ : R (_, _, _, _, _, _))
    exact hR (zret_i rfl (Nat.le_refl _) trivial (h _ _ _ _ _ _ _ _ _ hb25 hb30))
  refine hR (?_ : R (_, _, _, _, _, _))
  refine hR (zcall_i 0 0 (Nat.le_of_ble_eq_true rfl) (Nat.le_of_ble_eq_true rfl) (m_layMade _ hb25 hb30 hr3 (by omega) (by omega) _ fun y21_13 y26_14 k25_15 k30_16 hp17 hp18 => ?_))
  refine (?_ : R (_, _, [], (zMi c0 c1 c2 c3 c4 c5 c6 c7 c8 c9 c10 c11 c12 c13 0 f9 f10 f11 f12 f13 f15 f16 f17 y20_2 y21_13 y22_3 y23_4 y26_14 f28 f31 f32 f33 f38 f41 f44 x14 g15 g16 g17 g18 g19 g20 g21 g22 g23 g24 k25_15 g26 g27 g28 g29 k30_16 g31 g32 g33 g34 g35 g36 g37 g38 g39 g40 g41 g42 g43 g44 t), 0, 0))
  iterate 4 refine hR (?_ : R (_, _, _, _, _, _))
  have lp41 : ∀ (N : Nat) (n : Int) (i : Int), (0 ≤ i ∧ i ≤ 5461) → (5461 - i < N) → R (41, [some (.ref 14), some (.int (Int32.ofInt a1)), some (.int (Int32.ofInt a2)), some (.int (Int32.ofInt a3)), some (.int (Int32.ofInt n)), some (.int (Int32.ofInt i))], [], (zMi c0 c1 c2 c3 c4 c5 c6 c7 c8 c9 c10 c11 c12 c13 0 f9 f10 f11 f12 f13 f15 f16 f17 y20_2 y21_13 y22_3 y23_4 y26_14 f28 f31 f32 f33 f38 f41 f44 x14 g15 g16 g17 g18 g19 g20 g21 g22 g23 g24 k25_15 g26 g27 g28 g29 k30_16 g31 g32 g33 g34 g35 g36 g37 g38 g39 g40 g41 g42 g43 g44 t), 0, 0) := by
    intro N
    induction N with
    | zero => intros; omega
    | succ N ih41 =>
      intro n i hf0_41 hN41
      refine hR (?_ : R (_, _, _, _, _, _))
      refine hR (t_c 5461 (by decide) ?_)
      refine hR (j_ge (by omega) (by omega) (fun hc19 => ?_) (fun hc19 => ?_))
      · skip
        refine hR (?_ : R (_, _, _, _, _, _))
        exact hR (zret_i rfl (Nat.le_refl _) trivial (h _ _ _ _ _ _ _ _ _ hp17 hp18))
      iterate 3 refine hR (?_ : R (_, _, _, _, _, _))
      refine hR (t_c 5461 (by decide) ?_)
      refine hR (?_ : R (_, _, _, _, _, _))
      refine hR (t_mul ?_)
      iterate 2 refine hR (?_ : R (_, _, _, _, _, _))
      refine hR (t_c 5461 (by decide) ?_)
      refine hR (?_ : R (_, _, _, _, _, _))
      refine hR (t_mul ?_)
      refine hR (?_ : R (_, _, _, _, _, _))
      refine hR (t_add ?_)
      refine hR (t_ldB hp18 (by omega) (by omega) (Nat.le_of_ble_eq_true rfl) fun v20 ev20 lv20 uv20 => ?_)
      clear ev20
      refine hR (t_add ?_)
      refine hR (t_ldB hp18 (by omega) (by omega) (Nat.le_of_ble_eq_true rfl) fun v21 ev21 lv21 uv21 => ?_)
      clear ev21
      iterate 2 refine hR (?_ : R (_, _, _, _, _, _))
      refine hR (t_c 5461 (by decide) ?_)
      refine hR (?_ : R (_, _, _, _, _, _))
      refine hR (t_mul ?_)
      iterate 2 refine hR (?_ : R (_, _, _, _, _, _))
      refine hR (t_c 5461 (by decide) ?_)
      refine hR (?_ : R (_, _, _, _, _, _))
      refine hR (t_mul ?_)
      refine hR (?_ : R (_, _, _, _, _, _))
      refine hR (t_add ?_)
      refine hR (t_ldB hp18 (by omega) (by omega) (Nat.le_of_ble_eq_true rfl) fun v22 ev22 lv22 uv22 => ?_)
      clear ev22
      refine hR (t_add ?_)
      refine hR (t_ldB hp18 (by omega) (by omega) (Nat.le_of_ble_eq_true rfl) fun v23 ev23 lv23 uv23 => ?_)
      clear ev23
      refine hR (j_ne (by omega) (by omega) (fun hc24 => ?_) (fun hc24 => ?_))
      · skip
        refine hR (?_ : R (_, _, _, _, _, _))
        refine hR (t_add ?_)
        refine hR (?_ : R (_, _, _, _, _, _))
        refine hR (t_inc ?_)
        refine hR (?_ : R (_, _, _, _, _, _))
        exact ih41 _ _ (by omega) (by omega)
      iterate 2 refine hR (?_ : R (_, _, _, _, _, _))
      refine hR (t_add ?_)
      refine hR (?_ : R (_, _, _, _, _, _))
      refine hR (t_inc ?_)
      refine hR (?_ : R (_, _, _, _, _, _))
      exact ih41 _ _ (by omega) (by omega)
  exact lp41 400000000 _ _ (by omega) (by omega)
theorem m_findComes (d : Nat) (a1 : Int) (hb30 : zB 0 5460 g30) (hr1 : 0 ≤ a1 ∧ a1 ≤ 4) (Q : zQ) (h : ∀ (k34 : Nat → Int32), Q (none) (zMi c0 c1 c2 c3 c4 c5 c6 c7 c8 c9 c10 c11 c12 c13 f0 f9 f10 f11 f12 f13 f15 f16 f17 f20 f21 f22 f23 f26 f28 f31 f32 f33 f38 f41 f44 x14 g15 g16 g17 g18 g19 g20 g21 g22 g23 g24 g25 g26 g27 g28 g29 g30 g31 g32 g33 k34 g35 g36 g37 g38 g39 g40 g41 g42 g43 g44 t)) : zCl zTab (d + 1) iX12_findComes [.ref 14, .int (Int32.ofInt a1)] (zMi c0 c1 c2 c3 c4 c5 c6 c7 c8 c9 c10 c11 c12 c13 f0 f9 f10 f11 f12 f13 f15 f16 f17 f20 f21 f22 f23 f26 f28 f31 f32 f33 f38 f41 f44 x14 g15 g16 g17 g18 g19 g20 g21 g22 g23 g24 g25 g26 g27 g28 g29 g30 g31 g32 g33 g34 g35 g36 g37 g38 g39 g40 g41 g42 g43 g44 t) 0 0 Q := by
  refine zCl_i (M := kX12_findComes) rfl (Nat.le_of_ble_eq_true rfl) fun R hR => ?_
  iterate 2 refine hR (?_ : R (_, _, _, _, _, _))
  have lp2 : ∀ (N : Nat) (i : Int) (q34_2 : Nat → Int32), (0 ≤ i ∧ i ≤ 5461) → (5461 - i < N) → R (2, [some (.ref 14), some (.int (Int32.ofInt a1)), some (.int (Int32.ofInt i))], [], (zMi c0 c1 c2 c3 c4 c5 c6 c7 c8 c9 c10 c11 c12 c13 f0 f9 f10 f11 f12 f13 f15 f16 f17 f20 f21 f22 f23 f26 f28 f31 f32 f33 f38 f41 f44 x14 g15 g16 g17 g18 g19 g20 g21 g22 g23 g24 g25 g26 g27 g28 g29 g30 g31 g32 g33 q34_2 g35 g36 g37 g38 g39 g40 g41 g42 g43 g44 t), 0, 0) := by
    intro N
    induction N with
    | zero => intros; omega
    | succ N ih2 =>
      intro i q34_2 hf0_2 hN2
      refine hR (?_ : R (_, _, _, _, _, _))
      refine hR (t_c 5461 (by decide) ?_)
      refine hR (j_ge (by omega) (by omega) (fun hc1 => ?_) (fun hc1 => ?_))
      rotate_left
      · skip
        iterate 4 refine hR (?_ : R (_, _, _, _, _, _))
        refine hR (t_stx (by omega) (by omega) (Nat.le_of_ble_eq_true rfl) fun k34_6 => (?_ : R (_, _, _, (zMi c0 c1 c2 c3 c4 c5 c6 c7 c8 c9 c10 c11 c12 c13 f0 f9 f10 f11 f12 f13 f15 f16 f17 f20 f21 f22 f23 f26 f28 f31 f32 f33 f38 f41 f44 x14 g15 g16 g17 g18 g19 g20 g21 g22 g23 g24 g25 g26 g27 g28 g29 g30 g31 g32 g33 k34_6 g35 g36 g37 g38 g39 g40 g41 g42 g43 g44 t), _, _)))
        refine hR (t_inc ?_)
        refine hR (?_ : R (_, _, _, _, _, _))
        exact ih2 _ _ (by omega) (by omega)
      iterate 2 refine hR (?_ : R (_, _, _, _, _, _))
      have lp24 : ∀ (N : Nat) (i : Int) (q34_24 : Nat → Int32), (0 ≤ i ∧ i ≤ 5461) → (5461 - i < N) → R (24, [some (.ref 14), some (.int (Int32.ofInt a1)), some (.int (Int32.ofInt i))], [], (zMi c0 c1 c2 c3 c4 c5 c6 c7 c8 c9 c10 c11 c12 c13 f0 f9 f10 f11 f12 f13 f15 f16 f17 f20 f21 f22 f23 f26 f28 f31 f32 f33 f38 f41 f44 x14 g15 g16 g17 g18 g19 g20 g21 g22 g23 g24 g25 g26 g27 g28 g29 g30 g31 g32 g33 q34_24 g35 g36 g37 g38 g39 g40 g41 g42 g43 g44 t), 0, 0) := by
        intro N
        induction N with
        | zero => intros; omega
        | succ N ih24 =>
          intro i q34_24 hf0_24 hN24
          refine hR (?_ : R (_, _, _, _, _, _))
          refine hR (t_c 5461 (by decide) ?_)
          refine hR (j_ge (by omega) (by omega) (fun hc2 => ?_) (fun hc2 => ?_))
          · skip
            exact hR (zret_i rfl (Nat.le_refl _) rfl (h _))
          iterate 4 refine hR (?_ : R (_, _, _, _, _, _))
          refine hR (t_c 5461 (by decide) ?_)
          refine hR (?_ : R (_, _, _, _, _, _))
          refine hR (t_mul ?_)
          refine hR (?_ : R (_, _, _, _, _, _))
          refine hR (t_add ?_)
          refine hR (t_ldB hb30 (by omega) (by omega) (Nat.le_of_ble_eq_true rfl) fun v3 ev3 lv3 uv3 => ?_)
          clear ev3
          refine hR (?_ : R (_, _, _, _, _, _))
          refine hR (t_ldo (by omega) (by omega) (Nat.le_of_ble_eq_true rfl) fun v4 rv4 => ?_)
          refine hR (?_ : R (_, _, _, _, _, _))
          refine hR (t_add ?_)
          refine hR (t_stx (by omega) (by omega) (Nat.le_of_ble_eq_true rfl) fun k34_5 => (?_ : R (_, _, _, (zMi c0 c1 c2 c3 c4 c5 c6 c7 c8 c9 c10 c11 c12 c13 f0 f9 f10 f11 f12 f13 f15 f16 f17 f20 f21 f22 f23 f26 f28 f31 f32 f33 f38 f41 f44 x14 g15 g16 g17 g18 g19 g20 g21 g22 g23 g24 g25 g26 g27 g28 g29 g30 g31 g32 g33 k34_5 g35 g36 g37 g38 g39 g40 g41 g42 g43 g44 t), _, _)))
          refine hR (t_inc ?_)
          refine hR (?_ : R (_, _, _, _, _, _))
          exact ih24 _ _ (by omega) (by omega)
      exact lp24 400000000 _ _ (by omega) (by omega)
  exact lp2 400000000 _ _ (by omega) (by omega)
theorem m_unread (d : Nat) (a1 : Int) (hb30 : zB 0 5460 g30) (hr1 : 0 ≤ a1 ∧ a1 ≤ 4) (Q : zQ) (h : ∀ (v : Int) (k34 : Nat → Int32), Q (some (.int (Int32.ofInt v))) (zMi c0 c1 c2 c3 c4 c5 c6 c7 c8 c9 c10 c11 c12 c13 f0 f9 f10 f11 f12 f13 f15 f16 f17 f20 f21 f22 f23 f26 f28 f31 f32 f33 f38 f41 f44 x14 g15 g16 g17 g18 g19 g20 g21 g22 g23 g24 g25 g26 g27 g28 g29 g30 g31 g32 g33 k34 g35 g36 g37 g38 g39 g40 g41 g42 g43 g44 t)) : zCl zTab (d + 2) iX12_unread [.ref 14, .int (Int32.ofInt a1)] (zMi c0 c1 c2 c3 c4 c5 c6 c7 c8 c9 c10 c11 c12 c13 f0 f9 f10 f11 f12 f13 f15 f16 f17 f20 f21 f22 f23 f26 f28 f31 f32 f33 f38 f41 f44 x14 g15 g16 g17 g18 g19 g20 g21 g22 g23 g24 g25 g26 g27 g28 g29 g30 g31 g32 g33 g34 g35 g36 g37 g38 g39 g40 g41 g42 g43 g44 t) 0 0 Q := by
  refine zCl_i (M := kX12_unread) rfl (Nat.le_of_ble_eq_true rfl) fun R hR => ?_
  iterate 2 refine hR (?_ : R (_, _, _, _, _, _))
  refine hR (zcall_i 0 0 (Nat.le_of_ble_eq_true rfl) (Nat.le_of_ble_eq_true rfl) (m_findComes _ a1 hb30 (by omega) _ fun k34_1 => ?_))
  refine (?_ : R (_, _, [], (zMi c0 c1 c2 c3 c4 c5 c6 c7 c8 c9 c10 c11 c12 c13 f0 f9 f10 f11 f12 f13 f15 f16 f17 f20 f21 f22 f23 f26 f28 f31 f32 f33 f38 f41 f44 x14 g15 g16 g17 g18 g19 g20 g21 g22 g23 g24 g25 g26 g27 g28 g29 g30 g31 g32 g33 k34_1 g35 g36 g37 g38 g39 g40 g41 g42 g43 g44 t), 0, 0))
  iterate 4 refine hR (?_ : R (_, _, _, _, _, _))
  have lp9 : ∀ (N : Nat) (n : Int) (i : Int), (0 ≤ i ∧ i ≤ 5461) → (5461 - i < N) → R (9, [some (.ref 14), some (.int (Int32.ofInt a1)), some (.int (Int32.ofInt n)), some (.int (Int32.ofInt i))], [], (zMi c0 c1 c2 c3 c4 c5 c6 c7 c8 c9 c10 c11 c12 c13 f0 f9 f10 f11 f12 f13 f15 f16 f17 f20 f21 f22 f23 f26 f28 f31 f32 f33 f38 f41 f44 x14 g15 g16 g17 g18 g19 g20 g21 g22 g23 g24 g25 g26 g27 g28 g29 g30 g31 g32 g33 k34_1 g35 g36 g37 g38 g39 g40 g41 g42 g43 g44 t), 0, 0) := by
    intro N
    induction N with
    | zero => intros; omega
    | succ N ih9 =>
      intro n i hf0_9 hN9
      refine hR (?_ : R (_, _, _, _, _, _))
      refine hR (t_c 5461 (by decide) ?_)
      refine hR (j_ge (by omega) (by omega) (fun hc2 => ?_) (fun hc2 => ?_))
      · skip
        refine hR (?_ : R (_, _, _, _, _, _))
        exact hR (zret_i rfl (Nat.le_refl _) trivial (h _ _))
      iterate 4 refine hR (?_ : R (_, _, _, _, _, _))
      refine hR (t_ldo (by omega) (by omega) (Nat.le_of_ble_eq_true rfl) fun v3 rv3 => ?_)
      refine hR (j_any ?_ ?_)
      · skip
        refine hR (?_ : R (_, _, _, _, _, _))
        refine hR (t_add ?_)
        refine hR (?_ : R (_, _, _, _, _, _))
        refine hR (t_inc ?_)
        refine hR (?_ : R (_, _, _, _, _, _))
        exact ih9 _ _ (by omega) (by omega)
      iterate 2 refine hR (?_ : R (_, _, _, _, _, _))
      refine hR (t_add ?_)
      refine hR (?_ : R (_, _, _, _, _, _))
      refine hR (t_inc ?_)
      refine hR (?_ : R (_, _, _, _, _, _))
      exact ih9 _ _ (by omega) (by omega)
  exact lp9 400000000 _ _ (by omega) (by omega)
theorem m_tail (d : Nat) (a1 a2 : Int) (hb30 : zB 0 5460 g30) (hb33 : zB 0 5460 g33) (hr2 : 0 ≤ a1 ∧ a1 ≤ 4) (hr3 : 0 ≤ a2 ∧ a2 ≤ 5461) (Q : zQ) (h : ∀ (v : Int) (k31 : Nat → Int32), Q (some (.int (Int32.ofInt v))) (zMi c0 c1 c2 c3 c4 c5 c6 c7 c8 c9 c10 c11 c12 c13 f0 f9 f10 f11 f12 f13 f15 f16 f17 f20 f21 f22 f23 f26 f28 f31 f32 f33 f38 f41 f44 x14 g15 g16 g17 g18 g19 g20 g21 g22 g23 g24 g25 g26 g27 g28 g29 g30 k31 g32 g33 g34 g35 g36 g37 g38 g39 g40 g41 g42 g43 g44 t)) : zCl zTab (d + 2) iX12_tail [.ref 14, .int (Int32.ofInt a1), .int (Int32.ofInt a2)] (zMi c0 c1 c2 c3 c4 c5 c6 c7 c8 c9 c10 c11 c12 c13 f0 f9 f10 f11 f12 f13 f15 f16 f17 f20 f21 f22 f23 f26 f28 f31 f32 f33 f38 f41 f44 x14 g15 g16 g17 g18 g19 g20 g21 g22 g23 g24 g25 g26 g27 g28 g29 g30 g31 g32 g33 g34 g35 g36 g37 g38 g39 g40 g41 g42 g43 g44 t) 0 0 Q := by
  refine zCl_i (M := kX12_tail) rfl (Nat.le_of_ble_eq_true rfl) fun R hR => ?_
  iterate 4 refine hR (?_ : R (_, _, _, _, _, _))
  have lp5 : ∀ (N : Nat) (i : Int) (q31_5 : Nat → Int32), (0 ≤ i ∧ i ≤ 5461) → (5461 - i < N) → R (5, [some (.ref 14), some (.int (Int32.ofInt a1)), some (.int (Int32.ofInt a2)), some (.int (Int32.ofInt 0)), some (.int (Int32.ofInt i))], [], (zMi c0 c1 c2 c3 c4 c5 c6 c7 c8 c9 c10 c11 c12 c13 f0 f9 f10 f11 f12 f13 f15 f16 f17 f20 f21 f22 f23 f26 f28 f31 f32 f33 f38 f41 f44 x14 g15 g16 g17 g18 g19 g20 g21 g22 g23 g24 g25 g26 g27 g28 g29 g30 q31_5 g32 g33 g34 g35 g36 g37 g38 g39 g40 g41 g42 g43 g44 t), 0, 0) := by
    intro N
    induction N with
    | zero => intros; omega
    | succ N ih5 =>
      intro i q31_5 hf0_5 hN5
      refine hR (?_ : R (_, _, _, _, _, _))
      refine hR (t_c 5461 (by decide) ?_)
      refine hR (j_ge (by omega) (by omega) (fun hc1 => ?_) (fun hc1 => ?_))
      rotate_left
      · skip
        iterate 4 refine hR (?_ : R (_, _, _, _, _, _))
        refine hR (t_stx (by omega) (by omega) (Nat.le_of_ble_eq_true rfl) fun k31_11 => (?_ : R (_, _, _, (zMi c0 c1 c2 c3 c4 c5 c6 c7 c8 c9 c10 c11 c12 c13 f0 f9 f10 f11 f12 f13 f15 f16 f17 f20 f21 f22 f23 f26 f28 f31 f32 f33 f38 f41 f44 x14 g15 g16 g17 g18 g19 g20 g21 g22 g23 g24 g25 g26 g27 g28 g29 g30 k31_11 g32 g33 g34 g35 g36 g37 g38 g39 g40 g41 g42 g43 g44 t), _, _)))
        refine hR (t_inc ?_)
        refine hR (?_ : R (_, _, _, _, _, _))
        exact ih5 _ _ (by omega) (by omega)
      iterate 2 refine hR (?_ : R (_, _, _, _, _, _))
      refine hR (t_sub ?_)
      refine hR (?_ : R (_, _, _, _, _, _))
      have lp32 : ∀ (N : Nat) (mo : Int) (k : Int) (q31_32 : Nat → Int32), (-1 ≤ k ∧ k ≤ a2 - 1) → (k + 1 < N) → R (32, [some (.ref 14), some (.int (Int32.ofInt a1)), some (.int (Int32.ofInt a2)), some (.int (Int32.ofInt mo)), some (.int (Int32.ofInt k))], [], (zMi c0 c1 c2 c3 c4 c5 c6 c7 c8 c9 c10 c11 c12 c13 f0 f9 f10 f11 f12 f13 f15 f16 f17 f20 f21 f22 f23 f26 f28 f31 f32 f33 f38 f41 f44 x14 g15 g16 g17 g18 g19 g20 g21 g22 g23 g24 g25 g26 g27 g28 g29 g30 q31_32 g32 g33 g34 g35 g36 g37 g38 g39 g40 g41 g42 g43 g44 t), 0, 0) := by
        intro N
        induction N with
        | zero => intros; omega
        | succ N ih32 =>
          intro mo k q31_32 hf0_32 hN32
          refine hR (?_ : R (_, _, _, _, _, _))
          refine hR (k_lt (by omega) (fun hc2 => ?_) (fun hc2 => ?_))
          · skip
            refine hR (?_ : R (_, _, _, _, _, _))
            exact hR (zret_i rfl (Nat.le_refl _) trivial (h _ _))
          iterate 5 refine hR (?_ : R (_, _, _, _, _, _))
          refine hR (t_ldB hb33 (by omega) (by omega) (Nat.le_of_ble_eq_true rfl) fun v3 ev3 lv3 uv3 => ?_)
          clear ev3
          iterate 4 refine hR (?_ : R (_, _, _, _, _, _))
          refine hR (t_c 5461 (by decide) ?_)
          refine hR (?_ : R (_, _, _, _, _, _))
          refine hR (t_mul ?_)
          iterate 3 refine hR (?_ : R (_, _, _, _, _, _))
          refine hR (t_ldB hb33 (by omega) (by omega) (Nat.le_of_ble_eq_true rfl) fun v4 ev4 lv4 uv4 => ?_)
          clear ev4
          refine hR (t_add ?_)
          refine hR (t_ldB hb30 (by omega) (by omega) (Nat.le_of_ble_eq_true rfl) fun v5 ev5 lv5 uv5 => ?_)
          clear ev5
          refine hR (t_ldo (by omega) (by omega) (Nat.le_of_ble_eq_true rfl) fun v6 rv6 => ?_)
          refine hR (?_ : R (_, _, _, _, _, _))
          refine hR (t_add ?_)
          refine hR (t_stx (by omega) (by omega) (Nat.le_of_ble_eq_true rfl) fun k31_7 => (?_ : R (_, _, _, (zMi c0 c1 c2 c3 c4 c5 c6 c7 c8 c9 c10 c11 c12 c13 f0 f9 f10 f11 f12 f13 f15 f16 f17 f20 f21 f22 f23 f26 f28 f31 f32 f33 f38 f41 f44 x14 g15 g16 g17 g18 g19 g20 g21 g22 g23 g24 g25 g26 g27 g28 g29 g30 k31_7 g32 g33 g34 g35 g36 g37 g38 g39 g40 g41 g42 g43 g44 t), _, _)))
          iterate 6 refine hR (?_ : R (_, _, _, _, _, _))
          refine hR (t_ldB hb33 (by omega) (by omega) (Nat.le_of_ble_eq_true rfl) fun v8 ev8 lv8 uv8 => ?_)
          clear ev8
          refine hR (t_ldo (by omega) (by omega) (Nat.le_of_ble_eq_true rfl) fun v9 rv9 => ?_)
          refine hR (zcall_i 0 0 (Nat.le_of_ble_eq_true rfl) (Nat.le_of_ble_eq_true rfl) (m_greaterx _ mo v9 _ _ fun v10 => ?_))
          refine (?_ : R (_, _, (.int (Int32.ofInt v10)) :: [], (zMi c0 c1 c2 c3 c4 c5 c6 c7 c8 c9 c10 c11 c12 c13 f0 f9 f10 f11 f12 f13 f15 f16 f17 f20 f21 f22 f23 f26 f28 f31 f32 f33 f38 f41 f44 x14 g15 g16 g17 g18 g19 g20 g21 g22 g23 g24 g25 g26 g27 g28 g29 g30 k31_7 g32 g33 g34 g35 g36 g37 g38 g39 g40 g41 g42 g43 g44 t), 0, 0))
          refine hR (?_ : R (_, _, _, _, _, _))
          refine hR (t_inc ?_)
          refine hR (?_ : R (_, _, _, _, _, _))
          exact ih32 _ _ _ (by omega) (by omega)
      exact lp32 400000000 _ _ _ (by omega) (by omega)
  exact lp5 400000000 _ _ (by omega) (by omega)
theorem m_stays (d : Nat) (a1 : Int) (hb30 : zB 0 5460 g30) (hr1 : 0 ≤ a1 ∧ a1 ≤ 4) (Q : zQ) (h : ∀ (v : Int), Q (some (.int (Int32.ofInt v))) (zMi c0 c1 c2 c3 c4 c5 c6 c7 c8 c9 c10 c11 c12 c13 f0 f9 f10 f11 f12 f13 f15 f16 f17 f20 f21 f22 f23 f26 f28 f31 f32 f33 f38 f41 f44 x14 g15 g16 g17 g18 g19 g20 g21 g22 g23 g24 g25 g26 g27 g28 g29 g30 g31 g32 g33 g34 g35 g36 g37 g38 g39 g40 g41 g42 g43 g44 t)) : zCl zTab (d + 1) iX12_stays [.ref 14, .int (Int32.ofInt a1)] (zMi c0 c1 c2 c3 c4 c5 c6 c7 c8 c9 c10 c11 c12 c13 f0 f9 f10 f11 f12 f13 f15 f16 f17 f20 f21 f22 f23 f26 f28 f31 f32 f33 f38 f41 f44 x14 g15 g16 g17 g18 g19 g20 g21 g22 g23 g24 g25 g26 g27 g28 g29 g30 g31 g32 g33 g34 g35 g36 g37 g38 g39 g40 g41 g42 g43 g44 t) 0 0 Q := by
  refine zCl_i (M := kX12_stays) rfl (Nat.le_of_ble_eq_true rfl) fun R hR => ?_
  iterate 4 refine hR (?_ : R (_, _, _, _, _, _))
  have lp4 : ∀ (N : Nat) (n : Int) (i : Int), (0 ≤ i ∧ i ≤ 5461) → (5461 - i < N) → R (4, [some (.ref 14), some (.int (Int32.ofInt a1)), some (.int (Int32.ofInt n)), some (.int (Int32.ofInt i))], [], (zMi c0 c1 c2 c3 c4 c5 c6 c7 c8 c9 c10 c11 c12 c13 f0 f9 f10 f11 f12 f13 f15 f16 f17 f20 f21 f22 f23 f26 f28 f31 f32 f33 f38 f41 f44 x14 g15 g16 g17 g18 g19 g20 g21 g22 g23 g24 g25 g26 g27 g28 g29 g30 g31 g32 g33 g34 g35 g36 g37 g38 g39 g40 g41 g42 g43 g44 t), 0, 0) := by
    intro N
    induction N with
    | zero => intros; omega
    | succ N ih4 =>
      intro n i hf0_4 hN4
      refine hR (?_ : R (_, _, _, _, _, _))
      refine hR (t_c 5461 (by decide) ?_)
      refine hR (j_ge (by omega) (by omega) (fun hc1 => ?_) (fun hc1 => ?_))
      · skip
        refine hR (?_ : R (_, _, _, _, _, _))
        exact hR (zret_i rfl (Nat.le_refl _) trivial (h _))
      iterate 3 refine hR (?_ : R (_, _, _, _, _, _))
      refine hR (t_c 5461 (by decide) ?_)
      refine hR (?_ : R (_, _, _, _, _, _))
      refine hR (t_mul ?_)
      refine hR (?_ : R (_, _, _, _, _, _))
      refine hR (t_add ?_)
      refine hR (t_ldB hb30 (by omega) (by omega) (Nat.le_of_ble_eq_true rfl) fun v2 ev2 lv2 uv2 => ?_)
      clear ev2
      refine hR (?_ : R (_, _, _, _, _, _))
      refine hR (j_ne (by omega) (by omega) (fun hc3 => ?_) (fun hc3 => ?_))
      · skip
        refine hR (?_ : R (_, _, _, _, _, _))
        refine hR (t_add ?_)
        refine hR (?_ : R (_, _, _, _, _, _))
        refine hR (t_inc ?_)
        refine hR (?_ : R (_, _, _, _, _, _))
        exact ih4 _ _ (by omega) (by omega)
      iterate 2 refine hR (?_ : R (_, _, _, _, _, _))
      refine hR (t_add ?_)
      refine hR (?_ : R (_, _, _, _, _, _))
      refine hR (t_inc ?_)
      refine hR (?_ : R (_, _, _, _, _, _))
      exact ih4 _ _ (by omega) (by omega)
  exact lp4 400000000 _ _ (by omega) (by omega)
theorem m_layDrifts (d : Nat) (hb25 : zB 0 3 g25) (hb26 : zB 0 3 g26) (hr2 : 0 ≤ f22 ∧ f22 ≤ 5460) (Q : zQ) (h : ∀ (k25 : Nat → Int32) (k26 : Nat → Int32) (k27 : Nat → Int32) (k35 : Nat → Int32), zB 0 3 k25 → zB 0 3 k26 → Q (none) (zMi c0 c1 c2 c3 c4 c5 c6 c7 c8 c9 c10 c11 c12 c13 f0 f9 f10 f11 f12 f13 f15 f16 f17 f20 f21 f22 f23 f26 f28 f31 f32 f33 f38 f41 f44 x14 g15 g16 g17 g18 g19 g20 g21 g22 g23 g24 k25 k26 k27 g28 g29 g30 g31 g32 g33 g34 k35 g36 g37 g38 g39 g40 g41 g42 g43 g44 t)) : zCl zTab (d + 5) iX12_layDrifts [.ref 14] (zMi c0 c1 c2 c3 c4 c5 c6 c7 c8 c9 c10 c11 c12 c13 f0 f9 f10 f11 f12 f13 f15 f16 f17 f20 f21 f22 f23 f26 f28 f31 f32 f33 f38 f41 f44 x14 g15 g16 g17 g18 g19 g20 g21 g22 g23 g24 g25 g26 g27 g28 g29 g30 g31 g32 g33 g34 g35 g36 g37 g38 g39 g40 g41 g42 g43 g44 t) 0 0 Q := by
  refine zCl_i (M := kX12_layDrifts) rfl (Nat.le_of_ble_eq_true rfl) fun R hR => ?_
  iterate 2 refine hR (?_ : R (_, _, _, _, _, _))
  have lp2 : ∀ (N : Nat) (i : Int) (q25_2 : Nat → Int32) (q26_2 : Nat → Int32) (q27_2 : Nat → Int32) (q35_2 : Nat → Int32), (0 ≤ i ∧ i ≤ 5461) → (zB 0 3 q25_2) → (zB 0 3 q26_2) → (5461 - i < N) → R (2, [some (.ref 14), some (.int (Int32.ofInt i))], [], (zMi c0 c1 c2 c3 c4 c5 c6 c7 c8 c9 c10 c11 c12 c13 f0 f9 f10 f11 f12 f13 f15 f16 f17 f20 f21 f22 f23 f26 f28 f31 f32 f33 f38 f41 f44 x14 g15 g16 g17 g18 g19 g20 g21 g22 g23 g24 q25_2 q26_2 q27_2 g28 g29 g30 g31 g32 g33 g34 q35_2 g36 g37 g38 g39 g40 g41 g42 g43 g44 t), 0, 0) := by
    intro N
    induction N with
    | zero => intros; omega
    | succ N ih2 =>
      intro i q25_2 q26_2 q27_2 q35_2 hf0_2 hq25_2 hq26_2 hN2
      refine hR (?_ : R (_, _, _, _, _, _))
      refine hR (t_c 5461 (by decide) ?_)
      refine hR (j_ge (by omega) (by omega) (fun hc1 => ?_) (fun hc1 => ?_))
      · skip
        exact hR (zret_i rfl (Nat.le_refl _) rfl (h _ _ _ _ hq25_2 hq26_2))
      iterate 7 refine hR (?_ : R (_, _, _, _, _, _))
      refine hR (zcall_i 0 0 (Nat.le_of_ble_eq_true rfl) (Nat.le_of_ble_eq_true rfl) (m_apart _ i f22 hq25_2 hq26_2 (by omega) (by omega) _ fun v2 k25_3 k26_4 k27_5 hp6 hp7 hp8 hp9 => ?_))
      refine (?_ : R (_, _, (.int (Int32.ofInt v2)) :: (.int (Int32.ofInt i)) :: (.ref 35) :: [], (zMi c0 c1 c2 c3 c4 c5 c6 c7 c8 c9 c10 c11 c12 c13 f0 f9 f10 f11 f12 f13 f15 f16 f17 f20 f21 f22 f23 f26 f28 f31 f32 f33 f38 f41 f44 x14 g15 g16 g17 g18 g19 g20 g21 g22 g23 g24 k25_3 k26_4 k27_5 g28 g29 g30 g31 g32 g33 g34 q35_2 g36 g37 g38 g39 g40 g41 g42 g43 g44 t), 0, 0))
      refine hR (t_stx (by omega) (by omega) (Nat.le_of_ble_eq_true rfl) fun k35_10 => (?_ : R (_, _, _, (zMi c0 c1 c2 c3 c4 c5 c6 c7 c8 c9 c10 c11 c12 c13 f0 f9 f10 f11 f12 f13 f15 f16 f17 f20 f21 f22 f23 f26 f28 f31 f32 f33 f38 f41 f44 x14 g15 g16 g17 g18 g19 g20 g21 g22 g23 g24 k25_3 k26_4 k27_5 g28 g29 g30 g31 g32 g33 g34 k35_10 g36 g37 g38 g39 g40 g41 g42 g43 g44 t), _, _)))
      refine hR (t_inc ?_)
      refine hR (?_ : R (_, _, _, _, _, _))
      exact ih2 _ _ _ _ _ (by omega) hp6 hp7 (by omega)
  exact lp2 400000000 _ _ _ _ _ (by omega) hb25 hb26 (by omega)
theorem m_best (d : Nat) (a1 a2 a3 : Int) (hb30 : zB 0 5460 g30) (hr1 : 0 ≤ f23 ∧ f23 ≤ 5) (hr2 : 1 ≤ a1 ∧ a1 ≤ 9) (hr3 : 0 ≤ a3 ∧ a3 ≤ 1) (Q : zQ) (h : ∀ (k35 : Nat → Int32), Q (none) (zMi c0 c1 c2 c3 c4 c5 c6 c7 c8 c9 c10 c11 c12 c13 f0 f9 f10 f11 f12 f13 f15 f16 f17 f20 f21 f22 f23 f26 f28 f31 f32 f33 f38 f41 f44 x14 g15 g16 g17 g18 g19 g20 g21 g22 g23 g24 g25 g26 g27 g28 g29 g30 g31 g32 g33 g34 k35 g36 g37 g38 g39 g40 g41 g42 g43 g44 t)) : zCl zTab (d + 2) iX12_best [.ref 14, .int (Int32.ofInt a1), .int (Int32.ofInt a2), .int (Int32.ofInt a3)] (zMi c0 c1 c2 c3 c4 c5 c6 c7 c8 c9 c10 c11 c12 c13 f0 f9 f10 f11 f12 f13 f15 f16 f17 f20 f21 f22 f23 f26 f28 f31 f32 f33 f38 f41 f44 x14 g15 g16 g17 g18 g19 g20 g21 g22 g23 g24 g25 g26 g27 g28 g29 g30 g31 g32 g33 g34 g35 g36 g37 g38 g39 g40 g41 g42 g43 g44 t) 0 0 Q := by
  refine zCl_i (M := kX12_best) rfl (Nat.le_of_ble_eq_true rfl) fun R hR => ?_
  iterate 2 refine hR (?_ : R (_, _, _, _, _, _))
  have lp3 : ∀ (N : Nat) (i : Int) (o5_3 : Option Value) (o6_3 : Option Value) (o7_3 : Option Value) (q35_3 : Nat → Int32), (zc2 o5_3 = false) → (zc2 o6_3 = false) → (zc2 o7_3 = false) → (0 ≤ i ∧ i ≤ 5461) → (5461 - i < N) → R (3, [some (.ref 14), some (.int (Int32.ofInt a1)), some (.int (Int32.ofInt a2)), some (.int (Int32.ofInt a3)), some (.int (Int32.ofInt i)), o5_3, o6_3, o7_3], [], (zMi c0 c1 c2 c3 c4 c5 c6 c7 c8 c9 c10 c11 c12 c13 f0 f9 f10 f11 f12 f13 f15 f16 f17 f20 f21 f22 f23 f26 f28 f31 f32 f33 f38 f41 f44 x14 g15 g16 g17 g18 g19 g20 g21 g22 g23 g24 g25 g26 g27 g28 g29 g30 g31 g32 g33 g34 q35_3 g36 g37 g38 g39 g40 g41 g42 g43 g44 t), 0, 0) := by
    intro N
    induction N with
    | zero => intros; omega
    | succ N ih3 =>
      intro i o5_3 o6_3 o7_3 q35_3 hzo5_3 hzo6_3 hzo7_3 hf0_3 hN3
      refine hR (?_ : R (_, _, _, _, _, _))
      refine hR (t_c 5461 (by decide) ?_)
      refine hR (j_ge (by omega) (by omega) (fun hc1 => ?_) (fun hc1 => ?_))
      · skip
        exact hR (zret_i rfl (Nat.le_refl _) rfl (h _))
      refine hR (?_ : R (_, _, _, _, _, _))
      refine hR (k_eq (by omega) (fun hc2 => ?_) (fun hc2 => ?_))
      rotate_left
      · skip
        iterate 5 refine hR (?_ : R (_, _, _, _, _, _))
        have lp27 : ∀ (N : Nat) (by_ : Int) (r : Int) (o7_27 : Option Value), (zc2 o7_27 = false) → (0 ≤ r ∧ r ≤ f23) → (f23 - r < N) → R (27, [some (.ref 14), some (.int (Int32.ofInt a1)), some (.int (Int32.ofInt a2)), some (.int (Int32.ofInt a3)), some (.int (Int32.ofInt i)), some (.int (Int32.ofInt by_)), some (.int (Int32.ofInt r)), o7_27], [], (zMi c0 c1 c2 c3 c4 c5 c6 c7 c8 c9 c10 c11 c12 c13 f0 f9 f10 f11 f12 f13 f15 f16 f17 f20 f21 f22 f23 f26 f28 f31 f32 f33 f38 f41 f44 x14 g15 g16 g17 g18 g19 g20 g21 g22 g23 g24 g25 g26 g27 g28 g29 g30 g31 g32 g33 g34 q35_3 g36 g37 g38 g39 g40 g41 g42 g43 g44 t), 0, 0) := by
          intro N
          induction N with
          | zero => intros; omega
          | succ N ih27 =>
            intro by_ r o7_27 hzo7_27 hf0_27 hN27
            iterate 3 refine hR (?_ : R (_, _, _, _, _, _))
            refine hR (j_ge (by omega) (by omega) (fun hc13 => ?_) (fun hc13 => ?_))
            · skip
              iterate 2 refine hR (?_ : R (_, _, _, _, _, _))
              refine hR (t_c 5461 (by decide) ?_)
              refine hR (?_ : R (_, _, _, _, _, _))
              refine hR (t_mul ?_)
              refine hR (?_ : R (_, _, _, _, _, _))
              refine hR (t_add ?_)
              refine hR (?_ : R (_, _, _, _, _, _))
              refine hR (t_stx (by omega) (by omega) (Nat.le_of_ble_eq_true rfl) fun k35_14 => (?_ : R (_, _, _, (zMi c0 c1 c2 c3 c4 c5 c6 c7 c8 c9 c10 c11 c12 c13 f0 f9 f10 f11 f12 f13 f15 f16 f17 f20 f21 f22 f23 f26 f28 f31 f32 f33 f38 f41 f44 x14 g15 g16 g17 g18 g19 g20 g21 g22 g23 g24 g25 g26 g27 g28 g29 g30 g31 g32 g33 g34 k35_14 g36 g37 g38 g39 g40 g41 g42 g43 g44 t), _, _)))
              refine hR (t_inc ?_)
              refine hR (?_ : R (_, _, _, _, _, _))
              exact ih3 _ _ _ _ _ (by rfl) (by rfl) hzo7_27 (by omega) (by omega)
            iterate 2 refine hR (?_ : R (_, _, _, _, _, _))
            refine hR (t_c 5461 (by decide) ?_)
            iterate 2 refine hR (?_ : R (_, _, _, _, _, _))
            refine hR (t_sub ?_)
            refine hR (t_mul ?_)
            iterate 2 refine hR (?_ : R (_, _, _, _, _, _))
            refine hR (t_c 5461 (by decide) ?_)
            refine hR (?_ : R (_, _, _, _, _, _))
            refine hR (t_mul ?_)
            refine hR (?_ : R (_, _, _, _, _, _))
            refine hR (t_add ?_)
            refine hR (t_ldB hb30 (by omega) (by omega) (Nat.le_of_ble_eq_true rfl) fun v15 ev15 lv15 uv15 => ?_)
            clear ev15
            refine hR (t_add ?_)
            refine hR (t_ldo (by omega) (by omega) (Nat.le_of_ble_eq_true rfl) fun v16 rv16 => ?_)
            iterate 3 refine hR (?_ : R (_, _, _, _, _, _))
            refine hR (zcall_i 0 0 (Nat.le_of_ble_eq_true rfl) (Nat.le_of_ble_eq_true rfl) (m_has _ a2 r _ _ fun v17 hp18 => ?_))
            refine (?_ : R (_, _, (.int (Int32.ofInt v17)) :: [], (zMi c0 c1 c2 c3 c4 c5 c6 c7 c8 c9 c10 c11 c12 c13 f0 f9 f10 f11 f12 f13 f15 f16 f17 f20 f21 f22 f23 f26 f28 f31 f32 f33 f38 f41 f44 x14 g15 g16 g17 g18 g19 g20 g21 g22 g23 g24 g25 g26 g27 g28 g29 g30 g31 g32 g33 g34 q35_3 g36 g37 g38 g39 g40 g41 g42 g43 g44 t), 0, 0))
            refine hR (k_ne (by omega) (fun hc19 => ?_) (fun hc19 => ?_))
            rotate_left
            · skip
              iterate 3 refine hR (?_ : R (_, _, _, _, _, _))
              refine hR (t_inc ?_)
              refine hR (?_ : R (_, _, _, _, _, _))
              exact ih27 _ _ _ (by rfl) (by omega) (by omega)
            refine hR (?_ : R (_, _, _, _, _, _))
            refine hR (k_eq (by omega) (fun hc20 => ?_) (fun hc20 => ?_))
            · skip
              iterate 2 refine hR (?_ : R (_, _, _, _, _, _))
              refine hR (zcall_i 0 0 (Nat.le_of_ble_eq_true rfl) (Nat.le_of_ble_eq_true rfl) (m_lesserx _ by_ v16 _ _ fun v21 => ?_))
              refine (?_ : R (_, _, (.int (Int32.ofInt v21)) :: [], (zMi c0 c1 c2 c3 c4 c5 c6 c7 c8 c9 c10 c11 c12 c13 f0 f9 f10 f11 f12 f13 f15 f16 f17 f20 f21 f22 f23 f26 f28 f31 f32 f33 f38 f41 f44 x14 g15 g16 g17 g18 g19 g20 g21 g22 g23 g24 g25 g26 g27 g28 g29 g30 g31 g32 g33 g34 q35_3 g36 g37 g38 g39 g40 g41 g42 g43 g44 t), 0, 0))
              refine hR (?_ : R (_, _, _, _, _, _))
              refine hR (t_inc ?_)
              refine hR (?_ : R (_, _, _, _, _, _))
              exact ih27 _ _ _ (by rfl) (by omega) (by omega)
            iterate 2 refine hR (?_ : R (_, _, _, _, _, _))
            refine hR (zcall_i 0 0 (Nat.le_of_ble_eq_true rfl) (Nat.le_of_ble_eq_true rfl) (m_greaterx _ by_ v16 _ _ fun v22 => ?_))
            refine (?_ : R (_, _, (.int (Int32.ofInt v22)) :: [], (zMi c0 c1 c2 c3 c4 c5 c6 c7 c8 c9 c10 c11 c12 c13 f0 f9 f10 f11 f12 f13 f15 f16 f17 f20 f21 f22 f23 f26 f28 f31 f32 f33 f38 f41 f44 x14 g15 g16 g17 g18 g19 g20 g21 g22 g23 g24 g25 g26 g27 g28 g29 g30 g31 g32 g33 g34 q35_3 g36 g37 g38 g39 g40 g41 g42 g43 g44 t), 0, 0))
            iterate 2 refine hR (?_ : R (_, _, _, _, _, _))
            refine hR (t_inc ?_)
            refine hR (?_ : R (_, _, _, _, _, _))
            exact ih27 _ _ _ (by rfl) (by omega) (by omega)
        exact lp27 400000000 _ _ _ hzo7_3 (by omega) (by omega)
      refine hR (t_c 1000000 (by decide) ?_)
      iterate 3 refine hR (?_ : R (_, _, _, _, _, _))
      have lp27 : ∀ (N : Nat) (by_ : Int) (r : Int) (o7_27 : Option Value), (zc2 o7_27 = false) → (0 ≤ r ∧ r ≤ f23) → (f23 - r < N) → R (27, [some (.ref 14), some (.int (Int32.ofInt a1)), some (.int (Int32.ofInt a2)), some (.int (Int32.ofInt a3)), some (.int (Int32.ofInt i)), some (.int (Int32.ofInt by_)), some (.int (Int32.ofInt r)), o7_27], [], (zMi c0 c1 c2 c3 c4 c5 c6 c7 c8 c9 c10 c11 c12 c13 f0 f9 f10 f11 f12 f13 f15 f16 f17 f20 f21 f22 f23 f26 f28 f31 f32 f33 f38 f41 f44 x14 g15 g16 g17 g18 g19 g20 g21 g22 g23 g24 g25 g26 g27 g28 g29 g30 g31 g32 g33 g34 q35_3 g36 g37 g38 g39 g40 g41 g42 g43 g44 t), 0, 0) := by
        intro N
        induction N with
        | zero => intros; omega
        | succ N ih27 =>
          intro by_ r o7_27 hzo7_27 hf0_27 hN27
          iterate 3 refine hR (?_ : R (_, _, _, _, _, _))
          refine hR (j_ge (by omega) (by omega) (fun hc3 => ?_) (fun hc3 => ?_))
          · skip
            iterate 2 refine hR (?_ : R (_, _, _, _, _, _))
            refine hR (t_c 5461 (by decide) ?_)
            refine hR (?_ : R (_, _, _, _, _, _))
            refine hR (t_mul ?_)
            refine hR (?_ : R (_, _, _, _, _, _))
            refine hR (t_add ?_)
            refine hR (?_ : R (_, _, _, _, _, _))
            refine hR (t_stx (by omega) (by omega) (Nat.le_of_ble_eq_true rfl) fun k35_4 => (?_ : R (_, _, _, (zMi c0 c1 c2 c3 c4 c5 c6 c7 c8 c9 c10 c11 c12 c13 f0 f9 f10 f11 f12 f13 f15 f16 f17 f20 f21 f22 f23 f26 f28 f31 f32 f33 f38 f41 f44 x14 g15 g16 g17 g18 g19 g20 g21 g22 g23 g24 g25 g26 g27 g28 g29 g30 g31 g32 g33 g34 k35_4 g36 g37 g38 g39 g40 g41 g42 g43 g44 t), _, _)))
            refine hR (t_inc ?_)
            refine hR (?_ : R (_, _, _, _, _, _))
            exact ih3 _ _ _ _ _ (by rfl) (by rfl) hzo7_27 (by omega) (by omega)
          iterate 2 refine hR (?_ : R (_, _, _, _, _, _))
          refine hR (t_c 5461 (by decide) ?_)
          iterate 2 refine hR (?_ : R (_, _, _, _, _, _))
          refine hR (t_sub ?_)
          refine hR (t_mul ?_)
          iterate 2 refine hR (?_ : R (_, _, _, _, _, _))
          refine hR (t_c 5461 (by decide) ?_)
          refine hR (?_ : R (_, _, _, _, _, _))
          refine hR (t_mul ?_)
          refine hR (?_ : R (_, _, _, _, _, _))
          refine hR (t_add ?_)
          refine hR (t_ldB hb30 (by omega) (by omega) (Nat.le_of_ble_eq_true rfl) fun v5 ev5 lv5 uv5 => ?_)
          clear ev5
          refine hR (t_add ?_)
          refine hR (t_ldo (by omega) (by omega) (Nat.le_of_ble_eq_true rfl) fun v6 rv6 => ?_)
          iterate 3 refine hR (?_ : R (_, _, _, _, _, _))
          refine hR (zcall_i 0 0 (Nat.le_of_ble_eq_true rfl) (Nat.le_of_ble_eq_true rfl) (m_has _ a2 r _ _ fun v7 hp8 => ?_))
          refine (?_ : R (_, _, (.int (Int32.ofInt v7)) :: [], (zMi c0 c1 c2 c3 c4 c5 c6 c7 c8 c9 c10 c11 c12 c13 f0 f9 f10 f11 f12 f13 f15 f16 f17 f20 f21 f22 f23 f26 f28 f31 f32 f33 f38 f41 f44 x14 g15 g16 g17 g18 g19 g20 g21 g22 g23 g24 g25 g26 g27 g28 g29 g30 g31 g32 g33 g34 q35_3 g36 g37 g38 g39 g40 g41 g42 g43 g44 t), 0, 0))
          refine hR (k_ne (by omega) (fun hc9 => ?_) (fun hc9 => ?_))
          rotate_left
          · skip
            iterate 3 refine hR (?_ : R (_, _, _, _, _, _))
            refine hR (t_inc ?_)
            refine hR (?_ : R (_, _, _, _, _, _))
            exact ih27 _ _ _ (by rfl) (by omega) (by omega)
          refine hR (?_ : R (_, _, _, _, _, _))
          refine hR (k_eq (by omega) (fun hc10 => ?_) (fun hc10 => ?_))
          · skip
            iterate 2 refine hR (?_ : R (_, _, _, _, _, _))
            refine hR (zcall_i 0 0 (Nat.le_of_ble_eq_true rfl) (Nat.le_of_ble_eq_true rfl) (m_lesserx _ by_ v6 _ _ fun v11 => ?_))
            refine (?_ : R (_, _, (.int (Int32.ofInt v11)) :: [], (zMi c0 c1 c2 c3 c4 c5 c6 c7 c8 c9 c10 c11 c12 c13 f0 f9 f10 f11 f12 f13 f15 f16 f17 f20 f21 f22 f23 f26 f28 f31 f32 f33 f38 f41 f44 x14 g15 g16 g17 g18 g19 g20 g21 g22 g23 g24 g25 g26 g27 g28 g29 g30 g31 g32 g33 g34 q35_3 g36 g37 g38 g39 g40 g41 g42 g43 g44 t), 0, 0))
            refine hR (?_ : R (_, _, _, _, _, _))
            refine hR (t_inc ?_)
            refine hR (?_ : R (_, _, _, _, _, _))
            exact ih27 _ _ _ (by rfl) (by omega) (by omega)
          iterate 2 refine hR (?_ : R (_, _, _, _, _, _))
          refine hR (zcall_i 0 0 (Nat.le_of_ble_eq_true rfl) (Nat.le_of_ble_eq_true rfl) (m_greaterx _ by_ v6 _ _ fun v12 => ?_))
          refine (?_ : R (_, _, (.int (Int32.ofInt v12)) :: [], (zMi c0 c1 c2 c3 c4 c5 c6 c7 c8 c9 c10 c11 c12 c13 f0 f9 f10 f11 f12 f13 f15 f16 f17 f20 f21 f22 f23 f26 f28 f31 f32 f33 f38 f41 f44 x14 g15 g16 g17 g18 g19 g20 g21 g22 g23 g24 g25 g26 g27 g28 g29 g30 g31 g32 g33 g34 q35_3 g36 g37 g38 g39 g40 g41 g42 g43 g44 t), 0, 0))
          iterate 2 refine hR (?_ : R (_, _, _, _, _, _))
          refine hR (t_inc ?_)
          refine hR (?_ : R (_, _, _, _, _, _))
          exact ih27 _ _ _ (by rfl) (by omega) (by omega)
      exact lp27 400000000 _ _ _ hzo7_3 (by omega) (by omega)
  exact lp3 400000000 _ _ _ _ _ (by rfl) (by rfl) (by rfl) (by omega) (by omega)
theorem m_everybody (d : Nat) (hr0 : 0 ≤ f23 ∧ f23 ≤ 5) (Q : zQ) (h : ∀ (v : Int), (0 ≤ v ∧ v ≤ 31) → Q (some (.int (Int32.ofInt v))) (zMi c0 c1 c2 c3 c4 c5 c6 c7 c8 c9 c10 c11 c12 c13 f0 f9 f10 f11 f12 f13 f15 f16 f17 f20 f21 f22 f23 f26 f28 f31 f32 f33 f38 f41 f44 x14 g15 g16 g17 g18 g19 g20 g21 g22 g23 g24 g25 g26 g27 g28 g29 g30 g31 g32 g33 g34 g35 g36 g37 g38 g39 g40 g41 g42 g43 g44 t)) : zCl zTab (d + 1) iX12_everybody [.ref 14] (zMi c0 c1 c2 c3 c4 c5 c6 c7 c8 c9 c10 c11 c12 c13 f0 f9 f10 f11 f12 f13 f15 f16 f17 f20 f21 f22 f23 f26 f28 f31 f32 f33 f38 f41 f44 x14 g15 g16 g17 g18 g19 g20 g21 g22 g23 g24 g25 g26 g27 g28 g29 g30 g31 g32 g33 g34 g35 g36 g37 g38 g39 g40 g41 g42 g43 g44 t) 0 0 Q := by
  refine zCl_i (M := kX12_everybody) rfl (Nat.le_of_ble_eq_true rfl) fun R hR => ?_
  iterate 3 refine hR (?_ : R (_, _, _, _, _, _))
  obtain ⟨v1, lv1, uv1, qv1⟩ := zshl_r (e := f23) (by omega) (by omega)
  refine hR (t_c v1 qv1 ?_)
  refine hR (?_ : R (_, _, _, _, _, _))
  refine hR (t_sub ?_)
  exact hR (zret_i rfl (Nat.le_refl _) trivial (h _ (by omega)))
theorem m_elders (d : Nat) (a1 a2 a3 a4 : Int) (hb19 : zB 0 2 g19) (hb25 : zB 0 3 g25) (hb30 : zB 0 5460 g30) (hr3 : bkOK g20) (hr4 : -2147483648 ≤ a1 ∧ a1 ≤ 2147483647) (hr5 : -2147483648 ≤ a2 ∧ a2 ≤ 2147483647) (hr6 : -2147483648 ≤ a3 ∧ a3 ≤ 2147483647) (hr7 : -2147483648 ≤ a4 ∧ a4 ≤ 2147483647) (Q : zQ) (h : ∀ (v : Int) (y0 : Int) (y20 : Int) (y21 : Int) (y22 : Int) (y23 : Int) (y26 : Int) (k25 : Nat → Int32) (k30 : Nat → Int32) (k31 : Nat → Int32) (k32 : Nat → Int32), zB 0 3 k25 → zB 0 5460 k30 → Q (some (.int (Int32.ofInt v))) (zMi c0 c1 c2 c3 c4 c5 c6 c7 c8 c9 c10 c11 c12 c13 y0 f9 f10 f11 f12 f13 f15 f16 f17 y20 y21 y22 y23 y26 f28 f31 f32 f33 f38 f41 f44 x14 g15 g16 g17 g18 g19 g20 g21 g22 g23 g24 k25 g26 g27 g28 g29 k30 k31 k32 g33 g34 g35 g36 g37 g38 g39 g40 g41 g42 g43 g44 t)) : zCl zTab (d + 7) iX12_elders [.ref 14, .int (Int32.ofInt a1), .int (Int32.ofInt a2), .int (Int32.ofInt a3), .int (Int32.ofInt a4)] (zMi c0 c1 c2 c3 c4 c5 c6 c7 c8 c9 c10 c11 c12 c13 f0 f9 f10 f11 f12 f13 f15 f16 f17 f20 f21 f22 f23 f26 f28 f31 f32 f33 f38 f41 f44 x14 g15 g16 g17 g18 g19 g20 g21 g22 g23 g24 g25 g26 g27 g28 g29 g30 g31 g32 g33 g34 g35 g36 g37 g38 g39 g40 g41 g42 g43 g44 t) 0 0 Q := by
  refine zCl_i (M := kX12_elders) rfl (Nat.le_of_ble_eq_true rfl) fun R hR => ?_
  iterate 2 refine hR (?_ : R (_, _, _, _, _, _))
  refine hR (?_ : R (_, _, _, (zMi c0 c1 c2 c3 c4 c5 c6 c7 c8 c9 c10 c11 c12 c13 0 f9 f10 f11 f12 f13 f15 f16 f17 f20 f21 f22 f23 f26 f28 f31 f32 f33 f38 f41 f44 x14 g15 g16 g17 g18 g19 g20 g21 g22 g23 g24 g25 g26 g27 g28 g29 g30 g31 g32 g33 g34 g35 g36 g37 g38 g39 g40 g41 g42 g43 g44 t), _, _))
  iterate 2 refine hR (?_ : R (_, _, _, _, _, _))
  refine hR (t_c 9 (by decide) ?_)
  refine hR (zcall_i 0 0 (Nat.le_of_ble_eq_true rfl) (Nat.le_of_ble_eq_true rfl) (m_in _ a3 0 9 _ (by omega) (by omega) (by omega) _ fun v1 hp2 => ?_))
  refine (?_ : R (_, _, (.int (Int32.ofInt v1)) :: [], (zMi c0 c1 c2 c3 c4 c5 c6 c7 c8 c9 c10 c11 c12 c13 0 f9 f10 f11 f12 f13 f15 f16 f17 f20 f21 f22 f23 f26 f28 f31 f32 f33 f38 f41 f44 x14 g15 g16 g17 g18 g19 g20 g21 g22 g23 g24 g25 g26 g27 g28 g29 g30 g31 g32 g33 g34 g35 g36 g37 g38 g39 g40 g41 g42 g43 g44 t), 0, 0))
  refine hR (k_eq (by omega) (fun hc3 => ?_) (fun hc3 => ?_))
  · skip
    refine hR (t_c (-2) (by decide) ?_)
    exact hR (zret_i rfl (Nat.le_refl _) trivial (h _ _ _ _ _ _ _ _ _ _ _ hb25 hb30))
  refine hR (?_ : R (_, _, _, _, _, _))
  refine hR (zcall_i 0 0 (Nat.le_of_ble_eq_true rfl) (Nat.le_of_ble_eq_true rfl) (m_isText _ a2 _ (by omega) _ fun v4 hp5 => ?_))
  refine (?_ : R (_, _, (.int (Int32.ofInt v4)) :: [], (zMi c0 c1 c2 c3 c4 c5 c6 c7 c8 c9 c10 c11 c12 c13 0 f9 f10 f11 f12 f13 f15 f16 f17 f20 f21 f22 f23 f26 f28 f31 f32 f33 f38 f41 f44 x14 g15 g16 g17 g18 g19 g20 g21 g22 g23 g24 g25 g26 g27 g28 g29 g30 g31 g32 g33 g34 g35 g36 g37 g38 g39 g40 g41 g42 g43 g44 t), 0, 0))
  refine hR (k_eq (by omega) (fun hc6 => ?_) (fun hc6 => ?_))
  · skip
    refine hR (t_c (-2) (by decide) ?_)
    exact hR (zret_i rfl (Nat.le_refl _) trivial (h _ _ _ _ _ _ _ _ _ _ _ hb25 hb30))
  iterate 2 refine hR (?_ : R (_, _, _, _, _, _))
  refine hR (zcall_i 0 0 (Nat.le_of_ble_eq_true rfl) (Nat.le_of_ble_eq_true rfl) (m_handAll _ a1 hb19 hb25 hb30 hr3 (by omega) _ fun v7 y20_8 y21_9 y22_10 y23_11 y26_12 k25_13 k30_14 hp15 hp16 hp17 => ?_))
  refine (?_ : R (_, _, (.int (Int32.ofInt v7)) :: [], (zMi c0 c1 c2 c3 c4 c5 c6 c7 c8 c9 c10 c11 c12 c13 0 f9 f10 f11 f12 f13 f15 f16 f17 y20_8 y21_9 y22_10 y23_11 y26_12 f28 f31 f32 f33 f38 f41 f44 x14 g15 g16 g17 g18 g19 g20 g21 g22 g23 g24 k25_13 g26 g27 g28 g29 k30_14 g31 g32 g33 g34 g35 g36 g37 g38 g39 g40 g41 g42 g43 g44 t), 0, 0))
  refine hR (k_ne (by omega) (fun hc18 => ?_) (fun hc18 => ?_))
  rotate_left
  · skip
    refine hR (t_c (-2) (by decide) ?_)
    exact hR (zret_i rfl (Nat.le_refl _) trivial (h _ _ _ _ _ _ _ _ _ _ _ hp15 hp16))
  iterate 2 refine hR (?_ : R (_, _, _, _, _, _))
  have lp36 : ∀ (N : Nat) (i : Int) (q31_36 : Nat → Int32), (0 ≤ i ∧ i ≤ 5461) → (5461 - i < N) → R (36, [some (.ref 14), some (.int (Int32.ofInt a1)), some (.int (Int32.ofInt a2)), some (.int (Int32.ofInt a3)), some (.int (Int32.ofInt a4)), some (.int (Int32.ofInt i)), none, none], [], (zMi c0 c1 c2 c3 c4 c5 c6 c7 c8 c9 c10 c11 c12 c13 0 f9 f10 f11 f12 f13 f15 f16 f17 y20_8 y21_9 y22_10 y23_11 y26_12 f28 f31 f32 f33 f38 f41 f44 x14 g15 g16 g17 g18 g19 g20 g21 g22 g23 g24 k25_13 g26 g27 g28 g29 k30_14 q31_36 g32 g33 g34 g35 g36 g37 g38 g39 g40 g41 g42 g43 g44 t), 0, 0) := by
    intro N
    induction N with
    | zero => intros; omega
    | succ N ih36 =>
      intro i q31_36 hf0_36 hN36
      refine hR (?_ : R (_, _, _, _, _, _))
      refine hR (t_c 5461 (by decide) ?_)
      refine hR (j_ge (by omega) (by omega) (fun hc19 => ?_) (fun hc19 => ?_))
      rotate_left
      · skip
        iterate 5 refine hR (?_ : R (_, _, _, _, _, _))
        refine hR (j_ne (by omega) (by omega) (fun hc36 => ?_) (fun hc36 => ?_))
        · skip
          refine hR (?_ : R (_, _, _, _, _, _))
          refine hR (t_stx (by omega) (by omega) (Nat.le_of_ble_eq_true rfl) fun k31_37 => (?_ : R (_, _, _, (zMi c0 c1 c2 c3 c4 c5 c6 c7 c8 c9 c10 c11 c12 c13 0 f9 f10 f11 f12 f13 f15 f16 f17 y20_8 y21_9 y22_10 y23_11 y26_12 f28 f31 f32 f33 f38 f41 f44 x14 g15 g16 g17 g18 g19 g20 g21 g22 g23 g24 k25_13 g26 g27 g28 g29 k30_14 k31_37 g32 g33 g34 g35 g36 g37 g38 g39 g40 g41 g42 g43 g44 t), _, _)))
          refine hR (t_inc ?_)
          refine hR (?_ : R (_, _, _, _, _, _))
          exact ih36 _ _ (by omega) (by omega)
        iterate 2 refine hR (?_ : R (_, _, _, _, _, _))
        refine hR (t_stx (by omega) (by omega) (Nat.le_of_ble_eq_true rfl) fun k31_38 => (?_ : R (_, _, _, (zMi c0 c1 c2 c3 c4 c5 c6 c7 c8 c9 c10 c11 c12 c13 0 f9 f10 f11 f12 f13 f15 f16 f17 y20_8 y21_9 y22_10 y23_11 y26_12 f28 f31 f32 f33 f38 f41 f44 x14 g15 g16 g17 g18 g19 g20 g21 g22 g23 g24 k25_13 g26 g27 g28 g29 k30_14 k31_38 g32 g33 g34 g35 g36 g37 g38 g39 g40 g41 g42 g43 g44 t), _, _)))
        refine hR (t_inc ?_)
        refine hR (?_ : R (_, _, _, _, _, _))
        exact ih36 _ _ (by omega) (by omega)
      iterate 2 refine hR (?_ : R (_, _, _, _, _, _))
      have lp71 : ∀ (N : Nat) (k : Int) (o6_71 : Option Value) (o7_71 : Option Value) (q31_71 : Nat → Int32) (q32_71 : Nat → Int32), (zc2 o6_71 = false) → (zc2 o7_71 = false) → (0 ≤ k ∧ k ≤ a3) → (a3 - k < N) → R (71, [some (.ref 14), some (.int (Int32.ofInt a1)), some (.int (Int32.ofInt a2)), some (.int (Int32.ofInt a3)), some (.int (Int32.ofInt a4)), some (.int (Int32.ofInt k)), o6_71, o7_71], [], (zMi c0 c1 c2 c3 c4 c5 c6 c7 c8 c9 c10 c11 c12 c13 0 f9 f10 f11 f12 f13 f15 f16 f17 y20_8 y21_9 y22_10 y23_11 y26_12 f28 f31 f32 f33 f38 f41 f44 x14 g15 g16 g17 g18 g19 g20 g21 g22 g23 g24 k25_13 g26 g27 g28 g29 k30_14 q31_71 q32_71 g33 g34 g35 g36 g37 g38 g39 g40 g41 g42 g43 g44 t), 0, 0) := by
        intro N
        induction N with
        | zero => intros; omega
        | succ N ih71 =>
          intro k o6_71 o7_71 q31_71 q32_71 hzo6_71 hzo7_71 hf0_71 hN71
          iterate 2 refine hR (?_ : R (_, _, _, _, _, _))
          refine hR (j_ge (by omega) (by omega) (fun hc20 => ?_) (fun hc20 => ?_))
          · skip
            iterate 6 refine hR (?_ : R (_, _, _, _, _, _))
            have lp195 : ∀ (N : Nat) (mn : Int) (fi : Int) (i : Int), (0 ≤ i ∧ i ≤ 5461) → (5461 - i < N) → R (195, [some (.ref 14), some (.int (Int32.ofInt a1)), some (.int (Int32.ofInt a2)), some (.int (Int32.ofInt a3)), some (.int (Int32.ofInt a4)), some (.int (Int32.ofInt mn)), some (.int (Int32.ofInt fi)), some (.int (Int32.ofInt i))], [], (zMi c0 c1 c2 c3 c4 c5 c6 c7 c8 c9 c10 c11 c12 c13 0 f9 f10 f11 f12 f13 f15 f16 f17 y20_8 y21_9 y22_10 y23_11 y26_12 f28 f31 f32 f33 f38 f41 f44 x14 g15 g16 g17 g18 g19 g20 g21 g22 g23 g24 k25_13 g26 g27 g28 g29 k30_14 q31_71 q32_71 g33 g34 g35 g36 g37 g38 g39 g40 g41 g42 g43 g44 t), 0, 0) := by
              intro N
              induction N with
              | zero => intros; omega
              | succ N ih195 =>
                intro mn fi i hf0_195 hN195
                refine hR (?_ : R (_, _, _, _, _, _))
                refine hR (t_c 5461 (by decide) ?_)
                refine hR (j_ge (by omega) (by omega) (fun hc21 => ?_) (fun hc21 => ?_))
                · skip
                  refine hR (?_ : R (_, _, _, _, _, _))
                  refine hR (k_eq (by omega) (fun hc22 => ?_) (fun hc22 => ?_))
                  · skip
                    refine hR (?_ : R (_, _, _, _, _, _))
                    exact hR (zret_i rfl (Nat.le_refl _) trivial (h _ _ _ _ _ _ _ _ _ _ _ hp15 hp16))
                  iterate 2 refine hR (?_ : R (_, _, _, _, _, _))
                  exact hR (zret_i rfl (Nat.le_refl _) trivial (h _ _ _ _ _ _ _ _ _ _ _ hp15 hp16))
                iterate 4 refine hR (?_ : R (_, _, _, _, _, _))
                refine hR (t_ldo (by omega) (by omega) (Nat.le_of_ble_eq_true rfl) fun v23 rv23 => ?_)
                refine hR (t_add ?_)
                iterate 3 refine hR (?_ : R (_, _, _, _, _, _))
                refine hR (j_any ?_ ?_)
                · skip
                  iterate 2 refine hR (?_ : R (_, _, _, _, _, _))
                  refine hR (t_inc ?_)
                  refine hR (?_ : R (_, _, _, _, _, _))
                  exact ih195 _ _ _ (by omega) (by omega)
                iterate 3 refine hR (?_ : R (_, _, _, _, _, _))
                refine hR (t_ldo (by omega) (by omega) (Nat.le_of_ble_eq_true rfl) fun v24 rv24 => ?_)
                refine hR (?_ : R (_, _, _, _, _, _))
                refine hR (j_any ?_ ?_)
                · skip
                  iterate 2 refine hR (?_ : R (_, _, _, _, _, _))
                  refine hR (t_inc ?_)
                  refine hR (?_ : R (_, _, _, _, _, _))
                  exact ih195 _ _ _ (by omega) (by omega)
                iterate 3 refine hR (?_ : R (_, _, _, _, _, _))
                refine hR (t_inc ?_)
                refine hR (?_ : R (_, _, _, _, _, _))
                exact ih195 _ _ _ (by omega) (by omega)
            exact lp195 400000000 _ _ _ (by omega) (by omega)
          iterate 2 refine hR (?_ : R (_, _, _, _, _, _))
          have lp80 : ∀ (N : Nat) (i : Int) (o7_80 : Option Value) (q32_80 : Nat → Int32), (zc2 o7_80 = false) → (0 ≤ i ∧ i ≤ 5461) → (5461 - i < N) → R (80, [some (.ref 14), some (.int (Int32.ofInt a1)), some (.int (Int32.ofInt a2)), some (.int (Int32.ofInt a3)), some (.int (Int32.ofInt a4)), some (.int (Int32.ofInt k)), some (.int (Int32.ofInt i)), o7_80], [], (zMi c0 c1 c2 c3 c4 c5 c6 c7 c8 c9 c10 c11 c12 c13 0 f9 f10 f11 f12 f13 f15 f16 f17 y20_8 y21_9 y22_10 y23_11 y26_12 f28 f31 f32 f33 f38 f41 f44 x14 g15 g16 g17 g18 g19 g20 g21 g22 g23 g24 k25_13 g26 g27 g28 g29 k30_14 q31_71 q32_80 g33 g34 g35 g36 g37 g38 g39 g40 g41 g42 g43 g44 t), 0, 0) := by
            intro N
            induction N with
            | zero => intros; omega
            | succ N ih80 =>
              intro i o7_80 q32_80 hzo7_80 hf0_80 hN80
              refine hR (?_ : R (_, _, _, _, _, _))
              refine hR (t_c 5461 (by decide) ?_)
              refine hR (j_ge (by omega) (by omega) (fun hc25 => ?_) (fun hc25 => ?_))
              · skip
                iterate 2 refine hR (?_ : R (_, _, _, _, _, _))
                have lp152 : ∀ (N : Nat) (i : Int) (q31_152 : Nat → Int32), (0 ≤ i ∧ i ≤ 5461) → (5461 - i < N) → R (152, [some (.ref 14), some (.int (Int32.ofInt a1)), some (.int (Int32.ofInt a2)), some (.int (Int32.ofInt a3)), some (.int (Int32.ofInt a4)), some (.int (Int32.ofInt k)), some (.int (Int32.ofInt i)), o7_80], [], (zMi c0 c1 c2 c3 c4 c5 c6 c7 c8 c9 c10 c11 c12 c13 0 f9 f10 f11 f12 f13 f15 f16 f17 y20_8 y21_9 y22_10 y23_11 y26_12 f28 f31 f32 f33 f38 f41 f44 x14 g15 g16 g17 g18 g19 g20 g21 g22 g23 g24 k25_13 g26 g27 g28 g29 k30_14 q31_152 q32_80 g33 g34 g35 g36 g37 g38 g39 g40 g41 g42 g43 g44 t), 0, 0) := by
                  intro N
                  induction N with
                  | zero => intros; omega
                  | succ N ih152 =>
                    intro i q31_152 hf0_152 hN152
                    refine hR (?_ : R (_, _, _, _, _, _))
                    refine hR (t_c 5461 (by decide) ?_)
                    refine hR (j_ge (by omega) (by omega) (fun hc26 => ?_) (fun hc26 => ?_))
                    · skip
                      refine hR (t_inc ?_)
                      refine hR (?_ : R (_, _, _, _, _, _))
                      exact ih71 _ _ _ _ _ (by rfl) hzo7_80 (by omega) (by omega)
                    iterate 6 refine hR (?_ : R (_, _, _, _, _, _))
                    refine hR (t_ldo (by omega) (by omega) (Nat.le_of_ble_eq_true rfl) fun v27 rv27 => ?_)
                    refine hR (t_stx (by omega) (by omega) (Nat.le_of_ble_eq_true rfl) fun k31_28 => (?_ : R (_, _, _, (zMi c0 c1 c2 c3 c4 c5 c6 c7 c8 c9 c10 c11 c12 c13 0 f9 f10 f11 f12 f13 f15 f16 f17 y20_8 y21_9 y22_10 y23_11 y26_12 f28 f31 f32 f33 f38 f41 f44 x14 g15 g16 g17 g18 g19 g20 g21 g22 g23 g24 k25_13 g26 g27 g28 g29 k30_14 k31_28 q32_80 g33 g34 g35 g36 g37 g38 g39 g40 g41 g42 g43 g44 t), _, _)))
                    refine hR (t_inc ?_)
                    refine hR (?_ : R (_, _, _, _, _, _))
                    exact ih152 _ _ (by omega) (by omega)
                exact lp152 400000000 _ _ (by omega) (by omega)
              iterate 4 refine hR (?_ : R (_, _, _, _, _, _))
              refine hR (t_stx (by omega) (by omega) (Nat.le_of_ble_eq_true rfl) fun k32_29 => (?_ : R (_, _, _, (zMi c0 c1 c2 c3 c4 c5 c6 c7 c8 c9 c10 c11 c12 c13 0 f9 f10 f11 f12 f13 f15 f16 f17 y20_8 y21_9 y22_10 y23_11 y26_12 f28 f31 f32 f33 f38 f41 f44 x14 g15 g16 g17 g18 g19 g20 g21 g22 g23 g24 k25_13 g26 g27 g28 g29 k30_14 q31_71 k32_29 g33 g34 g35 g36 g37 g38 g39 g40 g41 g42 g43 g44 t), _, _)))
              iterate 2 refine hR (?_ : R (_, _, _, _, _, _))
              have lp99 : ∀ (N : Nat) (r : Int) (q32_99 : Nat → Int32), (0 ≤ r ∧ r ≤ y23_11) → (y23_11 - r < N) → R (99, [some (.ref 14), some (.int (Int32.ofInt a1)), some (.int (Int32.ofInt a2)), some (.int (Int32.ofInt a3)), some (.int (Int32.ofInt a4)), some (.int (Int32.ofInt k)), some (.int (Int32.ofInt i)), some (.int (Int32.ofInt r))], [], (zMi c0 c1 c2 c3 c4 c5 c6 c7 c8 c9 c10 c11 c12 c13 0 f9 f10 f11 f12 f13 f15 f16 f17 y20_8 y21_9 y22_10 y23_11 y26_12 f28 f31 f32 f33 f38 f41 f44 x14 g15 g16 g17 g18 g19 g20 g21 g22 g23 g24 k25_13 g26 g27 g28 g29 k30_14 q31_71 q32_99 g33 g34 g35 g36 g37 g38 g39 g40 g41 g42 g43 g44 t), 0, 0) := by
                intro N
                induction N with
                | zero => intros; omega
                | succ N ih99 =>
                  intro r q32_99 hf0_99 hN99
                  iterate 3 refine hR (?_ : R (_, _, _, _, _, _))
                  refine hR (j_ge (by omega) (by omega) (fun hc30 => ?_) (fun hc30 => ?_))
                  · skip
                    refine hR (t_inc ?_)
                    refine hR (?_ : R (_, _, _, _, _, _))
                    exact ih80 _ _ _ (by rfl) (by omega) (by omega)
                  iterate 4 refine hR (?_ : R (_, _, _, _, _, _))
                  refine hR (t_ldo (by omega) (by omega) (Nat.le_of_ble_eq_true rfl) fun v31 rv31 => ?_)
                  iterate 4 refine hR (?_ : R (_, _, _, _, _, _))
                  refine hR (t_c 5461 (by decide) ?_)
                  refine hR (?_ : R (_, _, _, _, _, _))
                  refine hR (t_mul ?_)
                  refine hR (?_ : R (_, _, _, _, _, _))
                  refine hR (t_add ?_)
                  refine hR (t_ldB hp16 (by omega) (by omega) (Nat.le_of_ble_eq_true rfl) fun v32 ev32 lv32 uv32 => ?_)
                  clear ev32
                  refine hR (t_ldo (by omega) (by omega) (Nat.le_of_ble_eq_true rfl) fun v33 rv33 => ?_)
                  refine hR (t_o fun v34 rv34 => ?_)
                  refine hR (t_stx (by omega) (by omega) (Nat.le_of_ble_eq_true rfl) fun k32_35 => (?_ : R (_, _, _, (zMi c0 c1 c2 c3 c4 c5 c6 c7 c8 c9 c10 c11 c12 c13 0 f9 f10 f11 f12 f13 f15 f16 f17 y20_8 y21_9 y22_10 y23_11 y26_12 f28 f31 f32 f33 f38 f41 f44 x14 g15 g16 g17 g18 g19 g20 g21 g22 g23 g24 k25_13 g26 g27 g28 g29 k30_14 q31_71 k32_35 g33 g34 g35 g36 g37 g38 g39 g40 g41 g42 g43 g44 t), _, _)))
                  refine hR (t_inc ?_)
                  refine hR (?_ : R (_, _, _, _, _, _))
                  exact ih99 _ _ (by omega) (by omega)
              exact lp99 400000000 _ _ (by omega) (by omega)
          exact lp80 400000000 _ _ _ hzo7_71 (by omega) (by omega)
      exact lp71 400000000 _ _ _ _ _ (by rfl) (by rfl) (by omega) (by omega)
  exact lp36 400000000 _ _ (by omega) (by omega)
theorem m_wordsIn (d : Nat) (a1 a2 : Int) (hb25 : zB 0 3 g25) (hr1 : 0 ≤ a1 ∧ a1 ≤ 5460) (hr2 : 0 ≤ a2 ∧ a2 ≤ 3) (Q : zQ) (h : ∀ (v : Int) (k25 : Nat → Int32), zB 0 3 k25 → Q (some (.int (Int32.ofInt v))) (zMi c0 c1 c2 c3 c4 c5 c6 c7 c8 c9 c10 c11 c12 c13 f0 f9 f10 f11 f12 f13 f15 f16 f17 f20 f21 f22 f23 f26 f28 f31 f32 f33 f38 f41 f44 x14 g15 g16 g17 g18 g19 g20 g21 g22 g23 g24 k25 g26 g27 g28 g29 g30 g31 g32 g33 g34 g35 g36 g37 g38 g39 g40 g41 g42 g43 g44 t)) : zCl zTab (d + 4) iX12_wordsIn [.ref 14, .int (Int32.ofInt a1), .int (Int32.ofInt a2)] (zMi c0 c1 c2 c3 c4 c5 c6 c7 c8 c9 c10 c11 c12 c13 f0 f9 f10 f11 f12 f13 f15 f16 f17 f20 f21 f22 f23 f26 f28 f31 f32 f33 f38 f41 f44 x14 g15 g16 g17 g18 g19 g20 g21 g22 g23 g24 g25 g26 g27 g28 g29 g30 g31 g32 g33 g34 g35 g36 g37 g38 g39 g40 g41 g42 g43 g44 t) 0 0 Q := by
  refine zCl_i (M := kX12_wordsIn) rfl (Nat.le_of_ble_eq_true rfl) fun R hR => ?_
  iterate 3 refine hR (?_ : R (_, _, _, _, _, _))
  refine hR (zcall_i 0 0 (Nat.le_of_ble_eq_true rfl) (Nat.le_of_ble_eq_true rfl) (m_spell25 _ a1 hb25 (by omega) _ fun k25_1 hp2 => ?_))
  refine (?_ : R (_, _, [], (zMi c0 c1 c2 c3 c4 c5 c6 c7 c8 c9 c10 c11 c12 c13 f0 f9 f10 f11 f12 f13 f15 f16 f17 f20 f21 f22 f23 f26 f28 f31 f32 f33 f38 f41 f44 x14 g15 g16 g17 g18 g19 g20 g21 g22 g23 g24 k25_1 g26 g27 g28 g29 g30 g31 g32 g33 g34 g35 g36 g37 g38 g39 g40 g41 g42 g43 g44 t), 0, 0))
  iterate 4 refine hR (?_ : R (_, _, _, _, _, _))
  have lp13 : ∀ (N : Nat) (n : Int) (k : Int), (0 ≤ k ∧ k ≤ 6) → (6 - k < N) → R (13, [some (.ref 14), some (.int (Int32.ofInt a1)), some (.int (Int32.ofInt a2)), some (.int (Int32.ofInt n)), some (.int (Int32.ofInt k))], [], (zMi c0 c1 c2 c3 c4 c5 c6 c7 c8 c9 c10 c11 c12 c13 f0 f9 f10 f11 f12 f13 f15 f16 f17 f20 f21 f22 f23 f26 f28 f31 f32 f33 f38 f41 f44 x14 g15 g16 g17 g18 g19 g20 g21 g22 g23 g24 k25_1 g26 g27 g28 g29 g30 g31 g32 g33 g34 g35 g36 g37 g38 g39 g40 g41 g42 g43 g44 t), 0, 0) := by
    intro N
    induction N with
    | zero => intros; omega
    | succ N ih13 =>
      intro n k hf0_13 hN13
      iterate 2 refine hR (?_ : R (_, _, _, _, _, _))
      refine hR (zcall_i 0 0 (Nat.le_of_ble_eq_true rfl) (Nat.le_of_ble_eq_true rfl) (m_sizeOf _ a1 _ (by omega) _ fun v3 hp4 hp5 => ?_))
      refine (?_ : R (_, _, (.int (Int32.ofInt v3)) :: (.int (Int32.ofInt k)) :: [], (zMi c0 c1 c2 c3 c4 c5 c6 c7 c8 c9 c10 c11 c12 c13 f0 f9 f10 f11 f12 f13 f15 f16 f17 f20 f21 f22 f23 f26 f28 f31 f32 f33 f38 f41 f44 x14 g15 g16 g17 g18 g19 g20 g21 g22 g23 g24 k25_1 g26 g27 g28 g29 g30 g31 g32 g33 g34 g35 g36 g37 g38 g39 g40 g41 g42 g43 g44 t), 0, 0))
      refine hR (j_ge (by omega) (by omega) (fun hc6 => ?_) (fun hc6 => ?_))
      · skip
        refine hR (?_ : R (_, _, _, _, _, _))
        exact hR (zret_i rfl (Nat.le_refl _) trivial (h _ _ hp2))
      iterate 4 refine hR (?_ : R (_, _, _, _, _, _))
      refine hR (t_ldB hp2 (by omega) (by omega) (Nat.le_of_ble_eq_true rfl) fun v7 ev7 lv7 uv7 => ?_)
      clear ev7
      refine hR (?_ : R (_, _, _, _, _, _))
      refine hR (j_ne (by omega) (by omega) (fun hc8 => ?_) (fun hc8 => ?_))
      · skip
        refine hR (?_ : R (_, _, _, _, _, _))
        refine hR (t_add ?_)
        refine hR (?_ : R (_, _, _, _, _, _))
        refine hR (t_inc ?_)
        refine hR (?_ : R (_, _, _, _, _, _))
        exact ih13 _ _ (by omega) (by omega)
      iterate 2 refine hR (?_ : R (_, _, _, _, _, _))
      refine hR (t_add ?_)
      refine hR (?_ : R (_, _, _, _, _, _))
      refine hR (t_inc ?_)
      refine hR (?_ : R (_, _, _, _, _, _))
      exact ih13 _ _ (by omega) (by omega)
  exact lp13 400000000 _ _ (by omega) (by omega)
theorem m_facts (d : Nat) (hr0 : siOK g22) (hr1 : 0 ≤ f41 ∧ f41 ≤ 1) (Q : zQ) (h : ∀ (v : Int), (v = (g22 (13 * f41.toNat)).toInt) → (0 ≤ v ∧ v ≤ 6) → Q (some (.int (Int32.ofInt v))) (zMi c0 c1 c2 c3 c4 c5 c6 c7 c8 c9 c10 c11 c12 c13 f0 f9 f10 f11 f12 f13 f15 f16 f17 f20 f21 f22 f23 f26 f28 f31 f32 f33 f38 f41 f44 x14 g15 g16 g17 g18 g19 g20 g21 g22 g23 g24 g25 g26 g27 g28 g29 g30 g31 g32 g33 g34 g35 g36 g37 g38 g39 g40 g41 g42 g43 g44 t)) : zCl zTab (d + 1) iX12_facts [.ref 14] (zMi c0 c1 c2 c3 c4 c5 c6 c7 c8 c9 c10 c11 c12 c13 f0 f9 f10 f11 f12 f13 f15 f16 f17 f20 f21 f22 f23 f26 f28 f31 f32 f33 f38 f41 f44 x14 g15 g16 g17 g18 g19 g20 g21 g22 g23 g24 g25 g26 g27 g28 g29 g30 g31 g32 g33 g34 g35 g36 g37 g38 g39 g40 g41 g42 g43 g44 t) 0 0 Q := by
  refine zCl_i (M := kX12_facts) rfl (Nat.le_of_ble_eq_true rfl) fun R hR => ?_
  iterate 2 refine hR (?_ : R (_, _, _, _, _, _))
  refine hR (t_c 13 (by decide) ?_)
  iterate 2 refine hR (?_ : R (_, _, _, _, _, _))
  refine hR (t_mul ?_)
  refine hR (t_ldE (by omega) (by omega) (Nat.le_of_ble_eq_true rfl) fun v1 ev1 rv1 => ?_)
  exact hR (zret_i rfl (Nat.le_refl _) trivial (h _ (si_i0 (by omega) ev1) (si_0 hr0 (by omega) (by omega) (si_i0 (by omega) ev1))))
theorem m_factOf (d : Nat) (a1 a2 : Int) (hr0 : 0 ≤ f41 ∧ f41 ≤ 1) (hr1 : 0 ≤ a1 ∧ a1 ≤ 5) (hr2 : 0 ≤ a2 ∧ a2 ≤ 1) (Q : zQ) (h : ∀ (v : Int), Q (some (.int (Int32.ofInt v))) (zMi c0 c1 c2 c3 c4 c5 c6 c7 c8 c9 c10 c11 c12 c13 f0 f9 f10 f11 f12 f13 f15 f16 f17 f20 f21 f22 f23 f26 f28 f31 f32 f33 f38 f41 f44 x14 g15 g16 g17 g18 g19 g20 g21 g22 g23 g24 g25 g26 g27 g28 g29 g30 g31 g32 g33 g34 g35 g36 g37 g38 g39 g40 g41 g42 g43 g44 t)) : zCl zTab (d + 1) iX12_factOf [.ref 14, .int (Int32.ofInt a1), .int (Int32.ofInt a2)] (zMi c0 c1 c2 c3 c4 c5 c6 c7 c8 c9 c10 c11 c12 c13 f0 f9 f10 f11 f12 f13 f15 f16 f17 f20 f21 f22 f23 f26 f28 f31 f32 f33 f38 f41 f44 x14 g15 g16 g17 g18 g19 g20 g21 g22 g23 g24 g25 g26 g27 g28 g29 g30 g31 g32 g33 g34 g35 g36 g37 g38 g39 g40 g41 g42 g43 g44 t) 0 0 Q := by
  refine zCl_i (M := kX12_factOf) rfl (Nat.le_of_ble_eq_true rfl) fun R hR => ?_
  iterate 2 refine hR (?_ : R (_, _, _, _, _, _))
  refine hR (t_c 13 (by decide) ?_)
  iterate 2 refine hR (?_ : R (_, _, _, _, _, _))
  refine hR (t_mul ?_)
  refine hR (?_ : R (_, _, _, _, _, _))
  refine hR (t_add ?_)
  iterate 2 refine hR (?_ : R (_, _, _, _, _, _))
  refine hR (t_mul ?_)
  refine hR (t_add ?_)
  refine hR (?_ : R (_, _, _, _, _, _))
  refine hR (t_add ?_)
  refine hR (t_ldo (by omega) (by omega) (Nat.le_of_ble_eq_true rfl) fun v1 rv1 => ?_)
  exact hR (zret_i rfl (Nat.le_refl _) trivial (h _))
theorem m_hasSight (d : Nat) (a1 : Int) (hb19 : zB 0 2 g19) (hr1 : -2147483648 ≤ a1 ∧ a1 ≤ 2147483647) (Q : zQ) (h : ∀ (v : Int) (y41 : Int), (y41 = a1) → ((v = 1 ∧ 0 ≤ a1 ∧ a1 ≤ 1 ∧ a1 < (g19 2).toInt) ∨ (v = 0 ∧ (a1 < 0 ∨ (g19 2).toInt ≤ a1))) → Q (some (.int (Int32.ofInt v))) (zMi c0 c1 c2 c3 c4 c5 c6 c7 c8 c9 c10 c11 c12 c13 f0 f9 f10 f11 f12 f13 f15 f16 f17 f20 f21 f22 f23 f26 f28 f31 f32 f33 f38 y41 f44 x14 g15 g16 g17 g18 g19 g20 g21 g22 g23 g24 g25 g26 g27 g28 g29 g30 g31 g32 g33 g34 g35 g36 g37 g38 g39 g40 g41 g42 g43 g44 t)) : zCl zTab (d + 3) iX12_hasSight [.ref 14, .int (Int32.ofInt a1)] (zMi c0 c1 c2 c3 c4 c5 c6 c7 c8 c9 c10 c11 c12 c13 f0 f9 f10 f11 f12 f13 f15 f16 f17 f20 f21 f22 f23 f26 f28 f31 f32 f33 f38 f41 f44 x14 g15 g16 g17 g18 g19 g20 g21 g22 g23 g24 g25 g26 g27 g28 g29 g30 g31 g32 g33 g34 g35 g36 g37 g38 g39 g40 g41 g42 g43 g44 t) 0 0 Q := by
  refine zCl_i (M := kX12_hasSight) rfl (Nat.le_of_ble_eq_true rfl) fun R hR => ?_
  iterate 2 refine hR (?_ : R (_, _, _, _, _, _))
  refine hR (?_ : R (_, _, _, (zMi c0 c1 c2 c3 c4 c5 c6 c7 c8 c9 c10 c11 c12 c13 f0 f9 f10 f11 f12 f13 f15 f16 f17 f20 f21 f22 f23 f26 f28 f31 f32 f33 f38 a1 f44 x14 g15 g16 g17 g18 g19 g20 g21 g22 g23 g24 g25 g26 g27 g28 g29 g30 g31 g32 g33 g34 g35 g36 g37 g38 g39 g40 g41 g42 g43 g44 t), _, _))
  iterate 3 refine hR (?_ : R (_, _, _, _, _, _))
  refine hR (zcall_i 0 0 (Nat.le_of_ble_eq_true rfl) (Nat.le_of_ble_eq_true rfl) (m_is _ 2 a1 hb19 (by omega) (by omega) _ fun v1 hp2 => ?_))
  refine (?_ : R (_, _, (.int (Int32.ofInt v1)) :: [], (zMi c0 c1 c2 c3 c4 c5 c6 c7 c8 c9 c10 c11 c12 c13 f0 f9 f10 f11 f12 f13 f15 f16 f17 f20 f21 f22 f23 f26 f28 f31 f32 f33 f38 a1 f44 x14 g15 g16 g17 g18 g19 g20 g21 g22 g23 g24 g25 g26 g27 g28 g29 g30 g31 g32 g33 g34 g35 g36 g37 g38 g39 g40 g41 g42 g43 g44 t), 0, 0))
  have hp2x : (v1 = 1 ∧ 0 ≤ a1 ∧ a1 < (g19 2).toInt ∧ a1 ≤ 1) ∨ (v1 = 0 ∧ (a1 < 0 ∨ (g19 2).toInt ≤ a1)) := hp2
  exact hR (zret_i rfl (Nat.le_refl _) (zbo (by omega)) (h _ _ (by omega) (by omega)))
theorem m_fact (d : Nat) (a1 a2 a3 : Int) (hb19 : zB 0 2 g19) (hr1 : siOK g22) (hr2 : -2147483648 ≤ a1 ∧ a1 ≤ 2147483647) (hr3 : -2147483648 ≤ a2 ∧ a2 ≤ 2147483647) (hr4 : -2147483648 ≤ a3 ∧ a3 ≤ 2147483647) (Q : zQ) (h : ∀ (v : Int) (y0 : Int) (y41 : Int), Q (some (.int (Int32.ofInt v))) (zMi c0 c1 c2 c3 c4 c5 c6 c7 c8 c9 c10 c11 c12 c13 y0 f9 f10 f11 f12 f13 f15 f16 f17 f20 f21 f22 f23 f26 f28 f31 f32 f33 f38 y41 f44 x14 g15 g16 g17 g18 g19 g20 g21 g22 g23 g24 g25 g26 g27 g28 g29 g30 g31 g32 g33 g34 g35 g36 g37 g38 g39 g40 g41 g42 g43 g44 t)) : zCl zTab (d + 4) iX12_fact [.ref 14, .int (Int32.ofInt a1), .int (Int32.ofInt a2), .int (Int32.ofInt a3)] (zMi c0 c1 c2 c3 c4 c5 c6 c7 c8 c9 c10 c11 c12 c13 f0 f9 f10 f11 f12 f13 f15 f16 f17 f20 f21 f22 f23 f26 f28 f31 f32 f33 f38 f41 f44 x14 g15 g16 g17 g18 g19 g20 g21 g22 g23 g24 g25 g26 g27 g28 g29 g30 g31 g32 g33 g34 g35 g36 g37 g38 g39 g40 g41 g42 g43 g44 t) 0 0 Q := by
  refine zCl_i (M := kX12_fact) rfl (Nat.le_of_ble_eq_true rfl) fun R hR => ?_
  iterate 2 refine hR (?_ : R (_, _, _, _, _, _))
  refine hR (?_ : R (_, _, _, (zMi c0 c1 c2 c3 c4 c5 c6 c7 c8 c9 c10 c11 c12 c13 0 f9 f10 f11 f12 f13 f15 f16 f17 f20 f21 f22 f23 f26 f28 f31 f32 f33 f38 f41 f44 x14 g15 g16 g17 g18 g19 g20 g21 g22 g23 g24 g25 g26 g27 g28 g29 g30 g31 g32 g33 g34 g35 g36 g37 g38 g39 g40 g41 g42 g43 g44 t), _, _))
  iterate 2 refine hR (?_ : R (_, _, _, _, _, _))
  refine hR (zcall_i 0 0 (Nat.le_of_ble_eq_true rfl) (Nat.le_of_ble_eq_true rfl) (m_hasSight _ a1 hb19 (by omega) _ fun v1 y41_2 hp3 hp4 => ?_))
  refine (?_ : R (_, _, (.int (Int32.ofInt v1)) :: [], (zMi c0 c1 c2 c3 c4 c5 c6 c7 c8 c9 c10 c11 c12 c13 0 f9 f10 f11 f12 f13 f15 f16 f17 f20 f21 f22 f23 f26 f28 f31 f32 f33 f38 y41_2 f44 x14 g15 g16 g17 g18 g19 g20 g21 g22 g23 g24 g25 g26 g27 g28 g29 g30 g31 g32 g33 g34 g35 g36 g37 g38 g39 g40 g41 g42 g43 g44 t), 0, 0))
  refine hR (k_ne (by omega) (fun hc5 => ?_) (fun hc5 => ?_))
  rotate_left
  · skip
    refine hR (t_c (-2) (by decide) ?_)
    exact hR (zret_i rfl (Nat.le_refl _) trivial (h _ _ _))
  iterate 2 refine hR (?_ : R (_, _, _, _, _, _))
  refine hR (j_ne (by omega) (by omega) (fun hc6 => ?_) (fun hc6 => ?_))
  rotate_left
  · skip
    refine hR (?_ : R (_, _, _, _, _, _))
    refine hR (k_ne (by omega) (fun hc17 => ?_) (fun hc17 => ?_))
    · skip
      refine hR (t_c (-2) (by decide) ?_)
      exact hR (zret_i rfl (Nat.le_refl _) trivial (h _ _ _))
    refine hR (?_ : R (_, _, _, _, _, _))
    refine hR (zcall_i 0 0 (Nat.le_of_ble_eq_true rfl) (Nat.le_of_ble_eq_true rfl) (m_facts _ hr1 (by omega) _ fun v18 hp19 hp20 => ?_))
    refine (?_ : R (_, _, (.int (Int32.ofInt v18)) :: [], (zMi c0 c1 c2 c3 c4 c5 c6 c7 c8 c9 c10 c11 c12 c13 0 f9 f10 f11 f12 f13 f15 f16 f17 f20 f21 f22 f23 f26 f28 f31 f32 f33 f38 y41_2 f44 x14 g15 g16 g17 g18 g19 g20 g21 g22 g23 g24 g25 g26 g27 g28 g29 g30 g31 g32 g33 g34 g35 g36 g37 g38 g39 g40 g41 g42 g43 g44 t), 0, 0))
    refine hR (?_ : R (_, _, _, _, _, _))
    exact hR (zret_i rfl (Nat.le_refl _) trivial (h _ _ _))
  iterate 3 refine hR (?_ : R (_, _, _, _, _, _))
  refine hR (zcall_i 0 0 (Nat.le_of_ble_eq_true rfl) (Nat.le_of_ble_eq_true rfl) (m_facts _ hr1 (by omega) _ fun v7 hp8 hp9 => ?_))
  refine (?_ : R (_, _, (.int (Int32.ofInt v7)) :: (.int (Int32.ofInt 0)) :: (.int (Int32.ofInt a2)) :: [], (zMi c0 c1 c2 c3 c4 c5 c6 c7 c8 c9 c10 c11 c12 c13 0 f9 f10 f11 f12 f13 f15 f16 f17 f20 f21 f22 f23 f26 f28 f31 f32 f33 f38 y41_2 f44 x14 g15 g16 g17 g18 g19 g20 g21 g22 g23 g24 g25 g26 g27 g28 g29 g30 g31 g32 g33 g34 g35 g36 g37 g38 g39 g40 g41 g42 g43 g44 t), 0, 0))
  refine hR (?_ : R (_, _, _, _, _, _))
  refine hR (t_sub ?_)
  refine hR (zcall_i 0 0 (Nat.le_of_ble_eq_true rfl) (Nat.le_of_ble_eq_true rfl) (m_in _ a2 0 (v7 - 1) _ (by omega) (by omega) (by omega) _ fun v10 hp11 => ?_))
  refine (?_ : R (_, _, (.int (Int32.ofInt v10)) :: [], (zMi c0 c1 c2 c3 c4 c5 c6 c7 c8 c9 c10 c11 c12 c13 0 f9 f10 f11 f12 f13 f15 f16 f17 f20 f21 f22 f23 f26 f28 f31 f32 f33 f38 y41_2 f44 x14 g15 g16 g17 g18 g19 g20 g21 g22 g23 g24 g25 g26 g27 g28 g29 g30 g31 g32 g33 g34 g35 g36 g37 g38 g39 g40 g41 g42 g43 g44 t), 0, 0))
  refine hR (k_eq (by omega) (fun hc12 => ?_) (fun hc12 => ?_))
  · skip
    refine hR (t_c (-2) (by decide) ?_)
    exact hR (zret_i rfl (Nat.le_refl _) trivial (h _ _ _))
  iterate 3 refine hR (?_ : R (_, _, _, _, _, _))
  refine hR (zcall_i 0 0 (Nat.le_of_ble_eq_true rfl) (Nat.le_of_ble_eq_true rfl) (m_in _ a3 0 1 _ (by omega) (by omega) (by omega) _ fun v13 hp14 => ?_))
  refine (?_ : R (_, _, (.int (Int32.ofInt v13)) :: [], (zMi c0 c1 c2 c3 c4 c5 c6 c7 c8 c9 c10 c11 c12 c13 0 f9 f10 f11 f12 f13 f15 f16 f17 f20 f21 f22 f23 f26 f28 f31 f32 f33 f38 y41_2 f44 x14 g15 g16 g17 g18 g19 g20 g21 g22 g23 g24 g25 g26 g27 g28 g29 g30 g31 g32 g33 g34 g35 g36 g37 g38 g39 g40 g41 g42 g43 g44 t), 0, 0))
  refine hR (k_eq (by omega) (fun hc15 => ?_) (fun hc15 => ?_))
  · skip
    refine hR (t_c (-2) (by decide) ?_)
    exact hR (zret_i rfl (Nat.le_refl _) trivial (h _ _ _))
  iterate 3 refine hR (?_ : R (_, _, _, _, _, _))
  refine hR (zcall_i 0 0 (Nat.le_of_ble_eq_true rfl) (Nat.le_of_ble_eq_true rfl) (m_factOf _ a2 a3 (by omega) (by omega) (by omega) _ fun v16 => ?_))
  refine (?_ : R (_, _, (.int (Int32.ofInt v16)) :: [], (zMi c0 c1 c2 c3 c4 c5 c6 c7 c8 c9 c10 c11 c12 c13 0 f9 f10 f11 f12 f13 f15 f16 f17 f20 f21 f22 f23 f26 f28 f31 f32 f33 f38 y41_2 f44 x14 g15 g16 g17 g18 g19 g20 g21 g22 g23 g24 g25 g26 g27 g28 g29 g30 g31 g32 g33 g34 g35 g36 g37 g38 g39 g40 g41 g42 g43 g44 t), 0, 0))
  refine hR (?_ : R (_, _, _, _, _, _))
  exact hR (zret_i rfl (Nat.le_refl _) trivial (h _ _ _))
theorem m_mayBe (d : Nat) (a1 a2 : Int) (hr0 : siOK g22) (hr1 : 0 ≤ f41 ∧ f41 ≤ 1) (Q : zQ) (h : ∀ (v : Int), (v = 0 ∨ v = 1) → Q (some (.int (Int32.ofInt v))) (zMi c0 c1 c2 c3 c4 c5 c6 c7 c8 c9 c10 c11 c12 c13 f0 f9 f10 f11 f12 f13 f15 f16 f17 f20 f21 f22 f23 f26 f28 f31 f32 f33 f38 f41 f44 x14 g15 g16 g17 g18 g19 g20 g21 g22 g23 g24 g25 g26 g27 g28 g29 g30 g31 g32 g33 g34 g35 g36 g37 g38 g39 g40 g41 g42 g43 g44 t)) : zCl zTab (d + 2) iX12_mayBe [.ref 14, .int (Int32.ofInt a1), .int (Int32.ofInt a2)] (zMi c0 c1 c2 c3 c4 c5 c6 c7 c8 c9 c10 c11 c12 c13 f0 f9 f10 f11 f12 f13 f15 f16 f17 f20 f21 f22 f23 f26 f28 f31 f32 f33 f38 f41 f44 x14 g15 g16 g17 g18 g19 g20 g21 g22 g23 g24 g25 g26 g27 g28 g29 g30 g31 g32 g33 g34 g35 g36 g37 g38 g39 g40 g41 g42 g43 g44 t) 0 0 Q := by
  refine zCl_i (M := kX12_mayBe) rfl (Nat.le_of_ble_eq_true rfl) fun R hR => ?_
  iterate 2 refine hR (?_ : R (_, _, _, _, _, _))
  have lp2 : ∀ (N : Nat) (k : Int), (0 ≤ k ∧ k ≤ 6) → (6 - k < N) → R (2, [some (.ref 14), some (.int (Int32.ofInt a1)), some (.int (Int32.ofInt a2)), some (.int (Int32.ofInt k))], [], (zMi c0 c1 c2 c3 c4 c5 c6 c7 c8 c9 c10 c11 c12 c13 f0 f9 f10 f11 f12 f13 f15 f16 f17 f20 f21 f22 f23 f26 f28 f31 f32 f33 f38 f41 f44 x14 g15 g16 g17 g18 g19 g20 g21 g22 g23 g24 g25 g26 g27 g28 g29 g30 g31 g32 g33 g34 g35 g36 g37 g38 g39 g40 g41 g42 g43 g44 t), 0, 0) := by
    intro N
    induction N with
    | zero => intros; omega
    | succ N ih2 =>
      intro k hf0_2 hN2
      iterate 2 refine hR (?_ : R (_, _, _, _, _, _))
      refine hR (zcall_i 0 0 (Nat.le_of_ble_eq_true rfl) (Nat.le_of_ble_eq_true rfl) (m_facts _ hr0 (by omega) _ fun v1 hp2 hp3 => ?_))
      refine (?_ : R (_, _, (.int (Int32.ofInt v1)) :: (.int (Int32.ofInt k)) :: [], (zMi c0 c1 c2 c3 c4 c5 c6 c7 c8 c9 c10 c11 c12 c13 f0 f9 f10 f11 f12 f13 f15 f16 f17 f20 f21 f22 f23 f26 f28 f31 f32 f33 f38 f41 f44 x14 g15 g16 g17 g18 g19 g20 g21 g22 g23 g24 g25 g26 g27 g28 g29 g30 g31 g32 g33 g34 g35 g36 g37 g38 g39 g40 g41 g42 g43 g44 t), 0, 0))
      refine hR (j_ge (by omega) (by omega) (fun hc4 => ?_) (fun hc4 => ?_))
      · skip
        refine hR (?_ : R (_, _, _, _, _, _))
        exact hR (zret_i rfl (Nat.le_refl _) (zbo (by omega)) (h _ (by omega)))
      iterate 3 refine hR (?_ : R (_, _, _, _, _, _))
      refine hR (zcall_i 0 0 (Nat.le_of_ble_eq_true rfl) (Nat.le_of_ble_eq_true rfl) (m_factOf _ k 0 (by omega) (by omega) (by omega) _ fun v5 => ?_))
      refine (?_ : R (_, _, (.int (Int32.ofInt v5)) :: [], (zMi c0 c1 c2 c3 c4 c5 c6 c7 c8 c9 c10 c11 c12 c13 f0 f9 f10 f11 f12 f13 f15 f16 f17 f20 f21 f22 f23 f26 f28 f31 f32 f33 f38 f41 f44 x14 g15 g16 g17 g18 g19 g20 g21 g22 g23 g24 g25 g26 g27 g28 g29 g30 g31 g32 g33 g34 g35 g36 g37 g38 g39 g40 g41 g42 g43 g44 t), 0, 0))
      refine hR (?_ : R (_, _, _, _, _, _))
      refine hR (j_any ?_ ?_)
      · skip
        refine hR (t_inc ?_)
        refine hR (?_ : R (_, _, _, _, _, _))
        exact ih2 _ (by omega) (by omega)
      iterate 3 refine hR (?_ : R (_, _, _, _, _, _))
      refine hR (zcall_i 0 0 (Nat.le_of_ble_eq_true rfl) (Nat.le_of_ble_eq_true rfl) (m_factOf _ k 1 (by omega) (by omega) (by omega) _ fun v6 => ?_))
      refine (?_ : R (_, _, (.int (Int32.ofInt v6)) :: [], (zMi c0 c1 c2 c3 c4 c5 c6 c7 c8 c9 c10 c11 c12 c13 f0 f9 f10 f11 f12 f13 f15 f16 f17 f20 f21 f22 f23 f26 f28 f31 f32 f33 f38 f41 f44 x14 g15 g16 g17 g18 g19 g20 g21 g22 g23 g24 g25 g26 g27 g28 g29 g30 g31 g32 g33 g34 g35 g36 g37 g38 g39 g40 g41 g42 g43 g44 t), 0, 0))
      refine hR (?_ : R (_, _, _, _, _, _))
      refine hR (j_any ?_ ?_)
      rotate_left
      · skip
        refine hR (?_ : R (_, _, _, _, _, _))
        exact hR (zret_i rfl (Nat.le_refl _) (zbo (by omega)) (h _ (by omega)))
      refine hR (t_inc ?_)
      refine hR (?_ : R (_, _, _, _, _, _))
      exact ih2 _ (by omega) (by omega)
  exact lp2 400000000 _ (by omega) (by omega)
theorem m_findRows (d : Nat) (a1 : Int) (hb30 : zB 0 5460 g30) (hr1 : siOK g22) (hr2 : 0 ≤ f41 ∧ f41 ≤ 1) (hr3 : 0 ≤ f23 ∧ f23 ≤ 5) (hr4 : 0 ≤ f22 ∧ f22 ≤ 5460) (hr5 : 0 ≤ a1 ∧ a1 ≤ 9) (Q : zQ) (h : ∀ (k36 : Nat → Int32) (k37 : Nat → Int32), Q (none) (zMi c0 c1 c2 c3 c4 c5 c6 c7 c8 c9 c10 c11 c12 c13 f0 f9 f10 f11 f12 f13 f15 f16 f17 f20 f21 f22 f23 f26 f28 f31 f32 f33 f38 f41 f44 x14 g15 g16 g17 g18 g19 g20 g21 g22 g23 g24 g25 g26 g27 g28 g29 g30 g31 g32 g33 g34 g35 k36 k37 g38 g39 g40 g41 g42 g43 g44 t)) : zCl zTab (d + 3) iX12_findRows [.ref 14, .int (Int32.ofInt a1)] (zMi c0 c1 c2 c3 c4 c5 c6 c7 c8 c9 c10 c11 c12 c13 f0 f9 f10 f11 f12 f13 f15 f16 f17 f20 f21 f22 f23 f26 f28 f31 f32 f33 f38 f41 f44 x14 g15 g16 g17 g18 g19 g20 g21 g22 g23 g24 g25 g26 g27 g28 g29 g30 g31 g32 g33 g34 g35 g36 g37 g38 g39 g40 g41 g42 g43 g44 t) 0 0 Q := by
  refine zCl_i (M := kX12_findRows) rfl (Nat.le_of_ble_eq_true rfl) fun R hR => ?_
  iterate 2 refine hR (?_ : R (_, _, _, _, _, _))
  have lp2 : ∀ (N : Nat) (k : Int) (o3_2 : Option Value) (q36_2 : Nat → Int32), (zc2 o3_2 = false) → (0 ≤ k ∧ k ≤ a1 + 1) → (a1 + 1 - k < N) → R (2, [some (.ref 14), some (.int (Int32.ofInt a1)), some (.int (Int32.ofInt k)), o3_2, none, none], [], (zMi c0 c1 c2 c3 c4 c5 c6 c7 c8 c9 c10 c11 c12 c13 f0 f9 f10 f11 f12 f13 f15 f16 f17 f20 f21 f22 f23 f26 f28 f31 f32 f33 f38 f41 f44 x14 g15 g16 g17 g18 g19 g20 g21 g22 g23 g24 g25 g26 g27 g28 g29 g30 g31 g32 g33 g34 g35 q36_2 g37 g38 g39 g40 g41 g42 g43 g44 t), 0, 0) := by
    intro N
    induction N with
    | zero => intros; omega
    | succ N ih2 =>
      intro k o3_2 q36_2 hzo3_2 hf0_2 hN2
      iterate 2 refine hR (?_ : R (_, _, _, _, _, _))
      refine hR (j_gt (by omega) (by omega) (fun hc1 => ?_) (fun hc1 => ?_))
      rotate_left
      · skip
        iterate 2 refine hR (?_ : R (_, _, _, _, _, _))
        have lp9 : ∀ (N : Nat) (i : Int) (q36_9 : Nat → Int32), (0 ≤ i ∧ i ≤ 5461) → (5461 - i < N) → R (9, [some (.ref 14), some (.int (Int32.ofInt a1)), some (.int (Int32.ofInt k)), some (.int (Int32.ofInt i)), none, none], [], (zMi c0 c1 c2 c3 c4 c5 c6 c7 c8 c9 c10 c11 c12 c13 f0 f9 f10 f11 f12 f13 f15 f16 f17 f20 f21 f22 f23 f26 f28 f31 f32 f33 f38 f41 f44 x14 g15 g16 g17 g18 g19 g20 g21 g22 g23 g24 g25 g26 g27 g28 g29 g30 g31 g32 g33 g34 g35 q36_9 g37 g38 g39 g40 g41 g42 g43 g44 t), 0, 0) := by
          intro N
          induction N with
          | zero => intros; omega
          | succ N ih9 =>
            intro i q36_9 hf0_9 hN9
            refine hR (?_ : R (_, _, _, _, _, _))
            refine hR (t_c 5461 (by decide) ?_)
            refine hR (j_ge (by omega) (by omega) (fun hc45 => ?_) (fun hc45 => ?_))
            · skip
              refine hR (t_inc ?_)
              refine hR (?_ : R (_, _, _, _, _, _))
              exact ih2 _ _ _ (by rfl) (by omega) (by omega)
            iterate 2 refine hR (?_ : R (_, _, _, _, _, _))
            refine hR (t_c 5461 (by decide) ?_)
            refine hR (?_ : R (_, _, _, _, _, _))
            refine hR (t_mul ?_)
            refine hR (?_ : R (_, _, _, _, _, _))
            refine hR (t_add ?_)
            refine hR (?_ : R (_, _, _, _, _, _))
            refine hR (k_ne (by omega) (fun hc46 => ?_) (fun hc46 => ?_))
            · skip
              refine hR (?_ : R (_, _, _, _, _, _))
              refine hR (t_stx (by omega) (by omega) (Nat.le_of_ble_eq_true rfl) fun k36_47 => (?_ : R (_, _, _, (zMi c0 c1 c2 c3 c4 c5 c6 c7 c8 c9 c10 c11 c12 c13 f0 f9 f10 f11 f12 f13 f15 f16 f17 f20 f21 f22 f23 f26 f28 f31 f32 f33 f38 f41 f44 x14 g15 g16 g17 g18 g19 g20 g21 g22 g23 g24 g25 g26 g27 g28 g29 g30 g31 g32 g33 g34 g35 k36_47 g37 g38 g39 g40 g41 g42 g43 g44 t), _, _)))
              refine hR (t_inc ?_)
              refine hR (?_ : R (_, _, _, _, _, _))
              exact ih9 _ _ (by omega) (by omega)
            iterate 3 refine hR (?_ : R (_, _, _, _, _, _))
            refine hR (j_ne (by omega) (by omega) (fun hc48 => ?_) (fun hc48 => ?_))
            · skip
              refine hR (?_ : R (_, _, _, _, _, _))
              refine hR (t_stx (by omega) (by omega) (Nat.le_of_ble_eq_true rfl) fun k36_49 => (?_ : R (_, _, _, (zMi c0 c1 c2 c3 c4 c5 c6 c7 c8 c9 c10 c11 c12 c13 f0 f9 f10 f11 f12 f13 f15 f16 f17 f20 f21 f22 f23 f26 f28 f31 f32 f33 f38 f41 f44 x14 g15 g16 g17 g18 g19 g20 g21 g22 g23 g24 g25 g26 g27 g28 g29 g30 g31 g32 g33 g34 g35 k36_49 g37 g38 g39 g40 g41 g42 g43 g44 t), _, _)))
              refine hR (t_inc ?_)
              refine hR (?_ : R (_, _, _, _, _, _))
              exact ih9 _ _ (by omega) (by omega)
            iterate 3 refine hR (?_ : R (_, _, _, _, _, _))
            refine hR (zcall_i 0 0 (Nat.le_of_ble_eq_true rfl) (Nat.le_of_ble_eq_true rfl) (m_mayBe _ i 0 hr1 (by omega) _ fun v50 hp51 => ?_))
            refine (?_ : R (_, _, (.int (Int32.ofInt v50)) :: (.int (Int32.ofInt ((5461 * k) + i))) :: (.ref 36) :: [], (zMi c0 c1 c2 c3 c4 c5 c6 c7 c8 c9 c10 c11 c12 c13 f0 f9 f10 f11 f12 f13 f15 f16 f17 f20 f21 f22 f23 f26 f28 f31 f32 f33 f38 f41 f44 x14 g15 g16 g17 g18 g19 g20 g21 g22 g23 g24 g25 g26 g27 g28 g29 g30 g31 g32 g33 g34 g35 q36_9 g37 g38 g39 g40 g41 g42 g43 g44 t), 0, 0))
            refine hR (k_eq (by omega) (fun hc52 => ?_) (fun hc52 => ?_))
            · skip
              refine hR (?_ : R (_, _, _, _, _, _))
              refine hR (t_stx (by omega) (by omega) (Nat.le_of_ble_eq_true rfl) fun k36_53 => (?_ : R (_, _, _, (zMi c0 c1 c2 c3 c4 c5 c6 c7 c8 c9 c10 c11 c12 c13 f0 f9 f10 f11 f12 f13 f15 f16 f17 f20 f21 f22 f23 f26 f28 f31 f32 f33 f38 f41 f44 x14 g15 g16 g17 g18 g19 g20 g21 g22 g23 g24 g25 g26 g27 g28 g29 g30 g31 g32 g33 g34 g35 k36_53 g37 g38 g39 g40 g41 g42 g43 g44 t), _, _)))
              refine hR (t_inc ?_)
              refine hR (?_ : R (_, _, _, _, _, _))
              exact ih9 _ _ (by omega) (by omega)
            iterate 2 refine hR (?_ : R (_, _, _, _, _, _))
            refine hR (t_stx (by omega) (by omega) (Nat.le_of_ble_eq_true rfl) fun k36_54 => (?_ : R (_, _, _, (zMi c0 c1 c2 c3 c4 c5 c6 c7 c8 c9 c10 c11 c12 c13 f0 f9 f10 f11 f12 f13 f15 f16 f17 f20 f21 f22 f23 f26 f28 f31 f32 f33 f38 f41 f44 x14 g15 g16 g17 g18 g19 g20 g21 g22 g23 g24 g25 g26 g27 g28 g29 g30 g31 g32 g33 g34 g35 k36_54 g37 g38 g39 g40 g41 g42 g43 g44 t), _, _)))
            refine hR (t_inc ?_)
            refine hR (?_ : R (_, _, _, _, _, _))
            exact ih9 _ _ (by omega) (by omega)
        exact lp9 400000000 _ _ (by omega) (by omega)
      iterate 2 refine hR (?_ : R (_, _, _, _, _, _))
      have lp68 : ∀ (N : Nat) (k : Int) (o3_68 : Option Value) (o4_68 : Option Value) (q36_68 : Nat → Int32), (zc2 o3_68 = false) → (zc2 o4_68 = false) → (0 ≤ k ∧ k ≤ a1) → (a1 - k < N) → R (68, [some (.ref 14), some (.int (Int32.ofInt a1)), some (.int (Int32.ofInt k)), o3_68, o4_68, none], [], (zMi c0 c1 c2 c3 c4 c5 c6 c7 c8 c9 c10 c11 c12 c13 f0 f9 f10 f11 f12 f13 f15 f16 f17 f20 f21 f22 f23 f26 f28 f31 f32 f33 f38 f41 f44 x14 g15 g16 g17 g18 g19 g20 g21 g22 g23 g24 g25 g26 g27 g28 g29 g30 g31 g32 g33 g34 g35 q36_68 g37 g38 g39 g40 g41 g42 g43 g44 t), 0, 0) := by
        intro N
        induction N with
        | zero => intros; omega
        | succ N ih68 =>
          intro k o3_68 o4_68 q36_68 hzo3_68 hzo4_68 hf0_68 hN68
          iterate 2 refine hR (?_ : R (_, _, _, _, _, _))
          refine hR (j_ge (by omega) (by omega) (fun hc2 => ?_) (fun hc2 => ?_))
          rotate_left
          · skip
            iterate 2 refine hR (?_ : R (_, _, _, _, _, _))
            have lp75 : ∀ (N : Nat) (i : Int) (o4_75 : Option Value) (q36_75 : Nat → Int32), (zc2 o4_75 = false) → (0 ≤ i ∧ i ≤ 27305) → (27305 - i < N) → R (75, [some (.ref 14), some (.int (Int32.ofInt a1)), some (.int (Int32.ofInt k)), some (.int (Int32.ofInt i)), o4_75, none], [], (zMi c0 c1 c2 c3 c4 c5 c6 c7 c8 c9 c10 c11 c12 c13 f0 f9 f10 f11 f12 f13 f15 f16 f17 f20 f21 f22 f23 f26 f28 f31 f32 f33 f38 f41 f44 x14 g15 g16 g17 g18 g19 g20 g21 g22 g23 g24 g25 g26 g27 g28 g29 g30 g31 g32 g33 g34 g35 q36_75 g37 g38 g39 g40 g41 g42 g43 g44 t), 0, 0) := by
              intro N
              induction N with
              | zero => intros; omega
              | succ N ih75 =>
                intro i o4_75 q36_75 hzo4_75 hf0_75 hN75
                refine hR (?_ : R (_, _, _, _, _, _))
                refine hR (t_c 5461 (by decide) ?_)
                iterate 2 refine hR (?_ : R (_, _, _, _, _, _))
                refine hR (t_mul ?_)
                refine hR (j_ge (by omega) (by omega) (fun hc34 => ?_) (fun hc34 => ?_))
                · skip
                  refine hR (t_inc ?_)
                  refine hR (?_ : R (_, _, _, _, _, _))
                  exact ih68 _ _ _ _ (by rfl) hzo4_75 (by omega) (by omega)
                iterate 2 refine hR (?_ : R (_, _, _, _, _, _))
                refine hR (t_c 5461 (by decide) ?_)
                refine hR (?_ : R (_, _, _, _, _, _))
                refine hR (t_mul ?_)
                refine hR (?_ : R (_, _, _, _, _, _))
                refine hR (t_c 5461 (by decide) ?_)
                refine hR (t_rem (by omega) (by omega) (by omega) (by omega) ?_)
                refine hR (t_add ?_)
                refine hR (t_ldo (by omega) (by omega) (Nat.le_of_ble_eq_true rfl) fun v35 rv35 => ?_)
                iterate 3 refine hR (?_ : R (_, _, _, _, _, _))
                refine hR (t_c 5461 (by decide) ?_)
                iterate 2 refine hR (?_ : R (_, _, _, _, _, _))
                refine hR (t_add ?_)
                refine hR (t_mul ?_)
                iterate 3 refine hR (?_ : R (_, _, _, _, _, _))
                refine hR (t_ldB hb30 (by omega) (by omega) (Nat.le_of_ble_eq_true rfl) fun v36 ev36 lv36 uv36 => ?_)
                clear ev36
                refine hR (t_add ?_)
                refine hR (?_ : R (_, _, _, _, _, _))
                refine hR (t_ldo (by omega) (by omega) (Nat.le_of_ble_eq_true rfl) fun v37 rv37 => ?_)
                refine hR (?_ : R (_, _, _, _, _, _))
                refine hR (j_any ?_ ?_)
                · skip
                  refine hR (?_ : R (_, _, _, _, _, _))
                  refine hR (t_add ?_)
                  refine hR (t_stx (by omega) (by omega) (Nat.le_of_ble_eq_true rfl) fun k36_38 => (?_ : R (_, _, _, (zMi c0 c1 c2 c3 c4 c5 c6 c7 c8 c9 c10 c11 c12 c13 f0 f9 f10 f11 f12 f13 f15 f16 f17 f20 f21 f22 f23 f26 f28 f31 f32 f33 f38 f41 f44 x14 g15 g16 g17 g18 g19 g20 g21 g22 g23 g24 g25 g26 g27 g28 g29 g30 g31 g32 g33 g34 g35 k36_38 g37 g38 g39 g40 g41 g42 g43 g44 t), _, _)))
                  refine hR (t_inc ?_)
                  refine hR (?_ : R (_, _, _, _, _, _))
                  exact ih75 _ _ _ (by rfl) (by omega) (by omega)
                iterate 4 refine hR (?_ : R (_, _, _, _, _, _))
                refine hR (t_ldB hb30 (by omega) (by omega) (Nat.le_of_ble_eq_true rfl) fun v39 ev39 lv39 uv39 => ?_)
                clear ev39
                iterate 2 refine hR (?_ : R (_, _, _, _, _, _))
                refine hR (t_add ?_)
                refine hR (zcall_i 0 0 (Nat.le_of_ble_eq_true rfl) (Nat.le_of_ble_eq_true rfl) (m_mayBe _ v39 (k + 1) hr1 (by omega) _ fun v40 hp41 => ?_))
                refine (?_ : R (_, _, (.int (Int32.ofInt v40)) :: (.int (Int32.ofInt v37)) :: (.int (Int32.ofInt ((5461 * (k + 1)) + v36))) :: (.ref 36) :: [], (zMi c0 c1 c2 c3 c4 c5 c6 c7 c8 c9 c10 c11 c12 c13 f0 f9 f10 f11 f12 f13 f15 f16 f17 f20 f21 f22 f23 f26 f28 f31 f32 f33 f38 f41 f44 x14 g15 g16 g17 g18 g19 g20 g21 g22 g23 g24 g25 g26 g27 g28 g29 g30 g31 g32 g33 g34 g35 q36_75 g37 g38 g39 g40 g41 g42 g43 g44 t), 0, 0))
                refine hR (k_eq (by omega) (fun hc42 => ?_) (fun hc42 => ?_))
                · skip
                  refine hR (?_ : R (_, _, _, _, _, _))
                  refine hR (t_add ?_)
                  refine hR (t_stx (by omega) (by omega) (Nat.le_of_ble_eq_true rfl) fun k36_43 => (?_ : R (_, _, _, (zMi c0 c1 c2 c3 c4 c5 c6 c7 c8 c9 c10 c11 c12 c13 f0 f9 f10 f11 f12 f13 f15 f16 f17 f20 f21 f22 f23 f26 f28 f31 f32 f33 f38 f41 f44 x14 g15 g16 g17 g18 g19 g20 g21 g22 g23 g24 g25 g26 g27 g28 g29 g30 g31 g32 g33 g34 g35 k36_43 g37 g38 g39 g40 g41 g42 g43 g44 t), _, _)))
                  refine hR (t_inc ?_)
                  refine hR (?_ : R (_, _, _, _, _, _))
                  exact ih75 _ _ _ (by rfl) (by omega) (by omega)
                iterate 2 refine hR (?_ : R (_, _, _, _, _, _))
                refine hR (t_add ?_)
                refine hR (t_stx (by omega) (by omega) (Nat.le_of_ble_eq_true rfl) fun k36_44 => (?_ : R (_, _, _, (zMi c0 c1 c2 c3 c4 c5 c6 c7 c8 c9 c10 c11 c12 c13 f0 f9 f10 f11 f12 f13 f15 f16 f17 f20 f21 f22 f23 f26 f28 f31 f32 f33 f38 f41 f44 x14 g15 g16 g17 g18 g19 g20 g21 g22 g23 g24 g25 g26 g27 g28 g29 g30 g31 g32 g33 g34 g35 k36_44 g37 g38 g39 g40 g41 g42 g43 g44 t), _, _)))
                refine hR (t_inc ?_)
                refine hR (?_ : R (_, _, _, _, _, _))
                exact ih75 _ _ _ (by rfl) (by omega) (by omega)
            exact lp75 400000000 _ _ _ hzo4_68 (by omega) (by omega)
          iterate 2 refine hR (?_ : R (_, _, _, _, _, _))
          have lp168 : ∀ (N : Nat) (k : Int) (o3_168 : Option Value) (o4_168 : Option Value) (o5_168 : Option Value) (q37_168 : Nat → Int32), (zc2 o3_168 = false) → (zc2 o4_168 = false) → (zc2 o5_168 = false) → (-1 ≤ k ∧ k ≤ a1) → (k + 1 < N) → R (168, [some (.ref 14), some (.int (Int32.ofInt a1)), some (.int (Int32.ofInt k)), o3_168, o4_168, o5_168], [], (zMi c0 c1 c2 c3 c4 c5 c6 c7 c8 c9 c10 c11 c12 c13 f0 f9 f10 f11 f12 f13 f15 f16 f17 f20 f21 f22 f23 f26 f28 f31 f32 f33 f38 f41 f44 x14 g15 g16 g17 g18 g19 g20 g21 g22 g23 g24 g25 g26 g27 g28 g29 g30 g31 g32 g33 g34 g35 q36_68 q37_168 g38 g39 g40 g41 g42 g43 g44 t), 0, 0) := by
            intro N
            induction N with
            | zero => intros; omega
            | succ N ih168 =>
              intro k o3_168 o4_168 o5_168 q37_168 hzo3_168 hzo4_168 hzo5_168 hf0_168 hN168
              refine hR (?_ : R (_, _, _, _, _, _))
              refine hR (k_lt (by omega) (fun hc3 => ?_) (fun hc3 => ?_))
              · skip
                exact hR (zret_i rfl (Nat.le_refl _) rfl (h _ _))
              iterate 2 refine hR (?_ : R (_, _, _, _, _, _))
              have lp174 : ∀ (N : Nat) (i : Int) (o4_174 : Option Value) (o5_174 : Option Value) (q37_174 : Nat → Int32), (zc2 o4_174 = false) → (zc2 o5_174 = false) → (0 ≤ i ∧ i ≤ 5461) → (5461 - i < N) → R (174, [some (.ref 14), some (.int (Int32.ofInt a1)), some (.int (Int32.ofInt k)), some (.int (Int32.ofInt i)), o4_174, o5_174], [], (zMi c0 c1 c2 c3 c4 c5 c6 c7 c8 c9 c10 c11 c12 c13 f0 f9 f10 f11 f12 f13 f15 f16 f17 f20 f21 f22 f23 f26 f28 f31 f32 f33 f38 f41 f44 x14 g15 g16 g17 g18 g19 g20 g21 g22 g23 g24 g25 g26 g27 g28 g29 g30 g31 g32 g33 g34 g35 q36_68 q37_174 g38 g39 g40 g41 g42 g43 g44 t), 0, 0) := by
                intro N
                induction N with
                | zero => intros; omega
                | succ N ih174 =>
                  intro i o4_174 o5_174 q37_174 hzo4_174 hzo5_174 hf0_174 hN174
                  refine hR (?_ : R (_, _, _, _, _, _))
                  refine hR (t_c 5461 (by decide) ?_)
                  refine hR (j_ge (by omega) (by omega) (fun hc4 => ?_) (fun hc4 => ?_))
                  · skip
                    refine hR (t_inc ?_)
                    refine hR (?_ : R (_, _, _, _, _, _))
                    exact ih168 _ _ _ _ _ (by rfl) hzo4_174 hzo5_174 (by omega) (by omega)
                  iterate 2 refine hR (?_ : R (_, _, _, _, _, _))
                  refine hR (j_ne (by omega) (by omega) (fun hc5 => ?_) (fun hc5 => ?_))
                  · skip
                    iterate 4 refine hR (?_ : R (_, _, _, _, _, _))
                    have lp196 : ∀ (N : Nat) (su : Int) (r : Int), (0 ≤ r ∧ r ≤ f23) → (f23 - r < N) → R (196, [some (.ref 14), some (.int (Int32.ofInt a1)), some (.int (Int32.ofInt k)), some (.int (Int32.ofInt i)), some (.int (Int32.ofInt su)), some (.int (Int32.ofInt r))], [], (zMi c0 c1 c2 c3 c4 c5 c6 c7 c8 c9 c10 c11 c12 c13 f0 f9 f10 f11 f12 f13 f15 f16 f17 f20 f21 f22 f23 f26 f28 f31 f32 f33 f38 f41 f44 x14 g15 g16 g17 g18 g19 g20 g21 g22 g23 g24 g25 g26 g27 g28 g29 g30 g31 g32 g33 g34 g35 q36_68 q37_174 g38 g39 g40 g41 g42 g43 g44 t), 0, 0) := by
                      intro N
                      induction N with
                      | zero => intros; omega
                      | succ N ih196 =>
                        intro su r hf0_196 hN196
                        iterate 3 refine hR (?_ : R (_, _, _, _, _, _))
                        refine hR (j_ge (by omega) (by omega) (fun hc6 => ?_) (fun hc6 => ?_))
                        · skip
                          iterate 2 refine hR (?_ : R (_, _, _, _, _, _))
                          refine hR (t_c 5461 (by decide) ?_)
                          refine hR (?_ : R (_, _, _, _, _, _))
                          refine hR (t_mul ?_)
                          refine hR (?_ : R (_, _, _, _, _, _))
                          refine hR (t_add ?_)
                          iterate 3 refine hR (?_ : R (_, _, _, _, _, _))
                          refine hR (zcall_i 0 0 (Nat.le_of_ble_eq_true rfl) (Nat.le_of_ble_eq_true rfl) (m_mayBe _ i k hr1 (by omega) _ fun v7 hp8 => ?_))
                          refine (?_ : R (_, _, (.int (Int32.ofInt v7)) :: (.int (Int32.ofInt ((5461 * k) + i))) :: (.ref 37) :: [], (zMi c0 c1 c2 c3 c4 c5 c6 c7 c8 c9 c10 c11 c12 c13 f0 f9 f10 f11 f12 f13 f15 f16 f17 f20 f21 f22 f23 f26 f28 f31 f32 f33 f38 f41 f44 x14 g15 g16 g17 g18 g19 g20 g21 g22 g23 g24 g25 g26 g27 g28 g29 g30 g31 g32 g33 g34 g35 q36_68 q37_174 g38 g39 g40 g41 g42 g43 g44 t), 0, 0))
                          refine hR (k_eq (by omega) (fun hc9 => ?_) (fun hc9 => ?_))
                          · skip
                            refine hR (?_ : R (_, _, _, _, _, _))
                            refine hR (t_stx (by omega) (by omega) (Nat.le_of_ble_eq_true rfl) fun k37_10 => (?_ : R (_, _, _, (zMi c0 c1 c2 c3 c4 c5 c6 c7 c8 c9 c10 c11 c12 c13 f0 f9 f10 f11 f12 f13 f15 f16 f17 f20 f21 f22 f23 f26 f28 f31 f32 f33 f38 f41 f44 x14 g15 g16 g17 g18 g19 g20 g21 g22 g23 g24 g25 g26 g27 g28 g29 g30 g31 g32 g33 g34 g35 q36_68 k37_10 g38 g39 g40 g41 g42 g43 g44 t), _, _)))
                            refine hR (t_inc ?_)
                            refine hR (?_ : R (_, _, _, _, _, _))
                            exact ih174 _ _ _ _ (by rfl) (by rfl) (by omega) (by omega)
                          iterate 2 refine hR (?_ : R (_, _, _, _, _, _))
                          refine hR (t_stx (by omega) (by omega) (Nat.le_of_ble_eq_true rfl) fun k37_11 => (?_ : R (_, _, _, (zMi c0 c1 c2 c3 c4 c5 c6 c7 c8 c9 c10 c11 c12 c13 f0 f9 f10 f11 f12 f13 f15 f16 f17 f20 f21 f22 f23 f26 f28 f31 f32 f33 f38 f41 f44 x14 g15 g16 g17 g18 g19 g20 g21 g22 g23 g24 g25 g26 g27 g28 g29 g30 g31 g32 g33 g34 g35 q36_68 k37_11 g38 g39 g40 g41 g42 g43 g44 t), _, _)))
                          refine hR (t_inc ?_)
                          refine hR (?_ : R (_, _, _, _, _, _))
                          exact ih174 _ _ _ _ (by rfl) (by rfl) (by omega) (by omega)
                        iterate 2 refine hR (?_ : R (_, _, _, _, _, _))
                        refine hR (j_ge (by omega) (by omega) (fun hc12 => ?_) (fun hc12 => ?_))
                        rotate_left
                        · skip
                          iterate 3 refine hR (?_ : R (_, _, _, _, _, _))
                          refine hR (t_c 5461 (by decide) ?_)
                          iterate 2 refine hR (?_ : R (_, _, _, _, _, _))
                          refine hR (t_add ?_)
                          refine hR (t_mul ?_)
                          iterate 2 refine hR (?_ : R (_, _, _, _, _, _))
                          refine hR (t_c 5461 (by decide) ?_)
                          refine hR (?_ : R (_, _, _, _, _, _))
                          refine hR (t_mul ?_)
                          refine hR (?_ : R (_, _, _, _, _, _))
                          refine hR (t_add ?_)
                          refine hR (t_ldB hb30 (by omega) (by omega) (Nat.le_of_ble_eq_true rfl) fun v18 ev18 lv18 uv18 => ?_)
                          clear ev18
                          refine hR (t_add ?_)
                          refine hR (t_ldo (by omega) (by omega) (Nat.le_of_ble_eq_true rfl) fun v19 rv19 => ?_)
                          refine hR (t_add ?_)
                          refine hR (?_ : R (_, _, _, _, _, _))
                          refine hR (t_inc ?_)
                          refine hR (?_ : R (_, _, _, _, _, _))
                          exact ih196 _ _ (by omega) (by omega)
                        iterate 2 refine hR (?_ : R (_, _, _, _, _, _))
                        refine hR (t_c 5461 (by decide) ?_)
                        refine hR (?_ : R (_, _, _, _, _, _))
                        refine hR (t_mul ?_)
                        refine hR (?_ : R (_, _, _, _, _, _))
                        refine hR (t_add ?_)
                        iterate 3 refine hR (?_ : R (_, _, _, _, _, _))
                        refine hR (zcall_i 0 0 (Nat.le_of_ble_eq_true rfl) (Nat.le_of_ble_eq_true rfl) (m_mayBe _ i k hr1 (by omega) _ fun v13 hp14 => ?_))
                        refine (?_ : R (_, _, (.int (Int32.ofInt v13)) :: (.int (Int32.ofInt ((5461 * k) + i))) :: (.ref 37) :: [], (zMi c0 c1 c2 c3 c4 c5 c6 c7 c8 c9 c10 c11 c12 c13 f0 f9 f10 f11 f12 f13 f15 f16 f17 f20 f21 f22 f23 f26 f28 f31 f32 f33 f38 f41 f44 x14 g15 g16 g17 g18 g19 g20 g21 g22 g23 g24 g25 g26 g27 g28 g29 g30 g31 g32 g33 g34 g35 q36_68 q37_174 g38 g39 g40 g41 g42 g43 g44 t), 0, 0))
                        refine hR (k_eq (by omega) (fun hc15 => ?_) (fun hc15 => ?_))
                        · skip
                          refine hR (?_ : R (_, _, _, _, _, _))
                          refine hR (t_stx (by omega) (by omega) (Nat.le_of_ble_eq_true rfl) fun k37_16 => (?_ : R (_, _, _, (zMi c0 c1 c2 c3 c4 c5 c6 c7 c8 c9 c10 c11 c12 c13 f0 f9 f10 f11 f12 f13 f15 f16 f17 f20 f21 f22 f23 f26 f28 f31 f32 f33 f38 f41 f44 x14 g15 g16 g17 g18 g19 g20 g21 g22 g23 g24 g25 g26 g27 g28 g29 g30 g31 g32 g33 g34 g35 q36_68 k37_16 g38 g39 g40 g41 g42 g43 g44 t), _, _)))
                          refine hR (t_inc ?_)
                          refine hR (?_ : R (_, _, _, _, _, _))
                          exact ih174 _ _ _ _ (by rfl) (by rfl) (by omega) (by omega)
                        iterate 2 refine hR (?_ : R (_, _, _, _, _, _))
                        refine hR (t_stx (by omega) (by omega) (Nat.le_of_ble_eq_true rfl) fun k37_17 => (?_ : R (_, _, _, (zMi c0 c1 c2 c3 c4 c5 c6 c7 c8 c9 c10 c11 c12 c13 f0 f9 f10 f11 f12 f13 f15 f16 f17 f20 f21 f22 f23 f26 f28 f31 f32 f33 f38 f41 f44 x14 g15 g16 g17 g18 g19 g20 g21 g22 g23 g24 g25 g26 g27 g28 g29 g30 g31 g32 g33 g34 g35 q36_68 k37_17 g38 g39 g40 g41 g42 g43 g44 t), _, _)))
                        refine hR (t_inc ?_)
                        refine hR (?_ : R (_, _, _, _, _, _))
                        exact ih174 _ _ _ _ (by rfl) (by rfl) (by omega) (by omega)
                    exact lp196 400000000 _ _ (by omega) (by omega)
                  iterate 5 refine hR (?_ : R (_, _, _, _, _, _))
                  have lp196 : ∀ (N : Nat) (su : Int) (r : Int), (0 ≤ r ∧ r ≤ f23) → (f23 - r < N) → R (196, [some (.ref 14), some (.int (Int32.ofInt a1)), some (.int (Int32.ofInt k)), some (.int (Int32.ofInt i)), some (.int (Int32.ofInt su)), some (.int (Int32.ofInt r))], [], (zMi c0 c1 c2 c3 c4 c5 c6 c7 c8 c9 c10 c11 c12 c13 f0 f9 f10 f11 f12 f13 f15 f16 f17 f20 f21 f22 f23 f26 f28 f31 f32 f33 f38 f41 f44 x14 g15 g16 g17 g18 g19 g20 g21 g22 g23 g24 g25 g26 g27 g28 g29 g30 g31 g32 g33 g34 g35 q36_68 q37_174 g38 g39 g40 g41 g42 g43 g44 t), 0, 0) := by
                    intro N
                    induction N with
                    | zero => intros; omega
                    | succ N ih196 =>
                      intro su r hf0_196 hN196
                      iterate 3 refine hR (?_ : R (_, _, _, _, _, _))
                      refine hR (j_ge (by omega) (by omega) (fun hc20 => ?_) (fun hc20 => ?_))
                      · skip
                        iterate 2 refine hR (?_ : R (_, _, _, _, _, _))
                        refine hR (t_c 5461 (by decide) ?_)
                        refine hR (?_ : R (_, _, _, _, _, _))
                        refine hR (t_mul ?_)
                        refine hR (?_ : R (_, _, _, _, _, _))
                        refine hR (t_add ?_)
                        iterate 3 refine hR (?_ : R (_, _, _, _, _, _))
                        refine hR (zcall_i 0 0 (Nat.le_of_ble_eq_true rfl) (Nat.le_of_ble_eq_true rfl) (m_mayBe _ i k hr1 (by omega) _ fun v21 hp22 => ?_))
                        refine (?_ : R (_, _, (.int (Int32.ofInt v21)) :: (.int (Int32.ofInt ((5461 * k) + i))) :: (.ref 37) :: [], (zMi c0 c1 c2 c3 c4 c5 c6 c7 c8 c9 c10 c11 c12 c13 f0 f9 f10 f11 f12 f13 f15 f16 f17 f20 f21 f22 f23 f26 f28 f31 f32 f33 f38 f41 f44 x14 g15 g16 g17 g18 g19 g20 g21 g22 g23 g24 g25 g26 g27 g28 g29 g30 g31 g32 g33 g34 g35 q36_68 q37_174 g38 g39 g40 g41 g42 g43 g44 t), 0, 0))
                        refine hR (k_eq (by omega) (fun hc23 => ?_) (fun hc23 => ?_))
                        · skip
                          refine hR (?_ : R (_, _, _, _, _, _))
                          refine hR (t_stx (by omega) (by omega) (Nat.le_of_ble_eq_true rfl) fun k37_24 => (?_ : R (_, _, _, (zMi c0 c1 c2 c3 c4 c5 c6 c7 c8 c9 c10 c11 c12 c13 f0 f9 f10 f11 f12 f13 f15 f16 f17 f20 f21 f22 f23 f26 f28 f31 f32 f33 f38 f41 f44 x14 g15 g16 g17 g18 g19 g20 g21 g22 g23 g24 g25 g26 g27 g28 g29 g30 g31 g32 g33 g34 g35 q36_68 k37_24 g38 g39 g40 g41 g42 g43 g44 t), _, _)))
                          refine hR (t_inc ?_)
                          refine hR (?_ : R (_, _, _, _, _, _))
                          exact ih174 _ _ _ _ (by rfl) (by rfl) (by omega) (by omega)
                        iterate 2 refine hR (?_ : R (_, _, _, _, _, _))
                        refine hR (t_stx (by omega) (by omega) (Nat.le_of_ble_eq_true rfl) fun k37_25 => (?_ : R (_, _, _, (zMi c0 c1 c2 c3 c4 c5 c6 c7 c8 c9 c10 c11 c12 c13 f0 f9 f10 f11 f12 f13 f15 f16 f17 f20 f21 f22 f23 f26 f28 f31 f32 f33 f38 f41 f44 x14 g15 g16 g17 g18 g19 g20 g21 g22 g23 g24 g25 g26 g27 g28 g29 g30 g31 g32 g33 g34 g35 q36_68 k37_25 g38 g39 g40 g41 g42 g43 g44 t), _, _)))
                        refine hR (t_inc ?_)
                        refine hR (?_ : R (_, _, _, _, _, _))
                        exact ih174 _ _ _ _ (by rfl) (by rfl) (by omega) (by omega)
                      iterate 2 refine hR (?_ : R (_, _, _, _, _, _))
                      refine hR (j_ge (by omega) (by omega) (fun hc26 => ?_) (fun hc26 => ?_))
                      rotate_left
                      · skip
                        iterate 3 refine hR (?_ : R (_, _, _, _, _, _))
                        refine hR (t_c 5461 (by decide) ?_)
                        iterate 2 refine hR (?_ : R (_, _, _, _, _, _))
                        refine hR (t_add ?_)
                        refine hR (t_mul ?_)
                        iterate 2 refine hR (?_ : R (_, _, _, _, _, _))
                        refine hR (t_c 5461 (by decide) ?_)
                        refine hR (?_ : R (_, _, _, _, _, _))
                        refine hR (t_mul ?_)
                        refine hR (?_ : R (_, _, _, _, _, _))
                        refine hR (t_add ?_)
                        refine hR (t_ldB hb30 (by omega) (by omega) (Nat.le_of_ble_eq_true rfl) fun v32 ev32 lv32 uv32 => ?_)
                        clear ev32
                        refine hR (t_add ?_)
                        refine hR (t_ldo (by omega) (by omega) (Nat.le_of_ble_eq_true rfl) fun v33 rv33 => ?_)
                        refine hR (t_add ?_)
                        refine hR (?_ : R (_, _, _, _, _, _))
                        refine hR (t_inc ?_)
                        refine hR (?_ : R (_, _, _, _, _, _))
                        exact ih196 _ _ (by omega) (by omega)
                      iterate 2 refine hR (?_ : R (_, _, _, _, _, _))
                      refine hR (t_c 5461 (by decide) ?_)
                      refine hR (?_ : R (_, _, _, _, _, _))
                      refine hR (t_mul ?_)
                      refine hR (?_ : R (_, _, _, _, _, _))
                      refine hR (t_add ?_)
                      iterate 3 refine hR (?_ : R (_, _, _, _, _, _))
                      refine hR (zcall_i 0 0 (Nat.le_of_ble_eq_true rfl) (Nat.le_of_ble_eq_true rfl) (m_mayBe _ i k hr1 (by omega) _ fun v27 hp28 => ?_))
                      refine (?_ : R (_, _, (.int (Int32.ofInt v27)) :: (.int (Int32.ofInt ((5461 * k) + i))) :: (.ref 37) :: [], (zMi c0 c1 c2 c3 c4 c5 c6 c7 c8 c9 c10 c11 c12 c13 f0 f9 f10 f11 f12 f13 f15 f16 f17 f20 f21 f22 f23 f26 f28 f31 f32 f33 f38 f41 f44 x14 g15 g16 g17 g18 g19 g20 g21 g22 g23 g24 g25 g26 g27 g28 g29 g30 g31 g32 g33 g34 g35 q36_68 q37_174 g38 g39 g40 g41 g42 g43 g44 t), 0, 0))
                      refine hR (k_eq (by omega) (fun hc29 => ?_) (fun hc29 => ?_))
                      · skip
                        refine hR (?_ : R (_, _, _, _, _, _))
                        refine hR (t_stx (by omega) (by omega) (Nat.le_of_ble_eq_true rfl) fun k37_30 => (?_ : R (_, _, _, (zMi c0 c1 c2 c3 c4 c5 c6 c7 c8 c9 c10 c11 c12 c13 f0 f9 f10 f11 f12 f13 f15 f16 f17 f20 f21 f22 f23 f26 f28 f31 f32 f33 f38 f41 f44 x14 g15 g16 g17 g18 g19 g20 g21 g22 g23 g24 g25 g26 g27 g28 g29 g30 g31 g32 g33 g34 g35 q36_68 k37_30 g38 g39 g40 g41 g42 g43 g44 t), _, _)))
                        refine hR (t_inc ?_)
                        refine hR (?_ : R (_, _, _, _, _, _))
                        exact ih174 _ _ _ _ (by rfl) (by rfl) (by omega) (by omega)
                      iterate 2 refine hR (?_ : R (_, _, _, _, _, _))
                      refine hR (t_stx (by omega) (by omega) (Nat.le_of_ble_eq_true rfl) fun k37_31 => (?_ : R (_, _, _, (zMi c0 c1 c2 c3 c4 c5 c6 c7 c8 c9 c10 c11 c12 c13 f0 f9 f10 f11 f12 f13 f15 f16 f17 f20 f21 f22 f23 f26 f28 f31 f32 f33 f38 f41 f44 x14 g15 g16 g17 g18 g19 g20 g21 g22 g23 g24 g25 g26 g27 g28 g29 g30 g31 g32 g33 g34 g35 q36_68 k37_31 g38 g39 g40 g41 g42 g43 g44 t), _, _)))
                      refine hR (t_inc ?_)
                      refine hR (?_ : R (_, _, _, _, _, _))
                      exact ih174 _ _ _ _ (by rfl) (by rfl) (by omega) (by omega)
                  exact lp196 400000000 _ _ (by omega) (by omega)
              exact lp174 400000000 _ _ _ _ hzo4_168 hzo5_168 (by omega) (by omega)
          exact lp168 400000000 _ _ _ _ _ hzo3_68 hzo4_68 (by rfl) (by omega) (by omega)
      exact lp68 400000000 _ _ _ _ hzo3_2 (by rfl) (by omega) (by omega)
  exact lp2 400000000 _ _ _ (by rfl) (by omega) (by omega)
theorem m_allRows (d : Nat) (hr0 : 0 ≤ f22 ∧ f22 ≤ 5460) (Q : zQ) (h : ∀ (v : Int), Q (some (.int (Int32.ofInt v))) (zMi c0 c1 c2 c3 c4 c5 c6 c7 c8 c9 c10 c11 c12 c13 f0 f9 f10 f11 f12 f13 f15 f16 f17 f20 f21 f22 f23 f26 f28 f31 f32 f33 f38 f41 f44 x14 g15 g16 g17 g18 g19 g20 g21 g22 g23 g24 g25 g26 g27 g28 g29 g30 g31 g32 g33 g34 g35 g36 g37 g38 g39 g40 g41 g42 g43 g44 t)) : zCl zTab (d + 1) iX12_allRows [.ref 14] (zMi c0 c1 c2 c3 c4 c5 c6 c7 c8 c9 c10 c11 c12 c13 f0 f9 f10 f11 f12 f13 f15 f16 f17 f20 f21 f22 f23 f26 f28 f31 f32 f33 f38 f41 f44 x14 g15 g16 g17 g18 g19 g20 g21 g22 g23 g24 g25 g26 g27 g28 g29 g30 g31 g32 g33 g34 g35 g36 g37 g38 g39 g40 g41 g42 g43 g44 t) 0 0 Q := by
  refine zCl_i (M := kX12_allRows) rfl (Nat.le_of_ble_eq_true rfl) fun R hR => ?_
  iterate 4 refine hR (?_ : R (_, _, _, _, _, _))
  refine hR (t_ldo (by omega) (by omega) (Nat.le_of_ble_eq_true rfl) fun v1 rv1 => ?_)
  exact hR (zret_i rfl (Nat.le_refl _) trivial (h _))
theorem m_fits (d : Nat) (a1 a2 a3 a4 : Int) (hb19 : zB 0 2 g19) (hb25 : zB 0 3 g25) (hb30 : zB 0 5460 g30) (hr3 : bkOK g20) (hr4 : siOK g22) (hr5 : -2147483648 ≤ a1 ∧ a1 ≤ 2147483647) (hr6 : -2147483648 ≤ a2 ∧ a2 ≤ 2147483647) (hr7 : -2147483648 ≤ a3 ∧ a3 ≤ 2147483647) (hr8 : -2147483648 ≤ a4 ∧ a4 ≤ 2147483647) (Q : zQ) (h : ∀ (v : Int) (y0 : Int) (y20 : Int) (y21 : Int) (y22 : Int) (y23 : Int) (y26 : Int) (y41 : Int) (k25 : Nat → Int32) (k30 : Nat → Int32) (k36 : Nat → Int32) (k37 : Nat → Int32), zB 0 3 k25 → zB 0 5460 k30 → Q (some (.int (Int32.ofInt v))) (zMi c0 c1 c2 c3 c4 c5 c6 c7 c8 c9 c10 c11 c12 c13 y0 f9 f10 f11 f12 f13 f15 f16 f17 y20 y21 y22 y23 y26 f28 f31 f32 f33 f38 y41 f44 x14 g15 g16 g17 g18 g19 g20 g21 g22 g23 g24 k25 g26 g27 g28 g29 k30 g31 g32 g33 g34 g35 k36 k37 g38 g39 g40 g41 g42 g43 g44 t)) : zCl zTab (d + 7) iX12_fits [.ref 14, .int (Int32.ofInt a1), .int (Int32.ofInt a2), .int (Int32.ofInt a3), .int (Int32.ofInt a4)] (zMi c0 c1 c2 c3 c4 c5 c6 c7 c8 c9 c10 c11 c12 c13 f0 f9 f10 f11 f12 f13 f15 f16 f17 f20 f21 f22 f23 f26 f28 f31 f32 f33 f38 f41 f44 x14 g15 g16 g17 g18 g19 g20 g21 g22 g23 g24 g25 g26 g27 g28 g29 g30 g31 g32 g33 g34 g35 g36 g37 g38 g39 g40 g41 g42 g43 g44 t) 0 0 Q := by
  refine zCl_i (M := kX12_fits) rfl (Nat.le_of_ble_eq_true rfl) fun R hR => ?_
  iterate 2 refine hR (?_ : R (_, _, _, _, _, _))
  refine hR (?_ : R (_, _, _, (zMi c0 c1 c2 c3 c4 c5 c6 c7 c8 c9 c10 c11 c12 c13 0 f9 f10 f11 f12 f13 f15 f16 f17 f20 f21 f22 f23 f26 f28 f31 f32 f33 f38 f41 f44 x14 g15 g16 g17 g18 g19 g20 g21 g22 g23 g24 g25 g26 g27 g28 g29 g30 g31 g32 g33 g34 g35 g36 g37 g38 g39 g40 g41 g42 g43 g44 t), _, _))
  iterate 2 refine hR (?_ : R (_, _, _, _, _, _))
  refine hR (t_c 9 (by decide) ?_)
  refine hR (zcall_i 0 0 (Nat.le_of_ble_eq_true rfl) (Nat.le_of_ble_eq_true rfl) (m_in _ a3 0 9 _ (by omega) (by omega) (by omega) _ fun v1 hp2 => ?_))
  refine (?_ : R (_, _, (.int (Int32.ofInt v1)) :: [], (zMi c0 c1 c2 c3 c4 c5 c6 c7 c8 c9 c10 c11 c12 c13 0 f9 f10 f11 f12 f13 f15 f16 f17 f20 f21 f22 f23 f26 f28 f31 f32 f33 f38 f41 f44 x14 g15 g16 g17 g18 g19 g20 g21 g22 g23 g24 g25 g26 g27 g28 g29 g30 g31 g32 g33 g34 g35 g36 g37 g38 g39 g40 g41 g42 g43 g44 t), 0, 0))
  refine hR (k_eq (by omega) (fun hc3 => ?_) (fun hc3 => ?_))
  · skip
    refine hR (?_ : R (_, _, _, _, _, _))
    exact hR (zret_i rfl (Nat.le_refl _) trivial (h _ _ _ _ _ _ _ _ _ _ _ _ hb25 hb30))
  iterate 2 refine hR (?_ : R (_, _, _, _, _, _))
  refine hR (j_eq (by omega) (by omega) (fun hc4 => ?_) (fun hc4 => ?_))
  · skip
    iterate 2 refine hR (?_ : R (_, _, _, _, _, _))
    refine hR (zcall_i 0 0 (Nat.le_of_ble_eq_true rfl) (Nat.le_of_ble_eq_true rfl) (m_hasSight _ a2 hb19 (by omega) _ fun v5 y41_6 hp7 hp8 => ?_))
    refine (?_ : R (_, _, (.int (Int32.ofInt v5)) :: [], (zMi c0 c1 c2 c3 c4 c5 c6 c7 c8 c9 c10 c11 c12 c13 0 f9 f10 f11 f12 f13 f15 f16 f17 f20 f21 f22 f23 f26 f28 f31 f32 f33 f38 y41_6 f44 x14 g15 g16 g17 g18 g19 g20 g21 g22 g23 g24 g25 g26 g27 g28 g29 g30 g31 g32 g33 g34 g35 g36 g37 g38 g39 g40 g41 g42 g43 g44 t), 0, 0))
    refine hR (k_eq (by omega) (fun hc9 => ?_) (fun hc9 => ?_))
    · skip
      refine hR (?_ : R (_, _, _, _, _, _))
      exact hR (zret_i rfl (Nat.le_refl _) trivial (h _ _ _ _ _ _ _ _ _ _ _ _ hb25 hb30))
    iterate 2 refine hR (?_ : R (_, _, _, _, _, _))
    refine hR (zcall_i 0 0 (Nat.le_of_ble_eq_true rfl) (Nat.le_of_ble_eq_true rfl) (m_handAll _ a1 hb19 hb25 hb30 hr3 (by omega) _ fun v10 y20_11 y21_12 y22_13 y23_14 y26_15 k25_16 k30_17 hp18 hp19 hp20 => ?_))
    refine (?_ : R (_, _, (.int (Int32.ofInt v10)) :: [], (zMi c0 c1 c2 c3 c4 c5 c6 c7 c8 c9 c10 c11 c12 c13 0 f9 f10 f11 f12 f13 f15 f16 f17 y20_11 y21_12 y22_13 y23_14 y26_15 f28 f31 f32 f33 f38 y41_6 f44 x14 g15 g16 g17 g18 g19 g20 g21 g22 g23 g24 k25_16 g26 g27 g28 g29 k30_17 g31 g32 g33 g34 g35 g36 g37 g38 g39 g40 g41 g42 g43 g44 t), 0, 0))
    refine hR (k_ne (by omega) (fun hc21 => ?_) (fun hc21 => ?_))
    rotate_left
    · skip
      refine hR (?_ : R (_, _, _, _, _, _))
      exact hR (zret_i rfl (Nat.le_refl _) trivial (h _ _ _ _ _ _ _ _ _ _ _ _ hp18 hp19))
    iterate 2 refine hR (?_ : R (_, _, _, _, _, _))
    refine hR (zcall_i 0 0 (Nat.le_of_ble_eq_true rfl) (Nat.le_of_ble_eq_true rfl) (m_findRows _ a3 hp19 hr4 (by omega) (by omega) (by omega) (by omega) _ fun k36_22 k37_23 => ?_))
    refine (?_ : R (_, _, [], (zMi c0 c1 c2 c3 c4 c5 c6 c7 c8 c9 c10 c11 c12 c13 0 f9 f10 f11 f12 f13 f15 f16 f17 y20_11 y21_12 y22_13 y23_14 y26_15 f28 f31 f32 f33 f38 y41_6 f44 x14 g15 g16 g17 g18 g19 g20 g21 g22 g23 g24 k25_16 g26 g27 g28 g29 k30_17 g31 g32 g33 g34 g35 k36_22 k37_23 g38 g39 g40 g41 g42 g43 g44 t), 0, 0))
    iterate 2 refine hR (?_ : R (_, _, _, _, _, _))
    refine hR (j_ne (by omega) (by omega) (fun hc24 => ?_) (fun hc24 => ?_))
    rotate_left
    · skip
      refine hR (?_ : R (_, _, _, _, _, _))
      refine hR (zcall_i 0 0 (Nat.le_of_ble_eq_true rfl) (Nat.le_of_ble_eq_true rfl) (m_allRows _ (by omega) _ fun v26 => ?_))
      refine (?_ : R (_, _, (.int (Int32.ofInt v26)) :: [], (zMi c0 c1 c2 c3 c4 c5 c6 c7 c8 c9 c10 c11 c12 c13 0 f9 f10 f11 f12 f13 f15 f16 f17 y20_11 y21_12 y22_13 y23_14 y26_15 f28 f31 f32 f33 f38 y41_6 f44 x14 g15 g16 g17 g18 g19 g20 g21 g22 g23 g24 k25_16 g26 g27 g28 g29 k30_17 g31 g32 g33 g34 g35 k36_22 k37_23 g38 g39 g40 g41 g42 g43 g44 t), 0, 0))
      refine hR (?_ : R (_, _, _, _, _, _))
      exact hR (zret_i rfl (Nat.le_refl _) trivial (h _ _ _ _ _ _ _ _ _ _ _ _ hp18 hp19))
    iterate 2 refine hR (?_ : R (_, _, _, _, _, _))
    refine hR (t_c 5461 (by decide) ?_)
    refine hR (?_ : R (_, _, _, _, _, _))
    refine hR (t_mul ?_)
    refine hR (?_ : R (_, _, _, _, _, _))
    refine hR (t_add ?_)
    refine hR (t_ldo (by omega) (by omega) (Nat.le_of_ble_eq_true rfl) fun v25 rv25 => ?_)
    exact hR (zret_i rfl (Nat.le_refl _) trivial (h _ _ _ _ _ _ _ _ _ _ _ _ hp18 hp19))
  refine hR (?_ : R (_, _, _, _, _, _))
  refine hR (zcall_i 0 0 (Nat.le_of_ble_eq_true rfl) (Nat.le_of_ble_eq_true rfl) (m_isText _ a4 _ (by omega) _ fun v27 hp28 => ?_))
  refine (?_ : R (_, _, (.int (Int32.ofInt v27)) :: [], (zMi c0 c1 c2 c3 c4 c5 c6 c7 c8 c9 c10 c11 c12 c13 0 f9 f10 f11 f12 f13 f15 f16 f17 f20 f21 f22 f23 f26 f28 f31 f32 f33 f38 f41 f44 x14 g15 g16 g17 g18 g19 g20 g21 g22 g23 g24 g25 g26 g27 g28 g29 g30 g31 g32 g33 g34 g35 g36 g37 g38 g39 g40 g41 g42 g43 g44 t), 0, 0))
  refine hR (k_eq (by omega) (fun hc29 => ?_) (fun hc29 => ?_))
  · skip
    refine hR (?_ : R (_, _, _, _, _, _))
    exact hR (zret_i rfl (Nat.le_refl _) trivial (h _ _ _ _ _ _ _ _ _ _ _ _ hb25 hb30))
  iterate 2 refine hR (?_ : R (_, _, _, _, _, _))
  refine hR (zcall_i 0 0 (Nat.le_of_ble_eq_true rfl) (Nat.le_of_ble_eq_true rfl) (m_hasSight _ a2 hb19 (by omega) _ fun v30 y41_31 hp32 hp33 => ?_))
  refine (?_ : R (_, _, (.int (Int32.ofInt v30)) :: [], (zMi c0 c1 c2 c3 c4 c5 c6 c7 c8 c9 c10 c11 c12 c13 0 f9 f10 f11 f12 f13 f15 f16 f17 f20 f21 f22 f23 f26 f28 f31 f32 f33 f38 y41_31 f44 x14 g15 g16 g17 g18 g19 g20 g21 g22 g23 g24 g25 g26 g27 g28 g29 g30 g31 g32 g33 g34 g35 g36 g37 g38 g39 g40 g41 g42 g43 g44 t), 0, 0))
  refine hR (k_eq (by omega) (fun hc34 => ?_) (fun hc34 => ?_))
  · skip
    refine hR (?_ : R (_, _, _, _, _, _))
    exact hR (zret_i rfl (Nat.le_refl _) trivial (h _ _ _ _ _ _ _ _ _ _ _ _ hb25 hb30))
  iterate 2 refine hR (?_ : R (_, _, _, _, _, _))
  refine hR (zcall_i 0 0 (Nat.le_of_ble_eq_true rfl) (Nat.le_of_ble_eq_true rfl) (m_handAll _ a1 hb19 hb25 hb30 hr3 (by omega) _ fun v35 y20_36 y21_37 y22_38 y23_39 y26_40 k25_41 k30_42 hp43 hp44 hp45 => ?_))
  refine (?_ : R (_, _, (.int (Int32.ofInt v35)) :: [], (zMi c0 c1 c2 c3 c4 c5 c6 c7 c8 c9 c10 c11 c12 c13 0 f9 f10 f11 f12 f13 f15 f16 f17 y20_36 y21_37 y22_38 y23_39 y26_40 f28 f31 f32 f33 f38 y41_31 f44 x14 g15 g16 g17 g18 g19 g20 g21 g22 g23 g24 k25_41 g26 g27 g28 g29 k30_42 g31 g32 g33 g34 g35 g36 g37 g38 g39 g40 g41 g42 g43 g44 t), 0, 0))
  refine hR (k_ne (by omega) (fun hc46 => ?_) (fun hc46 => ?_))
  rotate_left
  · skip
    refine hR (?_ : R (_, _, _, _, _, _))
    exact hR (zret_i rfl (Nat.le_refl _) trivial (h _ _ _ _ _ _ _ _ _ _ _ _ hp43 hp44))
  iterate 2 refine hR (?_ : R (_, _, _, _, _, _))
  refine hR (zcall_i 0 0 (Nat.le_of_ble_eq_true rfl) (Nat.le_of_ble_eq_true rfl) (m_findRows _ a3 hp44 hr4 (by omega) (by omega) (by omega) (by omega) _ fun k36_47 k37_48 => ?_))
  refine (?_ : R (_, _, [], (zMi c0 c1 c2 c3 c4 c5 c6 c7 c8 c9 c10 c11 c12 c13 0 f9 f10 f11 f12 f13 f15 f16 f17 y20_36 y21_37 y22_38 y23_39 y26_40 f28 f31 f32 f33 f38 y41_31 f44 x14 g15 g16 g17 g18 g19 g20 g21 g22 g23 g24 k25_41 g26 g27 g28 g29 k30_42 g31 g32 g33 g34 g35 k36_47 k37_48 g38 g39 g40 g41 g42 g43 g44 t), 0, 0))
  iterate 2 refine hR (?_ : R (_, _, _, _, _, _))
  refine hR (j_ne (by omega) (by omega) (fun hc49 => ?_) (fun hc49 => ?_))
  rotate_left
  · skip
    refine hR (?_ : R (_, _, _, _, _, _))
    refine hR (zcall_i 0 0 (Nat.le_of_ble_eq_true rfl) (Nat.le_of_ble_eq_true rfl) (m_allRows _ (by omega) _ fun v51 => ?_))
    refine (?_ : R (_, _, (.int (Int32.ofInt v51)) :: [], (zMi c0 c1 c2 c3 c4 c5 c6 c7 c8 c9 c10 c11 c12 c13 0 f9 f10 f11 f12 f13 f15 f16 f17 y20_36 y21_37 y22_38 y23_39 y26_40 f28 f31 f32 f33 f38 y41_31 f44 x14 g15 g16 g17 g18 g19 g20 g21 g22 g23 g24 k25_41 g26 g27 g28 g29 k30_42 g31 g32 g33 g34 g35 k36_47 k37_48 g38 g39 g40 g41 g42 g43 g44 t), 0, 0))
    refine hR (?_ : R (_, _, _, _, _, _))
    exact hR (zret_i rfl (Nat.le_refl _) trivial (h _ _ _ _ _ _ _ _ _ _ _ _ hp43 hp44))
  iterate 2 refine hR (?_ : R (_, _, _, _, _, _))
  refine hR (t_c 5461 (by decide) ?_)
  refine hR (?_ : R (_, _, _, _, _, _))
  refine hR (t_mul ?_)
  refine hR (?_ : R (_, _, _, _, _, _))
  refine hR (t_add ?_)
  refine hR (t_ldo (by omega) (by omega) (Nat.le_of_ble_eq_true rfl) fun v50 rv50 => ?_)
  exact hR (zret_i rfl (Nat.le_refl _) trivial (h _ _ _ _ _ _ _ _ _ _ _ _ hp43 hp44))
theorem m_look (d : Nat) (a1 : Int) (hr0 : 0 ≤ a1 ∧ a1 ≤ 9) (Q : zQ) (h : ∀ (v : Int), Q (some (.int (Int32.ofInt v))) (zMi c0 c1 c2 c3 c4 c5 c6 c7 c8 c9 c10 c11 c12 c13 f0 f9 f10 f11 f12 f13 f15 f16 f17 f20 f21 f22 f23 f26 f28 f31 f32 f33 f38 f41 f44 x14 g15 g16 g17 g18 g19 g20 g21 g22 g23 g24 g25 g26 g27 g28 g29 g30 g31 g32 g33 g34 g35 g36 g37 g38 g39 g40 g41 g42 g43 g44 t)) : zCl zTab (d + 2) iX12_look [.ref 14, .int (Int32.ofInt a1)] (zMi c0 c1 c2 c3 c4 c5 c6 c7 c8 c9 c10 c11 c12 c13 f0 f9 f10 f11 f12 f13 f15 f16 f17 f20 f21 f22 f23 f26 f28 f31 f32 f33 f38 f41 f44 x14 g15 g16 g17 g18 g19 g20 g21 g22 g23 g24 g25 g26 g27 g28 g29 g30 g31 g32 g33 g34 g35 g36 g37 g38 g39 g40 g41 g42 g43 g44 t) 0 0 Q := by
  refine zCl_i (M := kX12_look) rfl (Nat.le_of_ble_eq_true rfl) fun R hR => ?_
  iterate 6 refine hR (?_ : R (_, _, _, _, _, _))
  have lp7 : ∀ (N : Nat) (be : Int) (fe : Int) (k : Int) (o5_7 : Option Value) (o6_7 : Option Value), (zc2 o5_7 = false) → (zc2 o6_7 = false) → (-1 ≤ be ∧ be ≤ 9) → (0 ≤ k ∧ k ≤ a1 + 1) → (a1 + 1 - k < N) → R (7, [some (.ref 14), some (.int (Int32.ofInt a1)), some (.int (Int32.ofInt be)), some (.int (Int32.ofInt fe)), some (.int (Int32.ofInt k)), o5_7, o6_7], [], (zMi c0 c1 c2 c3 c4 c5 c6 c7 c8 c9 c10 c11 c12 c13 f0 f9 f10 f11 f12 f13 f15 f16 f17 f20 f21 f22 f23 f26 f28 f31 f32 f33 f38 f41 f44 x14 g15 g16 g17 g18 g19 g20 g21 g22 g23 g24 g25 g26 g27 g28 g29 g30 g31 g32 g33 g34 g35 g36 g37 g38 g39 g40 g41 g42 g43 g44 t), 0, 0) := by
    intro N
    induction N with
    | zero => intros; omega
    | succ N ih7 =>
      intro be fe k o5_7 o6_7 hzo5_7 hzo6_7 hf0_7 hf1_7 hN7
      iterate 2 refine hR (?_ : R (_, _, _, _, _, _))
      refine hR (j_gt (by omega) (by omega) (fun hc1 => ?_) (fun hc1 => ?_))
      · skip
        refine hR (?_ : R (_, _, _, _, _, _))
        exact hR (zret_i rfl (Nat.le_refl _) trivial (h _))
      iterate 4 refine hR (?_ : R (_, _, _, _, _, _))
      have lp19 : ∀ (N : Nat) (mo : Int) (i : Int), (0 ≤ i ∧ i ≤ 5461) → (5461 - i < N) → R (19, [some (.ref 14), some (.int (Int32.ofInt a1)), some (.int (Int32.ofInt be)), some (.int (Int32.ofInt fe)), some (.int (Int32.ofInt k)), some (.int (Int32.ofInt mo)), some (.int (Int32.ofInt i))], [], (zMi c0 c1 c2 c3 c4 c5 c6 c7 c8 c9 c10 c11 c12 c13 f0 f9 f10 f11 f12 f13 f15 f16 f17 f20 f21 f22 f23 f26 f28 f31 f32 f33 f38 f41 f44 x14 g15 g16 g17 g18 g19 g20 g21 g22 g23 g24 g25 g26 g27 g28 g29 g30 g31 g32 g33 g34 g35 g36 g37 g38 g39 g40 g41 g42 g43 g44 t), 0, 0) := by
        intro N
        induction N with
        | zero => intros; omega
        | succ N ih19 =>
          intro mo i hf0_19 hN19
          refine hR (?_ : R (_, _, _, _, _, _))
          refine hR (t_c 5461 (by decide) ?_)
          refine hR (j_ge (by omega) (by omega) (fun hc2 => ?_) (fun hc2 => ?_))
          · skip
            iterate 2 refine hR (?_ : R (_, _, _, _, _, _))
            refine hR (j_eq (by omega) (by omega) (fun hc3 => ?_) (fun hc3 => ?_))
            · skip
              iterate 4 refine hR (?_ : R (_, _, _, _, _, _))
              refine hR (k_eq (by omega) (fun hc => by omega) (fun _ => ?_))
              iterate 4 refine hR (?_ : R (_, _, _, _, _, _))
              refine hR (k_eq (by omega) (fun hc => by omega) (fun _ => ?_))
              iterate 3 refine hR (?_ : R (_, _, _, _, _, _))
              refine hR (t_inc ?_)
              refine hR (?_ : R (_, _, _, _, _, _))
              exact ih7 _ _ _ _ _ (by rfl) (by rfl) (by omega) (by omega) (by omega)
            iterate 2 refine hR (?_ : R (_, _, _, _, _, _))
            refine hR (j_any ?_ ?_)
            · skip
              iterate 3 refine hR (?_ : R (_, _, _, _, _, _))
              refine hR (k_eq (by omega) (fun _ => ?_) (fun hc => by omega))
              iterate 3 refine hR (?_ : R (_, _, _, _, _, _))
              refine hR (k_eq (by omega) (fun _ => ?_) (fun hc => by omega))
              iterate 2 refine hR (?_ : R (_, _, _, _, _, _))
              refine hR (t_inc ?_)
              refine hR (?_ : R (_, _, _, _, _, _))
              exact ih7 _ _ _ _ _ (by rfl) (by rfl) (by omega) (by omega) (by omega)
            iterate 4 refine hR (?_ : R (_, _, _, _, _, _))
            refine hR (k_eq (by omega) (fun hc => by omega) (fun _ => ?_))
            iterate 4 refine hR (?_ : R (_, _, _, _, _, _))
            refine hR (k_eq (by omega) (fun hc => by omega) (fun _ => ?_))
            iterate 3 refine hR (?_ : R (_, _, _, _, _, _))
            refine hR (t_inc ?_)
            refine hR (?_ : R (_, _, _, _, _, _))
            exact ih7 _ _ _ _ _ (by rfl) (by rfl) (by omega) (by omega) (by omega)
          iterate 2 refine hR (?_ : R (_, _, _, _, _, _))
          refine hR (t_c 5461 (by decide) ?_)
          refine hR (?_ : R (_, _, _, _, _, _))
          refine hR (t_mul ?_)
          refine hR (?_ : R (_, _, _, _, _, _))
          refine hR (t_add ?_)
          refine hR (t_ldo (by omega) (by omega) (Nat.le_of_ble_eq_true rfl) fun v4 rv4 => ?_)
          refine hR (j_any ?_ ?_)
          rotate_left
          · skip
            iterate 3 refine hR (?_ : R (_, _, _, _, _, _))
            refine hR (t_inc ?_)
            refine hR (?_ : R (_, _, _, _, _, _))
            exact ih19 _ _ (by omega) (by omega)
          iterate 3 refine hR (?_ : R (_, _, _, _, _, _))
          refine hR (t_c 5461 (by decide) ?_)
          refine hR (?_ : R (_, _, _, _, _, _))
          refine hR (t_mul ?_)
          refine hR (?_ : R (_, _, _, _, _, _))
          refine hR (t_add ?_)
          refine hR (t_ldo (by omega) (by omega) (Nat.le_of_ble_eq_true rfl) fun v5 rv5 => ?_)
          iterate 2 refine hR (?_ : R (_, _, _, _, _, _))
          refine hR (t_c 5461 (by decide) ?_)
          refine hR (?_ : R (_, _, _, _, _, _))
          refine hR (t_mul ?_)
          refine hR (?_ : R (_, _, _, _, _, _))
          refine hR (t_add ?_)
          refine hR (t_ldo (by omega) (by omega) (Nat.le_of_ble_eq_true rfl) fun v6 rv6 => ?_)
          refine hR (t_mul ?_)
          refine hR (zcall_i 0 0 (Nat.le_of_ble_eq_true rfl) (Nat.le_of_ble_eq_true rfl) (m_greaterx _ mo (v5 * v6) _ _ fun v7 => ?_))
          refine (?_ : R (_, _, (.int (Int32.ofInt v7)) :: [], (zMi c0 c1 c2 c3 c4 c5 c6 c7 c8 c9 c10 c11 c12 c13 f0 f9 f10 f11 f12 f13 f15 f16 f17 f20 f21 f22 f23 f26 f28 f31 f32 f33 f38 f41 f44 x14 g15 g16 g17 g18 g19 g20 g21 g22 g23 g24 g25 g26 g27 g28 g29 g30 g31 g32 g33 g34 g35 g36 g37 g38 g39 g40 g41 g42 g43 g44 t), 0, 0))
          refine hR (?_ : R (_, _, _, _, _, _))
          refine hR (t_inc ?_)
          refine hR (?_ : R (_, _, _, _, _, _))
          exact ih19 _ _ (by omega) (by omega)
      exact lp19 400000000 _ _ (by omega) (by omega)
  exact lp7 400000000 _ _ _ _ _ (by rfl) (by rfl) (by omega) (by omega) (by omega)
theorem m_rowsOf (d : Nat) (a1 a2 : Int) (hb30 : zB 0 5460 g30) (hr1 : 0 ≤ a1 ∧ a1 ≤ 8) (hr2 : 0 ≤ a2 ∧ a2 ≤ 4) (Q : zQ) (h : ∀ (v : Int), Q (some (.int (Int32.ofInt v))) (zMi c0 c1 c2 c3 c4 c5 c6 c7 c8 c9 c10 c11 c12 c13 f0 f9 f10 f11 f12 f13 f15 f16 f17 f20 f21 f22 f23 f26 f28 f31 f32 f33 f38 f41 f44 x14 g15 g16 g17 g18 g19 g20 g21 g22 g23 g24 g25 g26 g27 g28 g29 g30 g31 g32 g33 g34 g35 g36 g37 g38 g39 g40 g41 g42 g43 g44 t)) : zCl zTab (d + 1) iX12_rowsOf [.ref 14, .int (Int32.ofInt a1), .int (Int32.ofInt a2)] (zMi c0 c1 c2 c3 c4 c5 c6 c7 c8 c9 c10 c11 c12 c13 f0 f9 f10 f11 f12 f13 f15 f16 f17 f20 f21 f22 f23 f26 f28 f31 f32 f33 f38 f41 f44 x14 g15 g16 g17 g18 g19 g20 g21 g22 g23 g24 g25 g26 g27 g28 g29 g30 g31 g32 g33 g34 g35 g36 g37 g38 g39 g40 g41 g42 g43 g44 t) 0 0 Q := by
  refine zCl_i (M := kX12_rowsOf) rfl (Nat.le_of_ble_eq_true rfl) fun R hR => ?_
  iterate 4 refine hR (?_ : R (_, _, _, _, _, _))
  have lp5 : ∀ (N : Nat) (su : Int) (i : Int), (0 ≤ i ∧ i ≤ 5461) → (5461 - i < N) → R (5, [some (.ref 14), some (.int (Int32.ofInt a1)), some (.int (Int32.ofInt a2)), some (.int (Int32.ofInt su)), some (.int (Int32.ofInt i))], [], (zMi c0 c1 c2 c3 c4 c5 c6 c7 c8 c9 c10 c11 c12 c13 f0 f9 f10 f11 f12 f13 f15 f16 f17 f20 f21 f22 f23 f26 f28 f31 f32 f33 f38 f41 f44 x14 g15 g16 g17 g18 g19 g20 g21 g22 g23 g24 g25 g26 g27 g28 g29 g30 g31 g32 g33 g34 g35 g36 g37 g38 g39 g40 g41 g42 g43 g44 t), 0, 0) := by
    intro N
    induction N with
    | zero => intros; omega
    | succ N ih5 =>
      intro su i hf0_5 hN5
      refine hR (?_ : R (_, _, _, _, _, _))
      refine hR (t_c 5461 (by decide) ?_)
      refine hR (j_ge (by omega) (by omega) (fun hc1 => ?_) (fun hc1 => ?_))
      · skip
        refine hR (?_ : R (_, _, _, _, _, _))
        exact hR (zret_i rfl (Nat.le_refl _) trivial (h _))
      iterate 3 refine hR (?_ : R (_, _, _, _, _, _))
      refine hR (t_c 5461 (by decide) ?_)
      refine hR (?_ : R (_, _, _, _, _, _))
      refine hR (t_mul ?_)
      refine hR (?_ : R (_, _, _, _, _, _))
      refine hR (t_add ?_)
      refine hR (t_ldo (by omega) (by omega) (Nat.le_of_ble_eq_true rfl) fun v2 rv2 => ?_)
      refine hR (j_any ?_ ?_)
      rotate_left
      · skip
        iterate 2 refine hR (?_ : R (_, _, _, _, _, _))
        refine hR (t_add ?_)
        refine hR (?_ : R (_, _, _, _, _, _))
        refine hR (t_inc ?_)
        refine hR (?_ : R (_, _, _, _, _, _))
        exact ih5 _ _ (by omega) (by omega)
      iterate 2 refine hR (?_ : R (_, _, _, _, _, _))
      refine hR (t_c 5461 (by decide) ?_)
      refine hR (?_ : R (_, _, _, _, _, _))
      refine hR (t_mul ?_)
      refine hR (?_ : R (_, _, _, _, _, _))
      refine hR (t_add ?_)
      refine hR (t_ldo (by omega) (by omega) (Nat.le_of_ble_eq_true rfl) fun v3 rv3 => ?_)
      iterate 2 refine hR (?_ : R (_, _, _, _, _, _))
      refine hR (t_c 5461 (by decide) ?_)
      iterate 2 refine hR (?_ : R (_, _, _, _, _, _))
      refine hR (t_add ?_)
      refine hR (t_mul ?_)
      iterate 2 refine hR (?_ : R (_, _, _, _, _, _))
      refine hR (t_c 5461 (by decide) ?_)
      refine hR (?_ : R (_, _, _, _, _, _))
      refine hR (t_mul ?_)
      refine hR (?_ : R (_, _, _, _, _, _))
      refine hR (t_add ?_)
      refine hR (t_ldB hb30 (by omega) (by omega) (Nat.le_of_ble_eq_true rfl) fun v4 ev4 lv4 uv4 => ?_)
      clear ev4
      refine hR (t_add ?_)
      refine hR (t_ldo (by omega) (by omega) (Nat.le_of_ble_eq_true rfl) fun v5 rv5 => ?_)
      refine hR (t_mul ?_)
      refine hR (t_add ?_)
      refine hR (?_ : R (_, _, _, _, _, _))
      refine hR (t_inc ?_)
      refine hR (?_ : R (_, _, _, _, _, _))
      exact ih5 _ _ (by omega) (by omega)
  exact lp5 400000000 _ _ (by omega) (by omega)
theorem m_sure (d : Nat) (a1 a2 a3 a4 : Int) (hb19 : zB 0 2 g19) (hb25 : zB 0 3 g25) (hb30 : zB 0 5460 g30) (hr3 : bkOK g20) (hr4 : siOK g22) (hr5 : -2147483648 ≤ a1 ∧ a1 ≤ 2147483647) (hr6 : -2147483648 ≤ a2 ∧ a2 ≤ 2147483647) (hr7 : -2147483648 ≤ a3 ∧ a3 ≤ 2147483647) (hr8 : -2147483648 ≤ a4 ∧ a4 ≤ 2147483647) (Q : zQ) (h : ∀ (v : Int) (y0 : Int) (y20 : Int) (y21 : Int) (y22 : Int) (y23 : Int) (y26 : Int) (y41 : Int) (k25 : Nat → Int32) (k30 : Nat → Int32) (k36 : Nat → Int32) (k37 : Nat → Int32), zB 0 3 k25 → zB 0 5460 k30 → Q (some (.int (Int32.ofInt v))) (zMi c0 c1 c2 c3 c4 c5 c6 c7 c8 c9 c10 c11 c12 c13 y0 f9 f10 f11 f12 f13 f15 f16 f17 y20 y21 y22 y23 y26 f28 f31 f32 f33 f38 y41 f44 x14 g15 g16 g17 g18 g19 g20 g21 g22 g23 g24 k25 g26 g27 g28 g29 k30 g31 g32 g33 g34 g35 k36 k37 g38 g39 g40 g41 g42 g43 g44 t)) : zCl zTab (d + 7) iX12_sure [.ref 14, .int (Int32.ofInt a1), .int (Int32.ofInt a2), .int (Int32.ofInt a3), .int (Int32.ofInt a4)] (zMi c0 c1 c2 c3 c4 c5 c6 c7 c8 c9 c10 c11 c12 c13 f0 f9 f10 f11 f12 f13 f15 f16 f17 f20 f21 f22 f23 f26 f28 f31 f32 f33 f38 f41 f44 x14 g15 g16 g17 g18 g19 g20 g21 g22 g23 g24 g25 g26 g27 g28 g29 g30 g31 g32 g33 g34 g35 g36 g37 g38 g39 g40 g41 g42 g43 g44 t) 0 0 Q := by
  refine zCl_i (M := kX12_sure) rfl (Nat.le_of_ble_eq_true rfl) fun R hR => ?_
  iterate 2 refine hR (?_ : R (_, _, _, _, _, _))
  refine hR (?_ : R (_, _, _, (zMi c0 c1 c2 c3 c4 c5 c6 c7 c8 c9 c10 c11 c12 c13 0 f9 f10 f11 f12 f13 f15 f16 f17 f20 f21 f22 f23 f26 f28 f31 f32 f33 f38 f41 f44 x14 g15 g16 g17 g18 g19 g20 g21 g22 g23 g24 g25 g26 g27 g28 g29 g30 g31 g32 g33 g34 g35 g36 g37 g38 g39 g40 g41 g42 g43 g44 t), _, _))
  iterate 2 refine hR (?_ : R (_, _, _, _, _, _))
  refine hR (t_c 9 (by decide) ?_)
  refine hR (zcall_i 0 0 (Nat.le_of_ble_eq_true rfl) (Nat.le_of_ble_eq_true rfl) (m_in _ a3 0 9 _ (by omega) (by omega) (by omega) _ fun v1 hp2 => ?_))
  refine (?_ : R (_, _, (.int (Int32.ofInt v1)) :: [], (zMi c0 c1 c2 c3 c4 c5 c6 c7 c8 c9 c10 c11 c12 c13 0 f9 f10 f11 f12 f13 f15 f16 f17 f20 f21 f22 f23 f26 f28 f31 f32 f33 f38 f41 f44 x14 g15 g16 g17 g18 g19 g20 g21 g22 g23 g24 g25 g26 g27 g28 g29 g30 g31 g32 g33 g34 g35 g36 g37 g38 g39 g40 g41 g42 g43 g44 t), 0, 0))
  refine hR (k_eq (by omega) (fun hc3 => ?_) (fun hc3 => ?_))
  · skip
    refine hR (?_ : R (_, _, _, _, _, _))
    exact hR (zret_i rfl (Nat.le_refl _) trivial (h _ _ _ _ _ _ _ _ _ _ _ _ hb25 hb30))
  iterate 4 refine hR (?_ : R (_, _, _, _, _, _))
  refine hR (t_sub ?_)
  refine hR (zcall_i 0 0 (Nat.le_of_ble_eq_true rfl) (Nat.le_of_ble_eq_true rfl) (m_in _ a4 ((-1)) (a3 - 1) _ (by omega) (by omega) (by omega) _ fun v4 hp5 => ?_))
  refine (?_ : R (_, _, (.int (Int32.ofInt v4)) :: [], (zMi c0 c1 c2 c3 c4 c5 c6 c7 c8 c9 c10 c11 c12 c13 0 f9 f10 f11 f12 f13 f15 f16 f17 f20 f21 f22 f23 f26 f28 f31 f32 f33 f38 f41 f44 x14 g15 g16 g17 g18 g19 g20 g21 g22 g23 g24 g25 g26 g27 g28 g29 g30 g31 g32 g33 g34 g35 g36 g37 g38 g39 g40 g41 g42 g43 g44 t), 0, 0))
  refine hR (k_eq (by omega) (fun hc6 => ?_) (fun hc6 => ?_))
  · skip
    refine hR (?_ : R (_, _, _, _, _, _))
    exact hR (zret_i rfl (Nat.le_refl _) trivial (h _ _ _ _ _ _ _ _ _ _ _ _ hb25 hb30))
  iterate 2 refine hR (?_ : R (_, _, _, _, _, _))
  refine hR (zcall_i 0 0 (Nat.le_of_ble_eq_true rfl) (Nat.le_of_ble_eq_true rfl) (m_hasSight _ a2 hb19 (by omega) _ fun v7 y41_8 hp9 hp10 => ?_))
  refine (?_ : R (_, _, (.int (Int32.ofInt v7)) :: [], (zMi c0 c1 c2 c3 c4 c5 c6 c7 c8 c9 c10 c11 c12 c13 0 f9 f10 f11 f12 f13 f15 f16 f17 f20 f21 f22 f23 f26 f28 f31 f32 f33 f38 y41_8 f44 x14 g15 g16 g17 g18 g19 g20 g21 g22 g23 g24 g25 g26 g27 g28 g29 g30 g31 g32 g33 g34 g35 g36 g37 g38 g39 g40 g41 g42 g43 g44 t), 0, 0))
  refine hR (k_eq (by omega) (fun hc11 => ?_) (fun hc11 => ?_))
  · skip
    refine hR (?_ : R (_, _, _, _, _, _))
    exact hR (zret_i rfl (Nat.le_refl _) trivial (h _ _ _ _ _ _ _ _ _ _ _ _ hb25 hb30))
  iterate 2 refine hR (?_ : R (_, _, _, _, _, _))
  refine hR (zcall_i 0 0 (Nat.le_of_ble_eq_true rfl) (Nat.le_of_ble_eq_true rfl) (m_handAll _ a1 hb19 hb25 hb30 hr3 (by omega) _ fun v12 y20_13 y21_14 y22_15 y23_16 y26_17 k25_18 k30_19 hp20 hp21 hp22 => ?_))
  refine (?_ : R (_, _, (.int (Int32.ofInt v12)) :: [], (zMi c0 c1 c2 c3 c4 c5 c6 c7 c8 c9 c10 c11 c12 c13 0 f9 f10 f11 f12 f13 f15 f16 f17 y20_13 y21_14 y22_15 y23_16 y26_17 f28 f31 f32 f33 f38 y41_8 f44 x14 g15 g16 g17 g18 g19 g20 g21 g22 g23 g24 k25_18 g26 g27 g28 g29 k30_19 g31 g32 g33 g34 g35 g36 g37 g38 g39 g40 g41 g42 g43 g44 t), 0, 0))
  refine hR (k_ne (by omega) (fun hc23 => ?_) (fun hc23 => ?_))
  rotate_left
  · skip
    refine hR (?_ : R (_, _, _, _, _, _))
    exact hR (zret_i rfl (Nat.le_refl _) trivial (h _ _ _ _ _ _ _ _ _ _ _ _ hp20 hp21))
  iterate 2 refine hR (?_ : R (_, _, _, _, _, _))
  refine hR (zcall_i 0 0 (Nat.le_of_ble_eq_true rfl) (Nat.le_of_ble_eq_true rfl) (m_findRows _ a3 hp21 hr4 (by omega) (by omega) (by omega) (by omega) _ fun k36_24 k37_25 => ?_))
  refine (?_ : R (_, _, [], (zMi c0 c1 c2 c3 c4 c5 c6 c7 c8 c9 c10 c11 c12 c13 0 f9 f10 f11 f12 f13 f15 f16 f17 y20_13 y21_14 y22_15 y23_16 y26_17 f28 f31 f32 f33 f38 y41_8 f44 x14 g15 g16 g17 g18 g19 g20 g21 g22 g23 g24 k25_18 g26 g27 g28 g29 k30_19 g31 g32 g33 g34 g35 k36_24 k37_25 g38 g39 g40 g41 g42 g43 g44 t), 0, 0))
  refine hR (?_ : R (_, _, _, _, _, _))
  refine hR (zcall_i 0 0 (Nat.le_of_ble_eq_true rfl) (Nat.le_of_ble_eq_true rfl) (m_allRows _ (by omega) _ fun v26 => ?_))
  refine (?_ : R (_, _, (.int (Int32.ofInt v26)) :: [], (zMi c0 c1 c2 c3 c4 c5 c6 c7 c8 c9 c10 c11 c12 c13 0 f9 f10 f11 f12 f13 f15 f16 f17 y20_13 y21_14 y22_15 y23_16 y26_17 f28 f31 f32 f33 f38 y41_8 f44 x14 g15 g16 g17 g18 g19 g20 g21 g22 g23 g24 k25_18 g26 g27 g28 g29 k30_19 g31 g32 g33 g34 g35 k36_24 k37_25 g38 g39 g40 g41 g42 g43 g44 t), 0, 0))
  refine hR (j_any ?_ ?_)
  rotate_left
  · skip
    refine hR (?_ : R (_, _, _, _, _, _))
    exact hR (zret_i rfl (Nat.le_refl _) trivial (h _ _ _ _ _ _ _ _ _ _ _ _ hp20 hp21))
  iterate 2 refine hR (?_ : R (_, _, _, _, _, _))
  refine hR (j_ne (by omega) (by omega) (fun hc27 => ?_) (fun hc27 => ?_))
  rotate_left
  · skip
    iterate 2 refine hR (?_ : R (_, _, _, _, _, _))
    refine hR (zcall_i 0 0 (Nat.le_of_ble_eq_true rfl) (Nat.le_of_ble_eq_true rfl) (m_look _ a3 (by omega) _ fun v31 => ?_))
    refine (?_ : R (_, _, (.int (Int32.ofInt v31)) :: [], (zMi c0 c1 c2 c3 c4 c5 c6 c7 c8 c9 c10 c11 c12 c13 0 f9 f10 f11 f12 f13 f15 f16 f17 y20_13 y21_14 y22_15 y23_16 y26_17 f28 f31 f32 f33 f38 y41_8 f44 x14 g15 g16 g17 g18 g19 g20 g21 g22 g23 g24 k25_18 g26 g27 g28 g29 k30_19 g31 g32 g33 g34 g35 k36_24 k37_25 g38 g39 g40 g41 g42 g43 g44 t), 0, 0))
    exact hR (zret_i rfl (Nat.le_refl _) trivial (h _ _ _ _ _ _ _ _ _ _ _ _ hp20 hp21))
  iterate 2 refine hR (?_ : R (_, _, _, _, _, _))
  have lp74 : ∀ (N : Nat) (r : Int), (0 ≤ r ∧ r ≤ 5) → (r ≤ y23_16) → (5 - r < N) → R (74, [some (.ref 14), some (.int (Int32.ofInt a1)), some (.int (Int32.ofInt a2)), some (.int (Int32.ofInt a3)), some (.int (Int32.ofInt a4)), some (.int (Int32.ofInt r))], [], (zMi c0 c1 c2 c3 c4 c5 c6 c7 c8 c9 c10 c11 c12 c13 0 f9 f10 f11 f12 f13 f15 f16 f17 y20_13 y21_14 y22_15 y23_16 y26_17 f28 f31 f32 f33 f38 y41_8 f44 x14 g15 g16 g17 g18 g19 g20 g21 g22 g23 g24 k25_18 g26 g27 g28 g29 k30_19 g31 g32 g33 g34 g35 k36_24 k37_25 g38 g39 g40 g41 g42 g43 g44 t), 0, 0) := by
    intro N
    induction N with
    | zero => intros; omega
    | succ N ih74 =>
      intro r hf0_74 hp0_74 hN74
      iterate 3 refine hR (?_ : R (_, _, _, _, _, _))
      refine hR (j_ge (by omega) (by omega) (fun hc28 => ?_) (fun hc28 => ?_))
      · skip
        refine hR (?_ : R (_, _, _, _, _, _))
        exact hR (zret_i rfl (Nat.le_refl _) trivial (h _ _ _ _ _ _ _ _ _ _ _ _ hp20 hp21))
      iterate 3 refine hR (?_ : R (_, _, _, _, _, _))
      refine hR (zcall_i 0 0 (Nat.le_of_ble_eq_true rfl) (Nat.le_of_ble_eq_true rfl) (m_rowsOf _ a4 r hp21 (by omega) (by omega) _ fun v29 => ?_))
      refine (?_ : R (_, _, (.int (Int32.ofInt v29)) :: [], (zMi c0 c1 c2 c3 c4 c5 c6 c7 c8 c9 c10 c11 c12 c13 0 f9 f10 f11 f12 f13 f15 f16 f17 y20_13 y21_14 y22_15 y23_16 y26_17 f28 f31 f32 f33 f38 y41_8 f44 x14 g15 g16 g17 g18 g19 g20 g21 g22 g23 g24 k25_18 g26 g27 g28 g29 k30_19 g31 g32 g33 g34 g35 k36_24 k37_25 g38 g39 g40 g41 g42 g43 g44 t), 0, 0))
      refine hR (?_ : R (_, _, _, _, _, _))
      refine hR (zcall_i 0 0 (Nat.le_of_ble_eq_true rfl) (Nat.le_of_ble_eq_true rfl) (m_allRows _ (by omega) _ fun v30 => ?_))
      refine (?_ : R (_, _, (.int (Int32.ofInt v30)) :: (.int (Int32.ofInt v29)) :: [], (zMi c0 c1 c2 c3 c4 c5 c6 c7 c8 c9 c10 c11 c12 c13 0 f9 f10 f11 f12 f13 f15 f16 f17 y20_13 y21_14 y22_15 y23_16 y26_17 f28 f31 f32 f33 f38 y41_8 f44 x14 g15 g16 g17 g18 g19 g20 g21 g22 g23 g24 k25_18 g26 g27 g28 g29 k30_19 g31 g32 g33 g34 g35 k36_24 k37_25 g38 g39 g40 g41 g42 g43 g44 t), 0, 0))
      refine hR (j_any ?_ ?_)
      rotate_left
      · skip
        refine hR (?_ : R (_, _, _, _, _, _))
        exact hR (zret_i rfl (Nat.le_refl _) trivial (h _ _ _ _ _ _ _ _ _ _ _ _ hp20 hp21))
      refine hR (t_inc ?_)
      refine hR (?_ : R (_, _, _, _, _, _))
      exact ih74 _ (by omega) (by omega) (by omega)
  exact lp74 400000000 _ (by omega) (by omega) (by omega)
theorem m_play (d : Nat) (a1 a2 a3 a4 a5 a6 : Int) (hb19 : zB 0 2 g19) (hb25 : zB 0 3 g25) (hb30 : zB 0 5460 g30) (hr3 : bkOK g20) (hr4 : -2147483648 ≤ a1 ∧ a1 ≤ 2147483647) (hr5 : -2147483648 ≤ a2 ∧ a2 ≤ 2147483647) (hr6 : -2147483648 ≤ a3 ∧ a3 ≤ 2147483647) (hr7 : -2147483648 ≤ a4 ∧ a4 ≤ 2147483647) (hr8 : -2147483648 ≤ a5 ∧ a5 ≤ 2147483647) (hr9 : -2147483648 ≤ a6 ∧ a6 ≤ 2147483647) (Q : zQ) (h : ∀ (v : Int) (y0 : Int) (y20 : Int) (y21 : Int) (y22 : Int) (y23 : Int) (y26 : Int) (k25 : Nat → Int32) (k30 : Nat → Int32) (k35 : Nat → Int32), zB 0 3 k25 → zB 0 5460 k30 → Q (some (.int (Int32.ofInt v))) (zMi c0 c1 c2 c3 c4 c5 c6 c7 c8 c9 c10 c11 c12 c13 y0 f9 f10 f11 f12 f13 f15 f16 f17 y20 y21 y22 y23 y26 f28 f31 f32 f33 f38 f41 f44 x14 g15 g16 g17 g18 g19 g20 g21 g22 g23 g24 k25 g26 g27 g28 g29 k30 g31 g32 g33 g34 k35 g36 g37 g38 g39 g40 g41 g42 g43 g44 t)) : zCl zTab (d + 6) iX12_play_ [.ref 14, .int (Int32.ofInt a1), .int (Int32.ofInt a2), .int (Int32.ofInt a3), .int (Int32.ofInt a4), .int (Int32.ofInt a5), .int (Int32.ofInt a6)] (zMi c0 c1 c2 c3 c4 c5 c6 c7 c8 c9 c10 c11 c12 c13 f0 f9 f10 f11 f12 f13 f15 f16 f17 f20 f21 f22 f23 f26 f28 f31 f32 f33 f38 f41 f44 x14 g15 g16 g17 g18 g19 g20 g21 g22 g23 g24 g25 g26 g27 g28 g29 g30 g31 g32 g33 g34 g35 g36 g37 g38 g39 g40 g41 g42 g43 g44 t) 0 0 Q := by
  refine zCl_i (M := kX12_play_) rfl (Nat.le_of_ble_eq_true rfl) fun R hR => ?_
  iterate 2 refine hR (?_ : R (_, _, _, _, _, _))
  refine hR (?_ : R (_, _, _, (zMi c0 c1 c2 c3 c4 c5 c6 c7 c8 c9 c10 c11 c12 c13 0 f9 f10 f11 f12 f13 f15 f16 f17 f20 f21 f22 f23 f26 f28 f31 f32 f33 f38 f41 f44 x14 g15 g16 g17 g18 g19 g20 g21 g22 g23 g24 g25 g26 g27 g28 g29 g30 g31 g32 g33 g34 g35 g36 g37 g38 g39 g40 g41 g42 g43 g44 t), _, _))
  iterate 2 refine hR (?_ : R (_, _, _, _, _, _))
  refine hR (t_c 9 (by decide) ?_)
  refine hR (zcall_i 0 0 (Nat.le_of_ble_eq_true rfl) (Nat.le_of_ble_eq_true rfl) (m_in _ a2 0 9 _ (by omega) (by omega) (by omega) _ fun v1 hp2 => ?_))
  refine (?_ : R (_, _, (.int (Int32.ofInt v1)) :: [], (zMi c0 c1 c2 c3 c4 c5 c6 c7 c8 c9 c10 c11 c12 c13 0 f9 f10 f11 f12 f13 f15 f16 f17 f20 f21 f22 f23 f26 f28 f31 f32 f33 f38 f41 f44 x14 g15 g16 g17 g18 g19 g20 g21 g22 g23 g24 g25 g26 g27 g28 g29 g30 g31 g32 g33 g34 g35 g36 g37 g38 g39 g40 g41 g42 g43 g44 t), 0, 0))
  refine hR (k_eq (by omega) (fun hc3 => ?_) (fun hc3 => ?_))
  · skip
    refine hR (?_ : R (_, _, _, _, _, _))
    exact hR (zret_i rfl (Nat.le_refl _) trivial (h _ _ _ _ _ _ _ _ _ _ hb25 hb30))
  iterate 3 refine hR (?_ : R (_, _, _, _, _, _))
  refine hR (zcall_i 0 0 (Nat.le_of_ble_eq_true rfl) (Nat.le_of_ble_eq_true rfl) (m_in _ a3 0 3 _ (by omega) (by omega) (by omega) _ fun v4 hp5 => ?_))
  refine (?_ : R (_, _, (.int (Int32.ofInt v4)) :: [], (zMi c0 c1 c2 c3 c4 c5 c6 c7 c8 c9 c10 c11 c12 c13 0 f9 f10 f11 f12 f13 f15 f16 f17 f20 f21 f22 f23 f26 f28 f31 f32 f33 f38 f41 f44 x14 g15 g16 g17 g18 g19 g20 g21 g22 g23 g24 g25 g26 g27 g28 g29 g30 g31 g32 g33 g34 g35 g36 g37 g38 g39 g40 g41 g42 g43 g44 t), 0, 0))
  refine hR (k_eq (by omega) (fun hc6 => ?_) (fun hc6 => ?_))
  · skip
    refine hR (?_ : R (_, _, _, _, _, _))
    exact hR (zret_i rfl (Nat.le_refl _) trivial (h _ _ _ _ _ _ _ _ _ _ hb25 hb30))
  iterate 2 refine hR (?_ : R (_, _, _, _, _, _))
  refine hR (zcall_i 0 0 (Nat.le_of_ble_eq_true rfl) (Nat.le_of_ble_eq_true rfl) (m_hand _ a1 hb19 hr3 (by omega) _ fun v7 y20_8 y22_9 y23_10 hp11 => ?_))
  refine (?_ : R (_, _, (.int (Int32.ofInt v7)) :: [], (zMi c0 c1 c2 c3 c4 c5 c6 c7 c8 c9 c10 c11 c12 c13 0 f9 f10 f11 f12 f13 f15 f16 f17 y20_8 f21 y22_9 y23_10 f26 f28 f31 f32 f33 f38 f41 f44 x14 g15 g16 g17 g18 g19 g20 g21 g22 g23 g24 g25 g26 g27 g28 g29 g30 g31 g32 g33 g34 g35 g36 g37 g38 g39 g40 g41 g42 g43 g44 t), 0, 0))
  refine hR (k_eq (by omega) (fun hc12 => ?_) (fun hc12 => ?_))
  · skip
    refine hR (?_ : R (_, _, _, _, _, _))
    exact hR (zret_i rfl (Nat.le_refl _) trivial (h _ _ _ _ _ _ _ _ _ _ hb25 hb30))
  iterate 3 refine hR (?_ : R (_, _, _, _, _, _))
  refine hR (zcall_i 0 0 (Nat.le_of_ble_eq_true rfl) (Nat.le_of_ble_eq_true rfl) (m_everybody _ (by omega) _ fun v13 hp14 => ?_))
  refine (?_ : R (_, _, (.int (Int32.ofInt v13)) :: (.int (Int32.ofInt 0)) :: (.int (Int32.ofInt a4)) :: [], (zMi c0 c1 c2 c3 c4 c5 c6 c7 c8 c9 c10 c11 c12 c13 0 f9 f10 f11 f12 f13 f15 f16 f17 y20_8 f21 y22_9 y23_10 f26 f28 f31 f32 f33 f38 f41 f44 x14 g15 g16 g17 g18 g19 g20 g21 g22 g23 g24 g25 g26 g27 g28 g29 g30 g31 g32 g33 g34 g35 g36 g37 g38 g39 g40 g41 g42 g43 g44 t), 0, 0))
  refine hR (zcall_i 0 0 (Nat.le_of_ble_eq_true rfl) (Nat.le_of_ble_eq_true rfl) (m_in _ a4 0 v13 _ (by omega) (by omega) (by omega) _ fun v15 hp16 => ?_))
  refine (?_ : R (_, _, (.int (Int32.ofInt v15)) :: [], (zMi c0 c1 c2 c3 c4 c5 c6 c7 c8 c9 c10 c11 c12 c13 0 f9 f10 f11 f12 f13 f15 f16 f17 y20_8 f21 y22_9 y23_10 f26 f28 f31 f32 f33 f38 f41 f44 x14 g15 g16 g17 g18 g19 g20 g21 g22 g23 g24 g25 g26 g27 g28 g29 g30 g31 g32 g33 g34 g35 g36 g37 g38 g39 g40 g41 g42 g43 g44 t), 0, 0))
  refine hR (k_eq (by omega) (fun hc17 => ?_) (fun hc17 => ?_))
  · skip
    refine hR (?_ : R (_, _, _, _, _, _))
    exact hR (zret_i rfl (Nat.le_refl _) trivial (h _ _ _ _ _ _ _ _ _ _ hb25 hb30))
  iterate 3 refine hR (?_ : R (_, _, _, _, _, _))
  refine hR (zcall_i 0 0 (Nat.le_of_ble_eq_true rfl) (Nat.le_of_ble_eq_true rfl) (m_everybody _ (by omega) _ fun v18 hp19 => ?_))
  refine (?_ : R (_, _, (.int (Int32.ofInt v18)) :: (.int (Int32.ofInt 0)) :: (.int (Int32.ofInt a5)) :: [], (zMi c0 c1 c2 c3 c4 c5 c6 c7 c8 c9 c10 c11 c12 c13 0 f9 f10 f11 f12 f13 f15 f16 f17 y20_8 f21 y22_9 y23_10 f26 f28 f31 f32 f33 f38 f41 f44 x14 g15 g16 g17 g18 g19 g20 g21 g22 g23 g24 g25 g26 g27 g28 g29 g30 g31 g32 g33 g34 g35 g36 g37 g38 g39 g40 g41 g42 g43 g44 t), 0, 0))
  refine hR (zcall_i 0 0 (Nat.le_of_ble_eq_true rfl) (Nat.le_of_ble_eq_true rfl) (m_in _ a5 0 v18 _ (by omega) (by omega) (by omega) _ fun v20 hp21 => ?_))
  refine (?_ : R (_, _, (.int (Int32.ofInt v20)) :: [], (zMi c0 c1 c2 c3 c4 c5 c6 c7 c8 c9 c10 c11 c12 c13 0 f9 f10 f11 f12 f13 f15 f16 f17 y20_8 f21 y22_9 y23_10 f26 f28 f31 f32 f33 f38 f41 f44 x14 g15 g16 g17 g18 g19 g20 g21 g22 g23 g24 g25 g26 g27 g28 g29 g30 g31 g32 g33 g34 g35 g36 g37 g38 g39 g40 g41 g42 g43 g44 t), 0, 0))
  refine hR (k_ne (by omega) (fun hc22 => ?_) (fun hc22 => ?_))
  rotate_left
  · skip
    refine hR (?_ : R (_, _, _, _, _, _))
    exact hR (zret_i rfl (Nat.le_refl _) trivial (h _ _ _ _ _ _ _ _ _ _ hb25 hb30))
  refine hR (?_ : R (_, _, _, _, _, _))
  refine hR (k_le (by omega) (fun hc23 => ?_) (fun hc23 => ?_))
  · skip
    iterate 2 refine hR (?_ : R (_, _, _, _, _, _))
    refine hR (j_le (by omega) (by omega) (fun hc24 => ?_) (fun hc24 => ?_))
    · skip
      refine hR (?_ : R (_, _, _, _, _, _))
      refine hR (zcall_i 0 0 (Nat.le_of_ble_eq_true rfl) (Nat.le_of_ble_eq_true rfl) (m_layMade _ hb25 hb30 hr3 (by omega) (by omega) _ fun y21_25 y26_26 k25_27 k30_28 hp29 hp30 => ?_))
      refine (?_ : R (_, _, [], (zMi c0 c1 c2 c3 c4 c5 c6 c7 c8 c9 c10 c11 c12 c13 0 f9 f10 f11 f12 f13 f15 f16 f17 y20_8 y21_25 y22_9 y23_10 y26_26 f28 f31 f32 f33 f38 f41 f44 x14 g15 g16 g17 g18 g19 g20 g21 g22 g23 g24 k25_27 g26 g27 g28 g29 k30_28 g31 g32 g33 g34 g35 g36 g37 g38 g39 g40 g41 g42 g43 g44 t), 0, 0))
      iterate 2 refine hR (?_ : R (_, _, _, _, _, _))
      have lp88 : ∀ (N : Nat) (i : Int) (q25_88 : Nat → Int32) (q35_88 : Nat → Int32), (0 ≤ i ∧ i ≤ 5461) → (zB 0 3 q25_88) → (5461 - i < N) → R (88, [some (.ref 14), some (.int (Int32.ofInt a1)), some (.int (Int32.ofInt a2)), some (.int (Int32.ofInt a3)), some (.int (Int32.ofInt a4)), some (.int (Int32.ofInt a5)), some (.int (Int32.ofInt a6)), some (.int (Int32.ofInt i)), none], [], (zMi c0 c1 c2 c3 c4 c5 c6 c7 c8 c9 c10 c11 c12 c13 0 f9 f10 f11 f12 f13 f15 f16 f17 y20_8 y21_25 y22_9 y23_10 y26_26 f28 f31 f32 f33 f38 f41 f44 x14 g15 g16 g17 g18 g19 g20 g21 g22 g23 g24 q25_88 g26 g27 g28 g29 k30_28 g31 g32 g33 g34 q35_88 g36 g37 g38 g39 g40 g41 g42 g43 g44 t), 0, 0) := by
        intro N
        induction N with
        | zero => intros; omega
        | succ N ih88 =>
          intro i q25_88 q35_88 hf0_88 hq25_88 hN88
          refine hR (?_ : R (_, _, _, _, _, _))
          refine hR (t_c 5461 (by decide) ?_)
          refine hR (j_ge (by omega) (by omega) (fun hc31 => ?_) (fun hc31 => ?_))
          rotate_left
          · skip
            iterate 6 refine hR (?_ : R (_, _, _, _, _, _))
            refine hR (zcall_i 0 0 (Nat.le_of_ble_eq_true rfl) (Nat.le_of_ble_eq_true rfl) (m_wordsIn _ i a3 hq25_88 (by omega) (by omega) _ fun v46 k25_47 hp48 => ?_))
            refine (?_ : R (_, _, (.int (Int32.ofInt v46)) :: (.int (Int32.ofInt i)) :: (.ref 35) :: [], (zMi c0 c1 c2 c3 c4 c5 c6 c7 c8 c9 c10 c11 c12 c13 0 f9 f10 f11 f12 f13 f15 f16 f17 y20_8 y21_25 y22_9 y23_10 y26_26 f28 f31 f32 f33 f38 f41 f44 x14 g15 g16 g17 g18 g19 g20 g21 g22 g23 g24 k25_47 g26 g27 g28 g29 k30_28 g31 g32 g33 g34 q35_88 g36 g37 g38 g39 g40 g41 g42 g43 g44 t), 0, 0))
            refine hR (t_stx (by omega) (by omega) (Nat.le_of_ble_eq_true rfl) fun k35_49 => (?_ : R (_, _, _, (zMi c0 c1 c2 c3 c4 c5 c6 c7 c8 c9 c10 c11 c12 c13 0 f9 f10 f11 f12 f13 f15 f16 f17 y20_8 y21_25 y22_9 y23_10 y26_26 f28 f31 f32 f33 f38 f41 f44 x14 g15 g16 g17 g18 g19 g20 g21 g22 g23 g24 k25_47 g26 g27 g28 g29 k30_28 g31 g32 g33 g34 k35_49 g36 g37 g38 g39 g40 g41 g42 g43 g44 t), _, _)))
            refine hR (t_inc ?_)
            refine hR (?_ : R (_, _, _, _, _, _))
            exact ih88 _ _ _ (by omega) hp48 (by omega)
          iterate 2 refine hR (?_ : R (_, _, _, _, _, _))
          have lp119 : ∀ (N : Nat) (k : Int) (o8_119 : Option Value) (q35_119 : Nat → Int32), (zc2 o8_119 = false) → (1 ≤ k ∧ k ≤ a2 + 1) → (a2 + 1 - k < N) → R (119, [some (.ref 14), some (.int (Int32.ofInt a1)), some (.int (Int32.ofInt a2)), some (.int (Int32.ofInt a3)), some (.int (Int32.ofInt a4)), some (.int (Int32.ofInt a5)), some (.int (Int32.ofInt a6)), some (.int (Int32.ofInt k)), o8_119], [], (zMi c0 c1 c2 c3 c4 c5 c6 c7 c8 c9 c10 c11 c12 c13 0 f9 f10 f11 f12 f13 f15 f16 f17 y20_8 y21_25 y22_9 y23_10 y26_26 f28 f31 f32 f33 f38 f41 f44 x14 g15 g16 g17 g18 g19 g20 g21 g22 g23 g24 q25_88 g26 g27 g28 g29 k30_28 g31 g32 g33 g34 q35_119 g36 g37 g38 g39 g40 g41 g42 g43 g44 t), 0, 0) := by
            intro N
            induction N with
            | zero => intros; omega
            | succ N ih119 =>
              intro k o8_119 q35_119 hzo8_119 hf0_119 hN119
              iterate 2 refine hR (?_ : R (_, _, _, _, _, _))
              refine hR (j_gt (by omega) (by omega) (fun hc32 => ?_) (fun hc32 => ?_))
              rotate_left
              · skip
                iterate 2 refine hR (?_ : R (_, _, _, _, _, _))
                refine hR (t_sub ?_)
                refine hR (?_ : R (_, _, _, _, _, _))
                refine hR (t_rem (by omega) (by omega) (by omega) (by omega) ?_)
                refine hR (k_ne (by omega) (fun hc43 => ?_) (fun hc43 => ?_))
                · skip
                  iterate 5 refine hR (?_ : R (_, _, _, _, _, _))
                  refine hR (k_eq (by omega) (fun _ => ?_) (fun hc => by omega))
                  iterate 2 refine hR (?_ : R (_, _, _, _, _, _))
                  refine hR (zcall_i 0 0 (Nat.le_of_ble_eq_true rfl) (Nat.le_of_ble_eq_true rfl) (m_best _ k a5 0 hp30 (by omega) (by omega) (by omega) _ fun k35_44 => ?_))
                  refine (?_ : R (_, _, [], (zMi c0 c1 c2 c3 c4 c5 c6 c7 c8 c9 c10 c11 c12 c13 0 f9 f10 f11 f12 f13 f15 f16 f17 y20_8 y21_25 y22_9 y23_10 y26_26 f28 f31 f32 f33 f38 f41 f44 x14 g15 g16 g17 g18 g19 g20 g21 g22 g23 g24 q25_88 g26 g27 g28 g29 k30_28 g31 g32 g33 g34 k35_44 g36 g37 g38 g39 g40 g41 g42 g43 g44 t), 0, 0))
                  refine hR (t_inc ?_)
                  refine hR (?_ : R (_, _, _, _, _, _))
                  exact ih119 _ _ _ (by rfl) (by omega) (by omega)
                iterate 6 refine hR (?_ : R (_, _, _, _, _, _))
                refine hR (k_eq (by omega) (fun hc => by omega) (fun _ => ?_))
                iterate 3 refine hR (?_ : R (_, _, _, _, _, _))
                refine hR (zcall_i 0 0 (Nat.le_of_ble_eq_true rfl) (Nat.le_of_ble_eq_true rfl) (m_best _ k a4 1 hp30 (by omega) (by omega) (by omega) _ fun k35_45 => ?_))
                refine (?_ : R (_, _, [], (zMi c0 c1 c2 c3 c4 c5 c6 c7 c8 c9 c10 c11 c12 c13 0 f9 f10 f11 f12 f13 f15 f16 f17 y20_8 y21_25 y22_9 y23_10 y26_26 f28 f31 f32 f33 f38 f41 f44 x14 g15 g16 g17 g18 g19 g20 g21 g22 g23 g24 q25_88 g26 g27 g28 g29 k30_28 g31 g32 g33 g34 k35_45 g36 g37 g38 g39 g40 g41 g42 g43 g44 t), 0, 0))
                refine hR (t_inc ?_)
                refine hR (?_ : R (_, _, _, _, _, _))
                exact ih119 _ _ _ (by rfl) (by omega) (by omega)
              refine hR (?_ : R (_, _, _, _, _, _))
              refine hR (k_ne (by omega) (fun hc33 => ?_) (fun hc33 => ?_))
              rotate_left
              · skip
                iterate 2 refine hR (?_ : R (_, _, _, _, _, _))
                refine hR (t_c 5461 (by decide) ?_)
                refine hR (?_ : R (_, _, _, _, _, _))
                refine hR (t_mul ?_)
                iterate 2 refine hR (?_ : R (_, _, _, _, _, _))
                refine hR (t_add ?_)
                refine hR (t_ldo (by omega) (by omega) (Nat.le_of_ble_eq_true rfl) fun v42 rv42 => ?_)
                exact hR (zret_i rfl (Nat.le_refl _) trivial (h _ _ _ _ _ _ _ _ _ _ hq25_88 hp30))
              iterate 2 refine hR (?_ : R (_, _, _, _, _, _))
              have lp191 : ∀ (N : Nat) (r : Int), (0 ≤ r ∧ r ≤ 5) → (r ≤ y23_10) → (5 - r < N) → R (191, [some (.ref 14), some (.int (Int32.ofInt a1)), some (.int (Int32.ofInt a2)), some (.int (Int32.ofInt a3)), some (.int (Int32.ofInt a4)), some (.int (Int32.ofInt a5)), some (.int (Int32.ofInt a6)), some (.int (Int32.ofInt r)), o8_119], [], (zMi c0 c1 c2 c3 c4 c5 c6 c7 c8 c9 c10 c11 c12 c13 0 f9 f10 f11 f12 f13 f15 f16 f17 y20_8 y21_25 y22_9 y23_10 y26_26 f28 f31 f32 f33 f38 f41 f44 x14 g15 g16 g17 g18 g19 g20 g21 g22 g23 g24 q25_88 g26 g27 g28 g29 k30_28 g31 g32 g33 g34 q35_119 g36 g37 g38 g39 g40 g41 g42 g43 g44 t), 0, 0) := by
                intro N
                induction N with
                | zero => intros; omega
                | succ N ih191 =>
                  intro r hf0_191 hp0_191 hN191
                  iterate 3 refine hR (?_ : R (_, _, _, _, _, _))
                  refine hR (j_ge (by omega) (by omega) (fun hc34 => ?_) (fun hc34 => ?_))
                  · skip
                    refine hR (?_ : R (_, _, _, _, _, _))
                    exact hR (zret_i rfl (Nat.le_refl _) trivial (h _ _ _ _ _ _ _ _ _ _ hq25_88 hp30))
                  refine hR (?_ : R (_, _, _, _, _, _))
                  refine hR (k_le (by omega) (fun hc35 => ?_) (fun hc35 => ?_))
                  · skip
                    refine hR (?_ : R (_, _, _, _, _, _))
                    exact hR (zret_i rfl (Nat.le_refl _) trivial (h _ _ _ _ _ _ _ _ _ _ hq25_88 hp30))
                  iterate 2 refine hR (?_ : R (_, _, _, _, _, _))
                  refine hR (zcall_i 0 0 (Nat.le_of_ble_eq_true rfl) (Nat.le_of_ble_eq_true rfl) (m_has _ a4 r _ _ fun v36 hp37 => ?_))
                  refine (?_ : R (_, _, (.int (Int32.ofInt v36)) :: [], (zMi c0 c1 c2 c3 c4 c5 c6 c7 c8 c9 c10 c11 c12 c13 0 f9 f10 f11 f12 f13 f15 f16 f17 y20_8 y21_25 y22_9 y23_10 y26_26 f28 f31 f32 f33 f38 f41 f44 x14 g15 g16 g17 g18 g19 g20 g21 g22 g23 g24 q25_88 g26 g27 g28 g29 k30_28 g31 g32 g33 g34 q35_119 g36 g37 g38 g39 g40 g41 g42 g43 g44 t), 0, 0))
                  refine hR (k_eq (by omega) (fun hc38 => ?_) (fun hc38 => ?_))
                  · skip
                    refine hR (t_inc ?_)
                    refine hR (?_ : R (_, _, _, _, _, _))
                    exact ih191 _ (by omega) (by omega) (by omega)
                  iterate 2 refine hR (?_ : R (_, _, _, _, _, _))
                  refine hR (t_c 5461 (by decide) ?_)
                  iterate 2 refine hR (?_ : R (_, _, _, _, _, _))
                  refine hR (t_sub ?_)
                  refine hR (t_mul ?_)
                  iterate 2 refine hR (?_ : R (_, _, _, _, _, _))
                  refine hR (t_c 5461 (by decide) ?_)
                  refine hR (?_ : R (_, _, _, _, _, _))
                  refine hR (t_mul ?_)
                  iterate 2 refine hR (?_ : R (_, _, _, _, _, _))
                  refine hR (t_add ?_)
                  refine hR (t_ldB hp30 (by omega) (by omega) (Nat.le_of_ble_eq_true rfl) fun v39 ev39 lv39 uv39 => ?_)
                  clear ev39
                  refine hR (t_add ?_)
                  refine hR (t_ldo (by omega) (by omega) (Nat.le_of_ble_eq_true rfl) fun v40 rv40 => ?_)
                  iterate 2 refine hR (?_ : R (_, _, _, _, _, _))
                  refine hR (t_c 5461 (by decide) ?_)
                  refine hR (?_ : R (_, _, _, _, _, _))
                  refine hR (t_mul ?_)
                  iterate 2 refine hR (?_ : R (_, _, _, _, _, _))
                  refine hR (t_add ?_)
                  refine hR (t_ldo (by omega) (by omega) (Nat.le_of_ble_eq_true rfl) fun v41 rv41 => ?_)
                  refine hR (j_any ?_ ?_)
                  rotate_left
                  · skip
                    refine hR (?_ : R (_, _, _, _, _, _))
                    exact hR (zret_i rfl (Nat.le_refl _) trivial (h _ _ _ _ _ _ _ _ _ _ hq25_88 hp30))
                  refine hR (t_inc ?_)
                  refine hR (?_ : R (_, _, _, _, _, _))
                  exact ih191 _ (by omega) (by omega) (by omega)
              exact lp191 400000000 _ (by omega) (by omega) (by omega)
          exact lp119 400000000 _ _ _ (by rfl) (by omega) (by omega)
      exact lp88 400000000 _ _ _ (by omega) hp29 (by omega)
    refine hR (?_ : R (_, _, _, _, _, _))
    refine hR (k_ne (by omega) (fun hc50 => ?_) (fun hc50 => ?_))
    rotate_left
    · skip
      refine hR (?_ : R (_, _, _, _, _, _))
      exact hR (zret_i rfl (Nat.le_refl _) trivial (h _ _ _ _ _ _ _ _ _ _ hb25 hb30))
    refine hR (?_ : R (_, _, _, _, _, _))
    refine hR (zcall_i 0 0 (Nat.le_of_ble_eq_true rfl) (Nat.le_of_ble_eq_true rfl) (m_layMade _ hb25 hb30 hr3 (by omega) (by omega) _ fun y21_51 y26_52 k25_53 k30_54 hp55 hp56 => ?_))
    refine (?_ : R (_, _, [], (zMi c0 c1 c2 c3 c4 c5 c6 c7 c8 c9 c10 c11 c12 c13 0 f9 f10 f11 f12 f13 f15 f16 f17 y20_8 y21_51 y22_9 y23_10 y26_52 f28 f31 f32 f33 f38 f41 f44 x14 g15 g16 g17 g18 g19 g20 g21 g22 g23 g24 k25_53 g26 g27 g28 g29 k30_54 g31 g32 g33 g34 g35 g36 g37 g38 g39 g40 g41 g42 g43 g44 t), 0, 0))
    iterate 2 refine hR (?_ : R (_, _, _, _, _, _))
    have lp88 : ∀ (N : Nat) (i : Int) (q25_88 : Nat → Int32) (q35_88 : Nat → Int32), (0 ≤ i ∧ i ≤ 5461) → (zB 0 3 q25_88) → (5461 - i < N) → R (88, [some (.ref 14), some (.int (Int32.ofInt a1)), some (.int (Int32.ofInt a2)), some (.int (Int32.ofInt a3)), some (.int (Int32.ofInt a4)), some (.int (Int32.ofInt a5)), some (.int (Int32.ofInt a6)), some (.int (Int32.ofInt i)), none], [], (zMi c0 c1 c2 c3 c4 c5 c6 c7 c8 c9 c10 c11 c12 c13 0 f9 f10 f11 f12 f13 f15 f16 f17 y20_8 y21_51 y22_9 y23_10 y26_52 f28 f31 f32 f33 f38 f41 f44 x14 g15 g16 g17 g18 g19 g20 g21 g22 g23 g24 q25_88 g26 g27 g28 g29 k30_54 g31 g32 g33 g34 q35_88 g36 g37 g38 g39 g40 g41 g42 g43 g44 t), 0, 0) := by
      intro N
      induction N with
      | zero => intros; omega
      | succ N ih88 =>
        intro i q25_88 q35_88 hf0_88 hq25_88 hN88
        refine hR (?_ : R (_, _, _, _, _, _))
        refine hR (t_c 5461 (by decide) ?_)
        refine hR (j_ge (by omega) (by omega) (fun hc57 => ?_) (fun hc57 => ?_))
        rotate_left
        · skip
          iterate 6 refine hR (?_ : R (_, _, _, _, _, _))
          refine hR (zcall_i 0 0 (Nat.le_of_ble_eq_true rfl) (Nat.le_of_ble_eq_true rfl) (m_wordsIn _ i a3 hq25_88 (by omega) (by omega) _ fun v72 k25_73 hp74 => ?_))
          refine (?_ : R (_, _, (.int (Int32.ofInt v72)) :: (.int (Int32.ofInt i)) :: (.ref 35) :: [], (zMi c0 c1 c2 c3 c4 c5 c6 c7 c8 c9 c10 c11 c12 c13 0 f9 f10 f11 f12 f13 f15 f16 f17 y20_8 y21_51 y22_9 y23_10 y26_52 f28 f31 f32 f33 f38 f41 f44 x14 g15 g16 g17 g18 g19 g20 g21 g22 g23 g24 k25_73 g26 g27 g28 g29 k30_54 g31 g32 g33 g34 q35_88 g36 g37 g38 g39 g40 g41 g42 g43 g44 t), 0, 0))
          refine hR (t_stx (by omega) (by omega) (Nat.le_of_ble_eq_true rfl) fun k35_75 => (?_ : R (_, _, _, (zMi c0 c1 c2 c3 c4 c5 c6 c7 c8 c9 c10 c11 c12 c13 0 f9 f10 f11 f12 f13 f15 f16 f17 y20_8 y21_51 y22_9 y23_10 y26_52 f28 f31 f32 f33 f38 f41 f44 x14 g15 g16 g17 g18 g19 g20 g21 g22 g23 g24 k25_73 g26 g27 g28 g29 k30_54 g31 g32 g33 g34 k35_75 g36 g37 g38 g39 g40 g41 g42 g43 g44 t), _, _)))
          refine hR (t_inc ?_)
          refine hR (?_ : R (_, _, _, _, _, _))
          exact ih88 _ _ _ (by omega) hp74 (by omega)
        iterate 2 refine hR (?_ : R (_, _, _, _, _, _))
        have lp119 : ∀ (N : Nat) (k : Int) (o8_119 : Option Value) (q35_119 : Nat → Int32), (zc2 o8_119 = false) → (1 ≤ k ∧ k ≤ a2 + 1) → (a2 + 1 - k < N) → R (119, [some (.ref 14), some (.int (Int32.ofInt a1)), some (.int (Int32.ofInt a2)), some (.int (Int32.ofInt a3)), some (.int (Int32.ofInt a4)), some (.int (Int32.ofInt a5)), some (.int (Int32.ofInt a6)), some (.int (Int32.ofInt k)), o8_119], [], (zMi c0 c1 c2 c3 c4 c5 c6 c7 c8 c9 c10 c11 c12 c13 0 f9 f10 f11 f12 f13 f15 f16 f17 y20_8 y21_51 y22_9 y23_10 y26_52 f28 f31 f32 f33 f38 f41 f44 x14 g15 g16 g17 g18 g19 g20 g21 g22 g23 g24 q25_88 g26 g27 g28 g29 k30_54 g31 g32 g33 g34 q35_119 g36 g37 g38 g39 g40 g41 g42 g43 g44 t), 0, 0) := by
          intro N
          induction N with
          | zero => intros; omega
          | succ N ih119 =>
            intro k o8_119 q35_119 hzo8_119 hf0_119 hN119
            iterate 2 refine hR (?_ : R (_, _, _, _, _, _))
            refine hR (j_gt (by omega) (by omega) (fun hc58 => ?_) (fun hc58 => ?_))
            rotate_left
            · skip
              iterate 2 refine hR (?_ : R (_, _, _, _, _, _))
              refine hR (t_sub ?_)
              refine hR (?_ : R (_, _, _, _, _, _))
              refine hR (t_rem (by omega) (by omega) (by omega) (by omega) ?_)
              refine hR (k_ne (by omega) (fun hc69 => ?_) (fun hc69 => ?_))
              · skip
                iterate 5 refine hR (?_ : R (_, _, _, _, _, _))
                refine hR (k_eq (by omega) (fun _ => ?_) (fun hc => by omega))
                iterate 2 refine hR (?_ : R (_, _, _, _, _, _))
                refine hR (zcall_i 0 0 (Nat.le_of_ble_eq_true rfl) (Nat.le_of_ble_eq_true rfl) (m_best _ k a5 0 hp56 (by omega) (by omega) (by omega) _ fun k35_70 => ?_))
                refine (?_ : R (_, _, [], (zMi c0 c1 c2 c3 c4 c5 c6 c7 c8 c9 c10 c11 c12 c13 0 f9 f10 f11 f12 f13 f15 f16 f17 y20_8 y21_51 y22_9 y23_10 y26_52 f28 f31 f32 f33 f38 f41 f44 x14 g15 g16 g17 g18 g19 g20 g21 g22 g23 g24 q25_88 g26 g27 g28 g29 k30_54 g31 g32 g33 g34 k35_70 g36 g37 g38 g39 g40 g41 g42 g43 g44 t), 0, 0))
                refine hR (t_inc ?_)
                refine hR (?_ : R (_, _, _, _, _, _))
                exact ih119 _ _ _ (by rfl) (by omega) (by omega)
              iterate 6 refine hR (?_ : R (_, _, _, _, _, _))
              refine hR (k_eq (by omega) (fun hc => by omega) (fun _ => ?_))
              iterate 3 refine hR (?_ : R (_, _, _, _, _, _))
              refine hR (zcall_i 0 0 (Nat.le_of_ble_eq_true rfl) (Nat.le_of_ble_eq_true rfl) (m_best _ k a4 1 hp56 (by omega) (by omega) (by omega) _ fun k35_71 => ?_))
              refine (?_ : R (_, _, [], (zMi c0 c1 c2 c3 c4 c5 c6 c7 c8 c9 c10 c11 c12 c13 0 f9 f10 f11 f12 f13 f15 f16 f17 y20_8 y21_51 y22_9 y23_10 y26_52 f28 f31 f32 f33 f38 f41 f44 x14 g15 g16 g17 g18 g19 g20 g21 g22 g23 g24 q25_88 g26 g27 g28 g29 k30_54 g31 g32 g33 g34 k35_71 g36 g37 g38 g39 g40 g41 g42 g43 g44 t), 0, 0))
              refine hR (t_inc ?_)
              refine hR (?_ : R (_, _, _, _, _, _))
              exact ih119 _ _ _ (by rfl) (by omega) (by omega)
            refine hR (?_ : R (_, _, _, _, _, _))
            refine hR (k_ne (by omega) (fun hc59 => ?_) (fun hc59 => ?_))
            rotate_left
            · skip
              iterate 2 refine hR (?_ : R (_, _, _, _, _, _))
              refine hR (t_c 5461 (by decide) ?_)
              refine hR (?_ : R (_, _, _, _, _, _))
              refine hR (t_mul ?_)
              iterate 2 refine hR (?_ : R (_, _, _, _, _, _))
              refine hR (t_add ?_)
              refine hR (t_ldo (by omega) (by omega) (Nat.le_of_ble_eq_true rfl) fun v68 rv68 => ?_)
              exact hR (zret_i rfl (Nat.le_refl _) trivial (h _ _ _ _ _ _ _ _ _ _ hq25_88 hp56))
            iterate 2 refine hR (?_ : R (_, _, _, _, _, _))
            have lp191 : ∀ (N : Nat) (r : Int), (0 ≤ r ∧ r ≤ 5) → (r ≤ y23_10) → (5 - r < N) → R (191, [some (.ref 14), some (.int (Int32.ofInt a1)), some (.int (Int32.ofInt a2)), some (.int (Int32.ofInt a3)), some (.int (Int32.ofInt a4)), some (.int (Int32.ofInt a5)), some (.int (Int32.ofInt a6)), some (.int (Int32.ofInt r)), o8_119], [], (zMi c0 c1 c2 c3 c4 c5 c6 c7 c8 c9 c10 c11 c12 c13 0 f9 f10 f11 f12 f13 f15 f16 f17 y20_8 y21_51 y22_9 y23_10 y26_52 f28 f31 f32 f33 f38 f41 f44 x14 g15 g16 g17 g18 g19 g20 g21 g22 g23 g24 q25_88 g26 g27 g28 g29 k30_54 g31 g32 g33 g34 q35_119 g36 g37 g38 g39 g40 g41 g42 g43 g44 t), 0, 0) := by
              intro N
              induction N with
              | zero => intros; omega
              | succ N ih191 =>
                intro r hf0_191 hp0_191 hN191
                iterate 3 refine hR (?_ : R (_, _, _, _, _, _))
                refine hR (j_ge (by omega) (by omega) (fun hc60 => ?_) (fun hc60 => ?_))
                · skip
                  refine hR (?_ : R (_, _, _, _, _, _))
                  exact hR (zret_i rfl (Nat.le_refl _) trivial (h _ _ _ _ _ _ _ _ _ _ hq25_88 hp56))
                refine hR (?_ : R (_, _, _, _, _, _))
                refine hR (k_le (by omega) (fun hc61 => ?_) (fun hc61 => ?_))
                · skip
                  refine hR (?_ : R (_, _, _, _, _, _))
                  exact hR (zret_i rfl (Nat.le_refl _) trivial (h _ _ _ _ _ _ _ _ _ _ hq25_88 hp56))
                iterate 2 refine hR (?_ : R (_, _, _, _, _, _))
                refine hR (zcall_i 0 0 (Nat.le_of_ble_eq_true rfl) (Nat.le_of_ble_eq_true rfl) (m_has _ a4 r _ _ fun v62 hp63 => ?_))
                refine (?_ : R (_, _, (.int (Int32.ofInt v62)) :: [], (zMi c0 c1 c2 c3 c4 c5 c6 c7 c8 c9 c10 c11 c12 c13 0 f9 f10 f11 f12 f13 f15 f16 f17 y20_8 y21_51 y22_9 y23_10 y26_52 f28 f31 f32 f33 f38 f41 f44 x14 g15 g16 g17 g18 g19 g20 g21 g22 g23 g24 q25_88 g26 g27 g28 g29 k30_54 g31 g32 g33 g34 q35_119 g36 g37 g38 g39 g40 g41 g42 g43 g44 t), 0, 0))
                refine hR (k_eq (by omega) (fun hc64 => ?_) (fun hc64 => ?_))
                · skip
                  refine hR (t_inc ?_)
                  refine hR (?_ : R (_, _, _, _, _, _))
                  exact ih191 _ (by omega) (by omega) (by omega)
                iterate 2 refine hR (?_ : R (_, _, _, _, _, _))
                refine hR (t_c 5461 (by decide) ?_)
                iterate 2 refine hR (?_ : R (_, _, _, _, _, _))
                refine hR (t_sub ?_)
                refine hR (t_mul ?_)
                iterate 2 refine hR (?_ : R (_, _, _, _, _, _))
                refine hR (t_c 5461 (by decide) ?_)
                refine hR (?_ : R (_, _, _, _, _, _))
                refine hR (t_mul ?_)
                iterate 2 refine hR (?_ : R (_, _, _, _, _, _))
                refine hR (t_add ?_)
                refine hR (t_ldB hp56 (by omega) (by omega) (Nat.le_of_ble_eq_true rfl) fun v65 ev65 lv65 uv65 => ?_)
                clear ev65
                refine hR (t_add ?_)
                refine hR (t_ldo (by omega) (by omega) (Nat.le_of_ble_eq_true rfl) fun v66 rv66 => ?_)
                iterate 2 refine hR (?_ : R (_, _, _, _, _, _))
                refine hR (t_c 5461 (by decide) ?_)
                refine hR (?_ : R (_, _, _, _, _, _))
                refine hR (t_mul ?_)
                iterate 2 refine hR (?_ : R (_, _, _, _, _, _))
                refine hR (t_add ?_)
                refine hR (t_ldo (by omega) (by omega) (Nat.le_of_ble_eq_true rfl) fun v67 rv67 => ?_)
                refine hR (j_any ?_ ?_)
                rotate_left
                · skip
                  refine hR (?_ : R (_, _, _, _, _, _))
                  exact hR (zret_i rfl (Nat.le_refl _) trivial (h _ _ _ _ _ _ _ _ _ _ hq25_88 hp56))
                refine hR (t_inc ?_)
                refine hR (?_ : R (_, _, _, _, _, _))
                exact ih191 _ (by omega) (by omega) (by omega)
            exact lp191 400000000 _ (by omega) (by omega) (by omega)
        exact lp119 400000000 _ _ _ (by rfl) (by omega) (by omega)
    exact lp88 400000000 _ _ _ (by omega) hp55 (by omega)
  refine hR (?_ : R (_, _, _, _, _, _))
  refine hR (k_eq (by omega) (fun hc76 => ?_) (fun hc76 => ?_))
  · skip
    refine hR (?_ : R (_, _, _, _, _, _))
    exact hR (zret_i rfl (Nat.le_refl _) trivial (h _ _ _ _ _ _ _ _ _ _ hb25 hb30))
  iterate 2 refine hR (?_ : R (_, _, _, _, _, _))
  refine hR (j_le (by omega) (by omega) (fun hc77 => ?_) (fun hc77 => ?_))
  · skip
    refine hR (?_ : R (_, _, _, _, _, _))
    refine hR (zcall_i 0 0 (Nat.le_of_ble_eq_true rfl) (Nat.le_of_ble_eq_true rfl) (m_layMade _ hb25 hb30 hr3 (by omega) (by omega) _ fun y21_78 y26_79 k25_80 k30_81 hp82 hp83 => ?_))
    refine (?_ : R (_, _, [], (zMi c0 c1 c2 c3 c4 c5 c6 c7 c8 c9 c10 c11 c12 c13 0 f9 f10 f11 f12 f13 f15 f16 f17 y20_8 y21_78 y22_9 y23_10 y26_79 f28 f31 f32 f33 f38 f41 f44 x14 g15 g16 g17 g18 g19 g20 g21 g22 g23 g24 k25_80 g26 g27 g28 g29 k30_81 g31 g32 g33 g34 g35 g36 g37 g38 g39 g40 g41 g42 g43 g44 t), 0, 0))
    iterate 2 refine hR (?_ : R (_, _, _, _, _, _))
    have lp88 : ∀ (N : Nat) (i : Int) (q25_88 : Nat → Int32) (q35_88 : Nat → Int32), (0 ≤ i ∧ i ≤ 5461) → (zB 0 3 q25_88) → (5461 - i < N) → R (88, [some (.ref 14), some (.int (Int32.ofInt a1)), some (.int (Int32.ofInt a2)), some (.int (Int32.ofInt a3)), some (.int (Int32.ofInt a4)), some (.int (Int32.ofInt a5)), some (.int (Int32.ofInt a6)), some (.int (Int32.ofInt i)), none], [], (zMi c0 c1 c2 c3 c4 c5 c6 c7 c8 c9 c10 c11 c12 c13 0 f9 f10 f11 f12 f13 f15 f16 f17 y20_8 y21_78 y22_9 y23_10 y26_79 f28 f31 f32 f33 f38 f41 f44 x14 g15 g16 g17 g18 g19 g20 g21 g22 g23 g24 q25_88 g26 g27 g28 g29 k30_81 g31 g32 g33 g34 q35_88 g36 g37 g38 g39 g40 g41 g42 g43 g44 t), 0, 0) := by
      intro N
      induction N with
      | zero => intros; omega
      | succ N ih88 =>
        intro i q25_88 q35_88 hf0_88 hq25_88 hN88
        refine hR (?_ : R (_, _, _, _, _, _))
        refine hR (t_c 5461 (by decide) ?_)
        refine hR (j_ge (by omega) (by omega) (fun hc84 => ?_) (fun hc84 => ?_))
        rotate_left
        · skip
          iterate 6 refine hR (?_ : R (_, _, _, _, _, _))
          refine hR (zcall_i 0 0 (Nat.le_of_ble_eq_true rfl) (Nat.le_of_ble_eq_true rfl) (m_wordsIn _ i a3 hq25_88 (by omega) (by omega) _ fun v99 k25_100 hp101 => ?_))
          refine (?_ : R (_, _, (.int (Int32.ofInt v99)) :: (.int (Int32.ofInt i)) :: (.ref 35) :: [], (zMi c0 c1 c2 c3 c4 c5 c6 c7 c8 c9 c10 c11 c12 c13 0 f9 f10 f11 f12 f13 f15 f16 f17 y20_8 y21_78 y22_9 y23_10 y26_79 f28 f31 f32 f33 f38 f41 f44 x14 g15 g16 g17 g18 g19 g20 g21 g22 g23 g24 k25_100 g26 g27 g28 g29 k30_81 g31 g32 g33 g34 q35_88 g36 g37 g38 g39 g40 g41 g42 g43 g44 t), 0, 0))
          refine hR (t_stx (by omega) (by omega) (Nat.le_of_ble_eq_true rfl) fun k35_102 => (?_ : R (_, _, _, (zMi c0 c1 c2 c3 c4 c5 c6 c7 c8 c9 c10 c11 c12 c13 0 f9 f10 f11 f12 f13 f15 f16 f17 y20_8 y21_78 y22_9 y23_10 y26_79 f28 f31 f32 f33 f38 f41 f44 x14 g15 g16 g17 g18 g19 g20 g21 g22 g23 g24 k25_100 g26 g27 g28 g29 k30_81 g31 g32 g33 g34 k35_102 g36 g37 g38 g39 g40 g41 g42 g43 g44 t), _, _)))
          refine hR (t_inc ?_)
          refine hR (?_ : R (_, _, _, _, _, _))
          exact ih88 _ _ _ (by omega) hp101 (by omega)
        iterate 2 refine hR (?_ : R (_, _, _, _, _, _))
        have lp119 : ∀ (N : Nat) (k : Int) (o8_119 : Option Value) (q35_119 : Nat → Int32), (zc2 o8_119 = false) → (1 ≤ k ∧ k ≤ a2 + 1) → (a2 + 1 - k < N) → R (119, [some (.ref 14), some (.int (Int32.ofInt a1)), some (.int (Int32.ofInt a2)), some (.int (Int32.ofInt a3)), some (.int (Int32.ofInt a4)), some (.int (Int32.ofInt a5)), some (.int (Int32.ofInt a6)), some (.int (Int32.ofInt k)), o8_119], [], (zMi c0 c1 c2 c3 c4 c5 c6 c7 c8 c9 c10 c11 c12 c13 0 f9 f10 f11 f12 f13 f15 f16 f17 y20_8 y21_78 y22_9 y23_10 y26_79 f28 f31 f32 f33 f38 f41 f44 x14 g15 g16 g17 g18 g19 g20 g21 g22 g23 g24 q25_88 g26 g27 g28 g29 k30_81 g31 g32 g33 g34 q35_119 g36 g37 g38 g39 g40 g41 g42 g43 g44 t), 0, 0) := by
          intro N
          induction N with
          | zero => intros; omega
          | succ N ih119 =>
            intro k o8_119 q35_119 hzo8_119 hf0_119 hN119
            iterate 2 refine hR (?_ : R (_, _, _, _, _, _))
            refine hR (j_gt (by omega) (by omega) (fun hc85 => ?_) (fun hc85 => ?_))
            rotate_left
            · skip
              iterate 2 refine hR (?_ : R (_, _, _, _, _, _))
              refine hR (t_sub ?_)
              refine hR (?_ : R (_, _, _, _, _, _))
              refine hR (t_rem (by omega) (by omega) (by omega) (by omega) ?_)
              refine hR (k_ne (by omega) (fun hc96 => ?_) (fun hc96 => ?_))
              · skip
                iterate 5 refine hR (?_ : R (_, _, _, _, _, _))
                refine hR (k_eq (by omega) (fun _ => ?_) (fun hc => by omega))
                iterate 2 refine hR (?_ : R (_, _, _, _, _, _))
                refine hR (zcall_i 0 0 (Nat.le_of_ble_eq_true rfl) (Nat.le_of_ble_eq_true rfl) (m_best _ k a5 0 hp83 (by omega) (by omega) (by omega) _ fun k35_97 => ?_))
                refine (?_ : R (_, _, [], (zMi c0 c1 c2 c3 c4 c5 c6 c7 c8 c9 c10 c11 c12 c13 0 f9 f10 f11 f12 f13 f15 f16 f17 y20_8 y21_78 y22_9 y23_10 y26_79 f28 f31 f32 f33 f38 f41 f44 x14 g15 g16 g17 g18 g19 g20 g21 g22 g23 g24 q25_88 g26 g27 g28 g29 k30_81 g31 g32 g33 g34 k35_97 g36 g37 g38 g39 g40 g41 g42 g43 g44 t), 0, 0))
                refine hR (t_inc ?_)
                refine hR (?_ : R (_, _, _, _, _, _))
                exact ih119 _ _ _ (by rfl) (by omega) (by omega)
              iterate 6 refine hR (?_ : R (_, _, _, _, _, _))
              refine hR (k_eq (by omega) (fun hc => by omega) (fun _ => ?_))
              iterate 3 refine hR (?_ : R (_, _, _, _, _, _))
              refine hR (zcall_i 0 0 (Nat.le_of_ble_eq_true rfl) (Nat.le_of_ble_eq_true rfl) (m_best _ k a4 1 hp83 (by omega) (by omega) (by omega) _ fun k35_98 => ?_))
              refine (?_ : R (_, _, [], (zMi c0 c1 c2 c3 c4 c5 c6 c7 c8 c9 c10 c11 c12 c13 0 f9 f10 f11 f12 f13 f15 f16 f17 y20_8 y21_78 y22_9 y23_10 y26_79 f28 f31 f32 f33 f38 f41 f44 x14 g15 g16 g17 g18 g19 g20 g21 g22 g23 g24 q25_88 g26 g27 g28 g29 k30_81 g31 g32 g33 g34 k35_98 g36 g37 g38 g39 g40 g41 g42 g43 g44 t), 0, 0))
              refine hR (t_inc ?_)
              refine hR (?_ : R (_, _, _, _, _, _))
              exact ih119 _ _ _ (by rfl) (by omega) (by omega)
            refine hR (?_ : R (_, _, _, _, _, _))
            refine hR (k_ne (by omega) (fun hc86 => ?_) (fun hc86 => ?_))
            rotate_left
            · skip
              iterate 2 refine hR (?_ : R (_, _, _, _, _, _))
              refine hR (t_c 5461 (by decide) ?_)
              refine hR (?_ : R (_, _, _, _, _, _))
              refine hR (t_mul ?_)
              iterate 2 refine hR (?_ : R (_, _, _, _, _, _))
              refine hR (t_add ?_)
              refine hR (t_ldo (by omega) (by omega) (Nat.le_of_ble_eq_true rfl) fun v95 rv95 => ?_)
              exact hR (zret_i rfl (Nat.le_refl _) trivial (h _ _ _ _ _ _ _ _ _ _ hq25_88 hp83))
            iterate 2 refine hR (?_ : R (_, _, _, _, _, _))
            have lp191 : ∀ (N : Nat) (r : Int), (0 ≤ r ∧ r ≤ 5) → (r ≤ y23_10) → (5 - r < N) → R (191, [some (.ref 14), some (.int (Int32.ofInt a1)), some (.int (Int32.ofInt a2)), some (.int (Int32.ofInt a3)), some (.int (Int32.ofInt a4)), some (.int (Int32.ofInt a5)), some (.int (Int32.ofInt a6)), some (.int (Int32.ofInt r)), o8_119], [], (zMi c0 c1 c2 c3 c4 c5 c6 c7 c8 c9 c10 c11 c12 c13 0 f9 f10 f11 f12 f13 f15 f16 f17 y20_8 y21_78 y22_9 y23_10 y26_79 f28 f31 f32 f33 f38 f41 f44 x14 g15 g16 g17 g18 g19 g20 g21 g22 g23 g24 q25_88 g26 g27 g28 g29 k30_81 g31 g32 g33 g34 q35_119 g36 g37 g38 g39 g40 g41 g42 g43 g44 t), 0, 0) := by
              intro N
              induction N with
              | zero => intros; omega
              | succ N ih191 =>
                intro r hf0_191 hp0_191 hN191
                iterate 3 refine hR (?_ : R (_, _, _, _, _, _))
                refine hR (j_ge (by omega) (by omega) (fun hc87 => ?_) (fun hc87 => ?_))
                · skip
                  refine hR (?_ : R (_, _, _, _, _, _))
                  exact hR (zret_i rfl (Nat.le_refl _) trivial (h _ _ _ _ _ _ _ _ _ _ hq25_88 hp83))
                refine hR (?_ : R (_, _, _, _, _, _))
                refine hR (k_le (by omega) (fun hc88 => ?_) (fun hc88 => ?_))
                · skip
                  refine hR (?_ : R (_, _, _, _, _, _))
                  exact hR (zret_i rfl (Nat.le_refl _) trivial (h _ _ _ _ _ _ _ _ _ _ hq25_88 hp83))
                iterate 2 refine hR (?_ : R (_, _, _, _, _, _))
                refine hR (zcall_i 0 0 (Nat.le_of_ble_eq_true rfl) (Nat.le_of_ble_eq_true rfl) (m_has _ a4 r _ _ fun v89 hp90 => ?_))
                refine (?_ : R (_, _, (.int (Int32.ofInt v89)) :: [], (zMi c0 c1 c2 c3 c4 c5 c6 c7 c8 c9 c10 c11 c12 c13 0 f9 f10 f11 f12 f13 f15 f16 f17 y20_8 y21_78 y22_9 y23_10 y26_79 f28 f31 f32 f33 f38 f41 f44 x14 g15 g16 g17 g18 g19 g20 g21 g22 g23 g24 q25_88 g26 g27 g28 g29 k30_81 g31 g32 g33 g34 q35_119 g36 g37 g38 g39 g40 g41 g42 g43 g44 t), 0, 0))
                refine hR (k_eq (by omega) (fun hc91 => ?_) (fun hc91 => ?_))
                · skip
                  refine hR (t_inc ?_)
                  refine hR (?_ : R (_, _, _, _, _, _))
                  exact ih191 _ (by omega) (by omega) (by omega)
                iterate 2 refine hR (?_ : R (_, _, _, _, _, _))
                refine hR (t_c 5461 (by decide) ?_)
                iterate 2 refine hR (?_ : R (_, _, _, _, _, _))
                refine hR (t_sub ?_)
                refine hR (t_mul ?_)
                iterate 2 refine hR (?_ : R (_, _, _, _, _, _))
                refine hR (t_c 5461 (by decide) ?_)
                refine hR (?_ : R (_, _, _, _, _, _))
                refine hR (t_mul ?_)
                iterate 2 refine hR (?_ : R (_, _, _, _, _, _))
                refine hR (t_add ?_)
                refine hR (t_ldB hp83 (by omega) (by omega) (Nat.le_of_ble_eq_true rfl) fun v92 ev92 lv92 uv92 => ?_)
                clear ev92
                refine hR (t_add ?_)
                refine hR (t_ldo (by omega) (by omega) (Nat.le_of_ble_eq_true rfl) fun v93 rv93 => ?_)
                iterate 2 refine hR (?_ : R (_, _, _, _, _, _))
                refine hR (t_c 5461 (by decide) ?_)
                refine hR (?_ : R (_, _, _, _, _, _))
                refine hR (t_mul ?_)
                iterate 2 refine hR (?_ : R (_, _, _, _, _, _))
                refine hR (t_add ?_)
                refine hR (t_ldo (by omega) (by omega) (Nat.le_of_ble_eq_true rfl) fun v94 rv94 => ?_)
                refine hR (j_any ?_ ?_)
                rotate_left
                · skip
                  refine hR (?_ : R (_, _, _, _, _, _))
                  exact hR (zret_i rfl (Nat.le_refl _) trivial (h _ _ _ _ _ _ _ _ _ _ hq25_88 hp83))
                refine hR (t_inc ?_)
                refine hR (?_ : R (_, _, _, _, _, _))
                exact ih191 _ (by omega) (by omega) (by omega)
            exact lp191 400000000 _ (by omega) (by omega) (by omega)
        exact lp119 400000000 _ _ _ (by rfl) (by omega) (by omega)
    exact lp88 400000000 _ _ _ (by omega) hp82 (by omega)
  refine hR (?_ : R (_, _, _, _, _, _))
  refine hR (k_ne (by omega) (fun hc103 => ?_) (fun hc103 => ?_))
  rotate_left
  · skip
    refine hR (?_ : R (_, _, _, _, _, _))
    exact hR (zret_i rfl (Nat.le_refl _) trivial (h _ _ _ _ _ _ _ _ _ _ hb25 hb30))
  refine hR (?_ : R (_, _, _, _, _, _))
  refine hR (zcall_i 0 0 (Nat.le_of_ble_eq_true rfl) (Nat.le_of_ble_eq_true rfl) (m_layMade _ hb25 hb30 hr3 (by omega) (by omega) _ fun y21_104 y26_105 k25_106 k30_107 hp108 hp109 => ?_))
  refine (?_ : R (_, _, [], (zMi c0 c1 c2 c3 c4 c5 c6 c7 c8 c9 c10 c11 c12 c13 0 f9 f10 f11 f12 f13 f15 f16 f17 y20_8 y21_104 y22_9 y23_10 y26_105 f28 f31 f32 f33 f38 f41 f44 x14 g15 g16 g17 g18 g19 g20 g21 g22 g23 g24 k25_106 g26 g27 g28 g29 k30_107 g31 g32 g33 g34 g35 g36 g37 g38 g39 g40 g41 g42 g43 g44 t), 0, 0))
  iterate 2 refine hR (?_ : R (_, _, _, _, _, _))
  have lp88 : ∀ (N : Nat) (i : Int) (q25_88 : Nat → Int32) (q35_88 : Nat → Int32), (0 ≤ i ∧ i ≤ 5461) → (zB 0 3 q25_88) → (5461 - i < N) → R (88, [some (.ref 14), some (.int (Int32.ofInt a1)), some (.int (Int32.ofInt a2)), some (.int (Int32.ofInt a3)), some (.int (Int32.ofInt a4)), some (.int (Int32.ofInt a5)), some (.int (Int32.ofInt a6)), some (.int (Int32.ofInt i)), none], [], (zMi c0 c1 c2 c3 c4 c5 c6 c7 c8 c9 c10 c11 c12 c13 0 f9 f10 f11 f12 f13 f15 f16 f17 y20_8 y21_104 y22_9 y23_10 y26_105 f28 f31 f32 f33 f38 f41 f44 x14 g15 g16 g17 g18 g19 g20 g21 g22 g23 g24 q25_88 g26 g27 g28 g29 k30_107 g31 g32 g33 g34 q35_88 g36 g37 g38 g39 g40 g41 g42 g43 g44 t), 0, 0) := by
    intro N
    induction N with
    | zero => intros; omega
    | succ N ih88 =>
      intro i q25_88 q35_88 hf0_88 hq25_88 hN88
      refine hR (?_ : R (_, _, _, _, _, _))
      refine hR (t_c 5461 (by decide) ?_)
      refine hR (j_ge (by omega) (by omega) (fun hc110 => ?_) (fun hc110 => ?_))
      rotate_left
      · skip
        iterate 6 refine hR (?_ : R (_, _, _, _, _, _))
        refine hR (zcall_i 0 0 (Nat.le_of_ble_eq_true rfl) (Nat.le_of_ble_eq_true rfl) (m_wordsIn _ i a3 hq25_88 (by omega) (by omega) _ fun v125 k25_126 hp127 => ?_))
        refine (?_ : R (_, _, (.int (Int32.ofInt v125)) :: (.int (Int32.ofInt i)) :: (.ref 35) :: [], (zMi c0 c1 c2 c3 c4 c5 c6 c7 c8 c9 c10 c11 c12 c13 0 f9 f10 f11 f12 f13 f15 f16 f17 y20_8 y21_104 y22_9 y23_10 y26_105 f28 f31 f32 f33 f38 f41 f44 x14 g15 g16 g17 g18 g19 g20 g21 g22 g23 g24 k25_126 g26 g27 g28 g29 k30_107 g31 g32 g33 g34 q35_88 g36 g37 g38 g39 g40 g41 g42 g43 g44 t), 0, 0))
        refine hR (t_stx (by omega) (by omega) (Nat.le_of_ble_eq_true rfl) fun k35_128 => (?_ : R (_, _, _, (zMi c0 c1 c2 c3 c4 c5 c6 c7 c8 c9 c10 c11 c12 c13 0 f9 f10 f11 f12 f13 f15 f16 f17 y20_8 y21_104 y22_9 y23_10 y26_105 f28 f31 f32 f33 f38 f41 f44 x14 g15 g16 g17 g18 g19 g20 g21 g22 g23 g24 k25_126 g26 g27 g28 g29 k30_107 g31 g32 g33 g34 k35_128 g36 g37 g38 g39 g40 g41 g42 g43 g44 t), _, _)))
        refine hR (t_inc ?_)
        refine hR (?_ : R (_, _, _, _, _, _))
        exact ih88 _ _ _ (by omega) hp127 (by omega)
      iterate 2 refine hR (?_ : R (_, _, _, _, _, _))
      have lp119 : ∀ (N : Nat) (k : Int) (o8_119 : Option Value) (q35_119 : Nat → Int32), (zc2 o8_119 = false) → (1 ≤ k ∧ k ≤ a2 + 1) → (a2 + 1 - k < N) → R (119, [some (.ref 14), some (.int (Int32.ofInt a1)), some (.int (Int32.ofInt a2)), some (.int (Int32.ofInt a3)), some (.int (Int32.ofInt a4)), some (.int (Int32.ofInt a5)), some (.int (Int32.ofInt a6)), some (.int (Int32.ofInt k)), o8_119], [], (zMi c0 c1 c2 c3 c4 c5 c6 c7 c8 c9 c10 c11 c12 c13 0 f9 f10 f11 f12 f13 f15 f16 f17 y20_8 y21_104 y22_9 y23_10 y26_105 f28 f31 f32 f33 f38 f41 f44 x14 g15 g16 g17 g18 g19 g20 g21 g22 g23 g24 q25_88 g26 g27 g28 g29 k30_107 g31 g32 g33 g34 q35_119 g36 g37 g38 g39 g40 g41 g42 g43 g44 t), 0, 0) := by
        intro N
        induction N with
        | zero => intros; omega
        | succ N ih119 =>
          intro k o8_119 q35_119 hzo8_119 hf0_119 hN119
          iterate 2 refine hR (?_ : R (_, _, _, _, _, _))
          refine hR (j_gt (by omega) (by omega) (fun hc111 => ?_) (fun hc111 => ?_))
          rotate_left
          · skip
            iterate 2 refine hR (?_ : R (_, _, _, _, _, _))
            refine hR (t_sub ?_)
            refine hR (?_ : R (_, _, _, _, _, _))
            refine hR (t_rem (by omega) (by omega) (by omega) (by omega) ?_)
            refine hR (k_ne (by omega) (fun hc122 => ?_) (fun hc122 => ?_))
            · skip
              iterate 5 refine hR (?_ : R (_, _, _, _, _, _))
              refine hR (k_eq (by omega) (fun _ => ?_) (fun hc => by omega))
              iterate 2 refine hR (?_ : R (_, _, _, _, _, _))
              refine hR (zcall_i 0 0 (Nat.le_of_ble_eq_true rfl) (Nat.le_of_ble_eq_true rfl) (m_best _ k a5 0 hp109 (by omega) (by omega) (by omega) _ fun k35_123 => ?_))
              refine (?_ : R (_, _, [], (zMi c0 c1 c2 c3 c4 c5 c6 c7 c8 c9 c10 c11 c12 c13 0 f9 f10 f11 f12 f13 f15 f16 f17 y20_8 y21_104 y22_9 y23_10 y26_105 f28 f31 f32 f33 f38 f41 f44 x14 g15 g16 g17 g18 g19 g20 g21 g22 g23 g24 q25_88 g26 g27 g28 g29 k30_107 g31 g32 g33 g34 k35_123 g36 g37 g38 g39 g40 g41 g42 g43 g44 t), 0, 0))
              refine hR (t_inc ?_)
              refine hR (?_ : R (_, _, _, _, _, _))
              exact ih119 _ _ _ (by rfl) (by omega) (by omega)
            iterate 6 refine hR (?_ : R (_, _, _, _, _, _))
            refine hR (k_eq (by omega) (fun hc => by omega) (fun _ => ?_))
            iterate 3 refine hR (?_ : R (_, _, _, _, _, _))
            refine hR (zcall_i 0 0 (Nat.le_of_ble_eq_true rfl) (Nat.le_of_ble_eq_true rfl) (m_best _ k a4 1 hp109 (by omega) (by omega) (by omega) _ fun k35_124 => ?_))
            refine (?_ : R (_, _, [], (zMi c0 c1 c2 c3 c4 c5 c6 c7 c8 c9 c10 c11 c12 c13 0 f9 f10 f11 f12 f13 f15 f16 f17 y20_8 y21_104 y22_9 y23_10 y26_105 f28 f31 f32 f33 f38 f41 f44 x14 g15 g16 g17 g18 g19 g20 g21 g22 g23 g24 q25_88 g26 g27 g28 g29 k30_107 g31 g32 g33 g34 k35_124 g36 g37 g38 g39 g40 g41 g42 g43 g44 t), 0, 0))
            refine hR (t_inc ?_)
            refine hR (?_ : R (_, _, _, _, _, _))
            exact ih119 _ _ _ (by rfl) (by omega) (by omega)
          refine hR (?_ : R (_, _, _, _, _, _))
          refine hR (k_ne (by omega) (fun hc112 => ?_) (fun hc112 => ?_))
          rotate_left
          · skip
            iterate 2 refine hR (?_ : R (_, _, _, _, _, _))
            refine hR (t_c 5461 (by decide) ?_)
            refine hR (?_ : R (_, _, _, _, _, _))
            refine hR (t_mul ?_)
            iterate 2 refine hR (?_ : R (_, _, _, _, _, _))
            refine hR (t_add ?_)
            refine hR (t_ldo (by omega) (by omega) (Nat.le_of_ble_eq_true rfl) fun v121 rv121 => ?_)
            exact hR (zret_i rfl (Nat.le_refl _) trivial (h _ _ _ _ _ _ _ _ _ _ hq25_88 hp109))
          iterate 2 refine hR (?_ : R (_, _, _, _, _, _))
          have lp191 : ∀ (N : Nat) (r : Int), (0 ≤ r ∧ r ≤ 5) → (r ≤ y23_10) → (5 - r < N) → R (191, [some (.ref 14), some (.int (Int32.ofInt a1)), some (.int (Int32.ofInt a2)), some (.int (Int32.ofInt a3)), some (.int (Int32.ofInt a4)), some (.int (Int32.ofInt a5)), some (.int (Int32.ofInt a6)), some (.int (Int32.ofInt r)), o8_119], [], (zMi c0 c1 c2 c3 c4 c5 c6 c7 c8 c9 c10 c11 c12 c13 0 f9 f10 f11 f12 f13 f15 f16 f17 y20_8 y21_104 y22_9 y23_10 y26_105 f28 f31 f32 f33 f38 f41 f44 x14 g15 g16 g17 g18 g19 g20 g21 g22 g23 g24 q25_88 g26 g27 g28 g29 k30_107 g31 g32 g33 g34 q35_119 g36 g37 g38 g39 g40 g41 g42 g43 g44 t), 0, 0) := by
            intro N
            induction N with
            | zero => intros; omega
            | succ N ih191 =>
              intro r hf0_191 hp0_191 hN191
              iterate 3 refine hR (?_ : R (_, _, _, _, _, _))
              refine hR (j_ge (by omega) (by omega) (fun hc113 => ?_) (fun hc113 => ?_))
              · skip
                refine hR (?_ : R (_, _, _, _, _, _))
                exact hR (zret_i rfl (Nat.le_refl _) trivial (h _ _ _ _ _ _ _ _ _ _ hq25_88 hp109))
              refine hR (?_ : R (_, _, _, _, _, _))
              refine hR (k_le (by omega) (fun hc114 => ?_) (fun hc114 => ?_))
              · skip
                refine hR (?_ : R (_, _, _, _, _, _))
                exact hR (zret_i rfl (Nat.le_refl _) trivial (h _ _ _ _ _ _ _ _ _ _ hq25_88 hp109))
              iterate 2 refine hR (?_ : R (_, _, _, _, _, _))
              refine hR (zcall_i 0 0 (Nat.le_of_ble_eq_true rfl) (Nat.le_of_ble_eq_true rfl) (m_has _ a4 r _ _ fun v115 hp116 => ?_))
              refine (?_ : R (_, _, (.int (Int32.ofInt v115)) :: [], (zMi c0 c1 c2 c3 c4 c5 c6 c7 c8 c9 c10 c11 c12 c13 0 f9 f10 f11 f12 f13 f15 f16 f17 y20_8 y21_104 y22_9 y23_10 y26_105 f28 f31 f32 f33 f38 f41 f44 x14 g15 g16 g17 g18 g19 g20 g21 g22 g23 g24 q25_88 g26 g27 g28 g29 k30_107 g31 g32 g33 g34 q35_119 g36 g37 g38 g39 g40 g41 g42 g43 g44 t), 0, 0))
              refine hR (k_eq (by omega) (fun hc117 => ?_) (fun hc117 => ?_))
              · skip
                refine hR (t_inc ?_)
                refine hR (?_ : R (_, _, _, _, _, _))
                exact ih191 _ (by omega) (by omega) (by omega)
              iterate 2 refine hR (?_ : R (_, _, _, _, _, _))
              refine hR (t_c 5461 (by decide) ?_)
              iterate 2 refine hR (?_ : R (_, _, _, _, _, _))
              refine hR (t_sub ?_)
              refine hR (t_mul ?_)
              iterate 2 refine hR (?_ : R (_, _, _, _, _, _))
              refine hR (t_c 5461 (by decide) ?_)
              refine hR (?_ : R (_, _, _, _, _, _))
              refine hR (t_mul ?_)
              iterate 2 refine hR (?_ : R (_, _, _, _, _, _))
              refine hR (t_add ?_)
              refine hR (t_ldB hp109 (by omega) (by omega) (Nat.le_of_ble_eq_true rfl) fun v118 ev118 lv118 uv118 => ?_)
              clear ev118
              refine hR (t_add ?_)
              refine hR (t_ldo (by omega) (by omega) (Nat.le_of_ble_eq_true rfl) fun v119 rv119 => ?_)
              iterate 2 refine hR (?_ : R (_, _, _, _, _, _))
              refine hR (t_c 5461 (by decide) ?_)
              refine hR (?_ : R (_, _, _, _, _, _))
              refine hR (t_mul ?_)
              iterate 2 refine hR (?_ : R (_, _, _, _, _, _))
              refine hR (t_add ?_)
              refine hR (t_ldo (by omega) (by omega) (Nat.le_of_ble_eq_true rfl) fun v120 rv120 => ?_)
              refine hR (j_any ?_ ?_)
              rotate_left
              · skip
                refine hR (?_ : R (_, _, _, _, _, _))
                exact hR (zret_i rfl (Nat.le_refl _) trivial (h _ _ _ _ _ _ _ _ _ _ hq25_88 hp109))
              refine hR (t_inc ?_)
              refine hR (?_ : R (_, _, _, _, _, _))
              exact ih191 _ (by omega) (by omega) (by omega)
          exact lp191 400000000 _ (by omega) (by omega) (by omega)
      exact lp119 400000000 _ _ _ (by rfl) (by omega) (by omega)
  exact lp88 400000000 _ _ _ (by omega) hp108 (by omega)
theorem m_unmade (d : Nat) (a1 a2 : Int) (hb19 : zB 0 2 g19) (hb25 : zB 0 3 g25) (hb30 : zB 0 5460 g30) (hr3 : bkOK g20) (hr4 : -2147483648 ≤ a1 ∧ a1 ≤ 2147483647) (hr5 : -2147483648 ≤ a2 ∧ a2 ≤ 2147483647) (Q : zQ) (h : ∀ (v : Int) (y0 : Int) (y20 : Int) (y21 : Int) (y22 : Int) (y23 : Int) (y26 : Int) (k25 : Nat → Int32) (k30 : Nat → Int32) (k34 : Nat → Int32), zB 0 3 k25 → zB 0 5460 k30 → Q (some (.int (Int32.ofInt v))) (zMi c0 c1 c2 c3 c4 c5 c6 c7 c8 c9 c10 c11 c12 c13 y0 f9 f10 f11 f12 f13 f15 f16 f17 y20 y21 y22 y23 y26 f28 f31 f32 f33 f38 f41 f44 x14 g15 g16 g17 g18 g19 g20 g21 g22 g23 g24 k25 g26 g27 g28 g29 k30 g31 g32 g33 k34 g35 g36 g37 g38 g39 g40 g41 g42 g43 g44 t)) : zCl zTab (d + 7) iX12_unmade [.ref 14, .int (Int32.ofInt a1), .int (Int32.ofInt a2)] (zMi c0 c1 c2 c3 c4 c5 c6 c7 c8 c9 c10 c11 c12 c13 f0 f9 f10 f11 f12 f13 f15 f16 f17 f20 f21 f22 f23 f26 f28 f31 f32 f33 f38 f41 f44 x14 g15 g16 g17 g18 g19 g20 g21 g22 g23 g24 g25 g26 g27 g28 g29 g30 g31 g32 g33 g34 g35 g36 g37 g38 g39 g40 g41 g42 g43 g44 t) 0 0 Q := by
  refine zCl_i (M := kX12_unmade) rfl (Nat.le_of_ble_eq_true rfl) fun R hR => ?_
  iterate 2 refine hR (?_ : R (_, _, _, _, _, _))
  refine hR (?_ : R (_, _, _, (zMi c0 c1 c2 c3 c4 c5 c6 c7 c8 c9 c10 c11 c12 c13 0 f9 f10 f11 f12 f13 f15 f16 f17 f20 f21 f22 f23 f26 f28 f31 f32 f33 f38 f41 f44 x14 g15 g16 g17 g18 g19 g20 g21 g22 g23 g24 g25 g26 g27 g28 g29 g30 g31 g32 g33 g34 g35 g36 g37 g38 g39 g40 g41 g42 g43 g44 t), _, _))
  iterate 2 refine hR (?_ : R (_, _, _, _, _, _))
  refine hR (zcall_i 0 0 (Nat.le_of_ble_eq_true rfl) (Nat.le_of_ble_eq_true rfl) (m_handAll _ a1 hb19 hb25 hb30 hr3 (by omega) _ fun v1 y20_2 y21_3 y22_4 y23_5 y26_6 k25_7 k30_8 hp9 hp10 hp11 => ?_))
  refine (?_ : R (_, _, (.int (Int32.ofInt v1)) :: [], (zMi c0 c1 c2 c3 c4 c5 c6 c7 c8 c9 c10 c11 c12 c13 0 f9 f10 f11 f12 f13 f15 f16 f17 y20_2 y21_3 y22_4 y23_5 y26_6 f28 f31 f32 f33 f38 f41 f44 x14 g15 g16 g17 g18 g19 g20 g21 g22 g23 g24 k25_7 g26 g27 g28 g29 k30_8 g31 g32 g33 g34 g35 g36 g37 g38 g39 g40 g41 g42 g43 g44 t), 0, 0))
  refine hR (k_ne (by omega) (fun hc12 => ?_) (fun hc12 => ?_))
  rotate_left
  · skip
    refine hR (t_c (-2) (by decide) ?_)
    exact hR (zret_i rfl (Nat.le_refl _) trivial (h _ _ _ _ _ _ _ _ _ _ hp9 hp10))
  iterate 2 refine hR (?_ : R (_, _, _, _, _, _))
  have lp18 : ∀ (N : Nat) (i : Int) (q34_18 : Nat → Int32), (0 ≤ i ∧ i ≤ 5461) → (5461 - i < N) → R (18, [some (.ref 14), some (.int (Int32.ofInt a1)), some (.int (Int32.ofInt a2)), some (.int (Int32.ofInt i)), none, none], [], (zMi c0 c1 c2 c3 c4 c5 c6 c7 c8 c9 c10 c11 c12 c13 0 f9 f10 f11 f12 f13 f15 f16 f17 y20_2 y21_3 y22_4 y23_5 y26_6 f28 f31 f32 f33 f38 f41 f44 x14 g15 g16 g17 g18 g19 g20 g21 g22 g23 g24 k25_7 g26 g27 g28 g29 k30_8 g31 g32 g33 q34_18 g35 g36 g37 g38 g39 g40 g41 g42 g43 g44 t), 0, 0) := by
    intro N
    induction N with
    | zero => intros; omega
    | succ N ih18 =>
      intro i q34_18 hf0_18 hN18
      refine hR (?_ : R (_, _, _, _, _, _))
      refine hR (t_c 5461 (by decide) ?_)
      refine hR (j_ge (by omega) (by omega) (fun hc13 => ?_) (fun hc13 => ?_))
      rotate_left
      · skip
        iterate 4 refine hR (?_ : R (_, _, _, _, _, _))
        refine hR (t_stx (by omega) (by omega) (Nat.le_of_ble_eq_true rfl) fun k34_23 => (?_ : R (_, _, _, (zMi c0 c1 c2 c3 c4 c5 c6 c7 c8 c9 c10 c11 c12 c13 0 f9 f10 f11 f12 f13 f15 f16 f17 y20_2 y21_3 y22_4 y23_5 y26_6 f28 f31 f32 f33 f38 f41 f44 x14 g15 g16 g17 g18 g19 g20 g21 g22 g23 g24 k25_7 g26 g27 g28 g29 k30_8 g31 g32 g33 k34_23 g35 g36 g37 g38 g39 g40 g41 g42 g43 g44 t), _, _)))
        refine hR (t_inc ?_)
        refine hR (?_ : R (_, _, _, _, _, _))
        exact ih18 _ _ (by omega) (by omega)
      iterate 2 refine hR (?_ : R (_, _, _, _, _, _))
      have lp40 : ∀ (N : Nat) (i : Int) (q34_40 : Nat → Int32), (0 ≤ i ∧ i ≤ 27305) → (27305 - i < N) → R (40, [some (.ref 14), some (.int (Int32.ofInt a1)), some (.int (Int32.ofInt a2)), some (.int (Int32.ofInt i)), none, none], [], (zMi c0 c1 c2 c3 c4 c5 c6 c7 c8 c9 c10 c11 c12 c13 0 f9 f10 f11 f12 f13 f15 f16 f17 y20_2 y21_3 y22_4 y23_5 y26_6 f28 f31 f32 f33 f38 f41 f44 x14 g15 g16 g17 g18 g19 g20 g21 g22 g23 g24 k25_7 g26 g27 g28 g29 k30_8 g31 g32 g33 q34_40 g35 g36 g37 g38 g39 g40 g41 g42 g43 g44 t), 0, 0) := by
        intro N
        induction N with
        | zero => intros; omega
        | succ N ih40 =>
          intro i q34_40 hf0_40 hN40
          refine hR (?_ : R (_, _, _, _, _, _))
          refine hR (t_c 5461 (by decide) ?_)
          iterate 2 refine hR (?_ : R (_, _, _, _, _, _))
          refine hR (t_mul ?_)
          refine hR (j_ge (by omega) (by omega) (fun hc14 => ?_) (fun hc14 => ?_))
          rotate_left
          · skip
            iterate 5 refine hR (?_ : R (_, _, _, _, _, _))
            refine hR (t_ldB hp10 (by omega) (by omega) (Nat.le_of_ble_eq_true rfl) fun v20 ev20 lv20 uv20 => ?_)
            clear ev20
            refine hR (?_ : R (_, _, _, _, _, _))
            refine hR (t_ldo (by omega) (by omega) (Nat.le_of_ble_eq_true rfl) fun v21 rv21 => ?_)
            refine hR (?_ : R (_, _, _, _, _, _))
            refine hR (t_add ?_)
            refine hR (t_stx (by omega) (by omega) (Nat.le_of_ble_eq_true rfl) fun k34_22 => (?_ : R (_, _, _, (zMi c0 c1 c2 c3 c4 c5 c6 c7 c8 c9 c10 c11 c12 c13 0 f9 f10 f11 f12 f13 f15 f16 f17 y20_2 y21_3 y22_4 y23_5 y26_6 f28 f31 f32 f33 f38 f41 f44 x14 g15 g16 g17 g18 g19 g20 g21 g22 g23 g24 k25_7 g26 g27 g28 g29 k30_8 g31 g32 g33 k34_22 g35 g36 g37 g38 g39 g40 g41 g42 g43 g44 t), _, _)))
            refine hR (t_inc ?_)
            refine hR (?_ : R (_, _, _, _, _, _))
            exact ih40 _ _ (by omega) (by omega)
          iterate 6 refine hR (?_ : R (_, _, _, _, _, _))
          have lp81 : ∀ (N : Nat) (mn : Int) (fi : Int) (i : Int), (0 ≤ i ∧ i ≤ 5461) → (5461 - i < N) → R (81, [some (.ref 14), some (.int (Int32.ofInt a1)), some (.int (Int32.ofInt a2)), some (.int (Int32.ofInt mn)), some (.int (Int32.ofInt fi)), some (.int (Int32.ofInt i))], [], (zMi c0 c1 c2 c3 c4 c5 c6 c7 c8 c9 c10 c11 c12 c13 0 f9 f10 f11 f12 f13 f15 f16 f17 y20_2 y21_3 y22_4 y23_5 y26_6 f28 f31 f32 f33 f38 f41 f44 x14 g15 g16 g17 g18 g19 g20 g21 g22 g23 g24 k25_7 g26 g27 g28 g29 k30_8 g31 g32 g33 q34_40 g35 g36 g37 g38 g39 g40 g41 g42 g43 g44 t), 0, 0) := by
            intro N
            induction N with
            | zero => intros; omega
            | succ N ih81 =>
              intro mn fi i hf0_81 hN81
              refine hR (?_ : R (_, _, _, _, _, _))
              refine hR (t_c 5461 (by decide) ?_)
              refine hR (j_ge (by omega) (by omega) (fun hc15 => ?_) (fun hc15 => ?_))
              · skip
                refine hR (?_ : R (_, _, _, _, _, _))
                refine hR (k_eq (by omega) (fun hc16 => ?_) (fun hc16 => ?_))
                · skip
                  refine hR (?_ : R (_, _, _, _, _, _))
                  exact hR (zret_i rfl (Nat.le_refl _) trivial (h _ _ _ _ _ _ _ _ _ _ hp9 hp10))
                iterate 2 refine hR (?_ : R (_, _, _, _, _, _))
                exact hR (zret_i rfl (Nat.le_refl _) trivial (h _ _ _ _ _ _ _ _ _ _ hp9 hp10))
              iterate 4 refine hR (?_ : R (_, _, _, _, _, _))
              refine hR (t_ldo (by omega) (by omega) (Nat.le_of_ble_eq_true rfl) fun v17 rv17 => ?_)
              refine hR (j_any ?_ ?_)
              · skip
                refine hR (?_ : R (_, _, _, _, _, _))
                refine hR (t_add ?_)
                iterate 4 refine hR (?_ : R (_, _, _, _, _, _))
                refine hR (t_ldo (by omega) (by omega) (Nat.le_of_ble_eq_true rfl) fun v18 rv18 => ?_)
                refine hR (j_any ?_ ?_)
                · skip
                  iterate 2 refine hR (?_ : R (_, _, _, _, _, _))
                  refine hR (t_inc ?_)
                  refine hR (?_ : R (_, _, _, _, _, _))
                  exact ih81 _ _ _ (by omega) (by omega)
                iterate 2 refine hR (?_ : R (_, _, _, _, _, _))
                refine hR (j_any ?_ ?_)
                · skip
                  iterate 2 refine hR (?_ : R (_, _, _, _, _, _))
                  refine hR (t_inc ?_)
                  refine hR (?_ : R (_, _, _, _, _, _))
                  exact ih81 _ _ _ (by omega) (by omega)
                iterate 3 refine hR (?_ : R (_, _, _, _, _, _))
                refine hR (t_inc ?_)
                refine hR (?_ : R (_, _, _, _, _, _))
                exact ih81 _ _ _ (by omega) (by omega)
              iterate 2 refine hR (?_ : R (_, _, _, _, _, _))
              refine hR (t_add ?_)
              iterate 4 refine hR (?_ : R (_, _, _, _, _, _))
              refine hR (t_ldo (by omega) (by omega) (Nat.le_of_ble_eq_true rfl) fun v19 rv19 => ?_)
              refine hR (j_any ?_ ?_)
              · skip
                iterate 2 refine hR (?_ : R (_, _, _, _, _, _))
                refine hR (t_inc ?_)
                refine hR (?_ : R (_, _, _, _, _, _))
                exact ih81 _ _ _ (by omega) (by omega)
              iterate 2 refine hR (?_ : R (_, _, _, _, _, _))
              refine hR (j_any ?_ ?_)
              · skip
                iterate 2 refine hR (?_ : R (_, _, _, _, _, _))
                refine hR (t_inc ?_)
                refine hR (?_ : R (_, _, _, _, _, _))
                exact ih81 _ _ _ (by omega) (by omega)
              iterate 3 refine hR (?_ : R (_, _, _, _, _, _))
              refine hR (t_inc ?_)
              refine hR (?_ : R (_, _, _, _, _, _))
              exact ih81 _ _ _ (by omega) (by omega)
          exact lp81 400000000 _ _ _ (by omega) (by omega)
      exact lp40 400000000 _ _ (by omega) (by omega)
  exact lp18 400000000 _ _ (by omega) (by omega)
end MZ
/-! COUNTING over the TEXTS. -/
noncomputable def cntF (p : Nat → Bool) : Nat → Nat
  | 0 => 0
  | n + 1 => cntF p n + (if p n = true then 1 else 0)
theorem cntF_le (p : Nat → Bool) : ∀ n, cntF p n ≤ n
  | 0 => Nat.le_refl _
  | n + 1 => by
    have := cntF_le p n
    unfold cntF
    split <;> omega
theorem cntF_lt (p : Nat → Bool) {t : Nat} (ht : p t = false) : ∀ n, t < n → cntF p n < n
  | 0, h => by omega
  | n + 1, h => by
    unfold cntF
    have h1 := cntF_le p n
    by_cases e : t = n
    · subst e; rw [ht]; simp only [Bool.false_eq_true, if_false]; omega
    · have := cntF_lt p ht n (by omega)
      split <;> omega
theorem cntF_cong {p p' : Nat → Bool} : ∀ n, (∀ s, s < n → p' s = p s) → cntF p' n = cntF p n
  | 0, _ => rfl
  | n + 1, h => by
    unfold cntF
    rw [cntF_cong n (fun s hs => h s (by omega)), h n (by omega)]
theorem cntF_up {p p' : Nat → Bool} {t : Nat} (h0 : p t = false) (h1 : p' t = true) (h : ∀ s, s ≠ t → p' s = p s) : ∀ n, t < n → cntF p' n = cntF p n + 1
  | 0, q => by omega
  | n + 1, q => by
    unfold cntF
    by_cases e : t = n
    · subst e
      rw [cntF_cong t (fun s hs => h s (by omega)), h0, h1]
      simp
    · rw [cntF_up h0 h1 h n (by omega), h n (fun z => e z.symm)]
      omega
theorem cntF_0 {p : Nat → Bool} : ∀ n, (∀ s, s < n → p s = false) → cntF p n = 0
  | 0, _ => rfl
  | n + 1, h => by
    unfold cntF
    rw [cntF_0 n (fun s hs => h s (by omega)), h n (by omega)]
    rfl
theorem cntF_pos (p : Nat → Bool) {t : Nat} (ht : p t = true) : ∀ n, t < n → 1 ≤ cntF p n
  | 0, h => by omega
  | n + 1, h => by
    unfold cntF
    by_cases e : t = n
    · subst e; rw [ht]; simp
    · have := cntF_pos p ht n (by omega)
      omega
/-- how many TEXTS have another value -/
noncomputable def cN (v : Int) (D : Nat → Int32) : Int := (cntF (fun t => decide ((D t).toInt ≠ v)) 5461 : Nat)
theorem cN_le (v : Int) (D : Nat → Int32) : 0 ≤ cN v D ∧ cN v D ≤ 5461 := by
  have := cntF_le (fun t => decide ((D t).toInt ≠ v)) 5461
  unfold cN; omega
theorem cN_lt {v : Int} {D : Nat → Int32} {t : Nat} (ht : t < 5461) (h : (D t).toInt = v) : cN v D < 5461 := by
  have := cntF_lt (fun t => decide ((D t).toInt ≠ v)) (t := t) (by simp [h]) 5461 ht
  unfold cN; omega
theorem cN_pos {v : Int} {D : Nat → Int32} {t : Nat} (ht : t < 5461) (h : (D t).toInt ≠ v) : 1 ≤ cN v D := by
  have := cntF_pos (fun t => decide ((D t).toInt ≠ v)) (t := t) (by simp [h]) 5461 ht
  unfold cN; omega
theorem cN_up {v : Int} {D : Nat → Int32} {t : Nat} {x : Int32} (ht : t < 5461) (h : (D t).toInt = v) (hx : x.toInt ≠ v) : cN v (upd D t x) = cN v D + 1 := by
  unfold cN
  rw [cntF_up (p := fun t => decide ((D t).toInt ≠ v)) (t := t) (by simp [h]) (by simp [upd, hx]) (fun s hs => by simp [upd, hs]) 5461 ht]
  omega
theorem cN_same {v : Int} {D : Nat → Int32} {t : Nat} {x : Int32} (h : (D t).toInt ≠ v) (hx : x.toInt ≠ v) : cN v (upd D t x) = cN v D := by
  unfold cN
  rw [cntF_cong (p := fun t => decide ((D t).toInt ≠ v)) 5461 (fun s _ => ?_)]
  by_cases e : s = t
  · subst e; simp [upd, hx, h]
  · simp [upd, e]
theorem cN_0 {v : Int} {D : Nat → Int32} (h : ∀ t, t < 5461 → (D t).toInt = v) : cN v D = 0 := by
  unfold cN
  rw [cntF_0 5461 (fun s hs => by simp [h s hs])]
  rfl
/-- how many of the first n are not above 0 -/
noncomputable def cP (D : Nat → Int32) (n : Nat) : Int := (cntF (fun t => decide ((D t).toInt ≤ 0)) n : Nat)
theorem cP_le (D : Nat → Int32) (n : Nat) : 0 ≤ cP D n ∧ cP D n ≤ n := by
  have := cntF_le (fun t => decide ((D t).toInt ≤ 0)) n
  unfold cP; omega
theorem cP_lt {D : Nat → Int32} {t : Nat} (ht : t < 5461) (h : 0 < (D t).toInt) : cP D 5461 < 5461 := by
  have := cntF_lt (fun t => decide ((D t).toInt ≤ 0)) (t := t) (by simp; omega) 5461 ht
  unfold cP; omega
theorem cP_s (D : Nat → Int32) (n : Nat) : cP D (n + 1) = cP D n + (if (D n).toInt ≤ 0 then 1 else 0) := by
  unfold cP
  conv => lhs; unfold cntF
  split
  · rename_i h; simp at h; rw [if_pos h]; omega
  · rename_i h; simp at h; rw [if_neg (by omega)]; omega
theorem cP_up {D : Nat → Int32} {t : Nat} {x : Int32} (ht : t < 5461) (h : 0 < (D t).toInt) (hx : x.toInt ≤ 0) : cP (upd D t x) 5461 = cP D 5461 + 1 := by
  unfold cP
  rw [cntF_up (p := fun t => decide ((D t).toInt ≤ 0)) (t := t) (by simp; omega) (by simp [upd, hx]) (fun s hs => by simp [upd, hs]) 5461 ht]
  omega
theorem cP_same {D : Nat → Int32} {t : Nat} {x : Int32} (n : Nat) (h : (D t).toInt ≤ 0 ↔ x.toInt ≤ 0) : cP (upd D t x) n = cP D n := by
  unfold cP
  rw [cntF_cong (p := fun t => decide ((D t).toInt ≤ 0)) n (fun s _ => ?_)]
  by_cases e : s = t
  · subst e; simp [upd, h]
  · simp [upd, e]
noncomputable def sumI (D : Nat → Int32) : Nat → Int
  | 0 => 0
  | n + 1 => sumI D n + (D n).toInt
theorem sumI_o (D : Nat → Int32) {t : Nat} {x : Int32} : ∀ n, n ≤ t → sumI (upd D t x) n = sumI D n
  | 0, _ => rfl
  | n + 1, h => by
    unfold sumI
    rw [sumI_o D n (by omega), pk_un (by omega)]
theorem sumI_u (D : Nat → Int32) {t : Nat} {x : Int32} : ∀ n, t < n → sumI (upd D t x) n = sumI D n - (D t).toInt + x.toInt
  | 0, h => by omega
  | n + 1, h => by
    unfold sumI
    by_cases e : t = n
    · subst e
      rw [sumI_o D t (Nat.le_refl _), pk_us]
      omega
    · rw [sumI_u D n (by omega), pk_un (fun z => e z.symm)]
      omega
theorem sumI_b (D : Nat → Int32) {lo hi : Int} : ∀ n, (∀ t, t < n → lo ≤ (D t).toInt ∧ (D t).toInt ≤ hi) → lo * n ≤ sumI D n ∧ sumI D n ≤ hi * n
  | 0, _ => by unfold sumI; omega
  | n + 1, h => by
    have h1 := sumI_b D n (fun t ht => h t (by omega))
    have h2 := h n (by omega)
    unfold sumI
    rw [Int.natCast_succ, Int.mul_add, Int.mul_add, Int.mul_one, Int.mul_one]
    omega
/-! values below a place -/
noncomputable def zNb (n : Nat) (lo hi : Int) (D : Nat → Int32) : Prop := ∀ t, t < n → lo ≤ (D t).toInt ∧ (D t).toInt ≤ hi
theorem zNb_u {n : Nat} {lo hi : Int} {D : Nat → Int32} (h : zNb n lo hi D) {t : Nat} {e : Int} (h1 : lo ≤ e) (h2 : e ≤ hi) (hl : -2147483648 ≤ lo) (hh : hi ≤ 2147483647) : zNb n lo hi (upd D t (Int32.ofInt e)) := by
  intro j hj
  unfold upd
  split
  · rw [zti (by omega) (by omega)]; exact ⟨h1, h2⟩
  · exact h j hj
theorem zNb_w {n : Nat} {lo hi lo' hi' : Int} {D : Nat → Int32} (h : zNb n lo hi D) (h1 : lo' ≤ lo) (h2 : hi ≤ hi') : zNb n lo' hi' D := by
  intro j hj
  have := h j hj
  omega
/-! how far -/
noncomputable def ffI (D O : Nat → Int32) (c : Int) : Prop := cN 1000000 D = c ∧ (∀ t, t < 5461 → (D t).toInt = 1000000 ∨ (0 ≤ (D t).toInt ∧ (D t).toInt ≤ c)) ∧ (∀ i : Nat, (i : Int) < c → (D (O i).toInt.toNat).toInt ≠ 1000000)
theorem ff_lt {D O : Nat → Int32} {c : Int} (h : ffI D O c) {t : Nat} (ht : t < 5461) (hD : (D t).toInt = 1000000) : c < 5461 := by
  rw [← h.1]; exact cN_lt ht hD
theorem ff_v {D O : Nat → Int32} {c v : Int} (h : ffI D O c) (hO : zB 0 5460 O) {k : Nat} (hk : (k : Int) < c) (hv : v = (D (O k).toInt.toNat).toInt) : 0 ≤ v ∧ v ≤ c := by
  have h1 := hO k
  have h2 := h.2.1 (O k).toInt.toNat (by omega)
  have h3 := h.2.2 k hk
  omega
theorem ff_s {D O : Nat → Int32} {c v t : Int} (h : ffI D O c) (ht0 : 0 ≤ t) (ht : t ≤ 5460) (hD : (D t.toNat).toInt = 1000000) (hc0 : 0 ≤ c) (hc : c < 5461) (hv0 : 0 ≤ v) (hv : v ≤ c) : ffI (upd D t.toNat (Int32.ofInt (v + 1))) (upd O c.toNat (Int32.ofInt t)) (c + 1) := by
  have e1 : (Int32.ofInt (v + 1)).toInt = v + 1 := zti (by omega) (by omega)
  have e2 : (Int32.ofInt t).toInt = t := zti (by omega) (by omega)
  refine ⟨?_, fun s hs => ?_, fun i hi => ?_⟩
  · rw [cN_up (by omega) hD (by omega), h.1]
  · by_cases e : s = t.toNat
    · subst e; rw [pk_us]; omega
    · rw [pk_un e]
      have := h.2.1 s hs
      omega
  · by_cases e : i = c.toNat
    · subst e; rw [pk_us, e2, pk_us]; omega
    · rw [pk_un e]
      by_cases e3 : (O i).toInt.toNat = t.toNat
      · rw [e3, pk_us]; omega
      · rw [pk_un e3]; exact h.2.2 i (by omega)
theorem ff_i {D : Nat → Int32} {i : Int} (h : ∀ j : Nat, (j : Int) < i → (D j).toInt = 1000000) (h0 : 0 ≤ i) : ∀ j : Nat, (j : Int) < i + 1 → (upd D i.toNat (Int32.ofInt 1000000) j).toInt = 1000000 := by
  intro j hj
  by_cases e : j = i.toNat
  · subst e; rw [pk_us]; rfl
  · rw [pk_un e]; exact h j (by omega)
theorem ff_1 {D O : Nat → Int32} {a i : Int} (hD : ∀ j : Nat, (j : Int) < i → (D j).toInt = 1000000) (hi : 5461 ≤ i) (h0 : 0 ≤ a) (h1 : a ≤ 5460) : ffI (upd D a.toNat (Int32.ofInt 0)) (upd O (0 : Int).toNat (Int32.ofInt a)) 1 := by
  have e2 : (Int32.ofInt a).toInt = a := zti (by omega) (by omega)
  have e0 : (Int32.ofInt 0).toInt = 0 := by decide
  refine ⟨?_, fun s hs => ?_, fun i hi => ?_⟩
  · rw [cN_up (by omega) (hD _ (by omega)) (by omega), cN_0 (fun t ht => hD t (by omega))]
    rfl
  · by_cases e : s = a.toNat
    · subst e; rw [pk_us]; omega
    · rw [pk_un e]
      have := hD s (by omega)
      omega
  · have e : i = (0 : Int).toNat := by show i = 0; omega
    subst e
    rw [pk_us, e2, pk_us]
    omega
