noncomputable def lvB (L : Nat → Int32) (j : Nat) : Prop := ∀ t : Nat, t < 5461 → 0 ≤ (L (5461 * j + t)).toInt ∧ (L (5461 * j + t)).toInt ≤ 12
noncomputable def lvG (L M : Nat → Int32) (rd : Int) (j : Nat) : Prop := ∀ t : Nat, t < 5461 → ∃ r : Nat, (r : Int) < rd ∧ (L (5461 * j + t)).toInt = (L (5461 * (j - 1) + (M (5461 * r + t)).toInt.toNat)).toInt
theorem lv_i {D : Nat → Int32} {i x : Int} (h : ∀ j : Nat, (j : Int) < i → 0 ≤ (D j).toInt ∧ (D j).toInt ≤ 12) (h0 : 0 ≤ i) (hx : 0 ≤ x) (hx2 : x ≤ 12) : ∀ j : Nat, (j : Int) < i + 1 → 0 ≤ (upd D i.toNat (Int32.ofInt x) j).toInt ∧ (upd D i.toNat (Int32.ofInt x) j).toInt ≤ 12 := by
  intro j hj
  by_cases e : j = i.toNat
  · subst e; rw [pk_us, zti (by omega) (by omega)]; omega
  · rw [pk_un e]; exact h j (by omega)
theorem lv_0 {D : Nat → Int32} {i : Int} (h : ∀ j : Nat, (j : Int) < i → 0 ≤ (D j).toInt ∧ (D j).toInt ≤ 12) (hi : 5461 ≤ i) : lvB D 0 := fun t ht => h (5461 * 0 + t) (by omega)
theorem bm_0 {D g : Nat → Int32} {a i x : Int} (h : ∀ j : Nat, (j : Int) < 5461 * a → D j = g j) (ha : 1 ≤ a) (hi : 0 ≤ i) : ∀ j : Nat, (j : Int) < 5461 * a → upd D (5461 * a + i).toNat (Int32.ofInt x) j = g j := by
  intro j hj
  rw [pk_un (by omega)]; exact h j hj
theorem bm_1 {D g M : Nat → Int32} {a i x rd r : Int} (h : ∀ t : Nat, (t : Int) < i → (0 ≤ (D (5461 * a.toNat + t)).toInt ∧ (D (5461 * a.toNat + t)).toInt ≤ 12) ∧ ∃ r : Nat, (r : Int) < rd ∧ (D (5461 * a.toNat + t)).toInt = (g (5461 * (a.toNat - 1) + (M (5461 * r + t)).toInt.toNat)).toInt) (ha : 1 ≤ a) (hi : 0 ≤ i) (hr : 1 ≤ r ∧ 0 ≤ x) (hx : (r = 0 ∧ x = 1000000) ∨ (x ≤ 12 ∧ ∃ r1 : Nat, (r1 : Int) < rd ∧ x = (g (5461 * (a.toNat - 1) + (M (5461 * r1 + i.toNat)).toInt.toNat)).toInt)) : ∀ t : Nat, (t : Int) < i + 1 → (0 ≤ (upd D (5461 * a + i).toNat (Int32.ofInt x) (5461 * a.toNat + t)).toInt ∧ (upd D (5461 * a + i).toNat (Int32.ofInt x) (5461 * a.toNat + t)).toInt ≤ 12) ∧ ∃ r : Nat, (r : Int) < rd ∧ (upd D (5461 * a + i).toNat (Int32.ofInt x) (5461 * a.toNat + t)).toInt = (g (5461 * (a.toNat - 1) + (M (5461 * r + t)).toInt.toNat)).toInt := by
  intro t ht
  by_cases e : t = i.toNat
  · rw [show 5461 * a.toNat + t = (5461 * a + i).toNat by omega, pk_us]
    rcases hx with ⟨q, -⟩ | ⟨q1, r1, q2, q3⟩
    · omega
    · rw [zti (by omega) (by omega)]
      exact ⟨by omega, r1, q2, by rw [e]; exact q3⟩
  · rw [pk_un (by omega)]; exact h t (by omega)
theorem bm_v {D g M : Nat → Int32} {a i r v1 v2 : Int} (h : ∀ j : Nat, (j : Int) < 5461 * a → D j = g j) (hl : lvB g (a.toNat - 1)) (hM : zB 0 5460 M) (ha : 1 ≤ a) (hi : 0 ≤ i) (hi2 : i ≤ 5460) (hr : 0 ≤ r) (e1 : v1 = (M (5461 * r + i).toNat).toInt) (e2 : v2 = (D (5461 * (a - 1) + v1).toNat).toInt) : v2 = (g (5461 * (a.toNat - 1) + (M (5461 * r.toNat + i.toNat)).toInt.toNat)).toInt ∧ 0 ≤ v2 ∧ v2 ≤ 12 := by
  have hm := hM (5461 * r + i).toNat
  have e3 : v2 = (g (5461 * (a.toNat - 1) + (M (5461 * r.toNat + i.toNat)).toInt.toNat)).toInt := by
    rw [e2, h _ (by omega), show 5461 * r.toNat + i.toNat = (5461 * r + i).toNat by omega, ← e1, show (5461 * (a - 1) + v1).toNat = 5461 * (a.toNat - 1) + v1.toNat by omega]
  refine ⟨e3, ?_⟩
  rw [e3]
  exact hl _ (by rw [show 5461 * r.toNat + i.toNat = (5461 * r + i).toNat by omega]; omega)
theorem bm_s {g M : Nat → Int32} {a i r rd x x' v2 : Int} (h : (r = 0 ∧ x = 1000000) ∨ (x ≤ 12 ∧ ∃ r1 : Nat, (r1 : Int) < rd ∧ x = (g (5461 * (a.toNat - 1) + (M (5461 * r1 + i.toNat)).toInt.toNat)).toInt)) (hr : 0 ≤ r) (hr2 : r < rd) (e : v2 = (g (5461 * (a.toNat - 1) + (M (5461 * r.toNat + i.toNat)).toInt.toNat)).toInt) (hx : x' ≤ x ∧ x' ≤ v2 ∧ (x' = x ∨ x' = v2) ∧ v2 ≤ 12) : (r + 1 = 0 ∧ x' = 1000000) ∨ (x' ≤ 12 ∧ ∃ r1 : Nat, (r1 : Int) < rd ∧ x' = (g (5461 * (a.toNat - 1) + (M (5461 * r1 + i.toNat)).toInt.toNat)).toInt) := by
  refine Or.inr ⟨by omega, ?_⟩
  rcases hx.2.2.1 with q | q
  · rcases h with ⟨q1, q2⟩ | ⟨q1, r1, q2, q3⟩
    · omega
    · exact ⟨r1, q2, by rw [q]; exact q3⟩
  · exact ⟨r.toNat, by omega, by rw [q]; exact e⟩
theorem bm_e {D g M : Nat → Int32} {a i rd : Int} (h0 : ∀ j : Nat, (j : Int) < 5461 * a → D j = g j) (h : ∀ t : Nat, (t : Int) < i → (0 ≤ (D (5461 * a.toNat + t)).toInt ∧ (D (5461 * a.toNat + t)).toInt ≤ 12) ∧ ∃ r : Nat, (r : Int) < rd ∧ (D (5461 * a.toNat + t)).toInt = (g (5461 * (a.toNat - 1) + (M (5461 * r + t)).toInt.toNat)).toInt) (hM : zB 0 5460 M) (ha : 1 ≤ a) (hi : 5461 ≤ i) : lvG D M rd a.toNat := by
  intro t ht
  obtain ⟨-, r, q1, q2⟩ := h t (by omega)
  refine ⟨r, q1, ?_⟩
  have hm := hM (5461 * r + t)
  rw [q2, h0 _ (by omega)]
theorem ra_ne {L M : Nat → Int32} {la a n i v1 v2 v3 : Int} {r0 : Nat} (h0 : 0 ≤ la) (ha : 0 ≤ a) (hn : i < n ∧ 0 ≤ v1) (e1 : v1 = (M (5461 * la + a).toNat).toInt) (e2 : v2 = (L (5461 * (n - i - 1) + v1).toNat).toInt) (e3 : v3 = (L (5461 * (n - i) + a).toNat).toInt) (hr : (L (5461 * (n - i).toNat + a.toNat)).toInt = (L (5461 * ((n - i).toNat - 1) + (M (5461 * r0 + a.toNat)).toInt.toNat)).toInt) (hc : ¬ v2 = v3) : la ≠ r0 := by
  intro e
  apply hc
  rw [e3, show (5461 * (n - i) + a).toNat = 5461 * (n - i).toNat + a.toNat by omega, hr, e2, show 5461 * r0 + a.toNat = (5461 * la + a).toNat by omega, ← e1, show (5461 * (n - i - 1) + v1).toNat = 5461 * ((n - i).toNat - 1) + v1.toNat by omega]
theorem rt_c {L : Nat → Int32} {k : Int} (h : lvB L (k - 1).toNat) (hk : 1 ≤ k) : lvB L (k.toNat - 1) := by
  rw [show k.toNat - 1 = (k - 1).toNat by omega]; exact h
theorem rt_b {L : Nat → Int32} {k : Int} (h : lvB L k.toNat) (hk : 1 ≤ k) : lvB L (k + 1 - 1).toNat := by
  rw [show (k + 1 - 1).toNat = k.toNat by omega]; exact h
theorem rt_g {L L' M : Nat → Int32} {k rd : Int} (hM : zB 0 5460 M) (h : ∀ j : Nat, 1 ≤ j → (j : Int) < k → lvG L M rd j) (h0 : ∀ j : Nat, (j : Int) < 5461 * k → L' j = L j) (h1 : lvG L' M rd k.toNat) (hk : 1 ≤ k) : ∀ j : Nat, 1 ≤ j → (j : Int) < k + 1 → lvG L' M rd j := by
  intro j hj1 hj2
  by_cases e : j = k.toNat
  · rw [e]; exact h1
  · intro t ht
    obtain ⟨r, q1, q2⟩ := h j hj1 (by omega) t ht
    have hm := hM (5461 * r + t)
    exact ⟨r, q1, by rw [h0 _ (by omega), h0 _ (by omega)]; exact q2⟩
section MZ
variable {c0 c1 c2 c3 c4 c5 c6 c7 c8 c9 c10 c11 c12 c13 : va_E} {f0 f9 f10 f11 f12 f13 f15 f16 f17 f20 f21 f22 f23 f26 f28 f31 f32 f33 f38 f41 f44 : Int} {x14 : Int64} {g15 g16 g17 g18 g19 g20 g21 g22 g23 g24 g25 g26 g27 g28 g29 g30 g31 g32 g33 g34 g35 g36 g37 g38 g39 g40 g41 g42 g43 g44 : Nat → Int32} {t : zW}
theorem m_hasE (d : Nat) (a1 a2 : Int) (hr0 : a1 = 2 ^ f23.toNat - 1) (hr1 : 1 ≤ f23 ∧ f23 ≤ 5) (hr2 : 0 ≤ a2 ∧ a2 < f23) (Q : zQ) (h : ∀ (v : Int), (v = 1) → Q (some (.int (Int32.ofInt v))) (zMi c0 c1 c2 c3 c4 c5 c6 c7 c8 c9 c10 c11 c12 c13 f0 f9 f10 f11 f12 f13 f15 f16 f17 f20 f21 f22 f23 f26 f28 f31 f32 f33 f38 f41 f44 x14 g15 g16 g17 g18 g19 g20 g21 g22 g23 g24 g25 g26 g27 g28 g29 g30 g31 g32 g33 g34 g35 g36 g37 g38 g39 g40 g41 g42 g43 g44 t)) : zCl zTab (d + 1) iX12_has [.int (Int32.ofInt a1), .int (Int32.ofInt a2)] (zMi c0 c1 c2 c3 c4 c5 c6 c7 c8 c9 c10 c11 c12 c13 f0 f9 f10 f11 f12 f13 f15 f16 f17 f20 f21 f22 f23 f26 f28 f31 f32 f33 f38 f41 f44 x14 g15 g16 g17 g18 g19 g20 g21 g22 g23 g24 g25 g26 g27 g28 g29 g30 g31 g32 g33 g34 g35 g36 g37 g38 g39 g40 g41 g42 g43 g44 t) 0 0 Q := by
  have key : (Int32.ofInt a1 >>> (Int32.ofInt a2 &&& 31)) &&& Int32.ofInt 1 = Int32.ofInt 1 := by
    have h : (f23 = 1 ∧ a2 = 0) ∨ (f23 = 2 ∧ a2 = 0) ∨ (f23 = 2 ∧ a2 = 1) ∨ (f23 = 3 ∧ a2 = 0) ∨ (f23 = 3 ∧ a2 = 1) ∨ (f23 = 3 ∧ a2 = 2) ∨ (f23 = 4 ∧ a2 = 0) ∨ (f23 = 4 ∧ a2 = 1) ∨ (f23 = 4 ∧ a2 = 2) ∨ (f23 = 4 ∧ a2 = 3) ∨ (f23 = 5 ∧ a2 = 0) ∨ (f23 = 5 ∧ a2 = 1) ∨ (f23 = 5 ∧ a2 = 2) ∨ (f23 = 5 ∧ a2 = 3) ∨ (f23 = 5 ∧ a2 = 4) := by omega
    rw [hr0]
    rcases h with ⟨q1, q2⟩ | ⟨q1, q2⟩ | ⟨q1, q2⟩ | ⟨q1, q2⟩ | ⟨q1, q2⟩ | ⟨q1, q2⟩ | ⟨q1, q2⟩ | ⟨q1, q2⟩ | ⟨q1, q2⟩ | ⟨q1, q2⟩ | ⟨q1, q2⟩ | ⟨q1, q2⟩ | ⟨q1, q2⟩ | ⟨q1, q2⟩ | ⟨q1, q2⟩ <;> rw [q1, q2] <;> decide
  refine zCl_i (M := kX12_has) rfl (Nat.le_of_ble_eq_true rfl) fun R hR => ?_
  iterate 4 refine hR (?_ : R (_, _, _, _, _, _))
  refine hR (t_c 1 key ?_)
  refine hR (?_ : R (_, _, _, _, _, _))
  refine hR (j_ne (by omega) (by omega) (fun hc => by omega) (fun _ => ?_))
  iterate 2 refine hR (?_ : R (_, _, _, _, _, _))
  exact hR (zret_i rfl (Nat.le_refl _) (zbo (by omega)) (h _ (by omega)))
theorem m_everybodyE (d : Nat) (hr0 : 0 ≤ f23 ∧ f23 ≤ 5) (Q : zQ) (h : ∀ (v : Int), (0 ≤ v ∧ v ≤ 31) → (v = 2 ^ f23.toNat - 1) → Q (some (.int (Int32.ofInt v))) (zMi c0 c1 c2 c3 c4 c5 c6 c7 c8 c9 c10 c11 c12 c13 f0 f9 f10 f11 f12 f13 f15 f16 f17 f20 f21 f22 f23 f26 f28 f31 f32 f33 f38 f41 f44 x14 g15 g16 g17 g18 g19 g20 g21 g22 g23 g24 g25 g26 g27 g28 g29 g30 g31 g32 g33 g34 g35 g36 g37 g38 g39 g40 g41 g42 g43 g44 t)) : zCl zTab (d + 1) iX12_everybody [.ref 14] (zMi c0 c1 c2 c3 c4 c5 c6 c7 c8 c9 c10 c11 c12 c13 f0 f9 f10 f11 f12 f13 f15 f16 f17 f20 f21 f22 f23 f26 f28 f31 f32 f33 f38 f41 f44 x14 g15 g16 g17 g18 g19 g20 g21 g22 g23 g24 g25 g26 g27 g28 g29 g30 g31 g32 g33 g34 g35 g36 g37 g38 g39 g40 g41 g42 g43 g44 t) 0 0 Q := by
  refine zCl_i (M := kX12_everybody) rfl (Nat.le_of_ble_eq_true rfl) fun R hR => ?_
  iterate 3 refine hR (?_ : R (_, _, _, _, _, _))
  obtain ⟨v1, lv1, uv1, qv1, xv1⟩ := zshl_r2 (e := f23) (by omega) (by omega)
  refine hR (t_c v1 qv1 ?_)
  refine hR (?_ : R (_, _, _, _, _, _))
  refine hR (t_sub ?_)
  exact hR (zret_i rfl (Nat.le_refl _) trivial (h _ (by omega) (by omega)))
theorem m_layDriftsT (d : Nat) (hb25 : zB 0 3 g25) (hb26 : zB 0 3 g26) (hr2 : 0 ≤ f22 ∧ f22 ≤ 5460) (Q : zQ) (h : ∀ (k25 : Nat → Int32) (k26 : Nat → Int32) (k27 : Nat → Int32) (k35 : Nat → Int32), zB 0 3 k25 → zB 0 3 k26 → (lvB k35 0) → Q (none) (zMi c0 c1 c2 c3 c4 c5 c6 c7 c8 c9 c10 c11 c12 c13 f0 f9 f10 f11 f12 f13 f15 f16 f17 f20 f21 f22 f23 f26 f28 f31 f32 f33 f38 f41 f44 x14 g15 g16 g17 g18 g19 g20 g21 g22 g23 g24 k25 k26 k27 g28 g29 g30 g31 g32 g33 g34 k35 g36 g37 g38 g39 g40 g41 g42 g43 g44 t)) : zCl zTab (d + 5) iX12_layDrifts [.ref 14] (zMi c0 c1 c2 c3 c4 c5 c6 c7 c8 c9 c10 c11 c12 c13 f0 f9 f10 f11 f12 f13 f15 f16 f17 f20 f21 f22 f23 f26 f28 f31 f32 f33 f38 f41 f44 x14 g15 g16 g17 g18 g19 g20 g21 g22 g23 g24 g25 g26 g27 g28 g29 g30 g31 g32 g33 g34 g35 g36 g37 g38 g39 g40 g41 g42 g43 g44 t) 0 0 Q := by
  refine zCl_i (M := kX12_layDrifts) rfl (Nat.le_of_ble_eq_true rfl) fun R hR => ?_
  iterate 2 refine hR (?_ : R (_, _, _, _, _, _))
  have lp2 : ∀ (N : Nat) (i : Int) (q25_2 : Nat → Int32) (q26_2 : Nat → Int32) (q27_2 : Nat → Int32) (q35_2 : Nat → Int32), (0 ≤ i ∧ i ≤ 5461) → (∀ j : Nat, (j : Int) < i → 0 ≤ (q35_2 j).toInt ∧ (q35_2 j).toInt ≤ 12) → (zB 0 3 q25_2) → (zB 0 3 q26_2) → (5461 - i < N) → R (2, [some (.ref 14), some (.int (Int32.ofInt i))], [], (zMi c0 c1 c2 c3 c4 c5 c6 c7 c8 c9 c10 c11 c12 c13 f0 f9 f10 f11 f12 f13 f15 f16 f17 f20 f21 f22 f23 f26 f28 f31 f32 f33 f38 f41 f44 x14 g15 g16 g17 g18 g19 g20 g21 g22 g23 g24 q25_2 q26_2 q27_2 g28 g29 g30 g31 g32 g33 g34 q35_2 g36 g37 g38 g39 g40 g41 g42 g43 g44 t), 0, 0) := by
    intro N
    induction N with
    | zero => intros; omega
    | succ N ih2 =>
      intro i q25_2 q26_2 q27_2 q35_2 hf0_2 hp0_2 hq25_2 hq26_2 hN2
      refine hR (?_ : R (_, _, _, _, _, _))
      refine hR (t_c 5461 (by decide) ?_)
      refine hR (j_ge (by omega) (by omega) (fun hc1 => ?_) (fun hc1 => ?_))
      · skip
        exact hR (zret_i rfl (Nat.le_refl _) rfl (h _ _ _ _ hq25_2 hq26_2 (lv_0 hp0_2 (by omega))))
      iterate 7 refine hR (?_ : R (_, _, _, _, _, _))
      refine hR (zcall_i 0 0 (Nat.le_of_ble_eq_true rfl) (Nat.le_of_ble_eq_true rfl) (m_apart _ i f22 hq25_2 hq26_2 (by omega) (by omega) _ fun v2 k25_3 k26_4 k27_5 hp6 hp7 hp8 hp9 => ?_))
      refine (?_ : R (_, _, (.int (Int32.ofInt v2)) :: (.int (Int32.ofInt i)) :: (.ref 35) :: [], (zMi c0 c1 c2 c3 c4 c5 c6 c7 c8 c9 c10 c11 c12 c13 f0 f9 f10 f11 f12 f13 f15 f16 f17 f20 f21 f22 f23 f26 f28 f31 f32 f33 f38 f41 f44 x14 g15 g16 g17 g18 g19 g20 g21 g22 g23 g24 k25_3 k26_4 k27_5 g28 g29 g30 g31 g32 g33 g34 q35_2 g36 g37 g38 g39 g40 g41 g42 g43 g44 t), 0, 0))
      refine hR (t_st (by omega) (by omega) (Nat.le_of_ble_eq_true rfl) (?_ : R (_, _, _, (zMi c0 c1 c2 c3 c4 c5 c6 c7 c8 c9 c10 c11 c12 c13 f0 f9 f10 f11 f12 f13 f15 f16 f17 f20 f21 f22 f23 f26 f28 f31 f32 f33 f38 f41 f44 x14 g15 g16 g17 g18 g19 g20 g21 g22 g23 g24 k25_3 k26_4 k27_5 g28 g29 g30 g31 g32 g33 g34 (upd q35_2 i.toNat (Int32.ofInt v2)) g36 g37 g38 g39 g40 g41 g42 g43 g44 t), _, _)))
      refine hR (t_inc ?_)
      refine hR (?_ : R (_, _, _, _, _, _))
      exact ih2 _ _ _ _ _ (by omega) (lv_i hp0_2 (by omega) (by omega) (by omega)) hp6 hp7 (by omega)
  exact lp2 400000000 _ _ _ _ _ (by omega) (fun j hj => by omega) hb25 hb26 (by omega)
theorem m_bestM (d : Nat) (a1 a2 : Int) (hb30 : zB 0 5460 g30) (hr1 : 1 ≤ f23 ∧ f23 ≤ 5) (hr2 : 1 ≤ a1 ∧ a1 ≤ 9) (hr3 : a2 = 2 ^ f23.toNat - 1) (hr4 : lvB g35 (a1.toNat - 1)) (Q : zQ) (h : ∀ (k35 : Nat → Int32), (∀ j : Nat, (j : Int) < 5461 * a1 → k35 j = g35 j) → (lvB k35 a1.toNat) → (lvG k35 g30 f23 a1.toNat) → Q (none) (zMi c0 c1 c2 c3 c4 c5 c6 c7 c8 c9 c10 c11 c12 c13 f0 f9 f10 f11 f12 f13 f15 f16 f17 f20 f21 f22 f23 f26 f28 f31 f32 f33 f38 f41 f44 x14 g15 g16 g17 g18 g19 g20 g21 g22 g23 g24 g25 g26 g27 g28 g29 g30 g31 g32 g33 g34 k35 g36 g37 g38 g39 g40 g41 g42 g43 g44 t)) : zCl zTab (d + 2) iX12_best [.ref 14, .int (Int32.ofInt a1), .int (Int32.ofInt a2), .int (Int32.ofInt 0)] (zMi c0 c1 c2 c3 c4 c5 c6 c7 c8 c9 c10 c11 c12 c13 f0 f9 f10 f11 f12 f13 f15 f16 f17 f20 f21 f22 f23 f26 f28 f31 f32 f33 f38 f41 f44 x14 g15 g16 g17 g18 g19 g20 g21 g22 g23 g24 g25 g26 g27 g28 g29 g30 g31 g32 g33 g34 g35 g36 g37 g38 g39 g40 g41 g42 g43 g44 t) 0 0 Q := by
  refine zCl_i (M := kX12_best) rfl (Nat.le_of_ble_eq_true rfl) fun R hR => ?_
  iterate 2 refine hR (?_ : R (_, _, _, _, _, _))
  have lp3 : ∀ (N : Nat) (i : Int) (o5_3 : Option Value) (o6_3 : Option Value) (o7_3 : Option Value) (q35_3 : Nat → Int32), (zc2 o5_3 = false) → (zc2 o6_3 = false) → (zc2 o7_3 = false) → (0 ≤ i ∧ i ≤ 5461) → (∀ j : Nat, (j : Int) < 5461 * a1 → q35_3 j = g35 j) → (∀ t : Nat, (t : Int) < i → (0 ≤ (q35_3 (5461 * a1.toNat + t)).toInt ∧ (q35_3 (5461 * a1.toNat + t)).toInt ≤ 12) ∧ ∃ r : Nat, (r : Int) < f23 ∧ (q35_3 (5461 * a1.toNat + t)).toInt = (g35 (5461 * (a1.toNat - 1) + (g30 (5461 * r + t)).toInt.toNat)).toInt) → (5461 - i < N) → R (3, [some (.ref 14), some (.int (Int32.ofInt a1)), some (.int (Int32.ofInt a2)), some (.int (Int32.ofInt 0)), some (.int (Int32.ofInt i)), o5_3, o6_3, o7_3], [], (zMi c0 c1 c2 c3 c4 c5 c6 c7 c8 c9 c10 c11 c12 c13 f0 f9 f10 f11 f12 f13 f15 f16 f17 f20 f21 f22 f23 f26 f28 f31 f32 f33 f38 f41 f44 x14 g15 g16 g17 g18 g19 g20 g21 g22 g23 g24 g25 g26 g27 g28 g29 g30 g31 g32 g33 g34 q35_3 g36 g37 g38 g39 g40 g41 g42 g43 g44 t), 0, 0) := by
    intro N
    induction N with
    | zero => intros; omega
    | succ N ih3 =>
      intro i o5_3 o6_3 o7_3 q35_3 hzo5_3 hzo6_3 hzo7_3 hf0_3 hp0_3 hp1_3 hN3
      refine hR (?_ : R (_, _, _, _, _, _))
      refine hR (t_c 5461 (by decide) ?_)
      refine hR (j_ge (by omega) (by omega) (fun hc1 => ?_) (fun hc1 => ?_))
      · skip
        exact hR (zret_i rfl (Nat.le_refl _) rfl (h _ hp0_3 (fun t ht => (hp1_3 t (by omega)).1) (bm_e hp0_3 hp1_3 hb30 (by omega) (by omega))))
      refine hR (?_ : R (_, _, _, _, _, _))
      refine hR (k_eq (by omega) (fun _ => ?_) (fun hc => by omega))
      refine hR (t_c 1000000 (by decide) ?_)
      iterate 3 refine hR (?_ : R (_, _, _, _, _, _))
      have lp27 : ∀ (N : Nat) (by_ : Int) (r : Int) (o7_27 : Option Value), (zc2 o7_27 = false) → (0 ≤ by_ ∧ by_ ≤ 1000000) → (0 ≤ r ∧ r ≤ f23) → ((r = 0 ∧ by_ = 1000000) ∨ (by_ ≤ 12 ∧ ∃ r1 : Nat, (r1 : Int) < f23 ∧ by_ = (g35 (5461 * (a1.toNat - 1) + (g30 (5461 * r1 + i.toNat)).toInt.toNat)).toInt)) → (f23 - r < N) → R (27, [some (.ref 14), some (.int (Int32.ofInt a1)), some (.int (Int32.ofInt a2)), some (.int (Int32.ofInt 0)), some (.int (Int32.ofInt i)), some (.int (Int32.ofInt by_)), some (.int (Int32.ofInt r)), o7_27], [], (zMi c0 c1 c2 c3 c4 c5 c6 c7 c8 c9 c10 c11 c12 c13 f0 f9 f10 f11 f12 f13 f15 f16 f17 f20 f21 f22 f23 f26 f28 f31 f32 f33 f38 f41 f44 x14 g15 g16 g17 g18 g19 g20 g21 g22 g23 g24 g25 g26 g27 g28 g29 g30 g31 g32 g33 g34 q35_3 g36 g37 g38 g39 g40 g41 g42 g43 g44 t), 0, 0) := by
        intro N
        induction N with
        | zero => intros; omega
        | succ N ih27 =>
          intro by_ r o7_27 hzo7_27 hf0_27 hf1_27 hp0_27 hN27
          iterate 3 refine hR (?_ : R (_, _, _, _, _, _))
          refine hR (j_ge (by omega) (by omega) (fun hc2 => ?_) (fun hc2 => ?_))
          · skip
            iterate 2 refine hR (?_ : R (_, _, _, _, _, _))
            refine hR (t_c 5461 (by decide) ?_)
            refine hR (?_ : R (_, _, _, _, _, _))
            refine hR (t_mul ?_)
            refine hR (?_ : R (_, _, _, _, _, _))
            refine hR (t_add ?_)
            refine hR (?_ : R (_, _, _, _, _, _))
            refine hR (t_st (by omega) (by omega) (Nat.le_of_ble_eq_true rfl) (?_ : R (_, _, _, (zMi c0 c1 c2 c3 c4 c5 c6 c7 c8 c9 c10 c11 c12 c13 f0 f9 f10 f11 f12 f13 f15 f16 f17 f20 f21 f22 f23 f26 f28 f31 f32 f33 f38 f41 f44 x14 g15 g16 g17 g18 g19 g20 g21 g22 g23 g24 g25 g26 g27 g28 g29 g30 g31 g32 g33 g34 (upd q35_3 ((5461 * a1) + i).toNat (Int32.ofInt by_)) g36 g37 g38 g39 g40 g41 g42 g43 g44 t), _, _)))
            refine hR (t_inc ?_)
            refine hR (?_ : R (_, _, _, _, _, _))
            exact ih3 _ _ _ _ _ (by rfl) (by rfl) hzo7_27 (by omega) (bm_0 hp0_3 (by omega) (by omega)) (bm_1 hp1_3 (by omega) (by omega) (by omega) hp0_27) (by omega)
          iterate 2 refine hR (?_ : R (_, _, _, _, _, _))
          refine hR (t_c 5461 (by decide) ?_)
          iterate 2 refine hR (?_ : R (_, _, _, _, _, _))
          refine hR (t_sub ?_)
          refine hR (t_mul ?_)
          iterate 2 refine hR (?_ : R (_, _, _, _, _, _))
          refine hR (t_c 5461 (by decide) ?_)
          refine hR (?_ : R (_, _, _, _, _, _))
          refine hR (t_mul ?_)
          refine hR (?_ : R (_, _, _, _, _, _))
          refine hR (t_add ?_)
          refine hR (t_ldB hb30 (by omega) (by omega) (Nat.le_of_ble_eq_true rfl) fun v4 ev4 lv4 uv4 => ?_)
          refine hR (t_add ?_)
          refine hR (t_ldE (by omega) (by omega) (Nat.le_of_ble_eq_true rfl) fun v5 ev5 rv5 => ?_)
          have dv5 := bm_v hp0_3 hr4 hb30 (by omega) (by omega) (by omega) (by omega) ev4 ev5
          have dv5b := dv5.2
          iterate 3 refine hR (?_ : R (_, _, _, _, _, _))
          refine hR (zcall_i 0 0 (Nat.le_of_ble_eq_true rfl) (Nat.le_of_ble_eq_true rfl) (m_hasE _ a2 r (by omega) (by omega) (by omega) _ fun v6 hp7 => ?_))
          refine (?_ : R (_, _, (.int (Int32.ofInt v6)) :: [], (zMi c0 c1 c2 c3 c4 c5 c6 c7 c8 c9 c10 c11 c12 c13 f0 f9 f10 f11 f12 f13 f15 f16 f17 f20 f21 f22 f23 f26 f28 f31 f32 f33 f38 f41 f44 x14 g15 g16 g17 g18 g19 g20 g21 g22 g23 g24 g25 g26 g27 g28 g29 g30 g31 g32 g33 g34 q35_3 g36 g37 g38 g39 g40 g41 g42 g43 g44 t), 0, 0))
          refine hR (k_ne (by omega) (fun hc8 => ?_) (fun hc8 => ?_))
          rotate_left
          · skip
            iterate 3 refine hR (?_ : R (_, _, _, _, _, _))
            refine hR (t_inc ?_)
            refine hR (?_ : R (_, _, _, _, _, _))
            exact ih27 _ _ _ (by rfl) (by omega) (by omega) (bm_s hp0_27 (by omega) (by omega) dv5.1 (by omega)) (by omega)
          refine hR (?_ : R (_, _, _, _, _, _))
          refine hR (k_eq (by omega) (fun _ => ?_) (fun hc => by omega))
          iterate 2 refine hR (?_ : R (_, _, _, _, _, _))
          refine hR (zcall_i 0 0 (Nat.le_of_ble_eq_true rfl) (Nat.le_of_ble_eq_true rfl) (m_lesser _ by_ v5 _ (by omega) (by omega) _ fun v9 hp10 => ?_))
          refine (?_ : R (_, _, (.int (Int32.ofInt v9)) :: [], (zMi c0 c1 c2 c3 c4 c5 c6 c7 c8 c9 c10 c11 c12 c13 f0 f9 f10 f11 f12 f13 f15 f16 f17 f20 f21 f22 f23 f26 f28 f31 f32 f33 f38 f41 f44 x14 g15 g16 g17 g18 g19 g20 g21 g22 g23 g24 g25 g26 g27 g28 g29 g30 g31 g32 g33 g34 q35_3 g36 g37 g38 g39 g40 g41 g42 g43 g44 t), 0, 0))
          refine hR (?_ : R (_, _, _, _, _, _))
          refine hR (t_inc ?_)
          refine hR (?_ : R (_, _, _, _, _, _))
          exact ih27 _ _ _ (by rfl) (by omega) (by omega) (bm_s hp0_27 (by omega) (by omega) dv5.1 (by omega)) (by omega)
      exact lp27 400000000 _ _ _ hzo7_3 (by omega) (by omega) (Or.inl ⟨rfl, rfl⟩) (by omega)
  exact lp3 400000000 _ _ _ _ _ (by rfl) (by rfl) (by rfl) (by omega) (fun j _ => rfl) (fun t ht => by omega) (by omega)
theorem m_rotaAt (d : Nat) (a1 a2 : Int) (hb30 : zB 0 5460 g30) (hr1 : 1 ≤ a1 ∧ a1 ≤ 9) (hr2 : 0 ≤ a2 ∧ a2 < a1) (hr3 : 1 ≤ f23 ∧ f23 ≤ 5) (hr4 : 0 ≤ f22 ∧ f22 ≤ 5460) (hr5 : ∀ j : Nat, 1 ≤ j → (j : Int) ≤ a1 → lvG g35 g30 f23 j) (Q : zQ) (h : ∀ (v : Int), Q (some (.int (Int32.ofInt v))) (zMi c0 c1 c2 c3 c4 c5 c6 c7 c8 c9 c10 c11 c12 c13 f0 f9 f10 f11 f12 f13 f15 f16 f17 f20 f21 f22 f23 f26 f28 f31 f32 f33 f38 f41 f44 x14 g15 g16 g17 g18 g19 g20 g21 g22 g23 g24 g25 g26 g27 g28 g29 g30 g31 g32 g33 g34 g35 g36 g37 g38 g39 g40 g41 g42 g43 g44 t)) : zCl zTab (d + 1) iX12_rotaAt [.ref 14, .int (Int32.ofInt a1), .int (Int32.ofInt a2)] (zMi c0 c1 c2 c3 c4 c5 c6 c7 c8 c9 c10 c11 c12 c13 f0 f9 f10 f11 f12 f13 f15 f16 f17 f20 f21 f22 f23 f26 f28 f31 f32 f33 f38 f41 f44 x14 g15 g16 g17 g18 g19 g20 g21 g22 g23 g24 g25 g26 g27 g28 g29 g30 g31 g32 g33 g34 g35 g36 g37 g38 g39 g40 g41 g42 g43 g44 t) 0 0 Q := by
  refine zCl_i (M := kX12_rotaAt) rfl (Nat.le_of_ble_eq_true rfl) fun R hR => ?_
  iterate 7 refine hR (?_ : R (_, _, _, _, _, _))
  have lp11 : ∀ (N : Nat) (at_ : Int) (la : Int) (i : Int), (0 ≤ at_ ∧ at_ ≤ 5460) → (0 ≤ i ∧ i ≤ a2 + 1) → (a2 + 1 - i < N) → R (11, [some (.ref 14), some (.int (Int32.ofInt a1)), some (.int (Int32.ofInt a2)), some (.int (Int32.ofInt at_)), some (.int (Int32.ofInt la)), some (.int (Int32.ofInt i))], [], (zMi c0 c1 c2 c3 c4 c5 c6 c7 c8 c9 c10 c11 c12 c13 f0 f9 f10 f11 f12 f13 f15 f16 f17 f20 f21 f22 f23 f26 f28 f31 f32 f33 f38 f41 f44 x14 g15 g16 g17 g18 g19 g20 g21 g22 g23 g24 g25 g26 g27 g28 g29 g30 g31 g32 g33 g34 g35 g36 g37 g38 g39 g40 g41 g42 g43 g44 t), 0, 0) := by
    intro N
    induction N with
    | zero => intros; omega
    | succ N ih11 =>
      intro at_ la i hf0_11 hf1_11 hN11
      iterate 2 refine hR (?_ : R (_, _, _, _, _, _))
      refine hR (j_gt (by omega) (by omega) (fun hc1 => ?_) (fun hc1 => ?_))
      · skip
        refine hR (?_ : R (_, _, _, _, _, _))
        exact hR (zret_i rfl (Nat.le_refl _) trivial (h _))
      obtain ⟨r0, hr0, hr1⟩ := hr5 (a1 - i).toNat (by omega) (by omega) at_.toNat (by omega)
      iterate 2 refine hR (?_ : R (_, _, _, _, _, _))
      have lp20 : ∀ (N : Nat) (la : Int), (0 ≤ la ∧ la ≤ r0) → (r0 - la < N) → R (20, [some (.ref 14), some (.int (Int32.ofInt a1)), some (.int (Int32.ofInt a2)), some (.int (Int32.ofInt at_)), some (.int (Int32.ofInt la)), some (.int (Int32.ofInt i))], [], (zMi c0 c1 c2 c3 c4 c5 c6 c7 c8 c9 c10 c11 c12 c13 f0 f9 f10 f11 f12 f13 f15 f16 f17 f20 f21 f22 f23 f26 f28 f31 f32 f33 f38 f41 f44 x14 g15 g16 g17 g18 g19 g20 g21 g22 g23 g24 g25 g26 g27 g28 g29 g30 g31 g32 g33 g34 g35 g36 g37 g38 g39 g40 g41 g42 g43 g44 t), 0, 0) := by
        intro N
        induction N with
        | zero => intros; omega
        | succ N ih20 =>
          intro la hf0_20 hN20
          iterate 2 refine hR (?_ : R (_, _, _, _, _, _))
          refine hR (t_c 5461 (by decide) ?_)
          iterate 2 refine hR (?_ : R (_, _, _, _, _, _))
          refine hR (t_sub ?_)
          refine hR (?_ : R (_, _, _, _, _, _))
          refine hR (t_sub ?_)
          refine hR (t_mul ?_)
          iterate 2 refine hR (?_ : R (_, _, _, _, _, _))
          refine hR (t_c 5461 (by decide) ?_)
          refine hR (?_ : R (_, _, _, _, _, _))
          refine hR (t_mul ?_)
          refine hR (?_ : R (_, _, _, _, _, _))
          refine hR (t_add ?_)
          refine hR (t_ldB hb30 (by omega) (by omega) (Nat.le_of_ble_eq_true rfl) fun v2 ev2 lv2 uv2 => ?_)
          refine hR (t_add ?_)
          refine hR (t_ldE (by omega) (by omega) (Nat.le_of_ble_eq_true rfl) fun v3 ev3 rv3 => ?_)
          iterate 2 refine hR (?_ : R (_, _, _, _, _, _))
          refine hR (t_c 5461 (by decide) ?_)
          iterate 2 refine hR (?_ : R (_, _, _, _, _, _))
          refine hR (t_sub ?_)
          refine hR (t_mul ?_)
          refine hR (?_ : R (_, _, _, _, _, _))
          refine hR (t_add ?_)
          refine hR (t_ldE (by omega) (by omega) (Nat.le_of_ble_eq_true rfl) fun v4 ev4 rv4 => ?_)
          refine hR (j_eq (by omega) (by omega) (fun hc5 => ?_) (fun hc5 => ?_))
          rotate_left
          · skip
            have hne : la ≠ r0 := ra_ne (by omega) (by omega) (by omega) ev2 ev3 ev4 hr1 (by omega)
            refine hR (t_inc ?_)
            refine hR (?_ : R (_, _, _, _, _, _))
            exact ih20 _ (by omega) (by omega)
          iterate 2 refine hR (?_ : R (_, _, _, _, _, _))
          refine hR (t_c 5461 (by decide) ?_)
          refine hR (?_ : R (_, _, _, _, _, _))
          refine hR (t_mul ?_)
          refine hR (?_ : R (_, _, _, _, _, _))
          refine hR (t_add ?_)
          refine hR (t_ldB hb30 (by omega) (by omega) (Nat.le_of_ble_eq_true rfl) fun v6 ev6 lv6 uv6 => ?_)
          refine hR (?_ : R (_, _, _, _, _, _))
          refine hR (t_inc ?_)
          refine hR (?_ : R (_, _, _, _, _, _))
          exact ih11 _ _ _ (by omega) (by omega) (by omega)
      exact lp20 400000000 _ (by omega) (by omega)
  exact lp11 400000000 _ _ _ (by omega) (by omega) (by omega)
theorem m_rota (d : Nat) (a1 a2 a3 : Int) (hb19 : zB 0 2 g19) (hb25 : zB 0 3 g25) (hb26 : zB 0 3 g26) (hb30 : zB 0 5460 g30) (hr4 : bkOK g20) (hr5 : -2147483648 ≤ a1 ∧ a1 ≤ 2147483647) (hr6 : -2147483648 ≤ a2 ∧ a2 ≤ 2147483647) (hr7 : -2147483648 ≤ a3 ∧ a3 ≤ 2147483647) (hr8 : -1 ≤ f21 ∧ f21 ≤ 1) (hr9 : RMD g30 g20 f21) (Q : zQ) (h : ∀ (v : Int) (y0 : Int) (y20 : Int) (y21 : Int) (y22 : Int) (y23 : Int) (y26 : Int) (k25 : Nat → Int32) (k26 : Nat → Int32) (k27 : Nat → Int32) (k30 : Nat → Int32) (k35 : Nat → Int32), zB 0 3 k25 → zB 0 3 k26 → zB 0 5460 k30 → (-1 ≤ y21 ∧ y21 ≤ 1) → (RMD k30 g20 y21) → Q (some (.int (Int32.ofInt v))) (zMi c0 c1 c2 c3 c4 c5 c6 c7 c8 c9 c10 c11 c12 c13 y0 f9 f10 f11 f12 f13 f15 f16 f17 y20 y21 y22 y23 y26 f28 f31 f32 f33 f38 f41 f44 x14 g15 g16 g17 g18 g19 g20 g21 g22 g23 g24 k25 k26 k27 g28 g29 k30 g31 g32 g33 g34 k35 g36 g37 g38 g39 g40 g41 g42 g43 g44 t)) : zCl zTab (d + 6) iX12_rota [.ref 14, .int (Int32.ofInt a1), .int (Int32.ofInt a2), .int (Int32.ofInt a3)] (zMi c0 c1 c2 c3 c4 c5 c6 c7 c8 c9 c10 c11 c12 c13 f0 f9 f10 f11 f12 f13 f15 f16 f17 f20 f21 f22 f23 f26 f28 f31 f32 f33 f38 f41 f44 x14 g15 g16 g17 g18 g19 g20 g21 g22 g23 g24 g25 g26 g27 g28 g29 g30 g31 g32 g33 g34 g35 g36 g37 g38 g39 g40 g41 g42 g43 g44 t) 0 0 Q := by
  refine zCl_i (M := kX12_rota) rfl (Nat.le_of_ble_eq_true rfl) fun R hR => ?_
  iterate 2 refine hR (?_ : R (_, _, _, _, _, _))
  refine hR (?_ : R (_, _, _, (zMi c0 c1 c2 c3 c4 c5 c6 c7 c8 c9 c10 c11 c12 c13 0 f9 f10 f11 f12 f13 f15 f16 f17 f20 f21 f22 f23 f26 f28 f31 f32 f33 f38 f41 f44 x14 g15 g16 g17 g18 g19 g20 g21 g22 g23 g24 g25 g26 g27 g28 g29 g30 g31 g32 g33 g34 g35 g36 g37 g38 g39 g40 g41 g42 g43 g44 t), _, _))
  iterate 2 refine hR (?_ : R (_, _, _, _, _, _))
  refine hR (t_c 9 (by decide) ?_)
  refine hR (zcall_i 0 0 (Nat.le_of_ble_eq_true rfl) (Nat.le_of_ble_eq_true rfl) (m_in _ a2 0 9 _ (by omega) (by omega) (by omega) _ fun v1 hp2 => ?_))
  refine (?_ : R (_, _, (.int (Int32.ofInt v1)) :: [], (zMi c0 c1 c2 c3 c4 c5 c6 c7 c8 c9 c10 c11 c12 c13 0 f9 f10 f11 f12 f13 f15 f16 f17 f20 f21 f22 f23 f26 f28 f31 f32 f33 f38 f41 f44 x14 g15 g16 g17 g18 g19 g20 g21 g22 g23 g24 g25 g26 g27 g28 g29 g30 g31 g32 g33 g34 g35 g36 g37 g38 g39 g40 g41 g42 g43 g44 t), 0, 0))
  refine hR (k_eq (by omega) (fun hc3 => ?_) (fun hc3 => ?_))
  · skip
    refine hR (?_ : R (_, _, _, _, _, _))
    exact hR (zret_i rfl (Nat.le_refl _) trivial (h _ _ _ _ _ _ _ _ _ _ _ _ hb25 hb26 hb30 (by omega) hr9))
  iterate 2 refine hR (?_ : R (_, _, _, _, _, _))
  refine hR (zcall_i 0 0 (Nat.le_of_ble_eq_true rfl) (Nat.le_of_ble_eq_true rfl) (m_handX _ a1 hb19 hr4 (by omega) _ fun v4 y20_5 y22_6 y23_7 hp8 hp9 hp10 => ?_))
  refine (?_ : R (_, _, (.int (Int32.ofInt v4)) :: [], (zMi c0 c1 c2 c3 c4 c5 c6 c7 c8 c9 c10 c11 c12 c13 0 f9 f10 f11 f12 f13 f15 f16 f17 y20_5 f21 y22_6 y23_7 f26 f28 f31 f32 f33 f38 f41 f44 x14 g15 g16 g17 g18 g19 g20 g21 g22 g23 g24 g25 g26 g27 g28 g29 g30 g31 g32 g33 g34 g35 g36 g37 g38 g39 g40 g41 g42 g43 g44 t), 0, 0))
  refine hR (k_eq (by omega) (fun hc11 => ?_) (fun hc11 => ?_))
  · skip
    refine hR (?_ : R (_, _, _, _, _, _))
    exact hR (zret_i rfl (Nat.le_refl _) trivial (h _ _ _ _ _ _ _ _ _ _ _ _ hb25 hb26 hb30 (by omega) hr9))
  iterate 2 refine hR (?_ : R (_, _, _, _, _, _))
  refine hR (k_ne (by omega) (fun hc12 => ?_) (fun hc12 => ?_))
  · skip
    iterate 3 refine hR (?_ : R (_, _, _, _, _, _))
    refine hR (zcall_i 0 0 (Nat.le_of_ble_eq_true rfl) (Nat.le_of_ble_eq_true rfl) (m_in _ a3 0 1 _ (by omega) (by omega) (by omega) _ fun v13 hp14 => ?_))
    refine (?_ : R (_, _, (.int (Int32.ofInt v13)) :: [], (zMi c0 c1 c2 c3 c4 c5 c6 c7 c8 c9 c10 c11 c12 c13 0 f9 f10 f11 f12 f13 f15 f16 f17 y20_5 f21 y22_6 y23_7 f26 f28 f31 f32 f33 f38 f41 f44 x14 g15 g16 g17 g18 g19 g20 g21 g22 g23 g24 g25 g26 g27 g28 g29 g30 g31 g32 g33 g34 g35 g36 g37 g38 g39 g40 g41 g42 g43 g44 t), 0, 0))
    refine hR (k_ne (by omega) (fun hc15 => ?_) (fun hc15 => ?_))
    · skip
      refine hR (?_ : R (_, _, _, _, _, _))
      refine hR (zcall_i 0 0 (Nat.le_of_ble_eq_true rfl) (Nat.le_of_ble_eq_true rfl) (m_layMade _ hb25 hr4 (by omega) (by omega) hb30 (by omega) (by omega) hr9 _ fun y21_16 y26_17 k25_18 k30_19 hp20 hp21 hp22 hp23 hp24 => ?_))
      refine (?_ : R (_, _, [], (zMi c0 c1 c2 c3 c4 c5 c6 c7 c8 c9 c10 c11 c12 c13 0 f9 f10 f11 f12 f13 f15 f16 f17 y20_5 y21_16 y22_6 y23_7 y26_17 f28 f31 f32 f33 f38 f41 f44 x14 g15 g16 g17 g18 g19 g20 g21 g22 g23 g24 k25_18 g26 g27 g28 g29 k30_19 g31 g32 g33 g34 g35 g36 g37 g38 g39 g40 g41 g42 g43 g44 t), 0, 0))
      refine hR (?_ : R (_, _, _, _, _, _))
      refine hR (zcall_i 0 0 (Nat.le_of_ble_eq_true rfl) (Nat.le_of_ble_eq_true rfl) (m_layDriftsT _ hp20 hb26 (by omega) _ fun k25_25 k26_26 k27_27 k35_28 hp29 hp30 hp31 => ?_))
      refine (?_ : R (_, _, [], (zMi c0 c1 c2 c3 c4 c5 c6 c7 c8 c9 c10 c11 c12 c13 0 f9 f10 f11 f12 f13 f15 f16 f17 y20_5 y21_16 y22_6 y23_7 y26_17 f28 f31 f32 f33 f38 f41 f44 x14 g15 g16 g17 g18 g19 g20 g21 g22 g23 g24 k25_25 k26_26 k27_27 g28 g29 k30_19 g31 g32 g33 g34 k35_28 g36 g37 g38 g39 g40 g41 g42 g43 g44 t), 0, 0))
      iterate 2 refine hR (?_ : R (_, _, _, _, _, _))
      have lp69 : ∀ (N : Nat) (k : Int) (q35_69 : Nat → Int32), (1 ≤ k ∧ k ≤ a2 + 1) → (a3 ≠ 1 → lvB q35_69 (k - 1).toNat) → (a3 ≠ 1 → ∀ j : Nat, 1 ≤ j → (j : Int) < k → lvG q35_69 k30_19 y23_7 j) → (a2 + 1 - k < N) → R (69, [some (.ref 14), some (.int (Int32.ofInt a1)), some (.int (Int32.ofInt a2)), some (.int (Int32.ofInt a3)), some (.int (Int32.ofInt k))], [], (zMi c0 c1 c2 c3 c4 c5 c6 c7 c8 c9 c10 c11 c12 c13 0 f9 f10 f11 f12 f13 f15 f16 f17 y20_5 y21_16 y22_6 y23_7 y26_17 f28 f31 f32 f33 f38 f41 f44 x14 g15 g16 g17 g18 g19 g20 g21 g22 g23 g24 k25_25 k26_26 k27_27 g28 g29 k30_19 g31 g32 g33 g34 q35_69 g36 g37 g38 g39 g40 g41 g42 g43 g44 t), 0, 0) := by
        intro N
        induction N with
        | zero => intros; omega
        | succ N ih69 =>
          intro k q35_69 hf0_69 hp0_69 hp1_69 hN69
          iterate 2 refine hR (?_ : R (_, _, _, _, _, _))
          refine hR (j_gt (by omega) (by omega) (fun hc32 => ?_) (fun hc32 => ?_))
          · skip
            iterate 2 refine hR (?_ : R (_, _, _, _, _, _))
            refine hR (j_ge (by omega) (by omega) (fun hc33 => ?_) (fun hc33 => ?_))
            · skip
              iterate 3 refine hR (?_ : R (_, _, _, _, _, _))
              refine hR (t_c 10 (by decide) ?_)
              refine hR (t_sub ?_)
              refine hR (zcall_i 0 0 (Nat.le_of_ble_eq_true rfl) (Nat.le_of_ble_eq_true rfl) (m_rotaAt _ a2 (a3 - 10) hp21 (by omega) (by omega) (by omega) (by omega) (fun j h1 h2 => hp1_69 (by omega) j h1 (by omega)) _ fun v34 => ?_))
              refine (?_ : R (_, _, (.int (Int32.ofInt v34)) :: [], (zMi c0 c1 c2 c3 c4 c5 c6 c7 c8 c9 c10 c11 c12 c13 0 f9 f10 f11 f12 f13 f15 f16 f17 y20_5 y21_16 y22_6 y23_7 y26_17 f28 f31 f32 f33 f38 f41 f44 x14 g15 g16 g17 g18 g19 g20 g21 g22 g23 g24 k25_25 k26_26 k27_27 g28 g29 k30_19 g31 g32 g33 g34 q35_69 g36 g37 g38 g39 g40 g41 g42 g43 g44 t), 0, 0))
              exact hR (zret_i rfl (Nat.le_refl _) trivial (h _ _ _ _ _ _ _ _ _ _ _ _ hp29 hp30 hp21 (by omega) hp23))
            iterate 2 refine hR (?_ : R (_, _, _, _, _, _))
            refine hR (t_c 5461 (by decide) ?_)
            refine hR (?_ : R (_, _, _, _, _, _))
            refine hR (t_mul ?_)
            iterate 2 refine hR (?_ : R (_, _, _, _, _, _))
            refine hR (t_add ?_)
            refine hR (t_ldE (by omega) (by omega) (Nat.le_of_ble_eq_true rfl) fun v35 ev35 rv35 => ?_)
            refine hR (?_ : R (_, _, _, _, _, _))
            exact hR (zret_i rfl (Nat.le_refl _) trivial (h _ _ _ _ _ _ _ _ _ _ _ _ hp29 hp30 hp21 (by omega) hp23))
          iterate 3 refine hR (?_ : R (_, _, _, _, _, _))
          refine hR (zcall_i 0 0 (Nat.le_of_ble_eq_true rfl) (Nat.le_of_ble_eq_true rfl) (m_everybodyE _ (by omega) _ fun v36 hp37 hp38 => ?_))
          refine (?_ : R (_, _, (.int (Int32.ofInt v36)) :: (.int (Int32.ofInt k)) :: (.ref 14) :: [], (zMi c0 c1 c2 c3 c4 c5 c6 c7 c8 c9 c10 c11 c12 c13 0 f9 f10 f11 f12 f13 f15 f16 f17 y20_5 y21_16 y22_6 y23_7 y26_17 f28 f31 f32 f33 f38 f41 f44 x14 g15 g16 g17 g18 g19 g20 g21 g22 g23 g24 k25_25 k26_26 k27_27 g28 g29 k30_19 g31 g32 g33 g34 q35_69 g36 g37 g38 g39 g40 g41 g42 g43 g44 t), 0, 0))
          iterate 2 refine hR (?_ : R (_, _, _, _, _, _))
          refine hR (j_ne (by omega) (by omega) (fun hc39 => ?_) (fun hc39 => ?_))
          · skip
            refine hR (?_ : R (_, _, _, _, _, _))
            refine hR (zcall_i 0 0 (Nat.le_of_ble_eq_true rfl) (Nat.le_of_ble_eq_true rfl) (m_bestM _ k v36 hp21 (by omega) (by omega) (by omega) (rt_c (hp0_69 (by omega)) (by omega)) _ fun k35_40 hp41 hp42 hp43 => ?_))
            refine (?_ : R (_, _, [], (zMi c0 c1 c2 c3 c4 c5 c6 c7 c8 c9 c10 c11 c12 c13 0 f9 f10 f11 f12 f13 f15 f16 f17 y20_5 y21_16 y22_6 y23_7 y26_17 f28 f31 f32 f33 f38 f41 f44 x14 g15 g16 g17 g18 g19 g20 g21 g22 g23 g24 k25_25 k26_26 k27_27 g28 g29 k30_19 g31 g32 g33 g34 k35_40 g36 g37 g38 g39 g40 g41 g42 g43 g44 t), 0, 0))
            refine hR (t_inc ?_)
            refine hR (?_ : R (_, _, _, _, _, _))
            exact ih69 _ _ (by omega) (fun _ => rt_b hp42 (by omega)) (fun _ => rt_g hp21 (hp1_69 (by omega)) hp41 hp43 (by omega)) (by omega)
          iterate 2 refine hR (?_ : R (_, _, _, _, _, _))
          refine hR (zcall_i 0 0 (Nat.le_of_ble_eq_true rfl) (Nat.le_of_ble_eq_true rfl) (m_best _ k v36 1 hp21 (by omega) (by omega) (by omega) _ fun k35_44 => ?_))
          refine (?_ : R (_, _, [], (zMi c0 c1 c2 c3 c4 c5 c6 c7 c8 c9 c10 c11 c12 c13 0 f9 f10 f11 f12 f13 f15 f16 f17 y20_5 y21_16 y22_6 y23_7 y26_17 f28 f31 f32 f33 f38 f41 f44 x14 g15 g16 g17 g18 g19 g20 g21 g22 g23 g24 k25_25 k26_26 k27_27 g28 g29 k30_19 g31 g32 g33 g34 k35_44 g36 g37 g38 g39 g40 g41 g42 g43 g44 t), 0, 0))
          refine hR (t_inc ?_)
          refine hR (?_ : R (_, _, _, _, _, _))
          exact ih69 _ _ (by omega) (fun h => by omega) (fun h => by omega) (by omega)
      exact lp69 400000000 _ _ (by omega) (fun _ => hp31) (fun _ j h1 h2 => by omega) (by omega)
    refine hR (?_ : R (_, _, _, _, _, _))
    refine hR (t_c 10 (by decide) ?_)
    refine hR (t_c 9 (by decide) ?_)
    refine hR (?_ : R (_, _, _, _, _, _))
    refine hR (t_add ?_)
    refine hR (zcall_i 0 0 (Nat.le_of_ble_eq_true rfl) (Nat.le_of_ble_eq_true rfl) (m_in _ a3 10 (9 + a2) _ (by omega) (by omega) (by omega) _ fun v45 hp46 => ?_))
    refine (?_ : R (_, _, (.int (Int32.ofInt v45)) :: [], (zMi c0 c1 c2 c3 c4 c5 c6 c7 c8 c9 c10 c11 c12 c13 0 f9 f10 f11 f12 f13 f15 f16 f17 y20_5 f21 y22_6 y23_7 f26 f28 f31 f32 f33 f38 f41 f44 x14 g15 g16 g17 g18 g19 g20 g21 g22 g23 g24 g25 g26 g27 g28 g29 g30 g31 g32 g33 g34 g35 g36 g37 g38 g39 g40 g41 g42 g43 g44 t), 0, 0))
    refine hR (k_ne (by omega) (fun hc47 => ?_) (fun hc47 => ?_))
    rotate_left
    · skip
      refine hR (?_ : R (_, _, _, _, _, _))
      exact hR (zret_i rfl (Nat.le_refl _) trivial (h _ _ _ _ _ _ _ _ _ _ _ _ hb25 hb26 hb30 (by omega) hr9))
    refine hR (?_ : R (_, _, _, _, _, _))
    refine hR (zcall_i 0 0 (Nat.le_of_ble_eq_true rfl) (Nat.le_of_ble_eq_true rfl) (m_layMade _ hb25 hr4 (by omega) (by omega) hb30 (by omega) (by omega) hr9 _ fun y21_48 y26_49 k25_50 k30_51 hp52 hp53 hp54 hp55 hp56 => ?_))
    refine (?_ : R (_, _, [], (zMi c0 c1 c2 c3 c4 c5 c6 c7 c8 c9 c10 c11 c12 c13 0 f9 f10 f11 f12 f13 f15 f16 f17 y20_5 y21_48 y22_6 y23_7 y26_49 f28 f31 f32 f33 f38 f41 f44 x14 g15 g16 g17 g18 g19 g20 g21 g22 g23 g24 k25_50 g26 g27 g28 g29 k30_51 g31 g32 g33 g34 g35 g36 g37 g38 g39 g40 g41 g42 g43 g44 t), 0, 0))
    refine hR (?_ : R (_, _, _, _, _, _))
    refine hR (zcall_i 0 0 (Nat.le_of_ble_eq_true rfl) (Nat.le_of_ble_eq_true rfl) (m_layDriftsT _ hp52 hb26 (by omega) _ fun k25_57 k26_58 k27_59 k35_60 hp61 hp62 hp63 => ?_))
    refine (?_ : R (_, _, [], (zMi c0 c1 c2 c3 c4 c5 c6 c7 c8 c9 c10 c11 c12 c13 0 f9 f10 f11 f12 f13 f15 f16 f17 y20_5 y21_48 y22_6 y23_7 y26_49 f28 f31 f32 f33 f38 f41 f44 x14 g15 g16 g17 g18 g19 g20 g21 g22 g23 g24 k25_57 k26_58 k27_59 g28 g29 k30_51 g31 g32 g33 g34 k35_60 g36 g37 g38 g39 g40 g41 g42 g43 g44 t), 0, 0))
    iterate 2 refine hR (?_ : R (_, _, _, _, _, _))
    have lp69 : ∀ (N : Nat) (k : Int) (q35_69 : Nat → Int32), (1 ≤ k ∧ k ≤ a2 + 1) → (a3 ≠ 1 → lvB q35_69 (k - 1).toNat) → (a3 ≠ 1 → ∀ j : Nat, 1 ≤ j → (j : Int) < k → lvG q35_69 k30_51 y23_7 j) → (a2 + 1 - k < N) → R (69, [some (.ref 14), some (.int (Int32.ofInt a1)), some (.int (Int32.ofInt a2)), some (.int (Int32.ofInt a3)), some (.int (Int32.ofInt k))], [], (zMi c0 c1 c2 c3 c4 c5 c6 c7 c8 c9 c10 c11 c12 c13 0 f9 f10 f11 f12 f13 f15 f16 f17 y20_5 y21_48 y22_6 y23_7 y26_49 f28 f31 f32 f33 f38 f41 f44 x14 g15 g16 g17 g18 g19 g20 g21 g22 g23 g24 k25_57 k26_58 k27_59 g28 g29 k30_51 g31 g32 g33 g34 q35_69 g36 g37 g38 g39 g40 g41 g42 g43 g44 t), 0, 0) := by
      intro N
      induction N with
      | zero => intros; omega
      | succ N ih69 =>
        intro k q35_69 hf0_69 hp0_69 hp1_69 hN69
        iterate 2 refine hR (?_ : R (_, _, _, _, _, _))
        refine hR (j_gt (by omega) (by omega) (fun hc64 => ?_) (fun hc64 => ?_))
        · skip
          iterate 2 refine hR (?_ : R (_, _, _, _, _, _))
          refine hR (j_ge (by omega) (by omega) (fun hc65 => ?_) (fun hc65 => ?_))
          · skip
            iterate 3 refine hR (?_ : R (_, _, _, _, _, _))
            refine hR (t_c 10 (by decide) ?_)
            refine hR (t_sub ?_)
            refine hR (zcall_i 0 0 (Nat.le_of_ble_eq_true rfl) (Nat.le_of_ble_eq_true rfl) (m_rotaAt _ a2 (a3 - 10) hp53 (by omega) (by omega) (by omega) (by omega) (fun j h1 h2 => hp1_69 (by omega) j h1 (by omega)) _ fun v66 => ?_))
            refine (?_ : R (_, _, (.int (Int32.ofInt v66)) :: [], (zMi c0 c1 c2 c3 c4 c5 c6 c7 c8 c9 c10 c11 c12 c13 0 f9 f10 f11 f12 f13 f15 f16 f17 y20_5 y21_48 y22_6 y23_7 y26_49 f28 f31 f32 f33 f38 f41 f44 x14 g15 g16 g17 g18 g19 g20 g21 g22 g23 g24 k25_57 k26_58 k27_59 g28 g29 k30_51 g31 g32 g33 g34 q35_69 g36 g37 g38 g39 g40 g41 g42 g43 g44 t), 0, 0))
            exact hR (zret_i rfl (Nat.le_refl _) trivial (h _ _ _ _ _ _ _ _ _ _ _ _ hp61 hp62 hp53 (by omega) hp55))
          iterate 2 refine hR (?_ : R (_, _, _, _, _, _))
          refine hR (t_c 5461 (by decide) ?_)
          refine hR (?_ : R (_, _, _, _, _, _))
          refine hR (t_mul ?_)
          iterate 2 refine hR (?_ : R (_, _, _, _, _, _))
          refine hR (t_add ?_)
          refine hR (t_ldE (by omega) (by omega) (Nat.le_of_ble_eq_true rfl) fun v67 ev67 rv67 => ?_)
          refine hR (?_ : R (_, _, _, _, _, _))
          exact hR (zret_i rfl (Nat.le_refl _) trivial (h _ _ _ _ _ _ _ _ _ _ _ _ hp61 hp62 hp53 (by omega) hp55))
        iterate 3 refine hR (?_ : R (_, _, _, _, _, _))
        refine hR (zcall_i 0 0 (Nat.le_of_ble_eq_true rfl) (Nat.le_of_ble_eq_true rfl) (m_everybodyE _ (by omega) _ fun v68 hp69 hp70 => ?_))
        refine (?_ : R (_, _, (.int (Int32.ofInt v68)) :: (.int (Int32.ofInt k)) :: (.ref 14) :: [], (zMi c0 c1 c2 c3 c4 c5 c6 c7 c8 c9 c10 c11 c12 c13 0 f9 f10 f11 f12 f13 f15 f16 f17 y20_5 y21_48 y22_6 y23_7 y26_49 f28 f31 f32 f33 f38 f41 f44 x14 g15 g16 g17 g18 g19 g20 g21 g22 g23 g24 k25_57 k26_58 k27_59 g28 g29 k30_51 g31 g32 g33 g34 q35_69 g36 g37 g38 g39 g40 g41 g42 g43 g44 t), 0, 0))
        iterate 2 refine hR (?_ : R (_, _, _, _, _, _))
        refine hR (j_ne (by omega) (by omega) (fun hc71 => ?_) (fun hc71 => ?_))
        · skip
          refine hR (?_ : R (_, _, _, _, _, _))
          refine hR (zcall_i 0 0 (Nat.le_of_ble_eq_true rfl) (Nat.le_of_ble_eq_true rfl) (m_bestM _ k v68 hp53 (by omega) (by omega) (by omega) (rt_c (hp0_69 (by omega)) (by omega)) _ fun k35_72 hp73 hp74 hp75 => ?_))
          refine (?_ : R (_, _, [], (zMi c0 c1 c2 c3 c4 c5 c6 c7 c8 c9 c10 c11 c12 c13 0 f9 f10 f11 f12 f13 f15 f16 f17 y20_5 y21_48 y22_6 y23_7 y26_49 f28 f31 f32 f33 f38 f41 f44 x14 g15 g16 g17 g18 g19 g20 g21 g22 g23 g24 k25_57 k26_58 k27_59 g28 g29 k30_51 g31 g32 g33 g34 k35_72 g36 g37 g38 g39 g40 g41 g42 g43 g44 t), 0, 0))
          refine hR (t_inc ?_)
          refine hR (?_ : R (_, _, _, _, _, _))
          exact ih69 _ _ (by omega) (fun _ => rt_b hp74 (by omega)) (fun _ => rt_g hp53 (hp1_69 (by omega)) hp73 hp75 (by omega)) (by omega)
        iterate 2 refine hR (?_ : R (_, _, _, _, _, _))
        refine hR (zcall_i 0 0 (Nat.le_of_ble_eq_true rfl) (Nat.le_of_ble_eq_true rfl) (m_best _ k v68 1 hp53 (by omega) (by omega) (by omega) _ fun k35_76 => ?_))
        refine (?_ : R (_, _, [], (zMi c0 c1 c2 c3 c4 c5 c6 c7 c8 c9 c10 c11 c12 c13 0 f9 f10 f11 f12 f13 f15 f16 f17 y20_5 y21_48 y22_6 y23_7 y26_49 f28 f31 f32 f33 f38 f41 f44 x14 g15 g16 g17 g18 g19 g20 g21 g22 g23 g24 k25_57 k26_58 k27_59 g28 g29 k30_51 g31 g32 g33 g34 k35_76 g36 g37 g38 g39 g40 g41 g42 g43 g44 t), 0, 0))
        refine hR (t_inc ?_)
        refine hR (?_ : R (_, _, _, _, _, _))
        exact ih69 _ _ (by omega) (fun h => by omega) (fun h => by omega) (by omega)
    exact lp69 400000000 _ _ (by omega) (fun _ => hp63) (fun _ j h1 h2 => by omega) (by omega)
  refine hR (?_ : R (_, _, _, _, _, _))
  refine hR (k_gt (by omega) (fun hc77 => ?_) (fun hc77 => ?_))
  · skip
    refine hR (?_ : R (_, _, _, _, _, _))
    exact hR (zret_i rfl (Nat.le_refl _) trivial (h _ _ _ _ _ _ _ _ _ _ _ _ hb25 hb26 hb30 (by omega) hr9))
  iterate 3 refine hR (?_ : R (_, _, _, _, _, _))
  refine hR (zcall_i 0 0 (Nat.le_of_ble_eq_true rfl) (Nat.le_of_ble_eq_true rfl) (m_in _ a3 0 1 _ (by omega) (by omega) (by omega) _ fun v78 hp79 => ?_))
  refine (?_ : R (_, _, (.int (Int32.ofInt v78)) :: [], (zMi c0 c1 c2 c3 c4 c5 c6 c7 c8 c9 c10 c11 c12 c13 0 f9 f10 f11 f12 f13 f15 f16 f17 y20_5 f21 y22_6 y23_7 f26 f28 f31 f32 f33 f38 f41 f44 x14 g15 g16 g17 g18 g19 g20 g21 g22 g23 g24 g25 g26 g27 g28 g29 g30 g31 g32 g33 g34 g35 g36 g37 g38 g39 g40 g41 g42 g43 g44 t), 0, 0))
  refine hR (k_ne (by omega) (fun hc80 => ?_) (fun hc80 => ?_))
  · skip
    refine hR (?_ : R (_, _, _, _, _, _))
    refine hR (zcall_i 0 0 (Nat.le_of_ble_eq_true rfl) (Nat.le_of_ble_eq_true rfl) (m_layMade _ hb25 hr4 (by omega) (by omega) hb30 (by omega) (by omega) hr9 _ fun y21_81 y26_82 k25_83 k30_84 hp85 hp86 hp87 hp88 hp89 => ?_))
    refine (?_ : R (_, _, [], (zMi c0 c1 c2 c3 c4 c5 c6 c7 c8 c9 c10 c11 c12 c13 0 f9 f10 f11 f12 f13 f15 f16 f17 y20_5 y21_81 y22_6 y23_7 y26_82 f28 f31 f32 f33 f38 f41 f44 x14 g15 g16 g17 g18 g19 g20 g21 g22 g23 g24 k25_83 g26 g27 g28 g29 k30_84 g31 g32 g33 g34 g35 g36 g37 g38 g39 g40 g41 g42 g43 g44 t), 0, 0))
    refine hR (?_ : R (_, _, _, _, _, _))
    refine hR (zcall_i 0 0 (Nat.le_of_ble_eq_true rfl) (Nat.le_of_ble_eq_true rfl) (m_layDriftsT _ hp85 hb26 (by omega) _ fun k25_90 k26_91 k27_92 k35_93 hp94 hp95 hp96 => ?_))
    refine (?_ : R (_, _, [], (zMi c0 c1 c2 c3 c4 c5 c6 c7 c8 c9 c10 c11 c12 c13 0 f9 f10 f11 f12 f13 f15 f16 f17 y20_5 y21_81 y22_6 y23_7 y26_82 f28 f31 f32 f33 f38 f41 f44 x14 g15 g16 g17 g18 g19 g20 g21 g22 g23 g24 k25_90 k26_91 k27_92 g28 g29 k30_84 g31 g32 g33 g34 k35_93 g36 g37 g38 g39 g40 g41 g42 g43 g44 t), 0, 0))
    iterate 2 refine hR (?_ : R (_, _, _, _, _, _))
    have lp69 : ∀ (N : Nat) (k : Int) (q35_69 : Nat → Int32), (1 ≤ k ∧ k ≤ a2 + 1) → (a3 ≠ 1 → lvB q35_69 (k - 1).toNat) → (a3 ≠ 1 → ∀ j : Nat, 1 ≤ j → (j : Int) < k → lvG q35_69 k30_84 y23_7 j) → (a2 + 1 - k < N) → R (69, [some (.ref 14), some (.int (Int32.ofInt a1)), some (.int (Int32.ofInt a2)), some (.int (Int32.ofInt a3)), some (.int (Int32.ofInt k))], [], (zMi c0 c1 c2 c3 c4 c5 c6 c7 c8 c9 c10 c11 c12 c13 0 f9 f10 f11 f12 f13 f15 f16 f17 y20_5 y21_81 y22_6 y23_7 y26_82 f28 f31 f32 f33 f38 f41 f44 x14 g15 g16 g17 g18 g19 g20 g21 g22 g23 g24 k25_90 k26_91 k27_92 g28 g29 k30_84 g31 g32 g33 g34 q35_69 g36 g37 g38 g39 g40 g41 g42 g43 g44 t), 0, 0) := by
      intro N
      induction N with
      | zero => intros; omega
      | succ N ih69 =>
        intro k q35_69 hf0_69 hp0_69 hp1_69 hN69
        iterate 2 refine hR (?_ : R (_, _, _, _, _, _))
        refine hR (j_gt (by omega) (by omega) (fun hc97 => ?_) (fun hc97 => ?_))
        · skip
          iterate 2 refine hR (?_ : R (_, _, _, _, _, _))
          refine hR (j_ge (by omega) (by omega) (fun hc98 => ?_) (fun hc98 => ?_))
          · skip
            iterate 3 refine hR (?_ : R (_, _, _, _, _, _))
            refine hR (t_c 10 (by decide) ?_)
            refine hR (t_sub ?_)
            refine hR (zcall_i 0 0 (Nat.le_of_ble_eq_true rfl) (Nat.le_of_ble_eq_true rfl) (m_rotaAt _ a2 (a3 - 10) hp86 (by omega) (by omega) (by omega) (by omega) (fun j h1 h2 => hp1_69 (by omega) j h1 (by omega)) _ fun v99 => ?_))
            refine (?_ : R (_, _, (.int (Int32.ofInt v99)) :: [], (zMi c0 c1 c2 c3 c4 c5 c6 c7 c8 c9 c10 c11 c12 c13 0 f9 f10 f11 f12 f13 f15 f16 f17 y20_5 y21_81 y22_6 y23_7 y26_82 f28 f31 f32 f33 f38 f41 f44 x14 g15 g16 g17 g18 g19 g20 g21 g22 g23 g24 k25_90 k26_91 k27_92 g28 g29 k30_84 g31 g32 g33 g34 q35_69 g36 g37 g38 g39 g40 g41 g42 g43 g44 t), 0, 0))
            exact hR (zret_i rfl (Nat.le_refl _) trivial (h _ _ _ _ _ _ _ _ _ _ _ _ hp94 hp95 hp86 (by omega) hp88))
          iterate 2 refine hR (?_ : R (_, _, _, _, _, _))
          refine hR (t_c 5461 (by decide) ?_)
          refine hR (?_ : R (_, _, _, _, _, _))
          refine hR (t_mul ?_)
          iterate 2 refine hR (?_ : R (_, _, _, _, _, _))
          refine hR (t_add ?_)
          refine hR (t_ldE (by omega) (by omega) (Nat.le_of_ble_eq_true rfl) fun v100 ev100 rv100 => ?_)
          refine hR (?_ : R (_, _, _, _, _, _))
          exact hR (zret_i rfl (Nat.le_refl _) trivial (h _ _ _ _ _ _ _ _ _ _ _ _ hp94 hp95 hp86 (by omega) hp88))
        iterate 3 refine hR (?_ : R (_, _, _, _, _, _))
        refine hR (zcall_i 0 0 (Nat.le_of_ble_eq_true rfl) (Nat.le_of_ble_eq_true rfl) (m_everybodyE _ (by omega) _ fun v101 hp102 hp103 => ?_))
        refine (?_ : R (_, _, (.int (Int32.ofInt v101)) :: (.int (Int32.ofInt k)) :: (.ref 14) :: [], (zMi c0 c1 c2 c3 c4 c5 c6 c7 c8 c9 c10 c11 c12 c13 0 f9 f10 f11 f12 f13 f15 f16 f17 y20_5 y21_81 y22_6 y23_7 y26_82 f28 f31 f32 f33 f38 f41 f44 x14 g15 g16 g17 g18 g19 g20 g21 g22 g23 g24 k25_90 k26_91 k27_92 g28 g29 k30_84 g31 g32 g33 g34 q35_69 g36 g37 g38 g39 g40 g41 g42 g43 g44 t), 0, 0))
        iterate 2 refine hR (?_ : R (_, _, _, _, _, _))
        refine hR (j_ne (by omega) (by omega) (fun hc104 => ?_) (fun hc104 => ?_))
        · skip
          refine hR (?_ : R (_, _, _, _, _, _))
          refine hR (zcall_i 0 0 (Nat.le_of_ble_eq_true rfl) (Nat.le_of_ble_eq_true rfl) (m_bestM _ k v101 hp86 (by omega) (by omega) (by omega) (rt_c (hp0_69 (by omega)) (by omega)) _ fun k35_105 hp106 hp107 hp108 => ?_))
          refine (?_ : R (_, _, [], (zMi c0 c1 c2 c3 c4 c5 c6 c7 c8 c9 c10 c11 c12 c13 0 f9 f10 f11 f12 f13 f15 f16 f17 y20_5 y21_81 y22_6 y23_7 y26_82 f28 f31 f32 f33 f38 f41 f44 x14 g15 g16 g17 g18 g19 g20 g21 g22 g23 g24 k25_90 k26_91 k27_92 g28 g29 k30_84 g31 g32 g33 g34 k35_105 g36 g37 g38 g39 g40 g41 g42 g43 g44 t), 0, 0))
          refine hR (t_inc ?_)
          refine hR (?_ : R (_, _, _, _, _, _))
          exact ih69 _ _ (by omega) (fun _ => rt_b hp107 (by omega)) (fun _ => rt_g hp86 (hp1_69 (by omega)) hp106 hp108 (by omega)) (by omega)
        iterate 2 refine hR (?_ : R (_, _, _, _, _, _))
        refine hR (zcall_i 0 0 (Nat.le_of_ble_eq_true rfl) (Nat.le_of_ble_eq_true rfl) (m_best _ k v101 1 hp86 (by omega) (by omega) (by omega) _ fun k35_109 => ?_))
        refine (?_ : R (_, _, [], (zMi c0 c1 c2 c3 c4 c5 c6 c7 c8 c9 c10 c11 c12 c13 0 f9 f10 f11 f12 f13 f15 f16 f17 y20_5 y21_81 y22_6 y23_7 y26_82 f28 f31 f32 f33 f38 f41 f44 x14 g15 g16 g17 g18 g19 g20 g21 g22 g23 g24 k25_90 k26_91 k27_92 g28 g29 k30_84 g31 g32 g33 g34 k35_109 g36 g37 g38 g39 g40 g41 g42 g43 g44 t), 0, 0))
        refine hR (t_inc ?_)
        refine hR (?_ : R (_, _, _, _, _, _))
        exact ih69 _ _ (by omega) (fun h => by omega) (fun h => by omega) (by omega)
    exact lp69 400000000 _ _ (by omega) (fun _ => hp96) (fun _ j h1 h2 => by omega) (by omega)
  refine hR (?_ : R (_, _, _, _, _, _))
  refine hR (t_c 10 (by decide) ?_)
  refine hR (t_c 9 (by decide) ?_)
  refine hR (?_ : R (_, _, _, _, _, _))
  refine hR (t_add ?_)
  refine hR (zcall_i 0 0 (Nat.le_of_ble_eq_true rfl) (Nat.le_of_ble_eq_true rfl) (m_in _ a3 10 (9 + a2) _ (by omega) (by omega) (by omega) _ fun v110 hp111 => ?_))
  refine (?_ : R (_, _, (.int (Int32.ofInt v110)) :: [], (zMi c0 c1 c2 c3 c4 c5 c6 c7 c8 c9 c10 c11 c12 c13 0 f9 f10 f11 f12 f13 f15 f16 f17 y20_5 f21 y22_6 y23_7 f26 f28 f31 f32 f33 f38 f41 f44 x14 g15 g16 g17 g18 g19 g20 g21 g22 g23 g24 g25 g26 g27 g28 g29 g30 g31 g32 g33 g34 g35 g36 g37 g38 g39 g40 g41 g42 g43 g44 t), 0, 0))
  refine hR (k_ne (by omega) (fun hc112 => ?_) (fun hc112 => ?_))
  rotate_left
  · skip
    refine hR (?_ : R (_, _, _, _, _, _))
    exact hR (zret_i rfl (Nat.le_refl _) trivial (h _ _ _ _ _ _ _ _ _ _ _ _ hb25 hb26 hb30 (by omega) hr9))
  refine hR (?_ : R (_, _, _, _, _, _))
  refine hR (zcall_i 0 0 (Nat.le_of_ble_eq_true rfl) (Nat.le_of_ble_eq_true rfl) (m_layMade _ hb25 hr4 (by omega) (by omega) hb30 (by omega) (by omega) hr9 _ fun y21_113 y26_114 k25_115 k30_116 hp117 hp118 hp119 hp120 hp121 => ?_))
  refine (?_ : R (_, _, [], (zMi c0 c1 c2 c3 c4 c5 c6 c7 c8 c9 c10 c11 c12 c13 0 f9 f10 f11 f12 f13 f15 f16 f17 y20_5 y21_113 y22_6 y23_7 y26_114 f28 f31 f32 f33 f38 f41 f44 x14 g15 g16 g17 g18 g19 g20 g21 g22 g23 g24 k25_115 g26 g27 g28 g29 k30_116 g31 g32 g33 g34 g35 g36 g37 g38 g39 g40 g41 g42 g43 g44 t), 0, 0))
  refine hR (?_ : R (_, _, _, _, _, _))
  refine hR (zcall_i 0 0 (Nat.le_of_ble_eq_true rfl) (Nat.le_of_ble_eq_true rfl) (m_layDriftsT _ hp117 hb26 (by omega) _ fun k25_122 k26_123 k27_124 k35_125 hp126 hp127 hp128 => ?_))
  refine (?_ : R (_, _, [], (zMi c0 c1 c2 c3 c4 c5 c6 c7 c8 c9 c10 c11 c12 c13 0 f9 f10 f11 f12 f13 f15 f16 f17 y20_5 y21_113 y22_6 y23_7 y26_114 f28 f31 f32 f33 f38 f41 f44 x14 g15 g16 g17 g18 g19 g20 g21 g22 g23 g24 k25_122 k26_123 k27_124 g28 g29 k30_116 g31 g32 g33 g34 k35_125 g36 g37 g38 g39 g40 g41 g42 g43 g44 t), 0, 0))
  iterate 2 refine hR (?_ : R (_, _, _, _, _, _))
  have lp69 : ∀ (N : Nat) (k : Int) (q35_69 : Nat → Int32), (1 ≤ k ∧ k ≤ a2 + 1) → (a3 ≠ 1 → lvB q35_69 (k - 1).toNat) → (a3 ≠ 1 → ∀ j : Nat, 1 ≤ j → (j : Int) < k → lvG q35_69 k30_116 y23_7 j) → (a2 + 1 - k < N) → R (69, [some (.ref 14), some (.int (Int32.ofInt a1)), some (.int (Int32.ofInt a2)), some (.int (Int32.ofInt a3)), some (.int (Int32.ofInt k))], [], (zMi c0 c1 c2 c3 c4 c5 c6 c7 c8 c9 c10 c11 c12 c13 0 f9 f10 f11 f12 f13 f15 f16 f17 y20_5 y21_113 y22_6 y23_7 y26_114 f28 f31 f32 f33 f38 f41 f44 x14 g15 g16 g17 g18 g19 g20 g21 g22 g23 g24 k25_122 k26_123 k27_124 g28 g29 k30_116 g31 g32 g33 g34 q35_69 g36 g37 g38 g39 g40 g41 g42 g43 g44 t), 0, 0) := by
    intro N
    induction N with
    | zero => intros; omega
    | succ N ih69 =>
      intro k q35_69 hf0_69 hp0_69 hp1_69 hN69
      iterate 2 refine hR (?_ : R (_, _, _, _, _, _))
      refine hR (j_gt (by omega) (by omega) (fun hc129 => ?_) (fun hc129 => ?_))
      · skip
        iterate 2 refine hR (?_ : R (_, _, _, _, _, _))
        refine hR (j_ge (by omega) (by omega) (fun hc130 => ?_) (fun hc130 => ?_))
        · skip
          iterate 3 refine hR (?_ : R (_, _, _, _, _, _))
          refine hR (t_c 10 (by decide) ?_)
          refine hR (t_sub ?_)
          refine hR (zcall_i 0 0 (Nat.le_of_ble_eq_true rfl) (Nat.le_of_ble_eq_true rfl) (m_rotaAt _ a2 (a3 - 10) hp118 (by omega) (by omega) (by omega) (by omega) (fun j h1 h2 => hp1_69 (by omega) j h1 (by omega)) _ fun v131 => ?_))
          refine (?_ : R (_, _, (.int (Int32.ofInt v131)) :: [], (zMi c0 c1 c2 c3 c4 c5 c6 c7 c8 c9 c10 c11 c12 c13 0 f9 f10 f11 f12 f13 f15 f16 f17 y20_5 y21_113 y22_6 y23_7 y26_114 f28 f31 f32 f33 f38 f41 f44 x14 g15 g16 g17 g18 g19 g20 g21 g22 g23 g24 k25_122 k26_123 k27_124 g28 g29 k30_116 g31 g32 g33 g34 q35_69 g36 g37 g38 g39 g40 g41 g42 g43 g44 t), 0, 0))
          exact hR (zret_i rfl (Nat.le_refl _) trivial (h _ _ _ _ _ _ _ _ _ _ _ _ hp126 hp127 hp118 (by omega) hp120))
        iterate 2 refine hR (?_ : R (_, _, _, _, _, _))
        refine hR (t_c 5461 (by decide) ?_)
        refine hR (?_ : R (_, _, _, _, _, _))
        refine hR (t_mul ?_)
        iterate 2 refine hR (?_ : R (_, _, _, _, _, _))
        refine hR (t_add ?_)
        refine hR (t_ldE (by omega) (by omega) (Nat.le_of_ble_eq_true rfl) fun v132 ev132 rv132 => ?_)
        refine hR (?_ : R (_, _, _, _, _, _))
        exact hR (zret_i rfl (Nat.le_refl _) trivial (h _ _ _ _ _ _ _ _ _ _ _ _ hp126 hp127 hp118 (by omega) hp120))
      iterate 3 refine hR (?_ : R (_, _, _, _, _, _))
      refine hR (zcall_i 0 0 (Nat.le_of_ble_eq_true rfl) (Nat.le_of_ble_eq_true rfl) (m_everybodyE _ (by omega) _ fun v133 hp134 hp135 => ?_))
      refine (?_ : R (_, _, (.int (Int32.ofInt v133)) :: (.int (Int32.ofInt k)) :: (.ref 14) :: [], (zMi c0 c1 c2 c3 c4 c5 c6 c7 c8 c9 c10 c11 c12 c13 0 f9 f10 f11 f12 f13 f15 f16 f17 y20_5 y21_113 y22_6 y23_7 y26_114 f28 f31 f32 f33 f38 f41 f44 x14 g15 g16 g17 g18 g19 g20 g21 g22 g23 g24 k25_122 k26_123 k27_124 g28 g29 k30_116 g31 g32 g33 g34 q35_69 g36 g37 g38 g39 g40 g41 g42 g43 g44 t), 0, 0))
      iterate 2 refine hR (?_ : R (_, _, _, _, _, _))
      refine hR (j_ne (by omega) (by omega) (fun hc136 => ?_) (fun hc136 => ?_))
      · skip
        refine hR (?_ : R (_, _, _, _, _, _))
        refine hR (zcall_i 0 0 (Nat.le_of_ble_eq_true rfl) (Nat.le_of_ble_eq_true rfl) (m_bestM _ k v133 hp118 (by omega) (by omega) (by omega) (rt_c (hp0_69 (by omega)) (by omega)) _ fun k35_137 hp138 hp139 hp140 => ?_))
        refine (?_ : R (_, _, [], (zMi c0 c1 c2 c3 c4 c5 c6 c7 c8 c9 c10 c11 c12 c13 0 f9 f10 f11 f12 f13 f15 f16 f17 y20_5 y21_113 y22_6 y23_7 y26_114 f28 f31 f32 f33 f38 f41 f44 x14 g15 g16 g17 g18 g19 g20 g21 g22 g23 g24 k25_122 k26_123 k27_124 g28 g29 k30_116 g31 g32 g33 g34 k35_137 g36 g37 g38 g39 g40 g41 g42 g43 g44 t), 0, 0))
        refine hR (t_inc ?_)
        refine hR (?_ : R (_, _, _, _, _, _))
        exact ih69 _ _ (by omega) (fun _ => rt_b hp139 (by omega)) (fun _ => rt_g hp118 (hp1_69 (by omega)) hp138 hp140 (by omega)) (by omega)
      iterate 2 refine hR (?_ : R (_, _, _, _, _, _))
      refine hR (zcall_i 0 0 (Nat.le_of_ble_eq_true rfl) (Nat.le_of_ble_eq_true rfl) (m_best _ k v133 1 hp118 (by omega) (by omega) (by omega) _ fun k35_141 => ?_))
      refine (?_ : R (_, _, [], (zMi c0 c1 c2 c3 c4 c5 c6 c7 c8 c9 c10 c11 c12 c13 0 f9 f10 f11 f12 f13 f15 f16 f17 y20_5 y21_113 y22_6 y23_7 y26_114 f28 f31 f32 f33 f38 f41 f44 x14 g15 g16 g17 g18 g19 g20 g21 g22 g23 g24 k25_122 k26_123 k27_124 g28 g29 k30_116 g31 g32 g33 g34 k35_141 g36 g37 g38 g39 g40 g41 g42 g43 g44 t), 0, 0))
      refine hR (t_inc ?_)
      refine hR (?_ : R (_, _, _, _, _, _))
      exact ih69 _ _ (by omega) (fun h => by omega) (fun h => by omega) (by omega)
  exact lp69 400000000 _ _ (by omega) (fun _ => hp128) (fun _ j h1 h2 => by omega) (by omega)
end MZ
