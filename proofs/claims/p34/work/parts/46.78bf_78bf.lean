theorem tx_o {g : Nat → Int32} {x : Int32} {j : Nat} (hj : j ≠ 0) : upd g (0 : Int).toNat x j = g j := if_neg hj
theorem bk_kp {g q T : Nat → Int32} {a : Int} (hg : bkOK g) (hq : q = kpR g (51 * a.toNat) T 51) (hT : bkR T) (ha : 0 ≤ a ∧ a ≤ 1) : bkOK q := by
  intro b hb
  have h1 := hg b hb
  by_cases hbb : b = a.toNat
  · obtain ⟨t0, t1, t2, t3, t4⟩ := hT
    have hin : ∀ j, j < 51 → q (51 * b + j) = T j := by
      intro j hj
      rw [hq]; unfold kpR
      rw [if_pos (by omega), show 51 * b + j - 51 * a.toNat = j by omega]
    refine ⟨?_, ?_, fun j q1 q2 => ?_, fun j q1 q2 => ?_, fun j q1 => ?_⟩
    · dsimp only; rw [hin 0 (by omega)]; exact t0
    · dsimp only; rw [hin 1 (by omega)]; exact t1
    · dsimp only; rw [hin j (by omega)]; exact t2 j q1 q2
    · dsimp only; rw [hin j (by omega)]; exact t3 j q1 q2
    · dsimp only; rw [hin (11 + 2 * j) (by omega), hin (12 + 2 * j) (by omega)]; exact t4 j q1
  · have hout : ∀ j, j < 51 → q (51 * b + j) = g (51 * b + j) := by
      intro j hj
      rw [hq]; unfold kpR
      rw [if_neg (by omega)]
    obtain ⟨t0, t1, t2, t3, t4⟩ := h1
    refine ⟨?_, ?_, fun j q1 q2 => ?_, fun j q1 q2 => ?_, fun j q1 => ?_⟩
    · dsimp only; rw [hout 0 (by omega)]; exact t0
    · dsimp only; rw [hout 1 (by omega)]; exact t1
    · dsimp only; rw [hout j (by omega)]; exact t2 j q1 q2
    · dsimp only; rw [hout j (by omega)]; exact t3 j q1 q2
    · dsimp only; rw [hout (11 + 2 * j) (by omega), hout (12 + 2 * j) (by omega)]; exact t4 j q1
theorem yr_kp {g q T : Nat → Int32} {a : Int} (hg : yrOK g) (hq : q = kpR g (121 * a.toNat) T 121) (hT : yrR T) (ha : 0 ≤ a ∧ a ≤ 1) : yrOK q := by
  intro b hb
  have h1 := hg b hb
  by_cases hbb : b = a.toNat
  · obtain ⟨t0, t1⟩ := hT
    have hin : ∀ j, j < 121 → q (121 * b + j) = T j := by
      intro j hj
      rw [hq]; unfold kpR
      rw [if_pos (by omega), show 121 * b + j - 121 * a.toNat = j by omega]
    refine ⟨?_, fun k hk => ?_⟩
    · dsimp only; rw [hin 0 (by omega)]; exact t0
    · dsimp only; rw [hin (1 + 3 * k) (by omega), hin (2 + 3 * k) (by omega), hin (3 + 3 * k) (by omega)]; exact t1 k hk
  · have hout : ∀ j, j < 121 → q (121 * b + j) = g (121 * b + j) := by
      intro j hj
      rw [hq]; unfold kpR
      rw [if_neg (by omega)]
    obtain ⟨t0, t1⟩ := h1
    refine ⟨?_, fun k hk => ?_⟩
    · dsimp only; rw [hout 0 (by omega)]; exact t0
    · dsimp only; rw [hout (1 + 3 * k) (by omega), hout (2 + 3 * k) (by omega), hout (3 + 3 * k) (by omega)]; exact t1 k hk
theorem si_kp {g q T : Nat → Int32} {a : Int} (hg : siOK g) (hq : q = kpR g (13 * a.toNat) T 13) (hT : 0 ≤ (T 0).toInt ∧ (T 0).toInt ≤ 6) (ha : 0 ≤ a ∧ a ≤ 1) : siOK q := by
  intro b hb
  have h1 := hg b hb
  by_cases hbb : b = a.toNat
  · have hin : q (13 * b) = T 0 := by
      rw [hq]; unfold kpR
      rw [if_pos (by omega), show 13 * b - 13 * a.toNat = 0 by omega]
    rw [hin]; exact hT
  · have hout : q (13 * b) = g (13 * b) := by
      rw [hq]; unfold kpR
      rw [if_neg (by omega)]
    rw [hout]; exact h1
theorem cp_row {g : Nat → Int32} {n fr to m : Nat} (b : Nat) (hm : m * 2 = n) : ∃ b2, (b2 = b ∨ b2 = 2 * fr ∨ b2 = 2 * fr + 1) ∧ ∀ j, j < m → cpR g n fr to n (m * b + j) = g (m * b2 + j) := by
  subst hm
  have e1 : m * 2 * to = m * (2 * to) := by rw [Nat.mul_assoc]
  have e2 : m * 2 * fr = m * (2 * fr) := by rw [Nat.mul_assoc]
  by_cases h1 : b = 2 * to
  · refine ⟨2 * fr, Or.inr (Or.inl rfl), fun j hj => ?_⟩
    subst h1
    unfold cpR
    rw [e1, e2, if_pos (by omega)]
    congr 1; omega
  · by_cases h2 : b = 2 * to + 1
    · refine ⟨2 * fr + 1, Or.inr (Or.inr rfl), fun j hj => ?_⟩
      subst h2
      unfold cpR
      rw [e1, e2, Nat.mul_add, Nat.mul_add, if_pos (by omega)]
      congr 1; omega
    · refine ⟨b, Or.inl rfl, fun j hj => ?_⟩
      unfold cpR
      rw [e1, if_neg]
      intro q
      by_cases q1 : b < 2 * to
      · have := Nat.mul_le_mul_left m (show b + 1 ≤ 2 * to by omega)
        rw [Nat.mul_add, Nat.mul_one] at this
        omega
      · have := Nat.mul_le_mul_left m (show 2 * to + 2 ≤ b by omega)
        rw [Nat.mul_add] at this
        omega
theorem bk_cp {g : Nat → Int32} (hg : bkOK g) {fr to : Nat} (hf : fr ≤ 3) : bkOK (cpR g 102 fr to 102) := by
  intro b hb
  obtain ⟨b2, h1, h2⟩ := cp_row (g := g) (n := 102) (fr := fr) (to := to) (m := 51) b rfl
  obtain ⟨t0, t1, t2, t3, t4⟩ := hg b2 (by omega)
  refine ⟨?_, ?_, fun j q1 q2 => ?_, fun j q1 q2 => ?_, fun j q1 => ?_⟩
  · dsimp only; rw [h2 0 (by omega)]; exact t0
  · dsimp only; rw [h2 1 (by omega)]; exact t1
  · dsimp only; rw [h2 j (by omega)]; exact t2 j q1 q2
  · dsimp only; rw [h2 j (by omega)]; exact t3 j q1 q2
  · dsimp only; rw [h2 (11 + 2 * j) (by omega), h2 (12 + 2 * j) (by omega)]; exact t4 j q1
theorem yr_cp {g : Nat → Int32} (hg : yrOK g) {fr to : Nat} (hf : fr ≤ 3) : yrOK (cpR g 242 fr to 242) := by
  intro b hb
  obtain ⟨b2, h1, h2⟩ := cp_row (g := g) (n := 242) (fr := fr) (to := to) (m := 121) b rfl
  obtain ⟨t0, t1⟩ := hg b2 (by omega)
  refine ⟨?_, fun k hk => ?_⟩
  · dsimp only; rw [h2 0 (by omega)]; exact t0
  · dsimp only; rw [h2 (1 + 3 * k) (by omega), h2 (2 + 3 * k) (by omega), h2 (3 + 3 * k) (by omega)]; exact t1 k hk
theorem si_cp {g : Nat → Int32} (hg : siOK g) {fr to : Nat} (hf : fr ≤ 3) : siOK (cpR g 26 fr to 26) := by
  intro b hb
  obtain ⟨b2, h1, h2⟩ := cp_row (g := g) (n := 26) (fr := fr) (to := to) (m := 13) b rfl
  have := hg b2 (by omega)
  have e := h2 0 (by omega)
  rw [Nat.add_zero, Nat.add_zero] at e
  rw [e]; exact this
section MZ
variable {c0 c1 c2 c3 c4 c5 c6 c7 c8 c9 c10 c11 c12 c13 : va_E} {f0 f9 f10 f11 f12 f13 f15 f16 f17 f20 f21 f22 f23 f26 f28 f31 f32 f33 f38 f41 f44 : Int} {x14 : Int64} {g15 g16 g17 g18 g19 g20 g21 g22 g23 g24 g25 g26 g27 g28 g29 g30 g31 g32 g33 g34 g35 g36 g37 g38 g39 g40 g41 g42 g43 g44 : Nat → Int32} {t : zW}
theorem m_text (d : Nat) (a1 a2 : Int) (hb19 : zB 0 2 g19) (hr1 : zB 0 600 g16) (hr2 : bkOK g20) (hr3 : yrOK g21) (hr4 : siOK g22) (hr5 : -2147483648 ≤ a1 ∧ a1 ≤ 2147483647) (hr6 : -2147483648 ≤ a2 ∧ a2 ≤ 2147483647) (Q : zQ) (h : ∀ (v : Int) (y0 : Int) (y9 : Int) (y10 : Int) (y11 : Int) (y12 : Int) (y13 : Int) (y14 : Int64) (y15 : Int) (y16 : Int) (y17 : Int) (y21 : Int) (k16 : Nat → Int32) (k17 : Nat → Int32) (k18 : Nat → Int32) (k19 : Nat → Int32) (k20 : Nat → Int32) (k21 : Nat → Int32) (k22 : Nat → Int32) (k23 : Nat → Int32) (k24 : Nat → Int32), zB 0 2 k19 → ((k16 0).toInt = 0) → (∀ j, j ≠ 0 → k16 j = g16 j) → (bkOK k20) → (yrOK k21) → (siOK k22) → (y21 = -1 ∨ (y21 = f21 ∧ k20 = g20)) → Q (some (.int (Int32.ofInt v))) (zMi c0 c1 c2 c3 c4 c5 c6 c7 c8 c9 c10 c11 c12 c13 y0 y9 y10 y11 y12 y13 y15 y16 y17 f20 y21 f22 f23 f26 f28 f31 f32 f33 f38 f41 f44 y14 g15 k16 k17 k18 k19 k20 k21 k22 k23 k24 g25 g26 g27 g28 g29 g30 g31 g32 g33 g34 g35 g36 g37 g38 g39 g40 g41 g42 g43 g44 t)) : zCl zTab (d + 10) iX12_text [.ref 14, .int (Int32.ofInt a1), .int (Int32.ofInt a2)] (zMi c0 c1 c2 c3 c4 c5 c6 c7 c8 c9 c10 c11 c12 c13 f0 f9 f10 f11 f12 f13 f15 f16 f17 f20 f21 f22 f23 f26 f28 f31 f32 f33 f38 f41 f44 x14 g15 g16 g17 g18 g19 g20 g21 g22 g23 g24 g25 g26 g27 g28 g29 g30 g31 g32 g33 g34 g35 g36 g37 g38 g39 g40 g41 g42 g43 g44 t) 0 0 Q := by
  refine zCl_i (M := kX12_text) rfl (Nat.le_of_ble_eq_true rfl) fun R hR => ?_
  iterate 2 refine hR (?_ : R (_, _, _, _, _, _))
  refine hR (?_ : R (_, _, _, (zMi c0 c1 c2 c3 c4 c5 c6 c7 c8 c9 c10 c11 c12 c13 0 f9 f10 f11 f12 f13 f15 f16 f17 f20 f21 f22 f23 f26 f28 f31 f32 f33 f38 f41 f44 x14 g15 g16 g17 g18 g19 g20 g21 g22 g23 g24 g25 g26 g27 g28 g29 g30 g31 g32 g33 g34 g35 g36 g37 g38 g39 g40 g41 g42 g43 g44 t), _, _))
  iterate 4 refine hR (?_ : R (_, _, _, _, _, _))
  refine hR (t_ldE (by omega) (by omega) (Nat.le_of_ble_eq_true rfl) fun v1 ev1 rv1 => ?_)
  have bv1 : v1 = (g16 0).toInt := ev1
  have cv1 := hr1 0
  refine hR (?_ : R (_, _, _, (zMi c0 c1 c2 c3 c4 c5 c6 c7 c8 c9 c10 c11 c12 c13 0 f9 v1 f11 f12 f13 f15 f16 f17 f20 f21 f22 f23 f26 f28 f31 f32 f33 f38 f41 f44 x14 g15 g16 g17 g18 g19 g20 g21 g22 g23 g24 g25 g26 g27 g28 g29 g30 g31 g32 g33 g34 g35 g36 g37 g38 g39 g40 g41 g42 g43 g44 t), _, _))
  iterate 4 refine hR (?_ : R (_, _, _, _, _, _))
  refine hR (t_st (by omega) (by omega) (Nat.le_of_ble_eq_true rfl) (?_ : R (_, _, _, (zMi c0 c1 c2 c3 c4 c5 c6 c7 c8 c9 c10 c11 c12 c13 0 f9 v1 f11 f12 f13 f15 f16 f17 f20 f21 f22 f23 f26 f28 f31 f32 f33 f38 f41 f44 x14 g15 (upd g16 (0 : Int).toNat (Int32.ofInt 0)) g17 g18 g19 g20 g21 g22 g23 g24 g25 g26 g27 g28 g29 g30 g31 g32 g33 g34 g35 g36 g37 g38 g39 g40 g41 g42 g43 g44 t), _, _)))
  iterate 4 refine hR (?_ : R (_, _, _, _, _, _))
  refine hR (t_stx (by omega) (by omega) (Nat.le_of_ble_eq_true rfl) fun k17_3 => (?_ : R (_, _, _, (zMi c0 c1 c2 c3 c4 c5 c6 c7 c8 c9 c10 c11 c12 c13 0 f9 v1 f11 f12 f13 f15 f16 f17 f20 f21 f22 f23 f26 f28 f31 f32 f33 f38 f41 f44 x14 g15 (upd g16 (0 : Int).toNat (Int32.ofInt 0)) k17_3 g18 g19 g20 g21 g22 g23 g24 g25 g26 g27 g28 g29 g30 g31 g32 g33 g34 g35 g36 g37 g38 g39 g40 g41 g42 g43 g44 t), _, _)))
  iterate 4 refine hR (?_ : R (_, _, _, _, _, _))
  refine hR (t_stx (by omega) (by omega) (Nat.le_of_ble_eq_true rfl) fun k18_4 => (?_ : R (_, _, _, (zMi c0 c1 c2 c3 c4 c5 c6 c7 c8 c9 c10 c11 c12 c13 0 f9 v1 f11 f12 f13 f15 f16 f17 f20 f21 f22 f23 f26 f28 f31 f32 f33 f38 f41 f44 x14 g15 (upd g16 (0 : Int).toNat (Int32.ofInt 0)) k17_3 k18_4 g19 g20 g21 g22 g23 g24 g25 g26 g27 g28 g29 g30 g31 g32 g33 g34 g35 g36 g37 g38 g39 g40 g41 g42 g43 g44 t), _, _)))
  iterate 3 refine hR (?_ : R (_, _, _, _, _, _))
  refine hR (zcall_i 0 0 (Nat.le_of_ble_eq_true rfl) (Nat.le_of_ble_eq_true rfl) (m_in _ a1 0 2 _ (by omega) (by omega) (by omega) _ fun v5 hp6 => ?_))
  refine (?_ : R (_, _, (.int (Int32.ofInt v5)) :: [], (zMi c0 c1 c2 c3 c4 c5 c6 c7 c8 c9 c10 c11 c12 c13 0 f9 v1 f11 f12 f13 f15 f16 f17 f20 f21 f22 f23 f26 f28 f31 f32 f33 f38 f41 f44 x14 g15 (upd g16 (0 : Int).toNat (Int32.ofInt 0)) k17_3 k18_4 g19 g20 g21 g22 g23 g24 g25 g26 g27 g28 g29 g30 g31 g32 g33 g34 g35 g36 g37 g38 g39 g40 g41 g42 g43 g44 t), 0, 0))
  refine hR (k_eq (by omega) (fun hc7 => ?_) (fun hc7 => ?_))
  · skip
    refine hR (t_c (-2) (by decide) ?_)
    exact hR (zret_i rfl (Nat.le_refl _) trivial (h _ _ _ _ _ _ _ _ _ _ _ _ _ _ _ _ _ _ _ _ _ hb19 (by rfl) (fun j hj => tx_o hj) hr2 hr3 hr4 (Or.inr ⟨rfl, rfl⟩)))
  iterate 2 refine hR (?_ : R (_, _, _, _, _, _))
  refine hR (j_ne (by omega) (by omega) (fun hc8 => ?_) (fun hc8 => ?_))
  · skip
    iterate 3 refine hR (?_ : R (_, _, _, _, _, _))
    refine hR (zcall_i 0 0 (Nat.le_of_ble_eq_true rfl) (Nat.le_of_ble_eq_true rfl) (m_is _ a1 a2 hb19 (by omega) (by omega) _ fun v9 hp10 => ?_))
    refine (?_ : R (_, _, (.int (Int32.ofInt v9)) :: [], (zMi c0 c1 c2 c3 c4 c5 c6 c7 c8 c9 c10 c11 c12 c13 0 f9 v1 f11 f12 f13 f15 f16 f17 f20 f21 f22 f23 f26 f28 f31 f32 f33 f38 f41 f44 x14 g15 (upd g16 (0 : Int).toNat (Int32.ofInt 0)) k17_3 k18_4 g19 g20 g21 g22 g23 g24 g25 g26 g27 g28 g29 g30 g31 g32 g33 g34 g35 g36 g37 g38 g39 g40 g41 g42 g43 g44 t), 0, 0))
    refine hR (k_ne (by omega) (fun hc11 => ?_) (fun hc11 => ?_))
    rotate_left
    · skip
      refine hR (t_c (-2) (by decide) ?_)
      exact hR (zret_i rfl (Nat.le_refl _) trivial (h _ _ _ _ _ _ _ _ _ _ _ _ _ _ _ _ _ _ _ _ _ hb19 (by rfl) (fun j hj => tx_o hj) hr2 hr3 hr4 (Or.inr ⟨rfl, rfl⟩)))
    iterate 2 refine hR (?_ : R (_, _, _, _, _, _))
    refine hR (zcall_i 0 0 (Nat.le_of_ble_eq_true rfl) (Nat.le_of_ble_eq_true rfl) (m_readText _ a1 (by omega) (by omega) _ fun v12 y9_13 y11_14 y12_15 y13_16 y14_17 y15_18 y16_19 y17_20 k17_21 k18_22 k23_23 k24_24 hp25 hp26 => ?_))
    refine (?_ : R (_, _, (.int (Int32.ofInt v12)) :: [], (zMi c0 c1 c2 c3 c4 c5 c6 c7 c8 c9 c10 c11 c12 c13 0 y9_13 v1 y11_14 y12_15 y13_16 y15_18 y16_19 y17_20 f20 f21 f22 f23 f26 f28 f31 f32 f33 f38 f41 f44 y14_17 g15 (upd g16 (0 : Int).toNat (Int32.ofInt 0)) k17_21 k18_22 g19 g20 g21 g22 k23_23 k24_24 g25 g26 g27 g28 g29 g30 g31 g32 g33 g34 g35 g36 g37 g38 g39 g40 g41 g42 g43 g44 t), 0, 0))
    refine hR (k_ne (by omega) (fun hc27 => ?_) (fun hc27 => ?_))
    rotate_left
    · skip
      refine hR (?_ : R (_, _, _, _, _, _))
      exact hR (zret_i rfl (Nat.le_refl _) trivial (h _ _ _ _ _ _ _ _ _ _ _ _ _ _ _ _ _ _ _ _ _ hb19 (by rfl) (fun j hj => tx_o hj) hr2 hr3 hr4 (Or.inr ⟨rfl, rfl⟩)))
    iterate 2 refine hR (?_ : R (_, _, _, _, _, _))
    refine hR (j_ne (by omega) (by omega) (fun _ => ?_) (fun hc => by omega))
    iterate 6 refine hR (?_ : R (_, _, _, _, _, _))
    refine hR (t_ldB hb19 (by omega) (by omega) (Nat.le_of_ble_eq_true rfl) fun v28 ev28 lv28 uv28 => ?_)
    iterate 2 refine hR (?_ : R (_, _, _, _, _, _))
    refine hR (j_ne (by omega) (by omega) (fun _ => ?_) (fun hc => by omega))
    refine hR (?_ : R (_, _, _, _, _, _))
    refine hR (t_add ?_)
    refine hR (t_stB hb19 (by omega) (by omega) (by omega) (by omega) (by omega) (by omega) (Nat.le_of_ble_eq_true rfl) fun k19_29 hk19_29 => (?_ : R (_, _, _, (zMi c0 c1 c2 c3 c4 c5 c6 c7 c8 c9 c10 c11 c12 c13 0 y9_13 v1 y11_14 y12_15 y13_16 y15_18 y16_19 y17_20 f20 f21 f22 f23 f26 f28 f31 f32 f33 f38 f41 f44 y14_17 g15 (upd g16 (0 : Int).toNat (Int32.ofInt 0)) k17_21 k18_22 k19_29 g20 g21 g22 k23_23 k24_24 g25 g26 g27 g28 g29 g30 g31 g32 g33 g34 g35 g36 g37 g38 g39 g40 g41 g42 g43 g44 t), _, _)))
    refine hR (?_ : R (_, _, _, _, _, _))
    refine hR (k_ne (by omega) (fun hc30 => ?_) (fun hc30 => ?_))
    rotate_left
    · skip
      iterate 3 refine hR (?_ : R (_, _, _, _, _, _))
      refine hR (t_c 51 (by decide) ?_)
      refine hR (?_ : R (_, _, _, _, _, _))
      refine hR (zcall_i 0 0 (Nat.le_of_ble_eq_true rfl) (Nat.le_of_ble_eq_true rfl) (m_store20 _ a2 (by omega) _ fun k20_36 hp37 => ?_))
      refine (?_ : R (_, _, [], (zMi c0 c1 c2 c3 c4 c5 c6 c7 c8 c9 c10 c11 c12 c13 0 y9_13 v1 y11_14 y12_15 y13_16 y15_18 y16_19 y17_20 f20 f21 f22 f23 f26 f28 f31 f32 f33 f38 f41 f44 y14_17 g15 (upd g16 (0 : Int).toNat (Int32.ofInt 0)) k17_21 k18_22 k19_29 k20_36 g21 g22 k23_23 k24_24 g25 g26 g27 g28 g29 g30 g31 g32 g33 g34 g35 g36 g37 g38 g39 g40 g41 g42 g43 g44 t), 0, 0))
      iterate 2 refine hR (?_ : R (_, _, _, _, _, _))
      refine hR (?_ : R (_, _, _, (zMi c0 c1 c2 c3 c4 c5 c6 c7 c8 c9 c10 c11 c12 c13 0 y9_13 v1 y11_14 y12_15 y13_16 y15_18 y16_19 y17_20 f20 ((-1)) f22 f23 f26 f28 f31 f32 f33 f38 f41 f44 y14_17 g15 (upd g16 (0 : Int).toNat (Int32.ofInt 0)) k17_21 k18_22 k19_29 k20_36 g21 g22 k23_23 k24_24 g25 g26 g27 g28 g29 g30 g31 g32 g33 g34 g35 g36 g37 g38 g39 g40 g41 g42 g43 g44 t), _, _))
      iterate 2 refine hR (?_ : R (_, _, _, _, _, _))
      exact hR (zret_i rfl (Nat.le_refl _) trivial (h _ _ _ _ _ _ _ _ _ _ _ _ _ _ _ _ _ _ _ _ _ hk19_29 (by rfl) (fun j hj => tx_o hj) (bk_kp hr2 hp37 ((hp26 (by omega)).1 (by omega)) (by omega)) hr3 hr4 (Or.inl rfl)))
    iterate 2 refine hR (?_ : R (_, _, _, _, _, _))
    refine hR (j_ne (by omega) (by omega) (fun hc31 => ?_) (fun hc31 => ?_))
    · skip
      iterate 3 refine hR (?_ : R (_, _, _, _, _, _))
      refine hR (t_c 13 (by decide) ?_)
      refine hR (?_ : R (_, _, _, _, _, _))
      refine hR (zcall_i 0 0 (Nat.le_of_ble_eq_true rfl) (Nat.le_of_ble_eq_true rfl) (m_store22 _ a2 (by omega) _ fun k22_32 hp33 => ?_))
      refine (?_ : R (_, _, [], (zMi c0 c1 c2 c3 c4 c5 c6 c7 c8 c9 c10 c11 c12 c13 0 y9_13 v1 y11_14 y12_15 y13_16 y15_18 y16_19 y17_20 f20 f21 f22 f23 f26 f28 f31 f32 f33 f38 f41 f44 y14_17 g15 (upd g16 (0 : Int).toNat (Int32.ofInt 0)) k17_21 k18_22 k19_29 g20 g21 k22_32 k23_23 k24_24 g25 g26 g27 g28 g29 g30 g31 g32 g33 g34 g35 g36 g37 g38 g39 g40 g41 g42 g43 g44 t), 0, 0))
      refine hR (?_ : R (_, _, _, _, _, _))
      exact hR (zret_i rfl (Nat.le_refl _) trivial (h _ _ _ _ _ _ _ _ _ _ _ _ _ _ _ _ _ _ _ _ _ hk19_29 (by rfl) (fun j hj => tx_o hj) hr2 hr3 (si_kp hr4 hp33 ((hp26 (by omega)).2.2 (by omega)) (by omega)) (Or.inr ⟨rfl, rfl⟩)))
    iterate 3 refine hR (?_ : R (_, _, _, _, _, _))
    refine hR (t_c 121 (by decide) ?_)
    refine hR (?_ : R (_, _, _, _, _, _))
    refine hR (zcall_i 0 0 (Nat.le_of_ble_eq_true rfl) (Nat.le_of_ble_eq_true rfl) (m_store21 _ a2 (by omega) _ fun k21_34 hp35 => ?_))
    refine (?_ : R (_, _, [], (zMi c0 c1 c2 c3 c4 c5 c6 c7 c8 c9 c10 c11 c12 c13 0 y9_13 v1 y11_14 y12_15 y13_16 y15_18 y16_19 y17_20 f20 f21 f22 f23 f26 f28 f31 f32 f33 f38 f41 f44 y14_17 g15 (upd g16 (0 : Int).toNat (Int32.ofInt 0)) k17_21 k18_22 k19_29 g20 k21_34 g22 k23_23 k24_24 g25 g26 g27 g28 g29 g30 g31 g32 g33 g34 g35 g36 g37 g38 g39 g40 g41 g42 g43 g44 t), 0, 0))
    iterate 2 refine hR (?_ : R (_, _, _, _, _, _))
    exact hR (zret_i rfl (Nat.le_refl _) trivial (h _ _ _ _ _ _ _ _ _ _ _ _ _ _ _ _ _ _ _ _ _ hk19_29 (by rfl) (fun j hj => tx_o hj) hr2 (yr_kp hr3 hp35 ((hp26 (by omega)).2.1 (by omega)) (by omega)) hr4 (Or.inr ⟨rfl, rfl⟩)))
  iterate 3 refine hR (?_ : R (_, _, _, _, _, _))
  refine hR (t_ldB hb19 (by omega) (by omega) (Nat.le_of_ble_eq_true rfl) fun v38 ev38 lv38 uv38 => ?_)
  refine hR (?_ : R (_, _, _, _, _, _))
  refine hR (j_ne (by omega) (by omega) (fun hc39 => ?_) (fun hc39 => ?_))
  rotate_left
  · skip
    refine hR (?_ : R (_, _, _, _, _, _))
    refine hR (t_c (-2) (by decide) ?_)
    exact hR (zret_i rfl (Nat.le_refl _) trivial (h _ _ _ _ _ _ _ _ _ _ _ _ _ _ _ _ _ _ _ _ _ hb19 (by rfl) (fun j hj => tx_o hj) hr2 hr3 hr4 (Or.inr ⟨rfl, rfl⟩)))
  iterate 2 refine hR (?_ : R (_, _, _, _, _, _))
  refine hR (zcall_i 0 0 (Nat.le_of_ble_eq_true rfl) (Nat.le_of_ble_eq_true rfl) (m_readText _ a1 (by omega) (by omega) _ fun v40 y9_41 y11_42 y12_43 y13_44 y14_45 y15_46 y16_47 y17_48 k17_49 k18_50 k23_51 k24_52 hp53 hp54 => ?_))
  refine (?_ : R (_, _, (.int (Int32.ofInt v40)) :: [], (zMi c0 c1 c2 c3 c4 c5 c6 c7 c8 c9 c10 c11 c12 c13 0 y9_41 v1 y11_42 y12_43 y13_44 y15_46 y16_47 y17_48 f20 f21 f22 f23 f26 f28 f31 f32 f33 f38 f41 f44 y14_45 g15 (upd g16 (0 : Int).toNat (Int32.ofInt 0)) k17_49 k18_50 g19 g20 g21 g22 k23_51 k24_52 g25 g26 g27 g28 g29 g30 g31 g32 g33 g34 g35 g36 g37 g38 g39 g40 g41 g42 g43 g44 t), 0, 0))
  refine hR (k_ne (by omega) (fun hc55 => ?_) (fun hc55 => ?_))
  rotate_left
  · skip
    refine hR (?_ : R (_, _, _, _, _, _))
    exact hR (zret_i rfl (Nat.le_refl _) trivial (h _ _ _ _ _ _ _ _ _ _ _ _ _ _ _ _ _ _ _ _ _ hb19 (by rfl) (fun j hj => tx_o hj) hr2 hr3 hr4 (Or.inr ⟨rfl, rfl⟩)))
  iterate 2 refine hR (?_ : R (_, _, _, _, _, _))
  refine hR (j_ne (by omega) (by omega) (fun hc => by omega) (fun _ => ?_))
  iterate 3 refine hR (?_ : R (_, _, _, _, _, _))
  refine hR (t_ldB hb19 (by omega) (by omega) (Nat.le_of_ble_eq_true rfl) fun v56 ev56 lv56 uv56 => ?_)
  iterate 6 refine hR (?_ : R (_, _, _, _, _, _))
  refine hR (t_ldB hb19 (by omega) (by omega) (Nat.le_of_ble_eq_true rfl) fun v57 ev57 lv57 uv57 => ?_)
  iterate 2 refine hR (?_ : R (_, _, _, _, _, _))
  refine hR (j_ne (by omega) (by omega) (fun hc => by omega) (fun _ => ?_))
  iterate 2 refine hR (?_ : R (_, _, _, _, _, _))
  refine hR (t_add ?_)
  refine hR (t_stB hb19 (by omega) (by omega) (by omega) (by omega) (by omega) (by omega) (Nat.le_of_ble_eq_true rfl) fun k19_58 hk19_58 => (?_ : R (_, _, _, (zMi c0 c1 c2 c3 c4 c5 c6 c7 c8 c9 c10 c11 c12 c13 0 y9_41 v1 y11_42 y12_43 y13_44 y15_46 y16_47 y17_48 f20 f21 f22 f23 f26 f28 f31 f32 f33 f38 f41 f44 y14_45 g15 (upd g16 (0 : Int).toNat (Int32.ofInt 0)) k17_49 k18_50 k19_58 g20 g21 g22 k23_51 k24_52 g25 g26 g27 g28 g29 g30 g31 g32 g33 g34 g35 g36 g37 g38 g39 g40 g41 g42 g43 g44 t), _, _)))
  refine hR (?_ : R (_, _, _, _, _, _))
  refine hR (k_ne (by omega) (fun hc59 => ?_) (fun hc59 => ?_))
  rotate_left
  · skip
    iterate 3 refine hR (?_ : R (_, _, _, _, _, _))
    refine hR (t_c 51 (by decide) ?_)
    refine hR (?_ : R (_, _, _, _, _, _))
    refine hR (zcall_i 0 0 (Nat.le_of_ble_eq_true rfl) (Nat.le_of_ble_eq_true rfl) (m_store20 _ v56 (by omega) _ fun k20_65 hp66 => ?_))
    refine (?_ : R (_, _, [], (zMi c0 c1 c2 c3 c4 c5 c6 c7 c8 c9 c10 c11 c12 c13 0 y9_41 v1 y11_42 y12_43 y13_44 y15_46 y16_47 y17_48 f20 f21 f22 f23 f26 f28 f31 f32 f33 f38 f41 f44 y14_45 g15 (upd g16 (0 : Int).toNat (Int32.ofInt 0)) k17_49 k18_50 k19_58 k20_65 g21 g22 k23_51 k24_52 g25 g26 g27 g28 g29 g30 g31 g32 g33 g34 g35 g36 g37 g38 g39 g40 g41 g42 g43 g44 t), 0, 0))
    iterate 2 refine hR (?_ : R (_, _, _, _, _, _))
    refine hR (?_ : R (_, _, _, (zMi c0 c1 c2 c3 c4 c5 c6 c7 c8 c9 c10 c11 c12 c13 0 y9_41 v1 y11_42 y12_43 y13_44 y15_46 y16_47 y17_48 f20 ((-1)) f22 f23 f26 f28 f31 f32 f33 f38 f41 f44 y14_45 g15 (upd g16 (0 : Int).toNat (Int32.ofInt 0)) k17_49 k18_50 k19_58 k20_65 g21 g22 k23_51 k24_52 g25 g26 g27 g28 g29 g30 g31 g32 g33 g34 g35 g36 g37 g38 g39 g40 g41 g42 g43 g44 t), _, _))
    iterate 2 refine hR (?_ : R (_, _, _, _, _, _))
    exact hR (zret_i rfl (Nat.le_refl _) trivial (h _ _ _ _ _ _ _ _ _ _ _ _ _ _ _ _ _ _ _ _ _ hk19_58 (by rfl) (fun j hj => tx_o hj) (bk_kp hr2 hp66 ((hp54 (by omega)).1 (by omega)) (by omega)) hr3 hr4 (Or.inl rfl)))
  iterate 2 refine hR (?_ : R (_, _, _, _, _, _))
  refine hR (j_ne (by omega) (by omega) (fun hc60 => ?_) (fun hc60 => ?_))
  · skip
    iterate 3 refine hR (?_ : R (_, _, _, _, _, _))
    refine hR (t_c 13 (by decide) ?_)
    refine hR (?_ : R (_, _, _, _, _, _))
    refine hR (zcall_i 0 0 (Nat.le_of_ble_eq_true rfl) (Nat.le_of_ble_eq_true rfl) (m_store22 _ v56 (by omega) _ fun k22_61 hp62 => ?_))
    refine (?_ : R (_, _, [], (zMi c0 c1 c2 c3 c4 c5 c6 c7 c8 c9 c10 c11 c12 c13 0 y9_41 v1 y11_42 y12_43 y13_44 y15_46 y16_47 y17_48 f20 f21 f22 f23 f26 f28 f31 f32 f33 f38 f41 f44 y14_45 g15 (upd g16 (0 : Int).toNat (Int32.ofInt 0)) k17_49 k18_50 k19_58 g20 g21 k22_61 k23_51 k24_52 g25 g26 g27 g28 g29 g30 g31 g32 g33 g34 g35 g36 g37 g38 g39 g40 g41 g42 g43 g44 t), 0, 0))
    refine hR (?_ : R (_, _, _, _, _, _))
    exact hR (zret_i rfl (Nat.le_refl _) trivial (h _ _ _ _ _ _ _ _ _ _ _ _ _ _ _ _ _ _ _ _ _ hk19_58 (by rfl) (fun j hj => tx_o hj) hr2 hr3 (si_kp hr4 hp62 ((hp54 (by omega)).2.2 (by omega)) (by omega)) (Or.inr ⟨rfl, rfl⟩)))
  iterate 3 refine hR (?_ : R (_, _, _, _, _, _))
  refine hR (t_c 121 (by decide) ?_)
  refine hR (?_ : R (_, _, _, _, _, _))
  refine hR (zcall_i 0 0 (Nat.le_of_ble_eq_true rfl) (Nat.le_of_ble_eq_true rfl) (m_store21 _ v56 (by omega) _ fun k21_63 hp64 => ?_))
  refine (?_ : R (_, _, [], (zMi c0 c1 c2 c3 c4 c5 c6 c7 c8 c9 c10 c11 c12 c13 0 y9_41 v1 y11_42 y12_43 y13_44 y15_46 y16_47 y17_48 f20 f21 f22 f23 f26 f28 f31 f32 f33 f38 f41 f44 y14_45 g15 (upd g16 (0 : Int).toNat (Int32.ofInt 0)) k17_49 k18_50 k19_58 g20 k21_63 g22 k23_51 k24_52 g25 g26 g27 g28 g29 g30 g31 g32 g33 g34 g35 g36 g37 g38 g39 g40 g41 g42 g43 g44 t), 0, 0))
  iterate 2 refine hR (?_ : R (_, _, _, _, _, _))
  exact hR (zret_i rfl (Nat.le_refl _) trivial (h _ _ _ _ _ _ _ _ _ _ _ _ _ _ _ _ _ _ _ _ _ hk19_58 (by rfl) (fun j hj => tx_o hj) hr2 (yr_kp hr3 hp64 ((hp54 (by omega)).2.1 (by omega)) (by omega)) hr4 (Or.inr ⟨rfl, rfl⟩)))
end MZ
