theorem m_end {c0 c1 c2 c3 c4 c5 c6 c7 c8 c9 c10 c11 c12 c13 : va_E} {t : zW} (d : Nat) (n : Int32) (Q : zQ) (h : ∀ w, Q (some (.int (vEnd n))) w) : zCl zTab (d + 2) iX12_end [.ref 14, .int n] (c0 :: c1 :: c2 :: c3 :: c4 :: c5 :: c6 :: c7 :: c8 :: c9 :: c10 :: c11 :: c12 :: c13 :: zMf t) 0 0 Q := by
  refine zCl_i (M := kX12_end) rfl (Nat.le_of_ble_eq_true rfl) fun R hR => ?_
  iterate 8 refine hR (?_ : R (_, _, _, _, _, _))
  refine hR (And.intro (by unfold vp_in; decide) ?_)
  refine hR (zcall_i 0 0 (Nat.le_of_ble_eq_true rfl) (Nat.le_of_ble_eq_true rfl) (m_in _ _ _ _ _ _ (fun q1 q2 => ?_) (fun q => ?_)))
  · refine hR (And.intro (fun _ => ?_) (fun hc => absurd hc (by decide)))
    iterate 4 refine hR (?_ : R (_, _, _, _, _, _))
    refine hR (And.intro (by unfold vp_in; decide) ?_)
    refine hR (?_ : R (_, _, _, _, _, _))
    refine hR (zret_i rfl (Nat.le_refl _) trivial ?_)
    have e : vEnd n = n := if_neg (fun z => z.elim q1 (fun z => absurd q2 (Int32.not_le.mpr z)))
    rw [e] at h
    exact h _
  · refine hR (And.intro (fun hc => absurd (by decide) hc) (fun _ => ?_))
    refine hR (?_ : R (_, _, _, _, _, _))
    refine hR (zret_i rfl (Nat.le_refl _) trivial ?_)
    have e : vEnd n = Int32.ofInt (-1) := if_pos q
    rw [e] at h
    exact h _
theorem m_fault {c0 c1 c2 c3 c4 c5 c6 c7 c8 c9 c10 c11 c12 c13 : va_E} {t : zW} (d : Nat) (n : Int32) (Q : zQ) (h : ∀ w, Q (some (.int (vFault n))) w) : zCl zTab (d + 2) iX12_fault [.ref 14, .int n] (c0 :: c1 :: c2 :: c3 :: c4 :: c5 :: c6 :: c7 :: c8 :: c9 :: c10 :: c11 :: c12 :: c13 :: zMf t) 0 0 Q := by
  refine zCl_i (M := kX12_fault) rfl (Nat.le_of_ble_eq_true rfl) fun R hR => ?_
  iterate 4 refine hR (?_ : R (_, _, _, _, _, _))
  refine hR (And.intro (fun q0 => ?_) (fun q0 => ?_))
  · iterate 2 refine hR (?_ : R (_, _, _, _, _, _))
    refine hR (And.intro (fun q1 => ?_) (fun q1 => ?_))
    · refine hR (?_ : R (_, _, _, _, _, _))
      refine hR (zret_i rfl (Nat.le_refl _) trivial ?_)
      have e : vFault n = Int32.ofInt (-1) := (if_neg q0).trans (by decide)
      rw [e] at h
      exact h _
    · iterate 3 refine hR (?_ : R (_, _, _, _, _, _))
      refine hR (And.intro (by unfold vp_in; decide) ?_)
      refine hR (?_ : R (_, _, _, _, _, _))
      refine hR (zret_i rfl (Nat.le_refl _) trivial ?_)
      have e : vFault n = -1 := if_neg q0
      rw [e] at h
      exact h _
  · iterate 3 refine hR (?_ : R (_, _, _, _, _, _))
    refine hR (And.intro (by unfold vp_in; decide) ?_)
    refine hR (?_ : R (_, _, _, _, _, _))
    refine hR (zret_i rfl (Nat.le_refl _) trivial ?_)
    have e : vFault n = 0 := if_pos q0
    rw [e] at h
    exact h _
theorem z012' {k : Int32} (q1 : ¬ k < Int32.ofInt 0) (q2 : k ≤ Int32.ofInt 2) : k = 0 ∨ k = 1 ∨ k = 2 := z012 q1 (by
  rw [zle_i] at q2
  rw [zlt_i]
  have e1 : (Int32.ofInt 2).toInt = 2 := by decide
  have e2 : (3 : Int32).toInt = 3 := by decide
  omega)
theorem z3n {k : Int32} (q : k < Int32.ofInt 0 ∨ Int32.ofInt 2 < k) : k < 0 ∨ 3 ≤ k := q.imp id (fun q2 => by
  rw [zlt_i] at q2
  rw [zle_i]
  have e1 : (Int32.ofInt 2).toInt = 2 := by decide
  have e2 : (3 : Int32).toInt = 3 := by decide
  omega)
theorem m_count {c0 c1 c2 c3 c4 c5 c6 c7 c8 c9 c10 c11 c12 c13 : va_E} {t : zW} (d : Nat) (n : Int32) (Q : zQ) (h : ∀ w, Q (some (.int (vCount n))) w) : zCl zTab (d + 2) iX12_count [.ref 14, .int n] (c0 :: c1 :: c2 :: c3 :: c4 :: c5 :: c6 :: c7 :: c8 :: c9 :: c10 :: c11 :: c12 :: c13 :: zMf t) 0 0 Q := by
  refine zCl_i (M := kX12_count) rfl (Nat.le_of_ble_eq_true rfl) fun R hR => ?_
  iterate 6 refine hR (?_ : R (_, _, _, _, _, _))
  refine hR (zcall_i 0 0 (Nat.le_of_ble_eq_true rfl) (Nat.le_of_ble_eq_true rfl) (m_in _ _ _ _ _ _ (fun q1 q2 => ?_) (fun q => ?_)))
  · refine hR (And.intro (fun hc => absurd hc (by decide)) (fun _ => ?_))
    iterate 3 refine hR (?_ : R (_, _, _, _, _, _))
    refine hR (And.intro ?_ ?_)
    · rcases z012' q1 q2 with rfl | rfl | rfl <;> (unfold vp_in; decide)
    refine hR (?_ : R (_, _, _, _, _, _))
    refine hR (zret_i rfl (Nat.le_refl _) trivial ?_)
    have e : vCount n = 0 := by rcases z012' q1 q2 with rfl | rfl | rfl <;> decide
    rw [e] at h
    exact h _
  · refine hR (And.intro (fun _ => ?_) (fun hc => absurd (by decide) hc))
    refine hR (?_ : R (_, _, _, _, _, _))
    refine hR (zret_i rfl (Nat.le_refl _) trivial ?_)
    have e : vCount n = (Int8.ofInt (-2)).toInt32 := (if_pos (z3n q)).trans (by decide)
    rw [e] at h
    exact h _
theorem m_again {c0 c1 c2 c3 c4 c5 c6 c7 c8 c9 c10 c11 c12 c13 : va_E} {t : zW} (d : Nat) (n : Int32) (Q : zQ) (h : ∀ w, Q (some (.int (Int32.ofInt 0))) w) : zCl zTab (d + 2) iX12_again [.ref 14, .int n] (c0 :: c1 :: c2 :: c3 :: c4 :: c5 :: c6 :: c7 :: c8 :: c9 :: c10 :: c11 :: c12 :: c13 :: zMf t) 0 0 Q := by
  refine zCl_i (M := kX12_again) rfl (Nat.le_of_ble_eq_true rfl) fun R hR => ?_
  iterate 6 refine hR (?_ : R (_, _, _, _, _, _))
  refine hR (zcall_i 0 0 (Nat.le_of_ble_eq_true rfl) (Nat.le_of_ble_eq_true rfl) (m_in _ _ _ _ _ _ (fun q1 q2 => ?_) (fun q => ?_)))
  · refine hR (And.intro (fun hc => absurd hc (by decide)) (fun _ => ?_))
    iterate 3 refine hR (?_ : R (_, _, _, _, _, _))
    refine hR (And.intro ?_ ?_)
    · rcases z012' q1 q2 with rfl | rfl | rfl <;> (unfold vp_in; decide)
    refine hR (And.intro (fun hc => absurd rfl hc) (fun _ => ?_))
    refine hR (?_ : R (_, _, _, _, _, _))
    exact hR (zret_i rfl (Nat.le_refl _) (Or.inl rfl) (h _))
  · refine hR (And.intro (fun _ => ?_) (fun hc => absurd (by decide) hc))
    refine hR (?_ : R (_, _, _, _, _, _))
    exact hR (zret_i rfl (Nat.le_refl _) (Or.inl rfl) (h _))
theorem m_image {c0 c1 c2 c3 c4 c5 c6 c7 c8 c9 c10 c11 c12 c13 : va_E} {t : zW} (d : Nat) (n : Int32) (Q : zQ) (h1 : ¬ n < 0 → n < 3 → ∀ w, Q (some (.int (Int32.ofInt 1))) w) (h0 : n < 0 ∨ 3 ≤ n → ∀ w, Q (some (.int (Int32.ofInt 0))) w) : zCl zTab (d + 3) iX12_image [.ref 14, .int n] (c0 :: c1 :: c2 :: c3 :: c4 :: c5 :: c6 :: c7 :: c8 :: c9 :: c10 :: c11 :: c12 :: c13 :: zMf t) 0 0 Q := by
  refine zCl_i (M := kX12_image) rfl (Nat.le_of_ble_eq_true rfl) fun R hR => ?_
  iterate 6 refine hR (?_ : R (_, _, _, _, _, _))
  refine hR (zcall_i 0 0 (Nat.le_of_ble_eq_true rfl) (Nat.le_of_ble_eq_true rfl) (m_in _ _ _ _ _ _ (fun q1 q2 => ?_) (fun q => ?_)))
  · have h3 := z012' q1 q2
    have hb : 0 ≤ (n + Int32.ofInt 1).toInt ∧ (n + Int32.ofInt 1).toInt ≤ 3 := by rcases h3 with rfl | rfl | rfl <;> decide
    refine hR (And.intro (fun _ => ?_) (fun hc => absurd hc (by decide)))
    iterate 5 refine hR (?_ : R (_, _, _, _, _, _))
    refine hR (zcall_i 0 0 (Nat.le_of_ble_eq_true rfl) (Nat.le_of_ble_eq_true rfl) (m_copyAll _ _ _ _ (by decide) (by decide) hb.1 hb.2 (fun f15 f16 f17 f18 f19 f20 f21 f22 => ?_)))
    iterate 4 refine hR (?_ : R (_, _, _, _, _, _))
    refine hR (And.intro ?_ ?_)
    · rcases h3 with rfl | rfl | rfl <;> (unfold vp_in; decide)
    refine hR (?_ : R (_, _, _, _, _, _))
    refine hR (zret_i rfl (Nat.le_refl _) (Or.inr rfl) (h1 q1 ?_ _))
    rcases h3 with rfl | rfl | rfl <;> decide
  · refine hR (And.intro (fun hc => absurd (by decide) hc) (fun _ => ?_))
    refine hR (?_ : R (_, _, _, _, _, _))
    exact hR (zret_i rfl (Nat.le_refl _) (Or.inl rfl) (h0 (z3n q) _))
