theorem m_four {c0 c1 c2 c3 c4 c5 c6 c7 c8 c9 c10 c11 c12 c13 : va_E} {x0 x9 x10 x11 x12 x13 x15 x16 x17 x20 x21 x22 x23 x26 x28 x31 x32 x33 x38 x41 x44 : Int32} {x14 : Int64} {g15 g16 g17 g18 g19 g20 g21 g22 g23 g24 g25 g26 g27 g28 g29 g30 g31 g32 g33 g34 g35 g36 g37 g38 g39 g40 g41 g42 g43 g44 : Nat → Int32} {t : zW} (d : Nat) (n v : Int32) (Q : zQ) (hg : g16 0 = n) (h0 : 0 ≤ n.toInt) (h1 : n.toInt ≤ 596) (h : ∀ a b, b 0 = n + Int32.ofInt 1 + Int32.ofInt 1 + Int32.ofInt 1 + Int32.ofInt 1 → Q none (zMg c0 c1 c2 c3 c4 c5 c6 c7 c8 c9 c10 c11 c12 c13 x0 x9 x10 x11 x12 x13 x15 x16 x17 x20 x21 x22 x23 x26 x28 x31 x32 x33 x38 x41 x44 x14 a b g17 g18 g19 g20 g21 g22 g23 g24 g25 g26 g27 g28 g29 g30 g31 g32 g33 g34 g35 g36 g37 g38 g39 g40 g41 g42 g43 g44 t)) : zCl zTab (d + 1) iX12_four [.ref 14, .int v] (zMg c0 c1 c2 c3 c4 c5 c6 c7 c8 c9 c10 c11 c12 c13 x0 x9 x10 x11 x12 x13 x15 x16 x17 x20 x21 x22 x23 x26 x28 x31 x32 x33 x38 x41 x44 x14 g15 g16 g17 g18 g19 g20 g21 g22 g23 g24 g25 g26 g27 g28 g29 g30 g31 g32 g33 g34 g35 g36 g37 g38 g39 g40 g41 g42 g43 g44 t) 0 0 Q := by
  obtain ⟨⟨a1, a2⟩, a3, a4⟩ := z4 h0 h1
  refine zCl_i (M := kX12_four) rfl (Nat.le_of_ble_eq_true rfl) fun R hR => ?_
  have round : ∀ (a b : Nat → Int32) (n k : Int32), b 0 = n → 0 ≤ n.toInt → n.toInt < 2400 → ¬ k < 0 → (∀ a' b', b' 0 = n + Int32.ofInt 1 → R (3, [some (.ref 14), some (.int v), some (.int (k + Int32.ofInt (-8)))], [], (zMg c0 c1 c2 c3 c4 c5 c6 c7 c8 c9 c10 c11 c12 c13 x0 x9 x10 x11 x12 x13 x15 x16 x17 x20 x21 x22 x23 x26 x28 x31 x32 x33 x38 x41 x44 x14 a' b' g17 g18 g19 g20 g21 g22 g23 g24 g25 g26 g27 g28 g29 g30 g31 g32 g33 g34 g35 g36 g37 g38 g39 g40 g41 g42 g43 g44 t), 0, 0)) → R (3, [some (.ref 14), some (.int v), some (.int k)], [], (zMg c0 c1 c2 c3 c4 c5 c6 c7 c8 c9 c10 c11 c12 c13 x0 x9 x10 x11 x12 x13 x15 x16 x17 x20 x21 x22 x23 x26 x28 x31 x32 x33 x38 x41 x44 x14 a b g17 g18 g19 g20 g21 g22 g23 g24 g25 g26 g27 g28 g29 g30 g31 g32 g33 g34 g35 g36 g37 g38 g39 g40 g41 g42 g43 g44 t), 0, 0) := by
    intro a b n k hb h0 h1 hk hnext
    have hv : vp_in (b 0) 2400 := by rw [hb]; exact zin_of h0 (by omega)
    refine hR (?_ : R (_, _, _, _, _, _))
    refine hR (And.intro (fun hc => absurd hc hk) (fun _ => ?_))
    iterate 5 refine hR (?_ : R (_, _, _, _, _, _))
    refine hR (And.intro (by unfold vp_in; decide) ?_)
    iterate 4 refine hR (?_ : R (_, _, _, _, _, _))
    refine hR (And.intro hv ?_)
    iterate 4 refine hR (?_ : R (_, _, _, _, _, _))
    refine hR (And.intro (by unfold vp_in; decide) ?_)
    iterate 2 refine hR (?_ : R (_, _, _, _, _, _))
    refine hR (And.intro (by unfold vp_in; decide) ?_)
    iterate 2 refine hR (?_ : R (_, _, _, _, _, _))
    refine hnext _ _ ?_
    show upd b 0 (b 0 + Int32.ofInt 1) 0 = _
    rw [hb]
    simp [upd]
  iterate 2 refine hR (?_ : R (_, _, _, _, _, _))
  refine round g15 g16 (n) ((Int8.ofInt 24).toInt32) hg (by omega) (by omega) (by decide) (fun p1 s1 e1 => ?_)
  refine round p1 s1 (n + Int32.ofInt 1) ((Int8.ofInt 24).toInt32 + Int32.ofInt (-8)) e1 (by omega) (by omega) (by decide) (fun p2 s2 e2 => ?_)
  refine round p2 s2 (n + Int32.ofInt 1 + Int32.ofInt 1) ((Int8.ofInt 24).toInt32 + Int32.ofInt (-8) + Int32.ofInt (-8)) e2 (by omega) (by omega) (by decide) (fun p3 s3 e3 => ?_)
  refine round p3 s3 (n + Int32.ofInt 1 + Int32.ofInt 1 + Int32.ofInt 1) ((Int8.ofInt 24).toInt32 + Int32.ofInt (-8) + Int32.ofInt (-8) + Int32.ofInt (-8)) e3 (by omega) (by omega) (by decide) (fun p4 s4 e4 => ?_)
  refine hR (?_ : R (_, _, _, _, _, _))
  refine hR (And.intro (fun _ => ?_) (fun hc => absurd (by decide) hc))
  exact hR (zret_i rfl (Nat.le_refl _) rfl (h _ _ e4))
theorem m_feed {c0 c1 c2 c3 c4 c5 c6 c7 c8 c9 c10 c11 c12 c13 : va_E} {t : zW} (d : Nat) (a b c e f : Int32) (Q : zQ) (h : ∀ w, Q (some (.int 20)) w) : zCl zTab (d + 2) iX12_feed [.ref 14, .int a, .int b, .int c, .int e, .int f] (c0 :: c1 :: c2 :: c3 :: c4 :: c5 :: c6 :: c7 :: c8 :: c9 :: c10 :: c11 :: c12 :: c13 :: zMf t) 0 0 Q := by
  refine zCl_i (M := kX12_feed) rfl (Nat.le_of_ble_eq_true rfl) fun R hR => ?_
  iterate 6 refine hR (?_ : R (_, _, _, _, _, _))
  refine hR (And.intro (by unfold vp_in; decide) ?_)
  iterate 3 refine hR (?_ : R (_, _, _, _, _, _))
  refine hR (And.intro (fun _ => ?_) (fun hc => absurd (by decide) hc))
  iterate 2 refine hR (?_ : R (_, _, _, _, _, _))
  refine hR (zcall_i 0 0 (Nat.le_of_ble_eq_true rfl) (Nat.le_of_ble_eq_true rfl) (m_four (g15 := fun _ => 0) (g16 := fun _ => 0) _ (0) _ _ rfl (by decide) (by decide) (fun p0 s0 e0 => ?_)))
  iterate 2 refine hR (?_ : R (_, _, _, _, _, _))
  refine hR (zcall_i 0 0 (Nat.le_of_ble_eq_true rfl) (Nat.le_of_ble_eq_true rfl) (m_four (g15 := p0) (g16 := s0) _ (0 + Int32.ofInt 1 + Int32.ofInt 1 + Int32.ofInt 1 + Int32.ofInt 1) _ _ e0 (by decide) (by decide) (fun p1 s1 e1 => ?_)))
  iterate 2 refine hR (?_ : R (_, _, _, _, _, _))
  refine hR (zcall_i 0 0 (Nat.le_of_ble_eq_true rfl) (Nat.le_of_ble_eq_true rfl) (m_four (g15 := p1) (g16 := s1) _ (0 + Int32.ofInt 1 + Int32.ofInt 1 + Int32.ofInt 1 + Int32.ofInt 1 + Int32.ofInt 1 + Int32.ofInt 1 + Int32.ofInt 1 + Int32.ofInt 1) _ _ e1 (by decide) (by decide) (fun p2 s2 e2 => ?_)))
  iterate 2 refine hR (?_ : R (_, _, _, _, _, _))
  refine hR (zcall_i 0 0 (Nat.le_of_ble_eq_true rfl) (Nat.le_of_ble_eq_true rfl) (m_four (g15 := p2) (g16 := s2) _ (0 + Int32.ofInt 1 + Int32.ofInt 1 + Int32.ofInt 1 + Int32.ofInt 1 + Int32.ofInt 1 + Int32.ofInt 1 + Int32.ofInt 1 + Int32.ofInt 1 + Int32.ofInt 1 + Int32.ofInt 1 + Int32.ofInt 1 + Int32.ofInt 1) _ _ e2 (by decide) (by decide) (fun p3 s3 e3 => ?_)))
  iterate 2 refine hR (?_ : R (_, _, _, _, _, _))
  refine hR (zcall_i 0 0 (Nat.le_of_ble_eq_true rfl) (Nat.le_of_ble_eq_true rfl) (m_four (g15 := p3) (g16 := s3) _ (0 + Int32.ofInt 1 + Int32.ofInt 1 + Int32.ofInt 1 + Int32.ofInt 1 + Int32.ofInt 1 + Int32.ofInt 1 + Int32.ofInt 1 + Int32.ofInt 1 + Int32.ofInt 1 + Int32.ofInt 1 + Int32.ofInt 1 + Int32.ofInt 1 + Int32.ofInt 1 + Int32.ofInt 1 + Int32.ofInt 1 + Int32.ofInt 1) _ _ e3 (by decide) (by decide) (fun p4 s4 e4 => ?_)))
  iterate 3 refine hR (?_ : R (_, _, _, _, _, _))
  refine hR (And.intro (by unfold vp_in; decide) ?_)
  refine hR (zret_i rfl (Nat.le_refl _) trivial ?_)
  have e0 : (0 + Int32.ofInt 1 + Int32.ofInt 1 + Int32.ofInt 1 + Int32.ofInt 1 + Int32.ofInt 1 + Int32.ofInt 1 + Int32.ofInt 1 + Int32.ofInt 1 + Int32.ofInt 1 + Int32.ofInt 1 + Int32.ofInt 1 + Int32.ofInt 1 + Int32.ofInt 1 + Int32.ofInt 1 + Int32.ofInt 1 + Int32.ofInt 1 + Int32.ofInt 1 + Int32.ofInt 1 + Int32.ofInt 1 + Int32.ofInt 1 : Int32) = 20 := by decide
  have e5 : s4 0 = 20 := e4.trans e0
  have h2 : ∀ w, Q (some (.int (s4 0))) w := fun w => by rw [e5]; exact h w
  exact h2 _
