theorem z0i : Int32.ofInt 0 = 0 := by decide
theorem m_see {c0 c1 c2 c3 c4 c5 c6 c7 c8 c9 c10 c11 c12 c13 : va_E} {x0 x9 x10 x11 x12 x13 x15 x16 x17 x20 x21 x22 x23 x26 x28 x31 x32 x33 x38 x41 x44 : Int32} {x14 : Int64} {g15 g16 g17 g18 g19 g20 g21 g22 g23 g24 g25 g26 g27 g28 g29 g30 g31 g32 g33 g34 g35 g36 g37 g38 g39 g40 g41 g42 g43 g44 : Nat → Int32} {t : zW} (d : Nat) (Q : zQ) (hx : ¬ x9 < x10) (h : Q (some (.int (Int32.ofInt (-1)))) (zMg c0 c1 c2 c3 c4 c5 c6 c7 c8 c9 c10 c11 c12 c13 x0 x9 x10 x11 x12 x13 x15 x16 x17 x20 x21 x22 x23 x26 x28 x31 x32 x33 x38 x41 x44 x14 g15 g16 g17 g18 g19 g20 g21 g22 g23 g24 g25 g26 g27 g28 g29 g30 g31 g32 g33 g34 g35 g36 g37 g38 g39 g40 g41 g42 g43 g44 t)) : zCl zTab (d + 1) iX12_see [.ref 14] (zMg c0 c1 c2 c3 c4 c5 c6 c7 c8 c9 c10 c11 c12 c13 x0 x9 x10 x11 x12 x13 x15 x16 x17 x20 x21 x22 x23 x26 x28 x31 x32 x33 x38 x41 x44 x14 g15 g16 g17 g18 g19 g20 g21 g22 g23 g24 g25 g26 g27 g28 g29 g30 g31 g32 g33 g34 g35 g36 g37 g38 g39 g40 g41 g42 g43 g44 t) 0 0 Q := by
  refine zCl_i (M := kX12_see) rfl (Nat.le_of_ble_eq_true rfl) fun R hR => ?_
  iterate 4 refine hR (?_ : R (_, _, _, _, _, _))
  refine hR (And.intro (fun _ => ?_) (fun hc => absurd (Int32.not_lt.mp hx) hc))
  refine hR (?_ : R (_, _, _, _, _, _))
  exact hR (zret_i rfl (Nat.le_refl _) trivial h)
theorem m_token {c0 c1 c2 c3 c4 c5 c6 c7 c8 c9 c10 c11 c12 c13 : va_E} {x0 x9 x10 x11 x12 x13 x15 x16 x17 x20 x21 x22 x23 x26 x28 x31 x32 x33 x38 x41 x44 : Int32} {x14 : Int64} {g15 g16 g17 g18 g19 g20 g21 g22 g23 g24 g25 g26 g27 g28 g29 g30 g31 g32 g33 g34 g35 g36 g37 g38 g39 g40 g41 g42 g43 g44 : Nat → Int32} {t : zW} (d : Nat) (Q : zQ) (hx : ¬ x9 < x10) (h : ∀ y14, Q none (zMg c0 c1 c2 c3 c4 c5 c6 c7 c8 c9 c10 c11 c12 c13 x0 x9 x10 x9 (Int32.ofInt 0) x13 x15 x16 x17 x20 x21 x22 x23 x26 x28 x31 x32 x33 x38 x41 x44 y14 g15 g16 g17 g18 g19 g20 g21 g22 g23 g24 g25 g26 g27 g28 g29 g30 g31 g32 g33 g34 g35 g36 g37 g38 g39 g40 g41 g42 g43 g44 t)) : zCl zTab (d + 2) iX12_token [.ref 14] (zMg c0 c1 c2 c3 c4 c5 c6 c7 c8 c9 c10 c11 c12 c13 x0 x9 x10 x11 x12 x13 x15 x16 x17 x20 x21 x22 x23 x26 x28 x31 x32 x33 x38 x41 x44 x14 g15 g16 g17 g18 g19 g20 g21 g22 g23 g24 g25 g26 g27 g28 g29 g30 g31 g32 g33 g34 g35 g36 g37 g38 g39 g40 g41 g42 g43 g44 t) 0 0 Q := by
  refine zCl_i (M := kX12_token) rfl (Nat.le_of_ble_eq_true rfl) fun R hR => ?_
  refine hR (?_ : R (_, _, _, _, _, _))
  refine hR (zcall_i 0 0 (Nat.le_of_ble_eq_true rfl) (Nat.le_of_ble_eq_true rfl) (m_see _ _ hx ?_))
  refine hR (?_ : R (_, _, _, _, _, _))
  refine hR (And.intro (fun hc => absurd hc (by decide)) (fun _ => ?_))
  refine hR (?_ : R (_, _, _, _, _, _))
  refine hR (zcall_i 0 0 (Nat.le_of_ble_eq_true rfl) (Nat.le_of_ble_eq_true rfl) (m_see _ _ hx ?_))
  refine hR (?_ : R (_, _, _, _, _, _))
  refine hR (And.intro (fun _ => ?_) (fun hc => absurd hc (by decide)))
  iterate 5 refine hR (?_ : R (_, _, _, _, _, _))
  refine hR (zcall_i 0 0 (Nat.le_of_ble_eq_true rfl) (Nat.le_of_ble_eq_true rfl) (m_see _ _ hx ?_))
  iterate 7 refine hR (?_ : R (_, _, _, _, _, _))
  refine hR (And.intro (fun hc => absurd hc (by decide)) (fun _ => ?_))
  iterate 4 refine hR (?_ : R (_, _, _, _, _, _))
  exact hR (zret_i rfl (Nat.le_refl _) (rfl) (h _))
theorem m_lines {c0 c1 c2 c3 c4 c5 c6 c7 c8 c9 c10 c11 c12 c13 : va_E} {x0 x9 x10 x11 x13 x15 x16 x17 x20 x21 x22 x23 x26 x28 x31 x32 x33 x38 x41 x44 : Int32} {x14 : Int64} {g15 g16 g17 g18 g19 g20 g21 g22 g23 g24 g25 g26 g27 g28 g29 g30 g31 g32 g33 g34 g35 g36 g37 g38 g39 g40 g41 g42 g43 g44 : Nat → Int32} {t : zW} (d : Nat) (s : Int32) (Q : zQ) (h : Q (some (.int (Int32.ofInt 1))) (zMg c0 c1 c2 c3 c4 c5 c6 c7 c8 c9 c10 c11 c12 c13 x0 x9 x10 x11 (Int32.ofInt 0) x13 x15 x16 x17 x20 x21 x22 x23 x26 x28 x31 x32 x33 x38 x41 x44 x14 g15 g16 g17 g18 g19 g20 g21 g22 g23 g24 g25 g26 g27 g28 g29 g30 g31 g32 g33 g34 g35 g36 g37 g38 g39 g40 g41 g42 g43 g44 t)) : zCl zTab (d + 1) iX12_lines [.ref 14, .int s] (zMg c0 c1 c2 c3 c4 c5 c6 c7 c8 c9 c10 c11 c12 c13 x0 x9 x10 x11 (Int32.ofInt 0) x13 x15 x16 x17 x20 x21 x22 x23 x26 x28 x31 x32 x33 x38 x41 x44 x14 g15 g16 g17 g18 g19 g20 g21 g22 g23 g24 g25 g26 g27 g28 g29 g30 g31 g32 g33 g34 g35 g36 g37 g38 g39 g40 g41 g42 g43 g44 t) 0 0 Q := by
  refine zCl_i (M := kX12_lines) rfl (Nat.le_of_ble_eq_true rfl) fun R hR => ?_
  iterate 3 refine hR (?_ : R (_, _, _, _, _, _))
  refine hR (And.intro (fun hc => absurd hc (by decide)) (fun _ => ?_))
  iterate 2 refine hR (?_ : R (_, _, _, _, _, _))
  refine hR (And.intro (fun _ => ?_) (fun hc => absurd (by decide) hc))
  refine hR (?_ : R (_, _, _, _, _, _))
  exact hR (zret_i rfl (Nat.le_refl _) (Or.inr rfl) (h))
theorem m_readText {c0 c1 c2 c3 c4 c5 c6 c7 c8 c9 c10 c11 c12 c13 : va_E} {x0 x9 x10 x11 x12 x13 x15 x16 x17 x20 x21 x22 x23 x26 x28 x31 x32 x33 x38 x41 x44 : Int32} {x14 : Int64} {g15 g16 g17 g18 g19 g20 g21 g22 g23 g24 g25 g26 g27 g28 g29 g30 g31 g32 g33 g34 g35 g36 g37 g38 g39 g40 g41 g42 g43 g44 : Nat → Int32} {t : zW} (d : Nat) (s : Int32) (Q : zQ) (hx : ¬ Int32.ofInt 0 < x10) (h : ∀ f17 f18 f23 y9 y11 y12 y14 y16, Q (some (.int (Int32.ofInt 1))) (zMg c0 c1 c2 c3 c4 c5 c6 c7 c8 c9 c10 c11 c12 c13 x0 y9 x10 y11 y12 x13 x15 y16 x17 x20 x21 x22 x23 x26 x28 x31 x32 x33 x38 x41 x44 y14 g15 g16 f17 f18 g19 g20 g21 g22 f23 g24 g25 g26 g27 g28 g29 g30 g31 g32 g33 g34 g35 g36 g37 g38 g39 g40 g41 g42 g43 g44 t)) : zCl zTab (d + 3) iX12_readText [.ref 14, .int s] (zMg c0 c1 c2 c3 c4 c5 c6 c7 c8 c9 c10 c11 c12 c13 x0 x9 x10 x11 x12 x13 x15 x16 x17 x20 x21 x22 x23 x26 x28 x31 x32 x33 x38 x41 x44 x14 g15 g16 g17 g18 g19 g20 g21 g22 g23 g24 g25 g26 g27 g28 g29 g30 g31 g32 g33 g34 g35 g36 g37 g38 g39 g40 g41 g42 g43 g44 t) 0 0 Q := by
  refine zCl_i (M := kX12_readText) rfl (Nat.le_of_ble_eq_true rfl) fun R hR => ?_
  have e121 : (Int8.ofInt 121).toInt32.toInt = 121 := by decide
  have loop : ∀ (m : Nat) (i : Int32) (f : Nat → Int32), 0 ≤ i.toInt → i.toInt + m = 121 → R (2, [some (.ref 14), some (.int s), some (.int i)], [], (zMg c0 c1 c2 c3 c4 c5 c6 c7 c8 c9 c10 c11 c12 c13 x0 x9 x10 x11 x12 x13 x15 x16 x17 x20 x21 x22 x23 x26 x28 x31 x32 x33 x38 x41 x44 x14 g15 g16 g17 g18 g19 g20 g21 g22 f g24 g25 g26 g27 g28 g29 g30 g31 g32 g33 g34 g35 g36 g37 g38 g39 g40 g41 g42 g43 g44 t), 0, 0) := by
    intro m
    induction m with
    | zero =>
      intro i f h0 h1
      iterate 2 refine hR (?_ : R (_, _, _, _, _, _))
      refine hR (And.intro (fun _ => ?_) (fun hc => absurd (zle_i.mpr (by omega)) hc))
      iterate 7 refine hR (?_ : R (_, _, _, _, _, _))
      refine hR (zcall_i 0 0 (Nat.le_of_ble_eq_true rfl) (Nat.le_of_ble_eq_true rfl) (m_token _ _ hx (fun y14 => ?_)))
      iterate 2 refine hR (?_ : R (_, _, _, _, _, _))
      refine hR (zcall_i 0 0 (Nat.le_of_ble_eq_true rfl) (Nat.le_of_ble_eq_true rfl) (m_lines _ _ _ ?_))
      iterate 5 refine hR (?_ : R (_, _, _, _, _, _))
      refine hR (And.intro (fun hc => absurd hc (by decide)) (fun _ => ?_))
      iterate 3 refine hR (?_ : R (_, _, _, _, _, _))
      refine hR (And.intro (by unfold vp_in; decide) ?_)
      iterate 4 refine hR (?_ : R (_, _, _, _, _, _))
      refine hR (And.intro (fun _ => ?_) (fun hc => absurd hc (by decide)))
      iterate 2 refine hR (?_ : R (_, _, _, _, _, _))
      refine hR (And.intro (fun _ => ?_) (fun hc => absurd (by decide) hc))
      refine hR (?_ : R (_, _, _, _, _, _))
      refine hR (And.intro (by unfold vp_in; decide) ?_)
      iterate 3 refine hR (?_ : R (_, _, _, _, _, _))
      refine hR (And.intro (by unfold vp_in; decide) ?_)
      refine hR (And.intro (fun hc => absurd (show upd g17 (Int32.ofInt 0).toNatClampNeg (Int32.ofInt 0) (Int32.ofInt 0).toNatClampNeg = 0 from z0i) hc) (fun _ => ?_))
      iterate 2 refine hR (?_ : R (_, _, _, _, _, _))
      exact hR (zret_i rfl (Nat.le_refl _) (Or.inr rfl) (h _ _ _ _ _ _ _ _))
    | succ m ih =>
      intro i f h0 h1
      have b3 := zinc (i := i) h0 (by omega)
      have hv : vp_in i 121 := zin_of h0 (by omega)
      iterate 2 refine hR (?_ : R (_, _, _, _, _, _))
      refine hR (And.intro (fun hc => absurd (zle_i.mp hc) (by omega)) (fun _ => ?_))
      iterate 4 refine hR (?_ : R (_, _, _, _, _, _))
      refine hR (And.intro (fun _ => ?_) (fun _ => ?_))
      · refine hR (?_ : R (_, _, _, _, _, _))
        refine hR (And.intro hv ?_)
        iterate 2 refine hR (?_ : R (_, _, _, _, _, _))
        exact ih (i + Int32.ofInt 1) _ (by omega) (by omega)
      iterate 3 refine hR (?_ : R (_, _, _, _, _, _))
      refine hR (zcall_i 0 0 (Nat.le_of_ble_eq_true rfl) (Nat.le_of_ble_eq_true rfl) (m_in _ _ _ _ _ _ (fun _ _ => ?_) (fun _ => ?_)))
      · refine hR (And.intro (fun hc => absurd hc (by decide)) (fun _ => ?_))
        iterate 4 refine hR (?_ : R (_, _, _, _, _, _))
        refine hR (And.intro hv ?_)
        iterate 2 refine hR (?_ : R (_, _, _, _, _, _))
        exact ih (i + Int32.ofInt 1) _ (by omega) (by omega)
      · refine hR (And.intro (fun _ => ?_) (fun hc => absurd (by decide) hc))
        refine hR (?_ : R (_, _, _, _, _, _))
        refine hR (And.intro hv ?_)
        iterate 2 refine hR (?_ : R (_, _, _, _, _, _))
        exact ih (i + Int32.ofInt 1) _ (by omega) (by omega)
  iterate 2 refine hR (?_ : R (_, _, _, _, _, _))
  exact loop 121 (Int32.ofInt 0) g23 (by decide) (by decide)
theorem m_store20 {c0 c1 c2 c3 c4 c5 c6 c7 c8 c9 c10 c11 c12 c13 : va_E} {x0 x9 x10 x11 x12 x13 x15 x16 x17 x20 x21 x22 x23 x26 x28 x31 x32 x33 x38 x41 x44 : Int32} {x14 : Int64} {g15 g16 g17 g18 g19 g20 g21 g22 g23 g24 g25 g26 g27 g28 g29 g30 g31 g32 g33 g34 g35 g36 g37 g38 g39 g40 g41 g42 g43 g44 : Nat → Int32} {t : zW} (d : Nat) (n k : Int32) (Q : zQ) (hn : n.toInt = 51) (hk0 : 0 ≤ k.toInt) (hk : k.toInt ≤ 3) (h : ∀ f, Q none (zMg c0 c1 c2 c3 c4 c5 c6 c7 c8 c9 c10 c11 c12 c13 x0 x9 x10 x11 x12 x13 x15 x16 x17 x20 x21 x22 x23 x26 x28 x31 x32 x33 x38 x41 x44 x14 g15 g16 g17 g18 g19 f g21 g22 g23 g24 g25 g26 g27 g28 g29 g30 g31 g32 g33 g34 g35 g36 g37 g38 g39 g40 g41 g42 g43 g44 t)) : zCl zTab (d + 1) iX12_store [.ref 14, .ref 20, .int n, .int k] (zMg c0 c1 c2 c3 c4 c5 c6 c7 c8 c9 c10 c11 c12 c13 x0 x9 x10 x11 x12 x13 x15 x16 x17 x20 x21 x22 x23 x26 x28 x31 x32 x33 x38 x41 x44 x14 g15 g16 g17 g18 g19 g20 g21 g22 g23 g24 g25 g26 g27 g28 g29 g30 g31 g32 g33 g34 g35 g36 g37 g38 g39 g40 g41 g42 g43 g44 t) 0 0 Q := by
  refine zCl_i (M := kX12_store) rfl (Nat.le_of_ble_eq_true rfl) fun R hR => ?_
  have loop : ∀ (m : Nat) (i : Int32) (f : Nat → Int32), 0 ≤ i.toInt → i.toInt + m = 51 → R (3, [some (.ref 14), some (.ref 20), some (.int n), some (.int k), some (.int i)], [], (zMg c0 c1 c2 c3 c4 c5 c6 c7 c8 c9 c10 c11 c12 c13 x0 x9 x10 x11 x12 x13 x15 x16 x17 x20 x21 x22 x23 x26 x28 x31 x32 x33 x38 x41 x44 x14 g15 g16 g17 g18 g19 f g21 g22 g23 g24 g25 g26 g27 g28 g29 g30 g31 g32 g33 g34 g35 g36 g37 g38 g39 g40 g41 g42 g43 g44 t), 0, 0) := by
    intro m
    induction m with
    | zero =>
      intro i f h0 h1
      iterate 2 refine hR (?_ : R (_, _, _, _, _, _))
      refine hR (And.intro (fun _ => ?_) (fun hc => absurd (zle_i.mpr (by omega)) hc))
      exact hR (zret_i rfl (Nat.le_refl _) rfl (h _))
    | succ m ih =>
      intro i f h0 h1
      have b1 := zidx (n := n) (t := k) (i := i) hn (by omega) (by omega) hk0 hk h0 (by omega)
      have b3 := zinc (i := i) h0 (by omega)
      iterate 2 refine hR (?_ : R (_, _, _, _, _, _))
      refine hR (And.intro (fun hc => absurd (zle_i.mp hc) (by omega)) (fun _ => ?_))
      iterate 9 refine hR (?_ : R (_, _, _, _, _, _))
      refine hR (And.intro (zin_of h0 (by omega)) ?_)
      refine hR (And.intro (zin_of b1.1 (by omega)) ?_)
      iterate 2 refine hR (?_ : R (_, _, _, _, _, _))
      exact ih (i + Int32.ofInt 1) _ (by omega) (by omega)
  iterate 2 refine hR (?_ : R (_, _, _, _, _, _))
  exact loop 51 (Int32.ofInt 0) g20 (by decide) (by decide)
theorem m_store21 {c0 c1 c2 c3 c4 c5 c6 c7 c8 c9 c10 c11 c12 c13 : va_E} {x0 x9 x10 x11 x12 x13 x15 x16 x17 x20 x21 x22 x23 x26 x28 x31 x32 x33 x38 x41 x44 : Int32} {x14 : Int64} {g15 g16 g17 g18 g19 g20 g21 g22 g23 g24 g25 g26 g27 g28 g29 g30 g31 g32 g33 g34 g35 g36 g37 g38 g39 g40 g41 g42 g43 g44 : Nat → Int32} {t : zW} (d : Nat) (n k : Int32) (Q : zQ) (hn : n.toInt = 121) (hk0 : 0 ≤ k.toInt) (hk : k.toInt ≤ 3) (h : ∀ f, Q none (zMg c0 c1 c2 c3 c4 c5 c6 c7 c8 c9 c10 c11 c12 c13 x0 x9 x10 x11 x12 x13 x15 x16 x17 x20 x21 x22 x23 x26 x28 x31 x32 x33 x38 x41 x44 x14 g15 g16 g17 g18 g19 g20 f g22 g23 g24 g25 g26 g27 g28 g29 g30 g31 g32 g33 g34 g35 g36 g37 g38 g39 g40 g41 g42 g43 g44 t)) : zCl zTab (d + 1) iX12_store [.ref 14, .ref 21, .int n, .int k] (zMg c0 c1 c2 c3 c4 c5 c6 c7 c8 c9 c10 c11 c12 c13 x0 x9 x10 x11 x12 x13 x15 x16 x17 x20 x21 x22 x23 x26 x28 x31 x32 x33 x38 x41 x44 x14 g15 g16 g17 g18 g19 g20 g21 g22 g23 g24 g25 g26 g27 g28 g29 g30 g31 g32 g33 g34 g35 g36 g37 g38 g39 g40 g41 g42 g43 g44 t) 0 0 Q := by
  refine zCl_i (M := kX12_store) rfl (Nat.le_of_ble_eq_true rfl) fun R hR => ?_
  have loop : ∀ (m : Nat) (i : Int32) (f : Nat → Int32), 0 ≤ i.toInt → i.toInt + m = 121 → R (3, [some (.ref 14), some (.ref 21), some (.int n), some (.int k), some (.int i)], [], (zMg c0 c1 c2 c3 c4 c5 c6 c7 c8 c9 c10 c11 c12 c13 x0 x9 x10 x11 x12 x13 x15 x16 x17 x20 x21 x22 x23 x26 x28 x31 x32 x33 x38 x41 x44 x14 g15 g16 g17 g18 g19 g20 f g22 g23 g24 g25 g26 g27 g28 g29 g30 g31 g32 g33 g34 g35 g36 g37 g38 g39 g40 g41 g42 g43 g44 t), 0, 0) := by
    intro m
    induction m with
    | zero =>
      intro i f h0 h1
      iterate 2 refine hR (?_ : R (_, _, _, _, _, _))
      refine hR (And.intro (fun _ => ?_) (fun hc => absurd (zle_i.mpr (by omega)) hc))
      exact hR (zret_i rfl (Nat.le_refl _) rfl (h _))
    | succ m ih =>
      intro i f h0 h1
      have b1 := zidx (n := n) (t := k) (i := i) hn (by omega) (by omega) hk0 hk h0 (by omega)
      have b3 := zinc (i := i) h0 (by omega)
      iterate 2 refine hR (?_ : R (_, _, _, _, _, _))
      refine hR (And.intro (fun hc => absurd (zle_i.mp hc) (by omega)) (fun _ => ?_))
      iterate 9 refine hR (?_ : R (_, _, _, _, _, _))
      refine hR (And.intro (zin_of h0 (by omega)) ?_)
      refine hR (And.intro (zin_of b1.1 (by omega)) ?_)
      iterate 2 refine hR (?_ : R (_, _, _, _, _, _))
      exact ih (i + Int32.ofInt 1) _ (by omega) (by omega)
  iterate 2 refine hR (?_ : R (_, _, _, _, _, _))
  exact loop 121 (Int32.ofInt 0) g21 (by decide) (by decide)
theorem m_store22 {c0 c1 c2 c3 c4 c5 c6 c7 c8 c9 c10 c11 c12 c13 : va_E} {x0 x9 x10 x11 x12 x13 x15 x16 x17 x20 x21 x22 x23 x26 x28 x31 x32 x33 x38 x41 x44 : Int32} {x14 : Int64} {g15 g16 g17 g18 g19 g20 g21 g22 g23 g24 g25 g26 g27 g28 g29 g30 g31 g32 g33 g34 g35 g36 g37 g38 g39 g40 g41 g42 g43 g44 : Nat → Int32} {t : zW} (d : Nat) (n k : Int32) (Q : zQ) (hn : n.toInt = 13) (hk0 : 0 ≤ k.toInt) (hk : k.toInt ≤ 3) (h : ∀ f, Q none (zMg c0 c1 c2 c3 c4 c5 c6 c7 c8 c9 c10 c11 c12 c13 x0 x9 x10 x11 x12 x13 x15 x16 x17 x20 x21 x22 x23 x26 x28 x31 x32 x33 x38 x41 x44 x14 g15 g16 g17 g18 g19 g20 g21 f g23 g24 g25 g26 g27 g28 g29 g30 g31 g32 g33 g34 g35 g36 g37 g38 g39 g40 g41 g42 g43 g44 t)) : zCl zTab (d + 1) iX12_store [.ref 14, .ref 22, .int n, .int k] (zMg c0 c1 c2 c3 c4 c5 c6 c7 c8 c9 c10 c11 c12 c13 x0 x9 x10 x11 x12 x13 x15 x16 x17 x20 x21 x22 x23 x26 x28 x31 x32 x33 x38 x41 x44 x14 g15 g16 g17 g18 g19 g20 g21 g22 g23 g24 g25 g26 g27 g28 g29 g30 g31 g32 g33 g34 g35 g36 g37 g38 g39 g40 g41 g42 g43 g44 t) 0 0 Q := by
  refine zCl_i (M := kX12_store) rfl (Nat.le_of_ble_eq_true rfl) fun R hR => ?_
  have loop : ∀ (m : Nat) (i : Int32) (f : Nat → Int32), 0 ≤ i.toInt → i.toInt + m = 13 → R (3, [some (.ref 14), some (.ref 22), some (.int n), some (.int k), some (.int i)], [], (zMg c0 c1 c2 c3 c4 c5 c6 c7 c8 c9 c10 c11 c12 c13 x0 x9 x10 x11 x12 x13 x15 x16 x17 x20 x21 x22 x23 x26 x28 x31 x32 x33 x38 x41 x44 x14 g15 g16 g17 g18 g19 g20 g21 f g23 g24 g25 g26 g27 g28 g29 g30 g31 g32 g33 g34 g35 g36 g37 g38 g39 g40 g41 g42 g43 g44 t), 0, 0) := by
    intro m
    induction m with
    | zero =>
      intro i f h0 h1
      iterate 2 refine hR (?_ : R (_, _, _, _, _, _))
      refine hR (And.intro (fun _ => ?_) (fun hc => absurd (zle_i.mpr (by omega)) hc))
      exact hR (zret_i rfl (Nat.le_refl _) rfl (h _))
    | succ m ih =>
      intro i f h0 h1
      have b1 := zidx (n := n) (t := k) (i := i) hn (by omega) (by omega) hk0 hk h0 (by omega)
      have b3 := zinc (i := i) h0 (by omega)
      iterate 2 refine hR (?_ : R (_, _, _, _, _, _))
      refine hR (And.intro (fun hc => absurd (zle_i.mp hc) (by omega)) (fun _ => ?_))
      iterate 9 refine hR (?_ : R (_, _, _, _, _, _))
      refine hR (And.intro (zin_of h0 (by omega)) ?_)
      refine hR (And.intro (zin_of b1.1 (by omega)) ?_)
      iterate 2 refine hR (?_ : R (_, _, _, _, _, _))
      exact ih (i + Int32.ofInt 1) _ (by omega) (by omega)
  iterate 2 refine hR (?_ : R (_, _, _, _, _, _))
  exact loop 13 (Int32.ofInt 0) g22 (by decide) (by decide)
