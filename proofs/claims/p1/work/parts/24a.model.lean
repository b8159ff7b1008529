def zMg (c0 c1 c2 c3 c4 c5 c6 c7 c8 c9 c10 c11 c12 c13 : va_E) (x0 x9 x10 x11 x12 x13 x15 x16 x17 x20 x21 x22 x23 x26 x28 x31 x32 x33 x38 x41 x44 : Int32) (x14 : Int64) (g15 g16 g17 g18 g19 g20 g21 g22 g23 g24 g25 g26 g27 g28 g29 g30 g31 g32 g33 g34 g35 g36 g37 g38 g39 g40 g41 g42 g43 g44 : Nat → Int32) (t : zW) : zW := c0 :: c1 :: c2 :: c3 :: c4 :: c5 :: c6 :: c7 :: c8 :: c9 :: c10 :: c11 :: c12 :: c13 :: .inr (11, [.int x0, .ref 15, .ref 16, .ref 17, .ref 18, .ref 19, .ref 20, .ref 21, .ref 22, .int x9, .int x10, .int x11, .int x12, .int x13, .long x14, .int x15, .int x16, .int x17, .ref 23, .ref 24, .int x20, .int x21, .int x22, .int x23, .ref 25, .ref 26, .int x26, .ref 27, .int x28, .ref 28, .ref 29, .int x31, .int x32, .int x33, .ref 30, .ref 31, .ref 32, .ref 33, .int x38, .ref 34, .ref 35, .int x41, .ref 36, .ref 37, .int x44, .ref 38, .ref 39, .ref 40, .ref 41, .ref 42, .ref 43, .ref 44]) :: .inl (0, 2400, .inl g15) :: .inl (1, 4, .inl g16) :: .inl (1, 4, .inl g17) :: .inl (1, 4, .inl g18) :: .inl (1, 12, .inl g19) :: .inl (1, 408, .inl g20) :: .inl (1, 968, .inl g21) :: .inl (1, 104, .inl g22) :: .inl (1, 121, .inl g23) :: .inl (1, 3, .inl g24) :: .inl (1, 7, .inl g25) :: .inl (1, 7, .inl g26) :: .inl (1, 49, .inl g27) :: .inl (1, 4, .inl g28) :: .inl (1, 5, .inl g29) :: .inl (1, 27305, .inl g30) :: .inl (1, 5461, .inl g31) :: .inl (1, 5461, .inl g32) :: .inl (1, 5461, .inl g33) :: .inl (1, 5461, .inl g34) :: .inl (1, 54610, .inl g35) :: .inl (1, 54610, .inl g36) :: .inl (1, 54610, .inl g37) :: .inl (1, 5461, .inl g38) :: .inl (1, 5461, .inl g39) :: .inl (1, 5461, .inl g40) :: .inl (1, 5461, .inl g41) :: .inl (1, 5461, .inl g42) :: .inl (1, 27305, .inl g43) :: .inl (2, 3, .inl g44) :: t
theorem m_copyRow16 {c0 c1 c2 c3 c4 c5 c6 c7 c8 c9 c10 c11 c12 c13 : va_E} {x0 x9 x10 x11 x12 x13 x15 x16 x17 x20 x21 x22 x23 x26 x28 x31 x32 x33 x38 x41 x44 : Int32} {x14 : Int64} {g15 g16 g17 g18 g19 g20 g21 g22 g23 g24 g25 g26 g27 g28 g29 g30 g31 g32 g33 g34 g35 g36 g37 g38 g39 g40 g41 g42 g43 g44 : Nat → Int32} {t : zW} (d : Nat) (n fr to : Int32) (Q : zQ) (hn : n.toInt = 1) (hf0 : 0 ≤ fr.toInt) (hf : fr.toInt ≤ 3) (ht0 : 0 ≤ to.toInt) (ht : to.toInt ≤ 3) (h : ∀ f, Q none (zMg c0 c1 c2 c3 c4 c5 c6 c7 c8 c9 c10 c11 c12 c13 x0 x9 x10 x11 x12 x13 x15 x16 x17 x20 x21 x22 x23 x26 x28 x31 x32 x33 x38 x41 x44 x14 g15 f g17 g18 g19 g20 g21 g22 g23 g24 g25 g26 g27 g28 g29 g30 g31 g32 g33 g34 g35 g36 g37 g38 g39 g40 g41 g42 g43 g44 t)) : zCl zTab (d + 1) iX12_copyRow [.ref 16, .int n, .int fr, .int to] (zMg c0 c1 c2 c3 c4 c5 c6 c7 c8 c9 c10 c11 c12 c13 x0 x9 x10 x11 x12 x13 x15 x16 x17 x20 x21 x22 x23 x26 x28 x31 x32 x33 x38 x41 x44 x14 g15 g16 g17 g18 g19 g20 g21 g22 g23 g24 g25 g26 g27 g28 g29 g30 g31 g32 g33 g34 g35 g36 g37 g38 g39 g40 g41 g42 g43 g44 t) 0 0 Q := by
  refine zCl_i (M := kX12_copyRow) rfl (Nat.le_of_ble_eq_true rfl) fun R hR => ?_
  have loop : ∀ (m : Nat) (i : Int32) (f : Nat → Int32), 0 ≤ i.toInt → i.toInt + m = 1 → R (3, [some (.ref 16), some (.int n), some (.int fr), some (.int to), some (.int i)], [], (zMg c0 c1 c2 c3 c4 c5 c6 c7 c8 c9 c10 c11 c12 c13 x0 x9 x10 x11 x12 x13 x15 x16 x17 x20 x21 x22 x23 x26 x28 x31 x32 x33 x38 x41 x44 x14 g15 f g17 g18 g19 g20 g21 g22 g23 g24 g25 g26 g27 g28 g29 g30 g31 g32 g33 g34 g35 g36 g37 g38 g39 g40 g41 g42 g43 g44 t), 0, 0) := by
    intro m
    induction m with
    | zero =>
      intro i f h0 h1
      iterate 2 refine hR (?_ : R (_, _, _, _, _, _))
      refine hR (And.intro (fun _ => ?_) (fun hc => absurd (zle_i.mpr (by omega)) hc))
      exact hR (zret_i rfl (Nat.le_refl _) rfl (h _))
    | succ m ih =>
      intro i f h0 h1
      have b1 := zidx (n := n) (t := to) (i := i) hn (by omega) (by omega) ht0 ht h0 (by omega)
      have b2 := zidx (n := n) (t := fr) (i := i) hn (by omega) (by omega) hf0 hf h0 (by omega)
      have b3 := zinc (i := i) h0 (by omega)
      iterate 2 refine hR (?_ : R (_, _, _, _, _, _))
      refine hR (And.intro (fun hc => absurd (zle_i.mp hc) (by omega)) (fun _ => ?_))
      iterate 12 refine hR (?_ : R (_, _, _, _, _, _))
      refine hR (And.intro (zin_of b2.1 (by omega)) ?_)
      refine hR (And.intro (zin_of b1.1 (by omega)) ?_)
      iterate 2 refine hR (?_ : R (_, _, _, _, _, _))
      exact ih (i + Int32.ofInt 1) _ (by omega) (by omega)
  iterate 2 refine hR (?_ : R (_, _, _, _, _, _))
  exact loop 1 (Int32.ofInt 0) g16 (by decide) (by decide)
theorem m_copyRow17 {c0 c1 c2 c3 c4 c5 c6 c7 c8 c9 c10 c11 c12 c13 : va_E} {x0 x9 x10 x11 x12 x13 x15 x16 x17 x20 x21 x22 x23 x26 x28 x31 x32 x33 x38 x41 x44 : Int32} {x14 : Int64} {g15 g16 g17 g18 g19 g20 g21 g22 g23 g24 g25 g26 g27 g28 g29 g30 g31 g32 g33 g34 g35 g36 g37 g38 g39 g40 g41 g42 g43 g44 : Nat → Int32} {t : zW} (d : Nat) (n fr to : Int32) (Q : zQ) (hn : n.toInt = 1) (hf0 : 0 ≤ fr.toInt) (hf : fr.toInt ≤ 3) (ht0 : 0 ≤ to.toInt) (ht : to.toInt ≤ 3) (h : ∀ f, Q none (zMg c0 c1 c2 c3 c4 c5 c6 c7 c8 c9 c10 c11 c12 c13 x0 x9 x10 x11 x12 x13 x15 x16 x17 x20 x21 x22 x23 x26 x28 x31 x32 x33 x38 x41 x44 x14 g15 g16 f g18 g19 g20 g21 g22 g23 g24 g25 g26 g27 g28 g29 g30 g31 g32 g33 g34 g35 g36 g37 g38 g39 g40 g41 g42 g43 g44 t)) : zCl zTab (d + 1) iX12_copyRow [.ref 17, .int n, .int fr, .int to] (zMg c0 c1 c2 c3 c4 c5 c6 c7 c8 c9 c10 c11 c12 c13 x0 x9 x10 x11 x12 x13 x15 x16 x17 x20 x21 x22 x23 x26 x28 x31 x32 x33 x38 x41 x44 x14 g15 g16 g17 g18 g19 g20 g21 g22 g23 g24 g25 g26 g27 g28 g29 g30 g31 g32 g33 g34 g35 g36 g37 g38 g39 g40 g41 g42 g43 g44 t) 0 0 Q := by
  refine zCl_i (M := kX12_copyRow) rfl (Nat.le_of_ble_eq_true rfl) fun R hR => ?_
  have loop : ∀ (m : Nat) (i : Int32) (f : Nat → Int32), 0 ≤ i.toInt → i.toInt + m = 1 → R (3, [some (.ref 17), some (.int n), some (.int fr), some (.int to), some (.int i)], [], (zMg c0 c1 c2 c3 c4 c5 c6 c7 c8 c9 c10 c11 c12 c13 x0 x9 x10 x11 x12 x13 x15 x16 x17 x20 x21 x22 x23 x26 x28 x31 x32 x33 x38 x41 x44 x14 g15 g16 f g18 g19 g20 g21 g22 g23 g24 g25 g26 g27 g28 g29 g30 g31 g32 g33 g34 g35 g36 g37 g38 g39 g40 g41 g42 g43 g44 t), 0, 0) := by
    intro m
    induction m with
    | zero =>
      intro i f h0 h1
      iterate 2 refine hR (?_ : R (_, _, _, _, _, _))
      refine hR (And.intro (fun _ => ?_) (fun hc => absurd (zle_i.mpr (by omega)) hc))
      exact hR (zret_i rfl (Nat.le_refl _) rfl (h _))
    | succ m ih =>
      intro i f h0 h1
      have b1 := zidx (n := n) (t := to) (i := i) hn (by omega) (by omega) ht0 ht h0 (by omega)
      have b2 := zidx (n := n) (t := fr) (i := i) hn (by omega) (by omega) hf0 hf h0 (by omega)
      have b3 := zinc (i := i) h0 (by omega)
      iterate 2 refine hR (?_ : R (_, _, _, _, _, _))
      refine hR (And.intro (fun hc => absurd (zle_i.mp hc) (by omega)) (fun _ => ?_))
      iterate 12 refine hR (?_ : R (_, _, _, _, _, _))
      refine hR (And.intro (zin_of b2.1 (by omega)) ?_)
      refine hR (And.intro (zin_of b1.1 (by omega)) ?_)
      iterate 2 refine hR (?_ : R (_, _, _, _, _, _))
      exact ih (i + Int32.ofInt 1) _ (by omega) (by omega)
  iterate 2 refine hR (?_ : R (_, _, _, _, _, _))
  exact loop 1 (Int32.ofInt 0) g17 (by decide) (by decide)
theorem m_copyRow18 {c0 c1 c2 c3 c4 c5 c6 c7 c8 c9 c10 c11 c12 c13 : va_E} {x0 x9 x10 x11 x12 x13 x15 x16 x17 x20 x21 x22 x23 x26 x28 x31 x32 x33 x38 x41 x44 : Int32} {x14 : Int64} {g15 g16 g17 g18 g19 g20 g21 g22 g23 g24 g25 g26 g27 g28 g29 g30 g31 g32 g33 g34 g35 g36 g37 g38 g39 g40 g41 g42 g43 g44 : Nat → Int32} {t : zW} (d : Nat) (n fr to : Int32) (Q : zQ) (hn : n.toInt = 1) (hf0 : 0 ≤ fr.toInt) (hf : fr.toInt ≤ 3) (ht0 : 0 ≤ to.toInt) (ht : to.toInt ≤ 3) (h : ∀ f, Q none (zMg c0 c1 c2 c3 c4 c5 c6 c7 c8 c9 c10 c11 c12 c13 x0 x9 x10 x11 x12 x13 x15 x16 x17 x20 x21 x22 x23 x26 x28 x31 x32 x33 x38 x41 x44 x14 g15 g16 g17 f g19 g20 g21 g22 g23 g24 g25 g26 g27 g28 g29 g30 g31 g32 g33 g34 g35 g36 g37 g38 g39 g40 g41 g42 g43 g44 t)) : zCl zTab (d + 1) iX12_copyRow [.ref 18, .int n, .int fr, .int to] (zMg c0 c1 c2 c3 c4 c5 c6 c7 c8 c9 c10 c11 c12 c13 x0 x9 x10 x11 x12 x13 x15 x16 x17 x20 x21 x22 x23 x26 x28 x31 x32 x33 x38 x41 x44 x14 g15 g16 g17 g18 g19 g20 g21 g22 g23 g24 g25 g26 g27 g28 g29 g30 g31 g32 g33 g34 g35 g36 g37 g38 g39 g40 g41 g42 g43 g44 t) 0 0 Q := by
  refine zCl_i (M := kX12_copyRow) rfl (Nat.le_of_ble_eq_true rfl) fun R hR => ?_
  have loop : ∀ (m : Nat) (i : Int32) (f : Nat → Int32), 0 ≤ i.toInt → i.toInt + m = 1 → R (3, [some (.ref 18), some (.int n), some (.int fr), some (.int to), some (.int i)], [], (zMg c0 c1 c2 c3 c4 c5 c6 c7 c8 c9 c10 c11 c12 c13 x0 x9 x10 x11 x12 x13 x15 x16 x17 x20 x21 x22 x23 x26 x28 x31 x32 x33 x38 x41 x44 x14 g15 g16 g17 f g19 g20 g21 g22 g23 g24 g25 g26 g27 g28 g29 g30 g31 g32 g33 g34 g35 g36 g37 g38 g39 g40 g41 g42 g43 g44 t), 0, 0) := by
    intro m
    induction m with
    | zero =>
      intro i f h0 h1
      iterate 2 refine hR (?_ : R (_, _, _, _, _, _))
      refine hR (And.intro (fun _ => ?_) (fun hc => absurd (zle_i.mpr (by omega)) hc))
      exact hR (zret_i rfl (Nat.le_refl _) rfl (h _))
    | succ m ih =>
      intro i f h0 h1
      have b1 := zidx (n := n) (t := to) (i := i) hn (by omega) (by omega) ht0 ht h0 (by omega)
      have b2 := zidx (n := n) (t := fr) (i := i) hn (by omega) (by omega) hf0 hf h0 (by omega)
      have b3 := zinc (i := i) h0 (by omega)
      iterate 2 refine hR (?_ : R (_, _, _, _, _, _))
      refine hR (And.intro (fun hc => absurd (zle_i.mp hc) (by omega)) (fun _ => ?_))
      iterate 12 refine hR (?_ : R (_, _, _, _, _, _))
      refine hR (And.intro (zin_of b2.1 (by omega)) ?_)
      refine hR (And.intro (zin_of b1.1 (by omega)) ?_)
      iterate 2 refine hR (?_ : R (_, _, _, _, _, _))
      exact ih (i + Int32.ofInt 1) _ (by omega) (by omega)
  iterate 2 refine hR (?_ : R (_, _, _, _, _, _))
  exact loop 1 (Int32.ofInt 0) g18 (by decide) (by decide)
theorem m_copyRow19 {c0 c1 c2 c3 c4 c5 c6 c7 c8 c9 c10 c11 c12 c13 : va_E} {x0 x9 x10 x11 x12 x13 x15 x16 x17 x20 x21 x22 x23 x26 x28 x31 x32 x33 x38 x41 x44 : Int32} {x14 : Int64} {g15 g16 g17 g18 g19 g20 g21 g22 g23 g24 g25 g26 g27 g28 g29 g30 g31 g32 g33 g34 g35 g36 g37 g38 g39 g40 g41 g42 g43 g44 : Nat → Int32} {t : zW} (d : Nat) (n fr to : Int32) (Q : zQ) (hn : n.toInt = 3) (hf0 : 0 ≤ fr.toInt) (hf : fr.toInt ≤ 3) (ht0 : 0 ≤ to.toInt) (ht : to.toInt ≤ 3) (h : ∀ f, Q none (zMg c0 c1 c2 c3 c4 c5 c6 c7 c8 c9 c10 c11 c12 c13 x0 x9 x10 x11 x12 x13 x15 x16 x17 x20 x21 x22 x23 x26 x28 x31 x32 x33 x38 x41 x44 x14 g15 g16 g17 g18 f g20 g21 g22 g23 g24 g25 g26 g27 g28 g29 g30 g31 g32 g33 g34 g35 g36 g37 g38 g39 g40 g41 g42 g43 g44 t)) : zCl zTab (d + 1) iX12_copyRow [.ref 19, .int n, .int fr, .int to] (zMg c0 c1 c2 c3 c4 c5 c6 c7 c8 c9 c10 c11 c12 c13 x0 x9 x10 x11 x12 x13 x15 x16 x17 x20 x21 x22 x23 x26 x28 x31 x32 x33 x38 x41 x44 x14 g15 g16 g17 g18 g19 g20 g21 g22 g23 g24 g25 g26 g27 g28 g29 g30 g31 g32 g33 g34 g35 g36 g37 g38 g39 g40 g41 g42 g43 g44 t) 0 0 Q := by
  refine zCl_i (M := kX12_copyRow) rfl (Nat.le_of_ble_eq_true rfl) fun R hR => ?_
  have loop : ∀ (m : Nat) (i : Int32) (f : Nat → Int32), 0 ≤ i.toInt → i.toInt + m = 3 → R (3, [some (.ref 19), some (.int n), some (.int fr), some (.int to), some (.int i)], [], (zMg c0 c1 c2 c3 c4 c5 c6 c7 c8 c9 c10 c11 c12 c13 x0 x9 x10 x11 x12 x13 x15 x16 x17 x20 x21 x22 x23 x26 x28 x31 x32 x33 x38 x41 x44 x14 g15 g16 g17 g18 f g20 g21 g22 g23 g24 g25 g26 g27 g28 g29 g30 g31 g32 g33 g34 g35 g36 g37 g38 g39 g40 g41 g42 g43 g44 t), 0, 0) := by
    intro m
    induction m with
    | zero =>
      intro i f h0 h1
      iterate 2 refine hR (?_ : R (_, _, _, _, _, _))
      refine hR (And.intro (fun _ => ?_) (fun hc => absurd (zle_i.mpr (by omega)) hc))
      exact hR (zret_i rfl (Nat.le_refl _) rfl (h _))
    | succ m ih =>
      intro i f h0 h1
      have b1 := zidx (n := n) (t := to) (i := i) hn (by omega) (by omega) ht0 ht h0 (by omega)
      have b2 := zidx (n := n) (t := fr) (i := i) hn (by omega) (by omega) hf0 hf h0 (by omega)
      have b3 := zinc (i := i) h0 (by omega)
      iterate 2 refine hR (?_ : R (_, _, _, _, _, _))
      refine hR (And.intro (fun hc => absurd (zle_i.mp hc) (by omega)) (fun _ => ?_))
      iterate 12 refine hR (?_ : R (_, _, _, _, _, _))
      refine hR (And.intro (zin_of b2.1 (by omega)) ?_)
      refine hR (And.intro (zin_of b1.1 (by omega)) ?_)
      iterate 2 refine hR (?_ : R (_, _, _, _, _, _))
      exact ih (i + Int32.ofInt 1) _ (by omega) (by omega)
  iterate 2 refine hR (?_ : R (_, _, _, _, _, _))
  exact loop 3 (Int32.ofInt 0) g19 (by decide) (by decide)
theorem m_copyRow20 {c0 c1 c2 c3 c4 c5 c6 c7 c8 c9 c10 c11 c12 c13 : va_E} {x0 x9 x10 x11 x12 x13 x15 x16 x17 x20 x21 x22 x23 x26 x28 x31 x32 x33 x38 x41 x44 : Int32} {x14 : Int64} {g15 g16 g17 g18 g19 g20 g21 g22 g23 g24 g25 g26 g27 g28 g29 g30 g31 g32 g33 g34 g35 g36 g37 g38 g39 g40 g41 g42 g43 g44 : Nat → Int32} {t : zW} (d : Nat) (n fr to : Int32) (Q : zQ) (hn : n.toInt = 102) (hf0 : 0 ≤ fr.toInt) (hf : fr.toInt ≤ 3) (ht0 : 0 ≤ to.toInt) (ht : to.toInt ≤ 3) (h : ∀ f, Q none (zMg c0 c1 c2 c3 c4 c5 c6 c7 c8 c9 c10 c11 c12 c13 x0 x9 x10 x11 x12 x13 x15 x16 x17 x20 x21 x22 x23 x26 x28 x31 x32 x33 x38 x41 x44 x14 g15 g16 g17 g18 g19 f g21 g22 g23 g24 g25 g26 g27 g28 g29 g30 g31 g32 g33 g34 g35 g36 g37 g38 g39 g40 g41 g42 g43 g44 t)) : zCl zTab (d + 1) iX12_copyRow [.ref 20, .int n, .int fr, .int to] (zMg c0 c1 c2 c3 c4 c5 c6 c7 c8 c9 c10 c11 c12 c13 x0 x9 x10 x11 x12 x13 x15 x16 x17 x20 x21 x22 x23 x26 x28 x31 x32 x33 x38 x41 x44 x14 g15 g16 g17 g18 g19 g20 g21 g22 g23 g24 g25 g26 g27 g28 g29 g30 g31 g32 g33 g34 g35 g36 g37 g38 g39 g40 g41 g42 g43 g44 t) 0 0 Q := by
  refine zCl_i (M := kX12_copyRow) rfl (Nat.le_of_ble_eq_true rfl) fun R hR => ?_
  have loop : ∀ (m : Nat) (i : Int32) (f : Nat → Int32), 0 ≤ i.toInt → i.toInt + m = 102 → R (3, [some (.ref 20), some (.int n), some (.int fr), some (.int to), some (.int i)], [], (zMg c0 c1 c2 c3 c4 c5 c6 c7 c8 c9 c10 c11 c12 c13 x0 x9 x10 x11 x12 x13 x15 x16 x17 x20 x21 x22 x23 x26 x28 x31 x32 x33 x38 x41 x44 x14 g15 g16 g17 g18 g19 f g21 g22 g23 g24 g25 g26 g27 g28 g29 g30 g31 g32 g33 g34 g35 g36 g37 g38 g39 g40 g41 g42 g43 g44 t), 0, 0) := by
    intro m
    induction m with
    | zero =>
      intro i f h0 h1
      iterate 2 refine hR (?_ : R (_, _, _, _, _, _))
      refine hR (And.intro (fun _ => ?_) (fun hc => absurd (zle_i.mpr (by omega)) hc))
      exact hR (zret_i rfl (Nat.le_refl _) rfl (h _))
    | succ m ih =>
      intro i f h0 h1
      have b1 := zidx (n := n) (t := to) (i := i) hn (by omega) (by omega) ht0 ht h0 (by omega)
      have b2 := zidx (n := n) (t := fr) (i := i) hn (by omega) (by omega) hf0 hf h0 (by omega)
      have b3 := zinc (i := i) h0 (by omega)
      iterate 2 refine hR (?_ : R (_, _, _, _, _, _))
      refine hR (And.intro (fun hc => absurd (zle_i.mp hc) (by omega)) (fun _ => ?_))
      iterate 12 refine hR (?_ : R (_, _, _, _, _, _))
      refine hR (And.intro (zin_of b2.1 (by omega)) ?_)
      refine hR (And.intro (zin_of b1.1 (by omega)) ?_)
      iterate 2 refine hR (?_ : R (_, _, _, _, _, _))
      exact ih (i + Int32.ofInt 1) _ (by omega) (by omega)
  iterate 2 refine hR (?_ : R (_, _, _, _, _, _))
  exact loop 102 (Int32.ofInt 0) g20 (by decide) (by decide)
theorem m_copyRow21 {c0 c1 c2 c3 c4 c5 c6 c7 c8 c9 c10 c11 c12 c13 : va_E} {x0 x9 x10 x11 x12 x13 x15 x16 x17 x20 x21 x22 x23 x26 x28 x31 x32 x33 x38 x41 x44 : Int32} {x14 : Int64} {g15 g16 g17 g18 g19 g20 g21 g22 g23 g24 g25 g26 g27 g28 g29 g30 g31 g32 g33 g34 g35 g36 g37 g38 g39 g40 g41 g42 g43 g44 : Nat → Int32} {t : zW} (d : Nat) (n fr to : Int32) (Q : zQ) (hn : n.toInt = 242) (hf0 : 0 ≤ fr.toInt) (hf : fr.toInt ≤ 3) (ht0 : 0 ≤ to.toInt) (ht : to.toInt ≤ 3) (h : ∀ f, Q none (zMg c0 c1 c2 c3 c4 c5 c6 c7 c8 c9 c10 c11 c12 c13 x0 x9 x10 x11 x12 x13 x15 x16 x17 x20 x21 x22 x23 x26 x28 x31 x32 x33 x38 x41 x44 x14 g15 g16 g17 g18 g19 g20 f g22 g23 g24 g25 g26 g27 g28 g29 g30 g31 g32 g33 g34 g35 g36 g37 g38 g39 g40 g41 g42 g43 g44 t)) : zCl zTab (d + 1) iX12_copyRow [.ref 21, .int n, .int fr, .int to] (zMg c0 c1 c2 c3 c4 c5 c6 c7 c8 c9 c10 c11 c12 c13 x0 x9 x10 x11 x12 x13 x15 x16 x17 x20 x21 x22 x23 x26 x28 x31 x32 x33 x38 x41 x44 x14 g15 g16 g17 g18 g19 g20 g21 g22 g23 g24 g25 g26 g27 g28 g29 g30 g31 g32 g33 g34 g35 g36 g37 g38 g39 g40 g41 g42 g43 g44 t) 0 0 Q := by
  refine zCl_i (M := kX12_copyRow) rfl (Nat.le_of_ble_eq_true rfl) fun R hR => ?_
  have loop : ∀ (m : Nat) (i : Int32) (f : Nat → Int32), 0 ≤ i.toInt → i.toInt + m = 242 → R (3, [some (.ref 21), some (.int n), some (.int fr), some (.int to), some (.int i)], [], (zMg c0 c1 c2 c3 c4 c5 c6 c7 c8 c9 c10 c11 c12 c13 x0 x9 x10 x11 x12 x13 x15 x16 x17 x20 x21 x22 x23 x26 x28 x31 x32 x33 x38 x41 x44 x14 g15 g16 g17 g18 g19 g20 f g22 g23 g24 g25 g26 g27 g28 g29 g30 g31 g32 g33 g34 g35 g36 g37 g38 g39 g40 g41 g42 g43 g44 t), 0, 0) := by
    intro m
    induction m with
    | zero =>
      intro i f h0 h1
      iterate 2 refine hR (?_ : R (_, _, _, _, _, _))
      refine hR (And.intro (fun _ => ?_) (fun hc => absurd (zle_i.mpr (by omega)) hc))
      exact hR (zret_i rfl (Nat.le_refl _) rfl (h _))
    | succ m ih =>
      intro i f h0 h1
      have b1 := zidx (n := n) (t := to) (i := i) hn (by omega) (by omega) ht0 ht h0 (by omega)
      have b2 := zidx (n := n) (t := fr) (i := i) hn (by omega) (by omega) hf0 hf h0 (by omega)
      have b3 := zinc (i := i) h0 (by omega)
      iterate 2 refine hR (?_ : R (_, _, _, _, _, _))
      refine hR (And.intro (fun hc => absurd (zle_i.mp hc) (by omega)) (fun _ => ?_))
      iterate 12 refine hR (?_ : R (_, _, _, _, _, _))
      refine hR (And.intro (zin_of b2.1 (by omega)) ?_)
      refine hR (And.intro (zin_of b1.1 (by omega)) ?_)
      iterate 2 refine hR (?_ : R (_, _, _, _, _, _))
      exact ih (i + Int32.ofInt 1) _ (by omega) (by omega)
  iterate 2 refine hR (?_ : R (_, _, _, _, _, _))
  exact loop 242 (Int32.ofInt 0) g21 (by decide) (by decide)
theorem m_copyRow22 {c0 c1 c2 c3 c4 c5 c6 c7 c8 c9 c10 c11 c12 c13 : va_E} {x0 x9 x10 x11 x12 x13 x15 x16 x17 x20 x21 x22 x23 x26 x28 x31 x32 x33 x38 x41 x44 : Int32} {x14 : Int64} {g15 g16 g17 g18 g19 g20 g21 g22 g23 g24 g25 g26 g27 g28 g29 g30 g31 g32 g33 g34 g35 g36 g37 g38 g39 g40 g41 g42 g43 g44 : Nat → Int32} {t : zW} (d : Nat) (n fr to : Int32) (Q : zQ) (hn : n.toInt = 26) (hf0 : 0 ≤ fr.toInt) (hf : fr.toInt ≤ 3) (ht0 : 0 ≤ to.toInt) (ht : to.toInt ≤ 3) (h : ∀ f, Q none (zMg c0 c1 c2 c3 c4 c5 c6 c7 c8 c9 c10 c11 c12 c13 x0 x9 x10 x11 x12 x13 x15 x16 x17 x20 x21 x22 x23 x26 x28 x31 x32 x33 x38 x41 x44 x14 g15 g16 g17 g18 g19 g20 g21 f g23 g24 g25 g26 g27 g28 g29 g30 g31 g32 g33 g34 g35 g36 g37 g38 g39 g40 g41 g42 g43 g44 t)) : zCl zTab (d + 1) iX12_copyRow [.ref 22, .int n, .int fr, .int to] (zMg c0 c1 c2 c3 c4 c5 c6 c7 c8 c9 c10 c11 c12 c13 x0 x9 x10 x11 x12 x13 x15 x16 x17 x20 x21 x22 x23 x26 x28 x31 x32 x33 x38 x41 x44 x14 g15 g16 g17 g18 g19 g20 g21 g22 g23 g24 g25 g26 g27 g28 g29 g30 g31 g32 g33 g34 g35 g36 g37 g38 g39 g40 g41 g42 g43 g44 t) 0 0 Q := by
  refine zCl_i (M := kX12_copyRow) rfl (Nat.le_of_ble_eq_true rfl) fun R hR => ?_
  have loop : ∀ (m : Nat) (i : Int32) (f : Nat → Int32), 0 ≤ i.toInt → i.toInt + m = 26 → R (3, [some (.ref 22), some (.int n), some (.int fr), some (.int to), some (.int i)], [], (zMg c0 c1 c2 c3 c4 c5 c6 c7 c8 c9 c10 c11 c12 c13 x0 x9 x10 x11 x12 x13 x15 x16 x17 x20 x21 x22 x23 x26 x28 x31 x32 x33 x38 x41 x44 x14 g15 g16 g17 g18 g19 g20 g21 f g23 g24 g25 g26 g27 g28 g29 g30 g31 g32 g33 g34 g35 g36 g37 g38 g39 g40 g41 g42 g43 g44 t), 0, 0) := by
    intro m
    induction m with
    | zero =>
      intro i f h0 h1
      iterate 2 refine hR (?_ : R (_, _, _, _, _, _))
      refine hR (And.intro (fun _ => ?_) (fun hc => absurd (zle_i.mpr (by omega)) hc))
      exact hR (zret_i rfl (Nat.le_refl _) rfl (h _))
    | succ m ih =>
      intro i f h0 h1
      have b1 := zidx (n := n) (t := to) (i := i) hn (by omega) (by omega) ht0 ht h0 (by omega)
      have b2 := zidx (n := n) (t := fr) (i := i) hn (by omega) (by omega) hf0 hf h0 (by omega)
      have b3 := zinc (i := i) h0 (by omega)
      iterate 2 refine hR (?_ : R (_, _, _, _, _, _))
      refine hR (And.intro (fun hc => absurd (zle_i.mp hc) (by omega)) (fun _ => ?_))
      iterate 12 refine hR (?_ : R (_, _, _, _, _, _))
      refine hR (And.intro (zin_of b2.1 (by omega)) ?_)
      refine hR (And.intro (zin_of b1.1 (by omega)) ?_)
      iterate 2 refine hR (?_ : R (_, _, _, _, _, _))
      exact ih (i + Int32.ofInt 1) _ (by omega) (by omega)
  iterate 2 refine hR (?_ : R (_, _, _, _, _, _))
  exact loop 26 (Int32.ofInt 0) g22 (by decide) (by decide)
