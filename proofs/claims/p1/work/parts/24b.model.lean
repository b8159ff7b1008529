theorem m_copyAll {c0 c1 c2 c3 c4 c5 c6 c7 c8 c9 c10 c11 c12 c13 : va_E} {x0 x9 x10 x11 x12 x13 x15 x16 x17 x20 x21 x22 x23 x26 x28 x31 x32 x33 x38 x41 x44 : Int32} {x14 : Int64} {g15 g16 g17 g18 g19 g20 g21 g22 g23 g24 g25 g26 g27 g28 g29 g30 g31 g32 g33 g34 g35 g36 g37 g38 g39 g40 g41 g42 g43 g44 : Nat → Int32} {t : zW} (d : Nat) (fr to : Int32) (Q : zQ) (hf0 : 0 ≤ fr.toInt) (hf : fr.toInt ≤ 3) (ht0 : 0 ≤ to.toInt) (ht : to.toInt ≤ 3) (h : ∀ f15 f16 f17 f18 f19 f20 f21 f22, Q none (zMg c0 c1 c2 c3 c4 c5 c6 c7 c8 c9 c10 c11 c12 c13 x0 x9 x10 x11 x12 x13 x15 x16 x17 x20 x21 x22 x23 x26 x28 x31 x32 x33 x38 x41 x44 x14 f15 f16 f17 f18 f19 f20 f21 f22 g23 g24 g25 g26 g27 g28 g29 g30 g31 g32 g33 g34 g35 g36 g37 g38 g39 g40 g41 g42 g43 g44 t)) : zCl zTab (d + 2) iX12_copyAll [.ref 14, .int fr, .int to] (zMg c0 c1 c2 c3 c4 c5 c6 c7 c8 c9 c10 c11 c12 c13 x0 x9 x10 x11 x12 x13 x15 x16 x17 x20 x21 x22 x23 x26 x28 x31 x32 x33 x38 x41 x44 x14 g15 g16 g17 g18 g19 g20 g21 g22 g23 g24 g25 g26 g27 g28 g29 g30 g31 g32 g33 g34 g35 g36 g37 g38 g39 g40 g41 g42 g43 g44 t) 0 0 Q := by
  refine zCl_i (M := kX12_copyAll) rfl (Nat.le_of_ble_eq_true rfl) fun R hR => ?_
  have e600 : (Int16.ofInt 600).toInt32.toInt = 600 := by decide
  have loop : ∀ (m : Nat) (i : Int32) (f : Nat → Int32), 0 ≤ i.toInt → i.toInt + m = 600 → R (2, [some (.ref 14), some (.int fr), some (.int to), some (.int i)], [], (zMg c0 c1 c2 c3 c4 c5 c6 c7 c8 c9 c10 c11 c12 c13 x0 x9 x10 x11 x12 x13 x15 x16 x17 x20 x21 x22 x23 x26 x28 x31 x32 x33 x38 x41 x44 x14 f g16 g17 g18 g19 g20 g21 g22 g23 g24 g25 g26 g27 g28 g29 g30 g31 g32 g33 g34 g35 g36 g37 g38 g39 g40 g41 g42 g43 g44 t), 0, 0) := by
    intro m
    induction m with
    | zero =>
      intro i f h0 h1
      iterate 2 refine hR (?_ : R (_, _, _, _, _, _))
      refine hR (And.intro (fun _ => ?_) (fun hc => absurd (zle_i.mpr (by omega)) hc))
      iterate 5 refine hR (?_ : R (_, _, _, _, _, _))
      refine hR (zcall_i 0 0 (Nat.le_of_ble_eq_true rfl) (Nat.le_of_ble_eq_true rfl) (m_copyRow16 _ _ _ _ _ (by decide) hf0 hf ht0 ht (fun f16 => ?_)))
      iterate 5 refine hR (?_ : R (_, _, _, _, _, _))
      refine hR (zcall_i 0 0 (Nat.le_of_ble_eq_true rfl) (Nat.le_of_ble_eq_true rfl) (m_copyRow17 _ _ _ _ _ (by decide) hf0 hf ht0 ht (fun f17 => ?_)))
      iterate 5 refine hR (?_ : R (_, _, _, _, _, _))
      refine hR (zcall_i 0 0 (Nat.le_of_ble_eq_true rfl) (Nat.le_of_ble_eq_true rfl) (m_copyRow18 _ _ _ _ _ (by decide) hf0 hf ht0 ht (fun f18 => ?_)))
      iterate 5 refine hR (?_ : R (_, _, _, _, _, _))
      refine hR (zcall_i 0 0 (Nat.le_of_ble_eq_true rfl) (Nat.le_of_ble_eq_true rfl) (m_copyRow19 _ _ _ _ _ (by decide) hf0 hf ht0 ht (fun f19 => ?_)))
      iterate 5 refine hR (?_ : R (_, _, _, _, _, _))
      refine hR (zcall_i 0 0 (Nat.le_of_ble_eq_true rfl) (Nat.le_of_ble_eq_true rfl) (m_copyRow20 _ _ _ _ _ (by decide) hf0 hf ht0 ht (fun f20 => ?_)))
      iterate 5 refine hR (?_ : R (_, _, _, _, _, _))
      refine hR (zcall_i 0 0 (Nat.le_of_ble_eq_true rfl) (Nat.le_of_ble_eq_true rfl) (m_copyRow21 _ _ _ _ _ (by decide) hf0 hf ht0 ht (fun f21 => ?_)))
      iterate 5 refine hR (?_ : R (_, _, _, _, _, _))
      refine hR (zcall_i 0 0 (Nat.le_of_ble_eq_true rfl) (Nat.le_of_ble_eq_true rfl) (m_copyRow22 _ _ _ _ _ (by decide) hf0 hf ht0 ht (fun f22 => ?_)))
      exact hR (zret_i rfl (Nat.le_refl _) rfl (h _ _ _ _ _ _ _ _))
    | succ m ih =>
      intro i f h0 h1
      have b1 := zidx (t := to) (i := i) e600 (by omega) (by omega) ht0 ht h0 (by omega)
      have b2 := zidx (t := fr) (i := i) e600 (by omega) (by omega) hf0 hf h0 (by omega)
      have b3 := zinc (i := i) h0 (by omega)
      iterate 2 refine hR (?_ : R (_, _, _, _, _, _))
      refine hR (And.intro (fun hc => absurd (zle_i.mp hc) (by omega)) (fun _ => ?_))
      iterate 14 refine hR (?_ : R (_, _, _, _, _, _))
      refine hR (And.intro (zin_of b2.1 (by omega)) ?_)
      refine hR (And.intro (zin_of b1.1 (by omega)) ?_)
      iterate 2 refine hR (?_ : R (_, _, _, _, _, _))
      exact ih (i + Int32.ofInt 1) _ (by omega) (by omega)
  iterate 2 refine hR (?_ : R (_, _, _, _, _, _))
  exact loop 600 (Int32.ofInt 0) g15 (by decide) (by decide)
