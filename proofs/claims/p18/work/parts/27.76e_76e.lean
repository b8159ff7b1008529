/-! ANSWERS OF WHAT IS TOLD: both sides, exactly. -/
theorem x_bHas (w : zW) (d : Nat) (q : Nat) (a1 : Int) (x0 x1 x2 : Int) (hK0 : zix w q = some (.inr (0, [.int (Int32.ofInt x0), .int (Int32.ofInt x1), .int (Int32.ofInt x2), .ref (q + 1), .ref (q + 2), .ref (q + 3), .ref (q + 4)]))) (hr0 : (-2147483648 ≤ a1 ∧ a1 ≤ 2147483647) ∧ (-2147483648 ≤ x1 ∧ x1 ≤ 2147483647)) (Q : zQ) (h : ∀ (v : Int), ((v = 1 ∧ 0 ≤ a1 ∧ a1 < x1) ∨ (v = 0 ∧ (a1 < 0 ∨ x1 ≤ a1))) → Q (some (.int (Int32.ofInt v))) w) : zCl zTab (d + 1) iX0_hasReader [.ref q, .int (Int32.ofInt a1)] w 0 0 Q := by
  refine zCl_i (M := kX0_hasReader) rfl (Nat.le_of_ble_eq_true rfl) fun R hR => ?_
  refine hR (?_ : R (_, _, _, _, _, _))
  refine hR (k_lt (by omega) (fun hc1 => ?_) (fun hc1 => ?_))
  · skip
    refine hR (?_ : R (_, _, _, _, _, _))
    exact hR (zret_i rfl (Nat.le_refl _) (zbo (by omega)) (h _ (by omega)))
  iterate 2 refine hR (?_ : R (_, _, _, _, _, _))
  refine hR (c_get hK0 rfl ?_)
  refine hR (j_ge (by omega) (by omega) (fun hc2 => ?_) (fun hc2 => ?_))
  · skip
    refine hR (?_ : R (_, _, _, _, _, _))
    exact hR (zret_i rfl (Nat.le_refl _) (zbo (by omega)) (h _ (by omega)))
  iterate 2 refine hR (?_ : R (_, _, _, _, _, _))
  exact hR (zret_i rfl (Nat.le_refl _) (zbo (by omega)) (h _ (by omega)))
