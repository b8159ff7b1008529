/-! APART, by places. -/
theorem x_hasR (w : zW) (d : Nat) (a1 a2 : Int)   (Q : zQ) (h : ∀ (v : Int), ((hHas a1 a2 = 1 ∧ v = 1) ∨ (hHas a1 a2 ≠ 1 ∧ v = 0)) → Q (some (.int (Int32.ofInt v))) w) : zCl zTab (d + 1) iX12_has [.int (Int32.ofInt a1), .int (Int32.ofInt a2)] w 0 0 Q := by
  refine zCl_i (M := kX12_has) rfl (Nat.le_of_ble_eq_true rfl) fun R hR => ?_
  iterate 2 refine hR (?_ : R (_, _, _, _, _, _))
  refine hR (t_c (bShr a1 a2) (zoi _).symm ?_)
  have hbt1 : r32 (bShr a1 a2) := zrg _
  refine hR (?_ : R (_, _, _, _, _, _))
  refine hR (t_c (bAnd (bShr a1 a2) 1) (zoi _).symm ?_)
  have hbt2 : r32 (bAnd (bShr a1 a2) 1) := zrg _
  refine hR (?_ : R (_, _, _, _, _, _))
  refine hR (j_ne (by omega) (by omega) (fun hc3 => ?_) (fun hc3 => ?_))
  · skip
    refine hR (?_ : R (_, _, _, _, _, _))
    exact hR (zret_i rfl (Nat.le_refl _) (zbo (by omega)) (h _ (by unfold hHas; omega)))
  iterate 2 refine hR (?_ : R (_, _, _, _, _, _))
  exact hR (zret_i rfl (Nat.le_refl _) (zbo (by omega)) (h _ (by unfold hHas; omega)))
