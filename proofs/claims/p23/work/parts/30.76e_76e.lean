/-! ANSWERS OF WHAT IS TOLD: both sides, exactly. -/
noncomputable def siV (x0 : Int) (g1 g2 : Nat → Int32) (k u : Int) : Int := if k = -1 ∧ u = 0 then x0 else if k < 0 ∨ x0 ≤ k then -2 else if u = 0 then tBy g1 k else if u = 1 then tBy g2 k else -2
noncomputable def rkS (T : Nat → Int32) (o k u : Int) : Int := if k = -1 then (if u = 0 then tBy T o else -2) else if (0 ≤ k ∧ k < tBy T o) ∧ (0 ≤ u ∧ u ≤ 1) then tBy T (o + 1 + 2 * k + u) else -2
theorem x_sTells (w : zW) (d : Nat) (q : Nat) (a1 a2 : Int) (x0 : Int) (g1 g2 : Nat → Int32) (hK0 : zix w q = some (.inr (5, [.int (Int32.ofInt x0), .ref (q + 1), .ref (q + 2)]))) (hK1 : zix w (q + 1) = some (.inl (1, 6, .inl g1))) (hK2 : zix w (q + 2) = some (.inl (1, 6, .inl g2))) (hr0 : 0 ≤ x0 ∧ x0 ≤ 6) (hr1 : (-2147483648 ≤ a1 ∧ a1 ≤ 2147483647) ∧ (-2147483648 ≤ a2 ∧ a2 ≤ 2147483647)) (Q : zQ) (h : ∀ (v : Int), (v = siV x0 g1 g2 a1 a2) → Q (some (.int (Int32.ofInt v))) w) : zCl zTab (d + 1) iX6_tells [.ref q, .int (Int32.ofInt a1), .int (Int32.ofInt a2)] w 0 0 Q := by
  refine zCl_i (M := kX6_tells) rfl (Nat.le_of_ble_eq_true rfl) fun R hR => ?_
  iterate 2 refine hR (?_ : R (_, _, _, _, _, _))
  refine hR (j_ne (by omega) (by omega) (fun hc1 => ?_) (fun hc1 => ?_))
  · skip
    refine hR (?_ : R (_, _, _, _, _, _))
    refine hR (k_lt (by omega) (fun hc2 => ?_) (fun hc2 => ?_))
    · skip
      refine hR (t_c (-2) (by decide) ?_)
      exact hR (zret_i rfl (Nat.le_refl _) trivial (h _ (by unfold siV; (repeat' split) <;> first | rfl | omega | (exact congrArg (tBy _) (by omega)))))
    iterate 2 refine hR (?_ : R (_, _, _, _, _, _))
    refine hR (c_get hK0 rfl ?_)
    refine hR (j_lt (by omega) (by omega) (fun hc3 => ?_) (fun hc3 => ?_))
    rotate_left
    · skip
      refine hR (t_c (-2) (by decide) ?_)
      exact hR (zret_i rfl (Nat.le_refl _) trivial (h _ (by unfold siV; (repeat' split) <;> first | rfl | omega | (exact congrArg (tBy _) (by omega)))))
    refine hR (?_ : R (_, _, _, _, _, _))
    have hl4 : a2 = 0 ∨ a2 = 1 ∨ (a2 ≠ 0 ∧ a2 ≠ 1) := by omega
    rcases hl4 with hl4 | hl4 | hl4
    · refine hR (t_pc (pc2 := 56) (by rw [zti (e := a2) (by omega) (by omega)]; show (((30 : Nat) : Int) + Op.lookupswitch.offset [(0, 26), (1, 33)] 40 a2).toNat = 56; simp only [Op.lookupswitch.offset_cons]; (repeat' split) <;> first | omega | rfl) ?_)
      refine hR (?_ : R (_, _, _, _, _, _))
      refine hR (c_get hK0 rfl ?_)
      refine hR (?_ : R (_, _, _, _, _, _))
      refine hR (c_aldE hK1 (by omega) (by omega) (Nat.le_of_ble_eq_true rfl) fun v5 ev5 rv5 => ?_)
      replace ev5 : v5 = tBy g1 a1 := ev5
      subst ev5
      exact hR (zret_i rfl (Nat.le_refl _) trivial (h _ (by unfold siV; (repeat' split) <;> first | rfl | omega | (exact congrArg (tBy _) (by omega)))))
    · refine hR (t_pc (pc2 := 63) (by rw [zti (e := a2) (by omega) (by omega)]; show (((30 : Nat) : Int) + Op.lookupswitch.offset [(0, 26), (1, 33)] 40 a2).toNat = 63; simp only [Op.lookupswitch.offset_cons]; (repeat' split) <;> first | omega | rfl) ?_)
      refine hR (?_ : R (_, _, _, _, _, _))
      refine hR (c_get hK0 rfl ?_)
      refine hR (?_ : R (_, _, _, _, _, _))
      refine hR (c_aldE hK2 (by omega) (by omega) (Nat.le_of_ble_eq_true rfl) fun v6 ev6 rv6 => ?_)
      replace ev6 : v6 = tBy g2 a1 := ev6
      subst ev6
      exact hR (zret_i rfl (Nat.le_refl _) trivial (h _ (by unfold siV; (repeat' split) <;> first | rfl | omega | (exact congrArg (tBy _) (by omega)))))
    · refine hR (t_pc (pc2 := 70) (by rw [zti (e := a2) (by omega) (by omega)]; show (((30 : Nat) : Int) + Op.lookupswitch.offset [(0, 26), (1, 33)] 40 a2).toNat = 70; simp only [Op.lookupswitch.offset_cons]; (repeat' split) <;> first | omega | rfl) ?_)
      refine hR (t_c (-2) (by decide) ?_)
      exact hR (zret_i rfl (Nat.le_refl _) trivial (h _ (by unfold siV; (repeat' split) <;> first | rfl | omega | (exact congrArg (tBy _) (by omega)))))
  refine hR (?_ : R (_, _, _, _, _, _))
  refine hR (k_ne (by omega) (fun hc7 => ?_) (fun hc7 => ?_))
  rotate_left
  · skip
    refine hR (?_ : R (_, _, _, _, _, _))
    refine hR (c_get hK0 rfl ?_)
    exact hR (zret_i rfl (Nat.le_refl _) trivial (h _ (by unfold siV; (repeat' split) <;> first | rfl | omega | (exact congrArg (tBy _) (by omega)))))
  refine hR (?_ : R (_, _, _, _, _, _))
  refine hR (k_lt (by omega) (fun hc8 => ?_) (fun hc8 => ?_))
  · skip
    refine hR (t_c (-2) (by decide) ?_)
    exact hR (zret_i rfl (Nat.le_refl _) trivial (h _ (by unfold siV; (repeat' split) <;> first | rfl | omega | (exact congrArg (tBy _) (by omega)))))
  iterate 2 refine hR (?_ : R (_, _, _, _, _, _))
  refine hR (c_get hK0 rfl ?_)
  refine hR (j_lt (by omega) (by omega) (fun hc9 => ?_) (fun hc9 => ?_))
  rotate_left
  · skip
    refine hR (t_c (-2) (by decide) ?_)
    exact hR (zret_i rfl (Nat.le_refl _) trivial (h _ (by unfold siV; (repeat' split) <;> first | rfl | omega | (exact congrArg (tBy _) (by omega)))))
  refine hR (?_ : R (_, _, _, _, _, _))
  have hl10 : a2 = 0 ∨ a2 = 1 ∨ (a2 ≠ 0 ∧ a2 ≠ 1) := by omega
  rcases hl10 with hl10 | hl10 | hl10
  · refine hR (t_pc (pc2 := 56) (by rw [zti (e := a2) (by omega) (by omega)]; show (((30 : Nat) : Int) + Op.lookupswitch.offset [(0, 26), (1, 33)] 40 a2).toNat = 56; simp only [Op.lookupswitch.offset_cons]; (repeat' split) <;> first | omega | rfl) ?_)
    refine hR (?_ : R (_, _, _, _, _, _))
    refine hR (c_get hK0 rfl ?_)
    refine hR (?_ : R (_, _, _, _, _, _))
    refine hR (c_aldE hK1 (by omega) (by omega) (Nat.le_of_ble_eq_true rfl) fun v11 ev11 rv11 => ?_)
    replace ev11 : v11 = tBy g1 a1 := ev11
    subst ev11
    exact hR (zret_i rfl (Nat.le_refl _) trivial (h _ (by unfold siV; (repeat' split) <;> first | rfl | omega | (exact congrArg (tBy _) (by omega)))))
  · refine hR (t_pc (pc2 := 63) (by rw [zti (e := a2) (by omega) (by omega)]; show (((30 : Nat) : Int) + Op.lookupswitch.offset [(0, 26), (1, 33)] 40 a2).toNat = 63; simp only [Op.lookupswitch.offset_cons]; (repeat' split) <;> first | omega | rfl) ?_)
    refine hR (?_ : R (_, _, _, _, _, _))
    refine hR (c_get hK0 rfl ?_)
    refine hR (?_ : R (_, _, _, _, _, _))
    refine hR (c_aldE hK2 (by omega) (by omega) (Nat.le_of_ble_eq_true rfl) fun v12 ev12 rv12 => ?_)
    replace ev12 : v12 = tBy g2 a1 := ev12
    subst ev12
    exact hR (zret_i rfl (Nat.le_refl _) trivial (h _ (by unfold siV; (repeat' split) <;> first | rfl | omega | (exact congrArg (tBy _) (by omega)))))
  · refine hR (t_pc (pc2 := 70) (by rw [zti (e := a2) (by omega) (by omega)]; show (((30 : Nat) : Int) + Op.lookupswitch.offset [(0, 26), (1, 33)] 40 a2).toNat = 70; simp only [Op.lookupswitch.offset_cons]; (repeat' split) <;> first | omega | rfl) ?_)
    refine hR (t_c (-2) (by decide) ?_)
    exact hR (zret_i rfl (Nat.le_refl _) trivial (h _ (by unfold siV; (repeat' split) <;> first | rfl | omega | (exact congrArg (tBy _) (by omega)))))
