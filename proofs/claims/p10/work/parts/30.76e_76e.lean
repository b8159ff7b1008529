/-! ANSWERS OF WHAT IS TOLD: both sides, exactly. -/
def yrV (x0 : Int) (g1 g2 g3 : Nat → Int32) (k u : Int) : Int := if k = -1 ∧ u = 0 then x0 else if k < 0 ∨ x0 ≤ k then -2 else if u = 0 then tBy g1 k else if u = 1 then tBy g2 k else if u = 2 then tBy g3 k else -2
/-- the reference's -/
def rkY (T : Nat → Int32) (o k u : Int) : Int := if k = -1 then (if u = 0 then tBy T o else -2) else if (0 ≤ k ∧ k < tBy T o) ∧ (0 ≤ u ∧ u ≤ 2) then tBy T (o + 1 + 3 * k + u) else -2
theorem x_yTells (w : zW) (d : Nat) (q : Nat) (a1 a2 : Int) (x0 : Int) (g1 g2 g3 : Nat → Int32) (hK0 : zix w q = some (.inr (9, [.int (Int32.ofInt x0), .ref (q + 1), .ref (q + 2), .ref (q + 3)]))) (hK1 : zix w (q + 1) = some (.inl (1, 40, .inl g1))) (hK2 : zix w (q + 2) = some (.inl (1, 40, .inl g2))) (hK3 : zix w (q + 3) = some (.inl (1, 40, .inl g3))) (hr0 : 0 ≤ x0 ∧ x0 ≤ 40) (hr1 : (-2147483648 ≤ a1 ∧ a1 ≤ 2147483647) ∧ (-2147483648 ≤ a2 ∧ a2 ≤ 2147483647)) (Q : zQ) (h : ∀ (v : Int), (v = yrV x0 g1 g2 g3 a1 a2) → Q (some (.int (Int32.ofInt v))) w) : zCl zTab (d + 1) iX10_tells [.ref q, .int (Int32.ofInt a1), .int (Int32.ofInt a2)] w 0 0 Q := by
  refine zCl_i (M := kX10_tells) rfl (Nat.le_of_ble_eq_true rfl) fun R hR => ?_
  iterate 2 refine hR (?_ : R (_, _, _, _, _, _))
  refine hR (j_ne (by omega) (by omega) (fun hc1 => ?_) (fun hc1 => ?_))
  · skip
    refine hR (?_ : R (_, _, _, _, _, _))
    refine hR (k_lt (by omega) (fun hc2 => ?_) (fun hc2 => ?_))
    · skip
      refine hR (t_c (-2) (by decide) ?_)
      exact hR (zret_i rfl (Nat.le_refl _) trivial (h _ (by unfold yrV; (repeat' split) <;> first | rfl | omega | (exact congrArg (tBy _) (by omega)))))
    iterate 2 refine hR (?_ : R (_, _, _, _, _, _))
    refine hR (c_get hK0 rfl ?_)
    refine hR (j_lt (by omega) (by omega) (fun hc3 => ?_) (fun hc3 => ?_))
    rotate_left
    · skip
      refine hR (t_c (-2) (by decide) ?_)
      exact hR (zret_i rfl (Nat.le_refl _) trivial (h _ (by unfold yrV; (repeat' split) <;> first | rfl | omega | (exact congrArg (tBy _) (by omega)))))
    refine hR (?_ : R (_, _, _, _, _, _))
    have hl4 : a2 = 0 ∨ a2 = 1 ∨ a2 = 2 ∨ (a2 ≠ 0 ∧ a2 ≠ 1 ∧ a2 ≠ 2) := by omega
    rcases hl4 with hl4 | hl4 | hl4 | hl4
    · refine hR (?_ : _ ∧ _)
      rw [zti (e := a2) (by omega) (by omega)]
      refine ⟨fun hx => by omega, fun _ => ⟨26, by rw [hl4]; rfl, (?_ : R (_, _, _, _, _, _))⟩⟩
      refine hR (?_ : R (_, _, _, _, _, _))
      refine hR (c_get hK0 rfl ?_)
      refine hR (?_ : R (_, _, _, _, _, _))
      refine hR (c_aldE hK1 (by omega) (by omega) (Nat.le_of_ble_eq_true rfl) fun v5 ev5 rv5 => ?_)
      replace ev5 : v5 = tBy g1 a1 := ev5
      subst ev5
      exact hR (zret_i rfl (Nat.le_refl _) trivial (h _ (by unfold yrV; (repeat' split) <;> first | rfl | omega | (exact congrArg (tBy _) (by omega)))))
    · refine hR (?_ : _ ∧ _)
      rw [zti (e := a2) (by omega) (by omega)]
      refine ⟨fun hx => by omega, fun _ => ⟨33, by rw [hl4]; rfl, (?_ : R (_, _, _, _, _, _))⟩⟩
      refine hR (?_ : R (_, _, _, _, _, _))
      refine hR (c_get hK0 rfl ?_)
      refine hR (?_ : R (_, _, _, _, _, _))
      refine hR (c_aldE hK2 (by omega) (by omega) (Nat.le_of_ble_eq_true rfl) fun v6 ev6 rv6 => ?_)
      replace ev6 : v6 = tBy g2 a1 := ev6
      subst ev6
      exact hR (zret_i rfl (Nat.le_refl _) trivial (h _ (by unfold yrV; (repeat' split) <;> first | rfl | omega | (exact congrArg (tBy _) (by omega)))))
    · refine hR (?_ : _ ∧ _)
      rw [zti (e := a2) (by omega) (by omega)]
      refine ⟨fun hx => by omega, fun _ => ⟨40, by rw [hl4]; rfl, (?_ : R (_, _, _, _, _, _))⟩⟩
      refine hR (?_ : R (_, _, _, _, _, _))
      refine hR (c_get hK0 rfl ?_)
      refine hR (?_ : R (_, _, _, _, _, _))
      refine hR (c_aldE hK3 (by omega) (by omega) (Nat.le_of_ble_eq_true rfl) fun v7 ev7 rv7 => ?_)
      replace ev7 : v7 = tBy g3 a1 := ev7
      subst ev7
      exact hR (zret_i rfl (Nat.le_refl _) trivial (h _ (by unfold yrV; (repeat' split) <;> first | rfl | omega | (exact congrArg (tBy _) (by omega)))))
    · refine hR (?_ : _ ∧ _)
      rw [zti (e := a2) (by omega) (by omega)]
      refine ⟨fun _ => (?_ : R (_, _, _, _, _, _)), fun hx => by omega⟩
      refine hR (t_c (-2) (by decide) ?_)
      exact hR (zret_i rfl (Nat.le_refl _) trivial (h _ (by unfold yrV; (repeat' split) <;> first | rfl | omega | (exact congrArg (tBy _) (by omega)))))
  refine hR (?_ : R (_, _, _, _, _, _))
  refine hR (k_ne (by omega) (fun hc8 => ?_) (fun hc8 => ?_))
  rotate_left
  · skip
    refine hR (?_ : R (_, _, _, _, _, _))
    refine hR (c_get hK0 rfl ?_)
    exact hR (zret_i rfl (Nat.le_refl _) trivial (h _ (by unfold yrV; (repeat' split) <;> first | rfl | omega | (exact congrArg (tBy _) (by omega)))))
  refine hR (?_ : R (_, _, _, _, _, _))
  refine hR (k_lt (by omega) (fun hc9 => ?_) (fun hc9 => ?_))
  · skip
    refine hR (t_c (-2) (by decide) ?_)
    exact hR (zret_i rfl (Nat.le_refl _) trivial (h _ (by unfold yrV; (repeat' split) <;> first | rfl | omega | (exact congrArg (tBy _) (by omega)))))
  iterate 2 refine hR (?_ : R (_, _, _, _, _, _))
  refine hR (c_get hK0 rfl ?_)
  refine hR (j_lt (by omega) (by omega) (fun hc10 => ?_) (fun hc10 => ?_))
  rotate_left
  · skip
    refine hR (t_c (-2) (by decide) ?_)
    exact hR (zret_i rfl (Nat.le_refl _) trivial (h _ (by unfold yrV; (repeat' split) <;> first | rfl | omega | (exact congrArg (tBy _) (by omega)))))
  refine hR (?_ : R (_, _, _, _, _, _))
  have hl11 : a2 = 0 ∨ a2 = 1 ∨ a2 = 2 ∨ (a2 ≠ 0 ∧ a2 ≠ 1 ∧ a2 ≠ 2) := by omega
  rcases hl11 with hl11 | hl11 | hl11 | hl11
  · refine hR (?_ : _ ∧ _)
    rw [zti (e := a2) (by omega) (by omega)]
    refine ⟨fun hx => by omega, fun _ => ⟨26, by rw [hl11]; rfl, (?_ : R (_, _, _, _, _, _))⟩⟩
    refine hR (?_ : R (_, _, _, _, _, _))
    refine hR (c_get hK0 rfl ?_)
    refine hR (?_ : R (_, _, _, _, _, _))
    refine hR (c_aldE hK1 (by omega) (by omega) (Nat.le_of_ble_eq_true rfl) fun v12 ev12 rv12 => ?_)
    replace ev12 : v12 = tBy g1 a1 := ev12
    subst ev12
    exact hR (zret_i rfl (Nat.le_refl _) trivial (h _ (by unfold yrV; (repeat' split) <;> first | rfl | omega | (exact congrArg (tBy _) (by omega)))))
  · refine hR (?_ : _ ∧ _)
    rw [zti (e := a2) (by omega) (by omega)]
    refine ⟨fun hx => by omega, fun _ => ⟨33, by rw [hl11]; rfl, (?_ : R (_, _, _, _, _, _))⟩⟩
    refine hR (?_ : R (_, _, _, _, _, _))
    refine hR (c_get hK0 rfl ?_)
    refine hR (?_ : R (_, _, _, _, _, _))
    refine hR (c_aldE hK2 (by omega) (by omega) (Nat.le_of_ble_eq_true rfl) fun v13 ev13 rv13 => ?_)
    replace ev13 : v13 = tBy g2 a1 := ev13
    subst ev13
    exact hR (zret_i rfl (Nat.le_refl _) trivial (h _ (by unfold yrV; (repeat' split) <;> first | rfl | omega | (exact congrArg (tBy _) (by omega)))))
  · refine hR (?_ : _ ∧ _)
    rw [zti (e := a2) (by omega) (by omega)]
    refine ⟨fun hx => by omega, fun _ => ⟨40, by rw [hl11]; rfl, (?_ : R (_, _, _, _, _, _))⟩⟩
    refine hR (?_ : R (_, _, _, _, _, _))
    refine hR (c_get hK0 rfl ?_)
    refine hR (?_ : R (_, _, _, _, _, _))
    refine hR (c_aldE hK3 (by omega) (by omega) (Nat.le_of_ble_eq_true rfl) fun v14 ev14 rv14 => ?_)
    replace ev14 : v14 = tBy g3 a1 := ev14
    subst ev14
    exact hR (zret_i rfl (Nat.le_refl _) trivial (h _ (by unfold yrV; (repeat' split) <;> first | rfl | omega | (exact congrArg (tBy _) (by omega)))))
  · refine hR (?_ : _ ∧ _)
    rw [zti (e := a2) (by omega) (by omega)]
    refine ⟨fun _ => (?_ : R (_, _, _, _, _, _)), fun hx => by omega⟩
    refine hR (t_c (-2) (by decide) ?_)
    exact hR (zret_i rfl (Nat.le_refl _) trivial (h _ (by unfold yrV; (repeat' split) <;> first | rfl | omega | (exact congrArg (tBy _) (by omega)))))
