/-! ANSWERS OF WHAT IS TOLD: both sides, exactly. -/
def bsV (x1 : Int) (g2 g3 g4 : Nat → Int32) (r k : Int) : Int := if ¬ (0 ≤ r ∧ r < x1) ∨ tBy g2 r ≤ k / 2 then -1 else if k % 2 = 0 then tBy g3 (r * 4 + k / 2) else tBy g4 (r * 4 + k / 2)
def bkV (x0 x1 : Int) (g1 g2 g3 g4 : Nat → Int32) (u : Int) : Int := if u = 0 then x0 else if u = 1 then x1 else if 10 ≤ u ∧ u < 14 then tBy g1 (u - 10) else if 20 ≤ u ∧ u < 20 + x1 then tBy g2 (u - 20) else if u < 30 then -1 else bsV x1 g2 g3 g4 ((u - 30) / 10) ((u - 30) % 10)
def yrV (x0 : Int) (g1 g2 g3 : Nat → Int32) (k u : Int) : Int := if k = -1 ∧ u = 0 then x0 else if k < 0 ∨ x0 ≤ k then -2 else if u = 0 then tBy g1 k else if u = 1 then tBy g2 k else if u = 2 then tBy g3 k else -2
def siV (x0 : Int) (g1 g2 : Nat → Int32) (k u : Int) : Int := if k = -1 ∧ u = 0 then x0 else if k < 0 ∨ x0 ≤ k then -2 else if u = 0 then tBy g1 k else if u = 1 then tBy g2 k else -2
/-- the reference's -/
def rkB (T : Nat → Int32) (o u : Int) : Int := if 10 ≤ u ∧ u ≤ 13 then tBy T (o + (u - 8)) else if 20 ≤ u ∧ u ≤ 19 + tBy T (o + 1) then tBy T (o + (u - 14)) else if 30 ≤ u ∧ u ≤ 29 + 10 * tBy T (o + 1) then (if u % 10 < 2 * tBy T (o + (6 + (u - 30) / 10)) then tBy T (o + (11 + 8 * ((u - 30) / 10) + u % 10)) else -1) else if u = 0 then tBy T (o + 0) else if u = 1 then tBy T (o + 1) else -1
def rkY (T : Nat → Int32) (o k u : Int) : Int := if k = -1 then (if u = 0 then tBy T o else -2) else if (0 ≤ k ∧ k < tBy T o) ∧ (0 ≤ u ∧ u ≤ 2) then tBy T (o + 1 + 3 * k + u) else -2
def rkS (T : Nat → Int32) (o k u : Int) : Int := if k = -1 then (if u = 0 then tBy T o else -2) else if (0 ≤ k ∧ k < tBy T o) ∧ (0 ≤ u ∧ u ≤ 1) then tBy T (o + 1 + 2 * k + u) else -2
theorem x_bHas (w : zW) (d : Nat) (q : Nat) (a1 : Int) (x0 x1 x2 : Int) (hK0 : zix w q = some (.inr (0, [.int (Int32.ofInt x0), .int (Int32.ofInt x1), .int (Int32.ofInt x2), .ref (q + 1), .ref (q + 2), .ref (q + 3), .ref (q + 4)]))) (hr0 : (-2147483648 ≤ a1 ∧ a1 ≤ 2147483647) ∧ (-2147483648 ≤ x1 ∧ x1 ≤ 2147483647)) (Q : zQ) (h : ∀ (v : Int), ((v = 1 ∧ 0 ≤ a1 ∧ a1 < x1) ∨ (v = 0 ∧ (a1 < 0 ∨ x1 ≤ a1))) → Q (some (.int (Int32.ofInt v))) w) : zCl zTab (d + 1) iX0_hasReader [.ref q, .int (Int32.ofInt a1)] w 0 0 Q := by
  refine zCl_i (M := kX0_hasReader) rfl (Nat.le_of_ble_eq_true rfl) fun R hR => ?_
  refine hR (?_ : R (_, _, _, _, _, _))
  refine hR (k_lt (by omega) (fun hc1 => ?_) (fun hc1 => ?_))
  · skip
    refine hR (?_ : R (_, _, _, _, _, _))
    exact hR (zret_i rfl (Nat.le_refl _) (zbo (by omega)) (h _ (by omega)))
  iterate 2 refine hR (?_ : R (_, _, _, _, _, _))
  refine hR (c_get hK0 rfl ?_)
  refine hR (j_ge (by omega) (by omega) (fun hc2 => ?_) (fun hc2 => ?_))
  · skip
    refine hR (?_ : R (_, _, _, _, _, _))
    exact hR (zret_i rfl (Nat.le_refl _) (zbo (by omega)) (h _ (by omega)))
  iterate 2 refine hR (?_ : R (_, _, _, _, _, _))
  exact hR (zret_i rfl (Nat.le_refl _) (zbo (by omega)) (h _ (by omega)))
theorem x_bStepV (w : zW) (d : Nat) (q : Nat) (a1 a2 : Int) (x0 x1 x2 : Int) (g1 g2 g3 g4 : Nat → Int32) (hK0 : zix w q = some (.inr (0, [.int (Int32.ofInt x0), .int (Int32.ofInt x1), .int (Int32.ofInt x2), .ref (q + 1), .ref (q + 2), .ref (q + 3), .ref (q + 4)]))) (hK1 : zix w (q + 1) = some (.inl (1, 4, .inl g1))) (hK2 : zix w (q + 2) = some (.inl (1, 5, .inl g2))) (hK3 : zix w (q + 3) = some (.inl (1, 20, .inl g3))) (hK4 : zix w (q + 4) = some (.inl (1, 20, .inl g4))) (hr0 : 0 ≤ x1 ∧ x1 ≤ 5) (hr1 : 0 ≤ a1 ∧ a1 ≤ 2147483647) (hr2 : 0 ≤ a2 ∧ a2 ≤ 9) (hr3 : ∀ i : Int, 0 ≤ i → i < 5 → 0 ≤ tBy g2 i ∧ tBy g2 i ≤ 4) (Q : zQ) (h : ∀ (v : Int), (v = bsV x1 g2 g3 g4 a1 a2) → Q (some (.int (Int32.ofInt v))) w) : zCl zTab (d + 2) iX0_tellsStep [.ref q, .int (Int32.ofInt a1), .int (Int32.ofInt a2)] w 0 0 Q := by
  refine zCl_i (M := kX0_tellsStep) rfl (Nat.le_of_ble_eq_true rfl) fun R hR => ?_
  iterate 2 refine hR (?_ : R (_, _, _, _, _, _))
  refine hR (c_obj hK0 (zcall_i 0 0 (Nat.le_of_ble_eq_true rfl) (Nat.le_of_ble_eq_true rfl) (x_bHas _ _ _ _ _ _ _ hK0 (by omega) _ fun v1 hp2 => ?_)))
  refine (?_ : R (_, _, .int (Int32.ofInt v1) :: [], w, 0, 0))
  refine hR (k_eq (by omega) (fun hc3 => ?_) (fun hc3 => ?_))
  · skip
    refine hR (?_ : R (_, _, _, _, _, _))
    exact hR (zret_i rfl (Nat.le_refl _) trivial (h _ (by unfold bsV; (repeat' split) <;> first | rfl | omega | (exact congrArg (tBy _) (by omega)))))
  iterate 2 refine hR (?_ : R (_, _, _, _, _, _))
  refine hR (t_div (by omega) (by omega) (by omega) (by omega) ?_)
  refine hR (?_ : R (_, _, _, _, _, _))
  refine hR (c_get hK0 rfl ?_)
  refine hR (?_ : R (_, _, _, _, _, _))
  refine hR (c_aldE hK2 (by omega) (by omega) (Nat.le_of_ble_eq_true rfl) fun v4 ev4 rv4 => ?_)
  replace ev4 : v4 = tBy g2 a1 := ev4
  subst ev4
  have hs := hr3 _ (show 0 ≤ a1 by omega) (by omega)
  refine hR (j_lt (by omega) (by omega) (fun hc5 => ?_) (fun hc5 => ?_))
  rotate_left
  · skip
    refine hR (?_ : R (_, _, _, _, _, _))
    exact hR (zret_i rfl (Nat.le_refl _) trivial (h _ (by unfold bsV; (repeat' split) <;> first | rfl | omega | (exact congrArg (tBy _) (by omega)))))
  iterate 2 refine hR (?_ : R (_, _, _, _, _, _))
  refine hR (t_mul ?_)
  iterate 2 refine hR (?_ : R (_, _, _, _, _, _))
  refine hR (t_div (by omega) (by omega) (by omega) (by omega) ?_)
  refine hR (t_add ?_)
  iterate 3 refine hR (?_ : R (_, _, _, _, _, _))
  refine hR (t_rem (by omega) (by omega) (by omega) (by omega) ?_)
  refine hR (k_ne (by omega) (fun hc6 => ?_) (fun hc6 => ?_))
  · skip
    refine hR (?_ : R (_, _, _, _, _, _))
    refine hR (c_get hK0 rfl ?_)
    refine hR (?_ : R (_, _, _, _, _, _))
    refine hR (c_aldE hK4 (by omega) (by omega) (Nat.le_of_ble_eq_true rfl) fun v7 ev7 rv7 => ?_)
    replace ev7 : v7 = tBy g4 ((a1 * 4) + (a2 / 2)) := ev7
    subst ev7
    exact hR (zret_i rfl (Nat.le_refl _) trivial (h _ (by unfold bsV; (repeat' split) <;> first | rfl | omega | (exact congrArg (tBy _) (by omega)))))
  refine hR (?_ : R (_, _, _, _, _, _))
  refine hR (c_get hK0 rfl ?_)
  refine hR (?_ : R (_, _, _, _, _, _))
  refine hR (c_aldE hK3 (by omega) (by omega) (Nat.le_of_ble_eq_true rfl) fun v8 ev8 rv8 => ?_)
  replace ev8 : v8 = tBy g3 ((a1 * 4) + (a2 / 2)) := ev8
  subst ev8
  refine hR (?_ : R (_, _, _, _, _, _))
  exact hR (zret_i rfl (Nat.le_refl _) trivial (h _ (by unfold bsV; (repeat' split) <;> first | rfl | omega | (exact congrArg (tBy _) (by omega)))))
theorem x_bTells (w : zW) (d : Nat) (q : Nat) (a1 : Int) (x0 x1 x2 : Int) (g1 g2 g3 g4 : Nat → Int32) (hK0 : zix w q = some (.inr (0, [.int (Int32.ofInt x0), .int (Int32.ofInt x1), .int (Int32.ofInt x2), .ref (q + 1), .ref (q + 2), .ref (q + 3), .ref (q + 4)]))) (hK1 : zix w (q + 1) = some (.inl (1, 4, .inl g1))) (hK2 : zix w (q + 2) = some (.inl (1, 5, .inl g2))) (hK3 : zix w (q + 3) = some (.inl (1, 20, .inl g3))) (hK4 : zix w (q + 4) = some (.inl (1, 20, .inl g4))) (hr0 : 0 ≤ x1 ∧ x1 ≤ 5) (hr1 : (-2147483648 ≤ a1 ∧ a1 ≤ 2147483647) ∧ (-2147483648 ≤ x0 ∧ x0 ≤ 2147483647)) (hr2 : ∀ i : Int, 0 ≤ i → i < 5 → 0 ≤ tBy g2 i ∧ tBy g2 i ≤ 4) (Q : zQ) (h : ∀ (v : Int), (v = bkV x0 x1 g1 g2 g3 g4 a1) → Q (some (.int (Int32.ofInt v))) w) : zCl zTab (d + 3) iX0_tells [.ref q, .int (Int32.ofInt a1)] w 0 0 Q := by
  refine zCl_i (M := kX0_tells) rfl (Nat.le_of_ble_eq_true rfl) fun R hR => ?_
  refine hR (?_ : R (_, _, _, _, _, _))
  refine hR (k_ne (by omega) (fun hc1 => ?_) (fun hc1 => ?_))
  rotate_left
  · skip
    refine hR (?_ : R (_, _, _, _, _, _))
    refine hR (c_get hK0 rfl ?_)
    exact hR (zret_i rfl (Nat.le_refl _) trivial (h _ (by unfold bkV; (repeat' split) <;> first | rfl | omega | (exact congrArg (tBy _) (by omega)))))
  iterate 2 refine hR (?_ : R (_, _, _, _, _, _))
  refine hR (j_ne (by omega) (by omega) (fun hc2 => ?_) (fun hc2 => ?_))
  rotate_left
  · skip
    refine hR (?_ : R (_, _, _, _, _, _))
    refine hR (c_get hK0 rfl ?_)
    exact hR (zret_i rfl (Nat.le_refl _) trivial (h _ (by unfold bkV; (repeat' split) <;> first | rfl | omega | (exact congrArg (tBy _) (by omega)))))
  refine hR (?_ : R (_, _, _, _, _, _))
  refine hR (t_c 10 (by decide) ?_)
  refine hR (j_lt (by omega) (by omega) (fun hc3 => ?_) (fun hc3 => ?_))
  · skip
    refine hR (?_ : R (_, _, _, _, _, _))
    refine hR (t_c 20 (by decide) ?_)
    refine hR (j_lt (by omega) (by omega) (fun hc4 => ?_) (fun hc4 => ?_))
    · skip
      refine hR (?_ : R (_, _, _, _, _, _))
      refine hR (t_c 30 (by decide) ?_)
      refine hR (j_ge (by omega) (by omega) (fun hc5 => ?_) (fun hc5 => ?_))
      rotate_left
      · skip
        iterate 2 refine hR (?_ : R (_, _, _, _, _, _))
        exact hR (zret_i rfl (Nat.le_refl _) trivial (h _ (by unfold bkV; (repeat' split) <;> first | rfl | omega | (exact congrArg (tBy _) (by omega)))))
      iterate 2 refine hR (?_ : R (_, _, _, _, _, _))
      refine hR (t_c 30 (by decide) ?_)
      refine hR (t_sub ?_)
      refine hR (t_c 10 (by decide) ?_)
      refine hR (t_div (by omega) (by omega) (by omega) (by omega) ?_)
      refine hR (?_ : R (_, _, _, _, _, _))
      refine hR (t_c 30 (by decide) ?_)
      refine hR (t_sub ?_)
      refine hR (t_c 10 (by decide) ?_)
      refine hR (t_rem (by omega) (by omega) (by omega) (by omega) ?_)
      refine hR (c_obj hK0 (zcall_i 0 0 (Nat.le_of_ble_eq_true rfl) (Nat.le_of_ble_eq_true rfl) (x_bStepV _ _ _ _ _ _ _ _ _ _ _ _ hK0 hK1 hK2 hK3 hK4 (by omega) (by omega) (by omega) hr2 _ fun v6 hp7 => ?_)))
      subst hp7
      refine (?_ : R (_, _, .int (Int32.ofInt (bsV x1 g2 g3 g4 ((a1 - 30) / 10) ((a1 - 30) % 10))) :: [], w, 0, 0))
      exact hR (zret_i rfl (Nat.le_refl _) trivial (h _ (by unfold bkV; (repeat' split) <;> first | rfl | omega | (exact congrArg (tBy _) (by omega)))))
    refine hR (?_ : R (_, _, _, _, _, _))
    refine hR (t_c 20 (by decide) ?_)
    refine hR (?_ : R (_, _, _, _, _, _))
    refine hR (c_get hK0 rfl ?_)
    refine hR (t_add ?_)
    refine hR (j_ge (by omega) (by omega) (fun hc8 => ?_) (fun hc8 => ?_))
    rotate_left
    · skip
      refine hR (?_ : R (_, _, _, _, _, _))
      refine hR (c_get hK0 rfl ?_)
      refine hR (?_ : R (_, _, _, _, _, _))
      refine hR (t_c 20 (by decide) ?_)
      refine hR (t_sub ?_)
      refine hR (c_aldE hK2 (by omega) (by omega) (Nat.le_of_ble_eq_true rfl) fun v12 ev12 rv12 => ?_)
      replace ev12 : v12 = tBy g2 (a1 - 20) := ev12
      subst ev12
      exact hR (zret_i rfl (Nat.le_refl _) trivial (h _ (by unfold bkV; (repeat' split) <;> first | rfl | omega | (exact congrArg (tBy _) (by omega)))))
    refine hR (?_ : R (_, _, _, _, _, _))
    refine hR (t_c 30 (by decide) ?_)
    refine hR (j_ge (by omega) (by omega) (fun hc9 => ?_) (fun hc9 => ?_))
    rotate_left
    · skip
      iterate 2 refine hR (?_ : R (_, _, _, _, _, _))
      exact hR (zret_i rfl (Nat.le_refl _) trivial (h _ (by unfold bkV; (repeat' split) <;> first | rfl | omega | (exact congrArg (tBy _) (by omega)))))
    iterate 2 refine hR (?_ : R (_, _, _, _, _, _))
    refine hR (t_c 30 (by decide) ?_)
    refine hR (t_sub ?_)
    refine hR (t_c 10 (by decide) ?_)
    refine hR (t_div (by omega) (by omega) (by omega) (by omega) ?_)
    refine hR (?_ : R (_, _, _, _, _, _))
    refine hR (t_c 30 (by decide) ?_)
    refine hR (t_sub ?_)
    refine hR (t_c 10 (by decide) ?_)
    refine hR (t_rem (by omega) (by omega) (by omega) (by omega) ?_)
    refine hR (c_obj hK0 (zcall_i 0 0 (Nat.le_of_ble_eq_true rfl) (Nat.le_of_ble_eq_true rfl) (x_bStepV _ _ _ _ _ _ _ _ _ _ _ _ hK0 hK1 hK2 hK3 hK4 (by omega) (by omega) (by omega) hr2 _ fun v10 hp11 => ?_)))
    subst hp11
    refine (?_ : R (_, _, .int (Int32.ofInt (bsV x1 g2 g3 g4 ((a1 - 30) / 10) ((a1 - 30) % 10))) :: [], w, 0, 0))
    exact hR (zret_i rfl (Nat.le_refl _) trivial (h _ (by unfold bkV; (repeat' split) <;> first | rfl | omega | (exact congrArg (tBy _) (by omega)))))
  refine hR (?_ : R (_, _, _, _, _, _))
  refine hR (t_c 14 (by decide) ?_)
  refine hR (j_ge (by omega) (by omega) (fun hc13 => ?_) (fun hc13 => ?_))
  rotate_left
  · skip
    refine hR (?_ : R (_, _, _, _, _, _))
    refine hR (c_get hK0 rfl ?_)
    refine hR (?_ : R (_, _, _, _, _, _))
    refine hR (t_c 10 (by decide) ?_)
    refine hR (t_sub ?_)
    refine hR (c_aldE hK1 (by omega) (by omega) (Nat.le_of_ble_eq_true rfl) fun v23 ev23 rv23 => ?_)
    replace ev23 : v23 = tBy g1 (a1 - 10) := ev23
    subst ev23
    exact hR (zret_i rfl (Nat.le_refl _) trivial (h _ (by unfold bkV; (repeat' split) <;> first | rfl | omega | (exact congrArg (tBy _) (by omega)))))
  refine hR (?_ : R (_, _, _, _, _, _))
  refine hR (t_c 20 (by decide) ?_)
  refine hR (j_lt (by omega) (by omega) (fun hc14 => ?_) (fun hc14 => ?_))
  · skip
    refine hR (?_ : R (_, _, _, _, _, _))
    refine hR (t_c 30 (by decide) ?_)
    refine hR (j_ge (by omega) (by omega) (fun hc15 => ?_) (fun hc15 => ?_))
    rotate_left
    · skip
      iterate 2 refine hR (?_ : R (_, _, _, _, _, _))
      exact hR (zret_i rfl (Nat.le_refl _) trivial (h _ (by unfold bkV; (repeat' split) <;> first | rfl | omega | (exact congrArg (tBy _) (by omega)))))
    iterate 2 refine hR (?_ : R (_, _, _, _, _, _))
    refine hR (t_c 30 (by decide) ?_)
    refine hR (t_sub ?_)
    refine hR (t_c 10 (by decide) ?_)
    refine hR (t_div (by omega) (by omega) (by omega) (by omega) ?_)
    refine hR (?_ : R (_, _, _, _, _, _))
    refine hR (t_c 30 (by decide) ?_)
    refine hR (t_sub ?_)
    refine hR (t_c 10 (by decide) ?_)
    refine hR (t_rem (by omega) (by omega) (by omega) (by omega) ?_)
    refine hR (c_obj hK0 (zcall_i 0 0 (Nat.le_of_ble_eq_true rfl) (Nat.le_of_ble_eq_true rfl) (x_bStepV _ _ _ _ _ _ _ _ _ _ _ _ hK0 hK1 hK2 hK3 hK4 (by omega) (by omega) (by omega) hr2 _ fun v16 hp17 => ?_)))
    subst hp17
    refine (?_ : R (_, _, .int (Int32.ofInt (bsV x1 g2 g3 g4 ((a1 - 30) / 10) ((a1 - 30) % 10))) :: [], w, 0, 0))
    exact hR (zret_i rfl (Nat.le_refl _) trivial (h _ (by unfold bkV; (repeat' split) <;> first | rfl | omega | (exact congrArg (tBy _) (by omega)))))
  refine hR (?_ : R (_, _, _, _, _, _))
  refine hR (t_c 20 (by decide) ?_)
  refine hR (?_ : R (_, _, _, _, _, _))
  refine hR (c_get hK0 rfl ?_)
  refine hR (t_add ?_)
  refine hR (j_ge (by omega) (by omega) (fun hc18 => ?_) (fun hc18 => ?_))
  rotate_left
  · skip
    refine hR (?_ : R (_, _, _, _, _, _))
    refine hR (c_get hK0 rfl ?_)
    refine hR (?_ : R (_, _, _, _, _, _))
    refine hR (t_c 20 (by decide) ?_)
    refine hR (t_sub ?_)
    refine hR (c_aldE hK2 (by omega) (by omega) (Nat.le_of_ble_eq_true rfl) fun v22 ev22 rv22 => ?_)
    replace ev22 : v22 = tBy g2 (a1 - 20) := ev22
    subst ev22
    exact hR (zret_i rfl (Nat.le_refl _) trivial (h _ (by unfold bkV; (repeat' split) <;> first | rfl | omega | (exact congrArg (tBy _) (by omega)))))
  refine hR (?_ : R (_, _, _, _, _, _))
  refine hR (t_c 30 (by decide) ?_)
  refine hR (j_ge (by omega) (by omega) (fun hc19 => ?_) (fun hc19 => ?_))
  rotate_left
  · skip
    iterate 2 refine hR (?_ : R (_, _, _, _, _, _))
    exact hR (zret_i rfl (Nat.le_refl _) trivial (h _ (by unfold bkV; (repeat' split) <;> first | rfl | omega | (exact congrArg (tBy _) (by omega)))))
  iterate 2 refine hR (?_ : R (_, _, _, _, _, _))
  refine hR (t_c 30 (by decide) ?_)
  refine hR (t_sub ?_)
  refine hR (t_c 10 (by decide) ?_)
  refine hR (t_div (by omega) (by omega) (by omega) (by omega) ?_)
  refine hR (?_ : R (_, _, _, _, _, _))
  refine hR (t_c 30 (by decide) ?_)
  refine hR (t_sub ?_)
  refine hR (t_c 10 (by decide) ?_)
  refine hR (t_rem (by omega) (by omega) (by omega) (by omega) ?_)
  refine hR (c_obj hK0 (zcall_i 0 0 (Nat.le_of_ble_eq_true rfl) (Nat.le_of_ble_eq_true rfl) (x_bStepV _ _ _ _ _ _ _ _ _ _ _ _ hK0 hK1 hK2 hK3 hK4 (by omega) (by omega) (by omega) hr2 _ fun v20 hp21 => ?_)))
  subst hp21
  refine (?_ : R (_, _, .int (Int32.ofInt (bsV x1 g2 g3 g4 ((a1 - 30) / 10) ((a1 - 30) % 10))) :: [], w, 0, 0))
  exact hR (zret_i rfl (Nat.le_refl _) trivial (h _ (by unfold bkV; (repeat' split) <;> first | rfl | omega | (exact congrArg (tBy _) (by omega)))))
theorem x_yTells (w : zW) (d : Nat) (q : Nat) (a1 a2 : Int) (x0 : Int) (g1 g2 g3 : Nat → Int32) (hK0 : zix w q = some (.inr (9, [.int (Int32.ofInt x0), .ref (q + 1), .ref (q + 2), .ref (q + 3)]))) (hK1 : zix w (q + 1) = some (.inl (1, 40, .inl g1))) (hK2 : zix w (q + 2) = some (.inl (1, 40, .inl g2))) (hK3 : zix w (q + 3) = some (.inl (1, 40, .inl g3))) (hr0 : 0 ≤ x0 ∧ x0 ≤ 40) (hr1 : (-2147483648 ≤ a1 ∧ a1 ≤ 2147483647) ∧ (-2147483648 ≤ a2 ∧ a2 ≤ 2147483647)) (Q : zQ) (h : ∀ (v : Int), (v = yrV x0 g1 g2 g3 a1 a2) → Q (some (.int (Int32.ofInt v))) w) : zCl zTab (d + 1) iX10_tells [.ref q, .int (Int32.ofInt a1), .int (Int32.ofInt a2)] w 0 0 Q := by
  refine zCl_i (M := kX10_tells) rfl (Nat.le_of_ble_eq_true rfl) fun R hR => ?_
  iterate 2 refine hR (?_ : R (_, _, _, _, _, _))
  refine hR (j_ne (by omega) (by omega) (fun hc1 => ?_) (fun hc1 => ?_))
  · skip
    refine hR (?_ : R (_, _, _, _, _, _))
    refine hR (k_lt (by omega) (fun hc2 => ?_) (fun hc2 => ?_))
    · skip
      refine hR (t_c (-2) (by decide) ?_)
      exact hR (zret_i rfl (Nat.le_refl _) trivial (h _ (by unfold yrV; (repeat' split) <;> first | rfl | omega | (exact congrArg (tBy _) (by omega)))))
    iterate 2 refine hR (?_ : R (_, _, _, _, _, _))
    refine hR (c_get hK0 rfl ?_)
    refine hR (j_lt (by omega) (by omega) (fun hc3 => ?_) (fun hc3 => ?_))
    rotate_left
    · skip
      refine hR (t_c (-2) (by decide) ?_)
      exact hR (zret_i rfl (Nat.le_refl _) trivial (h _ (by unfold yrV; (repeat' split) <;> first | rfl | omega | (exact congrArg (tBy _) (by omega)))))
    refine hR (?_ : R (_, _, _, _, _, _))
    have hl4 : a2 = 0 ∨ a2 = 1 ∨ a2 = 2 ∨ (a2 ≠ 0 ∧ a2 ≠ 1 ∧ a2 ≠ 2) := by omega
    rcases hl4 with hl4 | hl4 | hl4 | hl4
    · refine hR (?_ : _ ∧ _)
      rw [zti (e := a2) (by omega) (by omega)]
      refine ⟨fun hx => by omega, fun _ => ⟨26, by rw [hl4]; rfl, (?_ : R (_, _, _, _, _, _))⟩⟩
      refine hR (?_ : R (_, _, _, _, _, _))
      refine hR (c_get hK0 rfl ?_)
      refine hR (?_ : R (_, _, _, _, _, _))
      refine hR (c_aldE hK1 (by omega) (by omega) (Nat.le_of_ble_eq_true rfl) fun v5 ev5 rv5 => ?_)
      replace ev5 : v5 = tBy g1 a1 := ev5
      subst ev5
      exact hR (zret_i rfl (Nat.le_refl _) trivial (h _ (by unfold yrV; (repeat' split) <;> first | rfl | omega | (exact congrArg (tBy _) (by omega)))))
    · refine hR (?_ : _ ∧ _)
      rw [zti (e := a2) (by omega) (by omega)]
      refine ⟨fun hx => by omega, fun _ => ⟨33, by rw [hl4]; rfl, (?_ : R (_, _, _, _, _, _))⟩⟩
      refine hR (?_ : R (_, _, _, _, _, _))
      refine hR (c_get hK0 rfl ?_)
      refine hR (?_ : R (_, _, _, _, _, _))
      refine hR (c_aldE hK2 (by omega) (by omega) (Nat.le_of_ble_eq_true rfl) fun v6 ev6 rv6 => ?_)
      replace ev6 : v6 = tBy g2 a1 := ev6
      subst ev6
      exact hR (zret_i rfl (Nat.le_refl _) trivial (h _ (by unfold yrV; (repeat' split) <;> first | rfl | omega | (exact congrArg (tBy _) (by omega)))))
    · refine hR (?_ : _ ∧ _)
      rw [zti (e := a2) (by omega) (by omega)]
      refine ⟨fun hx => by omega, fun _ => ⟨40, by rw [hl4]; rfl, (?_ : R (_, _, _, _, _, _))⟩⟩
      refine hR (?_ : R (_, _, _, _, _, _))
      refine hR (c_get hK0 rfl ?_)
      refine hR (?_ : R (_, _, _, _, _, _))
      refine hR (c_aldE hK3 (by omega) (by omega) (Nat.le_of_ble_eq_true rfl) fun v7 ev7 rv7 => ?_)
      replace ev7 : v7 = tBy g3 a1 := ev7
      subst ev7
      exact hR (zret_i rfl (Nat.le_refl _) trivial (h _ (by unfold yrV; (repeat' split) <;> first | rfl | omega | (exact congrArg (tBy _) (by omega)))))
    · refine hR (?_ : _ ∧ _)
      rw [zti (e := a2) (by omega) (by omega)]
      refine ⟨fun _ => (?_ : R (_, _, _, _, _, _)), fun hx => by omega⟩
      refine hR (t_c (-2) (by decide) ?_)
      exact hR (zret_i rfl (Nat.le_refl _) trivial (h _ (by unfold yrV; (repeat' split) <;> first | rfl | omega | (exact congrArg (tBy _) (by omega)))))
  refine hR (?_ : R (_, _, _, _, _, _))
  refine hR (k_ne (by omega) (fun hc8 => ?_) (fun hc8 => ?_))
  rotate_left
  · skip
    refine hR (?_ : R (_, _, _, _, _, _))
    refine hR (c_get hK0 rfl ?_)
    exact hR (zret_i rfl (Nat.le_refl _) trivial (h _ (by unfold yrV; (repeat' split) <;> first | rfl | omega | (exact congrArg (tBy _) (by omega)))))
  refine hR (?_ : R (_, _, _, _, _, _))
  refine hR (k_lt (by omega) (fun hc9 => ?_) (fun hc9 => ?_))
  · skip
    refine hR (t_c (-2) (by decide) ?_)
    exact hR (zret_i rfl (Nat.le_refl _) trivial (h _ (by unfold yrV; (repeat' split) <;> first | rfl | omega | (exact congrArg (tBy _) (by omega)))))
  iterate 2 refine hR (?_ : R (_, _, _, _, _, _))
  refine hR (c_get hK0 rfl ?_)
  refine hR (j_lt (by omega) (by omega) (fun hc10 => ?_) (fun hc10 => ?_))
  rotate_left
  · skip
    refine hR (t_c (-2) (by decide) ?_)
    exact hR (zret_i rfl (Nat.le_refl _) trivial (h _ (by unfold yrV; (repeat' split) <;> first | rfl | omega | (exact congrArg (tBy _) (by omega)))))
  refine hR (?_ : R (_, _, _, _, _, _))
  have hl11 : a2 = 0 ∨ a2 = 1 ∨ a2 = 2 ∨ (a2 ≠ 0 ∧ a2 ≠ 1 ∧ a2 ≠ 2) := by omega
  rcases hl11 with hl11 | hl11 | hl11 | hl11
  · refine hR (?_ : _ ∧ _)
    rw [zti (e := a2) (by omega) (by omega)]
    refine ⟨fun hx => by omega, fun _ => ⟨26, by rw [hl11]; rfl, (?_ : R (_, _, _, _, _, _))⟩⟩
    refine hR (?_ : R (_, _, _, _, _, _))
    refine hR (c_get hK0 rfl ?_)
    refine hR (?_ : R (_, _, _, _, _, _))
    refine hR (c_aldE hK1 (by omega) (by omega) (Nat.le_of_ble_eq_true rfl) fun v12 ev12 rv12 => ?_)
    replace ev12 : v12 = tBy g1 a1 := ev12
    subst ev12
    exact hR (zret_i rfl (Nat.le_refl _) trivial (h _ (by unfold yrV; (repeat' split) <;> first | rfl | omega | (exact congrArg (tBy _) (by omega)))))
  · refine hR (?_ : _ ∧ _)
    rw [zti (e := a2) (by omega) (by omega)]
    refine ⟨fun hx => by omega, fun _ => ⟨33, by rw [hl11]; rfl, (?_ : R (_, _, _, _, _, _))⟩⟩
    refine hR (?_ : R (_, _, _, _, _, _))
    refine hR (c_get hK0 rfl ?_)
    refine hR (?_ : R (_, _, _, _, _, _))
    refine hR (c_aldE hK2 (by omega) (by omega) (Nat.le_of_ble_eq_true rfl) fun v13 ev13 rv13 => ?_)
    replace ev13 : v13 = tBy g2 a1 := ev13
    subst ev13
    exact hR (zret_i rfl (Nat.le_refl _) trivial (h _ (by unfold yrV; (repeat' split) <;> first | rfl | omega | (exact congrArg (tBy _) (by omega)))))
  · refine hR (?_ : _ ∧ _)
    rw [zti (e := a2) (by omega) (by omega)]
    refine ⟨fun hx => by omega, fun _ => ⟨40, by rw [hl11]; rfl, (?_ : R (_, _, _, _, _, _))⟩⟩
    refine hR (?_ : R (_, _, _, _, _, _))
    refine hR (c_get hK0 rfl ?_)
    refine hR (?_ : R (_, _, _, _, _, _))
    refine hR (c_aldE hK3 (by omega) (by omega) (Nat.le_of_ble_eq_true rfl) fun v14 ev14 rv14 => ?_)
    replace ev14 : v14 = tBy g3 a1 := ev14
    subst ev14
    exact hR (zret_i rfl (Nat.le_refl _) trivial (h _ (by unfold yrV; (repeat' split) <;> first | rfl | omega | (exact congrArg (tBy _) (by omega)))))
  · refine hR (?_ : _ ∧ _)
    rw [zti (e := a2) (by omega) (by omega)]
    refine ⟨fun _ => (?_ : R (_, _, _, _, _, _)), fun hx => by omega⟩
    refine hR (t_c (-2) (by decide) ?_)
    exact hR (zret_i rfl (Nat.le_refl _) trivial (h _ (by unfold yrV; (repeat' split) <;> first | rfl | omega | (exact congrArg (tBy _) (by omega)))))
theorem x_sTells (w : zW) (d : Nat) (q : Nat) (a1 a2 : Int) (x0 : Int) (g1 g2 : Nat → Int32) (hK0 : zix w q = some (.inr (5, [.int (Int32.ofInt x0), .ref (q + 1), .ref (q + 2)]))) (hK1 : zix w (q + 1) = some (.inl (1, 6, .inl g1))) (hK2 : zix w (q + 2) = some (.inl (1, 6, .inl g2))) (hr0 : 0 ≤ x0 ∧ x0 ≤ 6) (hr1 : (-2147483648 ≤ a1 ∧ a1 ≤ 2147483647) ∧ (-2147483648 ≤ a2 ∧ a2 ≤ 2147483647)) (Q : zQ) (h : ∀ (v : Int), (v = siV x0 g1 g2 a1 a2) → Q (some (.int (Int32.ofInt v))) w) : zCl zTab (d + 1) iX6_tells [.ref q, .int (Int32.ofInt a1), .int (Int32.ofInt a2)] w 0 0 Q := by
  refine zCl_i (M := kX6_tells) rfl (Nat.le_of_ble_eq_true rfl) fun R hR => ?_
  iterate 2 refine hR (?_ : R (_, _, _, _, _, _))
  refine hR (j_ne (by omega) (by omega) (fun hc1 => ?_) (fun hc1 => ?_))
  · skip
    refine hR (?_ : R (_, _, _, _, _, _))
    refine hR (k_lt (by omega) (fun hc2 => ?_) (fun hc2 => ?_))
    · skip
      refine hR (t_c (-2) (by decide) ?_)
      exact hR (zret_i rfl (Nat.le_refl _) trivial (h _ (by unfold siV; (repeat' split) <;> first | rfl | omega | (exact congrArg (tBy _) (by omega)))))
    iterate 2 refine hR (?_ : R (_, _, _, _, _, _))
    refine hR (c_get hK0 rfl ?_)
    refine hR (j_lt (by omega) (by omega) (fun hc3 => ?_) (fun hc3 => ?_))
    rotate_left
    · skip
      refine hR (t_c (-2) (by decide) ?_)
      exact hR (zret_i rfl (Nat.le_refl _) trivial (h _ (by unfold siV; (repeat' split) <;> first | rfl | omega | (exact congrArg (tBy _) (by omega)))))
    refine hR (?_ : R (_, _, _, _, _, _))
    have hl4 : a2 = 0 ∨ a2 = 1 ∨ (a2 ≠ 0 ∧ a2 ≠ 1) := by omega
    rcases hl4 with hl4 | hl4 | hl4
    · refine hR (t_pc (pc2 := 56) (by rw [zti (e := a2) (by omega) (by omega)]; show (((30 : Nat) : Int) + Op.lookupswitch.offset [(0, 26), (1, 33)] 40 a2).toNat = 56; simp only [Op.lookupswitch.offset_cons]; (repeat' split) <;> first | omega | rfl) ?_)
      refine hR (?_ : R (_, _, _, _, _, _))
      refine hR (c_get hK0 rfl ?_)
      refine hR (?_ : R (_, _, _, _, _, _))
      refine hR (c_aldE hK1 (by omega) (by omega) (Nat.le_of_ble_eq_true rfl) fun v5 ev5 rv5 => ?_)
      replace ev5 : v5 = tBy g1 a1 := ev5
      subst ev5
      exact hR (zret_i rfl (Nat.le_refl _) trivial (h _ (by unfold siV; (repeat' split) <;> first | rfl | omega | (exact congrArg (tBy _) (by omega)))))
    · refine hR (t_pc (pc2 := 63) (by rw [zti (e := a2) (by omega) (by omega)]; show (((30 : Nat) : Int) + Op.lookupswitch.offset [(0, 26), (1, 33)] 40 a2).toNat = 63; simp only [Op.lookupswitch.offset_cons]; (repeat' split) <;> first | omega | rfl) ?_)
      refine hR (?_ : R (_, _, _, _, _, _))
      refine hR (c_get hK0 rfl ?_)
      refine hR (?_ : R (_, _, _, _, _, _))
      refine hR (c_aldE hK2 (by omega) (by omega) (Nat.le_of_ble_eq_true rfl) fun v6 ev6 rv6 => ?_)
      replace ev6 : v6 = tBy g2 a1 := ev6
      subst ev6
      exact hR (zret_i rfl (Nat.le_refl _) trivial (h _ (by unfold siV; (repeat' split) <;> first | rfl | omega | (exact congrArg (tBy _) (by omega)))))
    · refine hR (t_pc (pc2 := 70) (by rw [zti (e := a2) (by omega) (by omega)]; show (((30 : Nat) : Int) + Op.lookupswitch.offset [(0, 26), (1, 33)] 40 a2).toNat = 70; simp only [Op.lookupswitch.offset_cons]; (repeat' split) <;> first | omega | rfl) ?_)
      refine hR (t_c (-2) (by decide) ?_)
      exact hR (zret_i rfl (Nat.le_refl _) trivial (h _ (by unfold siV; (repeat' split) <;> first | rfl | omega | (exact congrArg (tBy _) (by omega)))))
  refine hR (?_ : R (_, _, _, _, _, _))
  refine hR (k_ne (by omega) (fun hc7 => ?_) (fun hc7 => ?_))
  rotate_left
  · skip
    refine hR (?_ : R (_, _, _, _, _, _))
    refine hR (c_get hK0 rfl ?_)
    exact hR (zret_i rfl (Nat.le_refl _) trivial (h _ (by unfold siV; (repeat' split) <;> first | rfl | omega | (exact congrArg (tBy _) (by omega)))))
  refine hR (?_ : R (_, _, _, _, _, _))
  refine hR (k_lt (by omega) (fun hc8 => ?_) (fun hc8 => ?_))
  · skip
    refine hR (t_c (-2) (by decide) ?_)
    exact hR (zret_i rfl (Nat.le_refl _) trivial (h _ (by unfold siV; (repeat' split) <;> first | rfl | omega | (exact congrArg (tBy _) (by omega)))))
  iterate 2 refine hR (?_ : R (_, _, _, _, _, _))
  refine hR (c_get hK0 rfl ?_)
  refine hR (j_lt (by omega) (by omega) (fun hc9 => ?_) (fun hc9 => ?_))
  rotate_left
  · skip
    refine hR (t_c (-2) (by decide) ?_)
    exact hR (zret_i rfl (Nat.le_refl _) trivial (h _ (by unfold siV; (repeat' split) <;> first | rfl | omega | (exact congrArg (tBy _) (by omega)))))
  refine hR (?_ : R (_, _, _, _, _, _))
  have hl10 : a2 = 0 ∨ a2 = 1 ∨ (a2 ≠ 0 ∧ a2 ≠ 1) := by omega
  rcases hl10 with hl10 | hl10 | hl10
  · refine hR (t_pc (pc2 := 56) (by rw [zti (e := a2) (by omega) (by omega)]; show (((30 : Nat) : Int) + Op.lookupswitch.offset [(0, 26), (1, 33)] 40 a2).toNat = 56; simp only [Op.lookupswitch.offset_cons]; (repeat' split) <;> first | omega | rfl) ?_)
    refine hR (?_ : R (_, _, _, _, _, _))
    refine hR (c_get hK0 rfl ?_)
    refine hR (?_ : R (_, _, _, _, _, _))
    refine hR (c_aldE hK1 (by omega) (by omega) (Nat.le_of_ble_eq_true rfl) fun v11 ev11 rv11 => ?_)
    replace ev11 : v11 = tBy g1 a1 := ev11
    subst ev11
    exact hR (zret_i rfl (Nat.le_refl _) trivial (h _ (by unfold siV; (repeat' split) <;> first | rfl | omega | (exact congrArg (tBy _) (by omega)))))
  · refine hR (t_pc (pc2 := 63) (by rw [zti (e := a2) (by omega) (by omega)]; show (((30 : Nat) : Int) + Op.lookupswitch.offset [(0, 26), (1, 33)] 40 a2).toNat = 63; simp only [Op.lookupswitch.offset_cons]; (repeat' split) <;> first | omega | rfl) ?_)
    refine hR (?_ : R (_, _, _, _, _, _))
    refine hR (c_get hK0 rfl ?_)
    refine hR (?_ : R (_, _, _, _, _, _))
    refine hR (c_aldE hK2 (by omega) (by omega) (Nat.le_of_ble_eq_true rfl) fun v12 ev12 rv12 => ?_)
    replace ev12 : v12 = tBy g2 a1 := ev12
    subst ev12
    exact hR (zret_i rfl (Nat.le_refl _) trivial (h _ (by unfold siV; (repeat' split) <;> first | rfl | omega | (exact congrArg (tBy _) (by omega)))))
  · refine hR (t_pc (pc2 := 70) (by rw [zti (e := a2) (by omega) (by omega)]; show (((30 : Nat) : Int) + Op.lookupswitch.offset [(0, 26), (1, 33)] 40 a2).toNat = 70; simp only [Op.lookupswitch.offset_cons]; (repeat' split) <;> first | omega | rfl) ?_)
    refine hR (t_c (-2) (by decide) ?_)
    exact hR (zret_i rfl (Nat.le_refl _) trivial (h _ (by unfold siV; (repeat' split) <;> first | rfl | omega | (exact congrArg (tBy _) (by omega)))))
