/-! ANSWERS OF THE CLASS: fault, count, book, deed, fact, exactly. -/
theorem x_sightAt {w : zW} (d : Nat) (a1 l f c : Int) (y6 y7 : Value) (cn : Nat → Int32) (bo : Nat → Option Nat) (h0 : zix w 0 = some (ob0 y6 y7)) (h1 : zix w 1 = some (td1 l f c)) (h3 : zix w 3 = some (.inl (1, 3, .inl cn))) (hrow : zix w 6 = some (rfa 5 2 bo)) (hr : -2147483648 ≤ a1 ∧ a1 ≤ 2147483647) (hc : tBy cn 2 ≤ 2) (Q : zQ) (h : Q (some (va_rf (if 0 ≤ a1 ∧ a1 < tBy cn 2 then bo a1.toNat else none))) w) : zCl zTab (d + 1) iX11_sightAt [.ref 0, .int (Int32.ofInt a1)] w 0 0 Q := by
  refine zCl_i (M := kX11_sightAt) rfl (Nat.le_of_ble_eq_true rfl) fun R hR => ?_
  refine hR (?_ : R (_, _, _, _, _, _))
  refine hR (k_lt (by omega) (fun hc1 => ?_) (fun hc1 => ?_))
  · rw [if_neg (by omega)] at h
    iterate 2 refine hR (?_ : R (_, _, _, _, _, _))
    exact hR (zret_i rfl (Nat.le_refl _) trivial h)
  iterate 2 refine hR (?_ : R (_, _, _, _, _, _))
  refine hR (c_get h0 rfl ?_)
  refine hR (c_get h1 rfl ?_)
  refine hR (?_ : R (_, _, _, _, _, _))
  refine hR (c_aldE h3 (by omega) (by omega) (Nat.le_of_ble_eq_true rfl) fun v4 ev rv => ?_)
  replace ev : v4 = tBy cn 2 := ev
  subst ev
  refine hR (j_lt (by omega) (by omega) (fun hc5 => ?_) (fun hc5 => ?_))
  rotate_left
  · rw [if_neg (by omega)] at h
    iterate 2 refine hR (?_ : R (_, _, _, _, _, _))
    exact hR (zret_i rfl (Nat.le_refl _) trivial h)
  rw [if_pos (by omega)] at h
  refine hR (?_ : R (_, _, _, _, _, _))
  refine hR (c_get h0 rfl ?_)
  refine hR (c_get h1 rfl ?_)
  refine hR (?_ : R (_, _, _, _, _, _))
  refine hR (c_rldE hrow rfl (by omega) (by omega) (Nat.le_of_ble_eq_true rfl) rfl ?_)
  cases hb : bo a1.toNat with
  | none =>
    rw [hb] at h
    exact hR (zret_i rfl (Nat.le_refl _) trivial h)
  | some z =>
    rw [hb] at h
    exact hR (zret_i rfl (Nat.le_refl _) trivial h)
noncomputable def siX (k u : Int) : tpS → Int
  | (_, _, x0, g1, g2) => siV x0 g1 g2 k u
noncomputable def siXOK : tpS → Prop
  | (_, _, x0, g1, g2) => 0 ≤ x0 ∧ x0 ≤ 6
theorem x_fact {w : zW} (d : Nat) (a1 a2 a3 l f c : Int) (y6 y7 : Value) (cn : Nat → Int32) (bo : Nat → Option Nat) (h0 : zix w 0 = some (ob0 y6 y7)) (h1 : zix w 1 = some (td1 l f c)) (h3 : zix w 3 = some (.inl (1, 3, .inl cn))) (hrow : zix w 6 = some (rfa 5 2 bo)) (hr1 : -2147483648 ≤ a1 ∧ a1 ≤ 2147483647) (hr2 : -2147483648 ≤ a2 ∧ a2 ≤ 2147483647) (hr3 : -2147483648 ≤ a3 ∧ a3 ≤ 2147483647) (hcn : tBy cn 2 ≤ 2) (Q : zQ) (hN : (a1 < 0 ∨ tBy cn 2 ≤ a1) → Q (some (.int (Int32.ofInt (-2)))) w) (hS : (0 ≤ a1 ∧ a1 < tBy cn 2) → ∃ b X, bo a1.toNat = some b ∧ OBS w b X ∧ siXOK X ∧ Q (some (.int (Int32.ofInt (siX a2 a3 X)))) w) : zCl zTab (d + 4) iX11_fact [.ref 0, .int (Int32.ofInt a1), .int (Int32.ofInt a2), .int (Int32.ofInt a3)] w 0 0 Q := by
  refine zCl_i (M := kX11_fact) rfl (Nat.le_of_ble_eq_true rfl) fun R hR => ?_
  iterate 2 refine hR (?_ : R (_, _, _, _, _, _))
  refine hR (c_obj h0 (zcall_i 0 0 (Nat.le_refl _) (Nat.le_refl _) (x_sightAt _ a1 l f c y6 y7 cn bo h0 h1 h3 hrow hr1 hcn _ ?_)))
  by_cases hc : 0 ≤ a1 ∧ a1 < tBy cn 2
  · obtain ⟨b, X, hb, hO, hok, hq⟩ := hS hc
    rw [if_pos hc, hb]
    refine (?_ : R (_, _, .ref b :: [], w, 0, 0))
    obtain ⟨f, c, x0, g1, g2⟩ := X
    obtain ⟨q0, q1, q2⟩ := hO
    iterate 6 refine hR (?_ : R (_, _, _, _, _, _))
    refine hR (c_obj q0 (zcall_i 0 0 (Nat.le_refl _) (Nat.le_refl _) (x_sTells _ _ b a2 a3 x0 g1 g2 q0 q1 q2 hok ⟨hr2, hr3⟩ _ fun v hv => ?_)))
    refine (?_ : R (_, _, .int (Int32.ofInt v) :: [], w, 0, 0))
    subst hv
    exact hR (zret_i rfl (Nat.le_refl _) trivial hq)
  · rw [if_neg hc]
    refine (?_ : R (_, _, .null :: [], w, 0, 0))
    iterate 3 refine hR (?_ : R (_, _, _, _, _, _))
    refine hR (t_c (-2) (by decide) ?_)
    refine hR (?_ : R (_, _, _, _, _, _))
    exact hR (zret_i rfl (Nat.le_refl _) trivial (hN (by omega)))
