/-! ANSWERS OF THE CLASS: fault, count, book, deed, fact, exactly. -/
theorem x_bookAt {w : zW} (d : Nat) (a1 l f c : Int) (y6 y7 : Value) (cn : Nat → Int32) (bo : Nat → Option Nat) (h0 : zix w 0 = some (ob0 y6 y7)) (h1 : zix w 1 = some (td1 l f c)) (h3 : zix w 3 = some (.inl (1, 3, .inl cn))) (hrow : zix w 4 = some (rfa 3 2 bo)) (hr : -2147483648 ≤ a1 ∧ a1 ≤ 2147483647) (hc : tBy cn 0 ≤ 2) (Q : zQ) (h : Q (some (va_rf (if 0 ≤ a1 ∧ a1 < tBy cn 0 then bo a1.toNat else none))) w) : zCl zTab (d + 1) iX11_bookAt [.ref 0, .int (Int32.ofInt a1)] w 0 0 Q := by
  refine zCl_i (M := kX11_bookAt) rfl (Nat.le_of_ble_eq_true rfl) fun R hR => ?_
  refine hR (?_ : R (_, _, _, _, _, _))
  refine hR (k_lt (by omega) (fun hc1 => ?_) (fun hc1 => ?_))
  · rw [if_neg (by omega)] at h
    iterate 2 refine hR (?_ : R (_, _, _, _, _, _))
    exact hR (zret_i rfl (Nat.le_refl _) trivial h)
  iterate 2 refine hR (?_ : R (_, _, _, _, _, _))
  refine hR (c_get h0 rfl ?_)
  refine hR (c_get h1 rfl ?_)
  refine hR (?_ : R (_, _, _, _, _, _))
  refine hR (c_aldE h3 (by omega) (by omega) (Nat.le_of_ble_eq_true rfl) fun v4 ev rv => ?_)
  replace ev : v4 = tBy cn 0 := ev
  subst ev
  refine hR (j_lt (by omega) (by omega) (fun hc5 => ?_) (fun hc5 => ?_))
  rotate_left
  · rw [if_neg (by omega)] at h
    iterate 2 refine hR (?_ : R (_, _, _, _, _, _))
    exact hR (zret_i rfl (Nat.le_refl _) trivial h)
  rw [if_pos (by omega)] at h
  refine hR (?_ : R (_, _, _, _, _, _))
  refine hR (c_get h0 rfl ?_)
  refine hR (c_get h1 rfl ?_)
  refine hR (?_ : R (_, _, _, _, _, _))
  refine hR (c_rldE hrow rfl (by omega) (by omega) (Nat.le_of_ble_eq_true rfl) rfl ?_)
  cases hb : bo a1.toNat with
  | none =>
    rw [hb] at h
    exact hR (zret_i rfl (Nat.le_refl _) trivial h)
  | some z =>
    rw [hb] at h
    exact hR (zret_i rfl (Nat.le_refl _) trivial h)
