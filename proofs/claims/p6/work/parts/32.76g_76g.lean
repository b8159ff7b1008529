/-! ANSWERS OF THE CLASS: fault, count, book, deed, fact, exactly. -/
theorem x_fault {w : zW} (d : Nat) (a1 l f c : Int) (y6 y7 : Value) (h0 : zix w 0 = some (ob0 y6 y7)) (h1 : zix w 1 = some (td1 l f c)) (hr : -2147483648 ≤ a1 ∧ a1 ≤ 2147483647) (Q : zQ) (h : Q (some (.int (Int32.ofInt (if a1 = 0 then f else if a1 = 1 then c else -1)))) w) : zCl zTab (d + 1) iX11_fault [.ref 0, .int (Int32.ofInt a1)] w 0 0 Q := by
  refine zCl_i (M := kX11_fault) rfl (Nat.le_of_ble_eq_true rfl) fun R hR => ?_
  refine hR (?_ : R (_, _, _, _, _, _))
  have hl1 : a1 = 0 ∨ a1 = 1 ∨ (a1 ≠ 0 ∧ a1 ≠ 1) := by omega
  rcases hl1 with hl1 | hl1 | hl1
  · refine hR (t_pc (pc2 := 28) (by rw [zti (e := a1) (by omega) (by omega)]; show (((1 : Nat) : Int) + Op.lookupswitch.offset [(0, 27), (1, 35)] 43 a1).toNat = 28; simp only [Op.lookupswitch.offset_cons]; (repeat' split) <;> first | omega | rfl) ?_)
    rw [if_pos hl1] at h
    refine hR (?_ : R (_, _, _, _, _, _))
    refine hR (c_get h0 rfl ?_)
    refine hR (c_get h1 rfl ?_)
    exact hR (zret_i rfl (Nat.le_refl _) trivial h)
  · refine hR (t_pc (pc2 := 36) (by rw [zti (e := a1) (by omega) (by omega)]; show (((1 : Nat) : Int) + Op.lookupswitch.offset [(0, 27), (1, 35)] 43 a1).toNat = 36; simp only [Op.lookupswitch.offset_cons]; (repeat' split) <;> first | omega | rfl) ?_)
    rw [if_neg (by omega), if_pos hl1] at h
    refine hR (?_ : R (_, _, _, _, _, _))
    refine hR (c_get h0 rfl ?_)
    refine hR (c_get h1 rfl ?_)
    exact hR (zret_i rfl (Nat.le_refl _) trivial h)
  · refine hR (t_pc (pc2 := 44) (by rw [zti (e := a1) (by omega) (by omega)]; show (((1 : Nat) : Int) + Op.lookupswitch.offset [(0, 27), (1, 35)] 43 a1).toNat = 44; simp only [Op.lookupswitch.offset_cons]; (repeat' split) <;> first | omega | rfl) ?_)
    rw [if_neg hl1.1, if_neg hl1.2] at h
    refine hR (?_ : R (_, _, _, _, _, _))
    exact hR (zret_i rfl (Nat.le_refl _) trivial h)
theorem x_count {w : zW} (d : Nat) (a1 l f c : Int) (y6 y7 : Value) (cn : Nat → Int32) (h0 : zix w 0 = some (ob0 y6 y7)) (h1 : zix w 1 = some (td1 l f c)) (h3 : zix w 3 = some (.inl (1, 3, .inl cn))) (hr : -2147483648 ≤ a1 ∧ a1 ≤ 2147483647) (Q : zQ) (h : Q (some (.int (Int32.ofInt (if 0 ≤ a1 ∧ a1 ≤ 2 then tBy cn a1 else -2)))) w) : zCl zTab (d + 1) iX11_count [.ref 0, .int (Int32.ofInt a1)] w 0 0 Q := by
  refine zCl_i (M := kX11_count) rfl (Nat.le_of_ble_eq_true rfl) fun R hR => ?_
  refine hR (?_ : R (_, _, _, _, _, _))
  refine hR (k_lt (by omega) (fun hc1 => ?_) (fun hc1 => ?_))
  · rw [if_neg (by omega)] at h
    refine hR (t_c (-2) (by decide) ?_)
    refine hR (?_ : R (_, _, _, _, _, _))
    exact hR (zret_i rfl (Nat.le_refl _) trivial h)
  iterate 2 refine hR (?_ : R (_, _, _, _, _, _))
  refine hR (j_lt (by omega) (by omega) (fun hc3 => ?_) (fun hc3 => ?_))
  rotate_left
  · rw [if_neg (by omega)] at h
    refine hR (t_c (-2) (by decide) ?_)
    refine hR (?_ : R (_, _, _, _, _, _))
    exact hR (zret_i rfl (Nat.le_refl _) trivial h)
  rw [if_pos (by omega)] at h
  refine hR (?_ : R (_, _, _, _, _, _))
  refine hR (c_get h0 rfl ?_)
  refine hR (c_get h1 rfl ?_)
  refine hR (?_ : R (_, _, _, _, _, _))
  refine hR (c_aldE h3 (by omega) (by omega) (Nat.le_of_ble_eq_true rfl) fun v4 ev rv => ?_)
  replace ev : v4 = tBy cn a1 := ev
  subst ev
  exact hR (zret_i rfl (Nat.le_refl _) trivial h)
theorem x_bookAt {w : zW} (d : Nat) (a1 l f c : Int) (y6 y7 : Value) (cn : Nat → Int32) (bo : Nat → Option Nat) (h0 : zix w 0 = some (ob0 y6 y7)) (h1 : zix w 1 = some (td1 l f c)) (h3 : zix w 3 = some (.inl (1, 3, .inl cn))) (hrow : zix w 4 = some (rfa 3 2 bo)) (hr : -2147483648 ≤ a1 ∧ a1 ≤ 2147483647) (hc : tBy cn 0 ≤ 2) (Q : zQ) (h : Q (some (va_rf (if 0 ≤ a1 ∧ a1 < tBy cn 0 then bo a1.toNat else none))) w) : zCl zTab (d + 1) iX11_bookAt [.ref 0, .int (Int32.ofInt a1)] w 0 0 Q := by
  refine zCl_i (M := kX11_bookAt) rfl (Nat.le_of_ble_eq_true rfl) fun R hR => ?_
  refine hR (?_ : R (_, _, _, _, _, _))
  refine hR (k_lt (by omega) (fun hc1 => ?_) (fun hc1 => ?_))
  · rw [if_neg (by omega)] at h
    iterate 2 refine hR (?_ : R (_, _, _, _, _, _))
    exact hR (zret_i rfl (Nat.le_refl _) trivial h)
  iterate 2 refine hR (?_ : R (_, _, _, _, _, _))
  refine hR (c_get h0 rfl ?_)
  refine hR (c_get h1 rfl ?_)
  refine hR (?_ : R (_, _, _, _, _, _))
  refine hR (c_aldE h3 (by omega) (by omega) (Nat.le_of_ble_eq_true rfl) fun v4 ev rv => ?_)
  replace ev : v4 = tBy cn 0 := ev
  subst ev
  refine hR (j_lt (by omega) (by omega) (fun hc5 => ?_) (fun hc5 => ?_))
  rotate_left
  · rw [if_neg (by omega)] at h
    iterate 2 refine hR (?_ : R (_, _, _, _, _, _))
    exact hR (zret_i rfl (Nat.le_refl _) trivial h)
  rw [if_pos (by omega)] at h
  refine hR (?_ : R (_, _, _, _, _, _))
  refine hR (c_get h0 rfl ?_)
  refine hR (c_get h1 rfl ?_)
  refine hR (?_ : R (_, _, _, _, _, _))
  refine hR (c_rldE hrow rfl (by omega) (by omega) (Nat.le_of_ble_eq_true rfl) rfl ?_)
  cases hb : bo a1.toNat with
  | none =>
    rw [hb] at h
    exact hR (zret_i rfl (Nat.le_refl _) trivial h)
  | some z =>
    rw [hb] at h
    exact hR (zret_i rfl (Nat.le_refl _) trivial h)
def bkX (u : Int) : tpB → Int
  | (_, _, x0, x1, _, g1, g2, g3, g4) => bkV x0 x1 g1 g2 g3 g4 u
def bkXOK : tpB → Prop
  | (_, _, x0, x1, _, g1, g2, g3, g4) => (0 ≤ x1 ∧ x1 ≤ 5) ∧ r32 x0 ∧ ∀ i : Int, 0 ≤ i → i < 5 → 0 ≤ tBy g2 i ∧ tBy g2 i ≤ 4
theorem x_book {w : zW} (d : Nat) (a1 a2 l f c : Int) (y6 y7 : Value) (cn : Nat → Int32) (bo : Nat → Option Nat) (h0 : zix w 0 = some (ob0 y6 y7)) (h1 : zix w 1 = some (td1 l f c)) (h3 : zix w 3 = some (.inl (1, 3, .inl cn))) (hrow : zix w 4 = some (rfa 3 2 bo)) (hr1 : -2147483648 ≤ a1 ∧ a1 ≤ 2147483647) (hr2 : -2147483648 ≤ a2 ∧ a2 ≤ 2147483647) (hcn : tBy cn 0 ≤ 2) (Q : zQ) (hN : (a1 < 0 ∨ tBy cn 0 ≤ a1) → Q (some (.int (Int32.ofInt (-1)))) w) (hS : (0 ≤ a1 ∧ a1 < tBy cn 0) → ∃ b X, bo a1.toNat = some b ∧ OBB w b X ∧ bkXOK X ∧ Q (some (.int (Int32.ofInt (bkX a2 X)))) w) : zCl zTab (d + 4) iX11_book [.ref 0, .int (Int32.ofInt a1), .int (Int32.ofInt a2)] w 0 0 Q := by
  refine zCl_i (M := kX11_book) rfl (Nat.le_of_ble_eq_true rfl) fun R hR => ?_
  iterate 2 refine hR (?_ : R (_, _, _, _, _, _))
  refine hR (c_obj h0 (zcall_i 0 0 (Nat.le_refl _) (Nat.le_refl _) (x_bookAt _ a1 l f c y6 y7 cn bo h0 h1 h3 hrow hr1 hcn _ ?_)))
  by_cases hc : 0 ≤ a1 ∧ a1 < tBy cn 0
  · obtain ⟨b, X, hb, hO, hok, hq⟩ := hS hc
    rw [if_pos hc, hb]
    refine (?_ : R (_, _, .ref b :: [], w, 0, 0))
    obtain ⟨f, c, x0, x1, x2, g1, g2, g3, g4⟩ := X
    obtain ⟨q0, q1, q2, q3, q4⟩ := hO
    iterate 5 refine hR (?_ : R (_, _, _, _, _, _))
    refine hR (c_obj q0 (zcall_i 0 0 (Nat.le_refl _) (Nat.le_refl _) (x_bTells _ _ b a2 x0 x1 x2 g1 g2 g3 g4 q0 q1 q2 q3 q4 hok.1 ⟨hr2, hok.2.1⟩ hok.2.2 _ fun v hv => ?_)))
    refine (?_ : R (_, _, .int (Int32.ofInt v) :: [], w, 0, 0))
    subst hv
    exact hR (zret_i rfl (Nat.le_refl _) trivial hq)
  · rw [if_neg hc]
    refine (?_ : R (_, _, .null :: [], w, 0, 0))
    iterate 5 refine hR (?_ : R (_, _, _, _, _, _))
    exact hR (zret_i rfl (Nat.le_refl _) trivial (hN (by omega)))
theorem x_yearAt {w : zW} (d : Nat) (a1 l f c : Int) (y6 y7 : Value) (cn : Nat → Int32) (bo : Nat → Option Nat) (h0 : zix w 0 = some (ob0 y6 y7)) (h1 : zix w 1 = some (td1 l f c)) (h3 : zix w 3 = some (.inl (1, 3, .inl cn))) (hrow : zix w 5 = some (rfa 4 2 bo)) (hr : -2147483648 ≤ a1 ∧ a1 ≤ 2147483647) (hc : tBy cn 1 ≤ 2) (Q : zQ) (h : Q (some (va_rf (if 0 ≤ a1 ∧ a1 < tBy cn 1 then bo a1.toNat else none))) w) : zCl zTab (d + 1) iX11_yearAt [.ref 0, .int (Int32.ofInt a1)] w 0 0 Q := by
  refine zCl_i (M := kX11_yearAt) rfl (Nat.le_of_ble_eq_true rfl) fun R hR => ?_
  refine hR (?_ : R (_, _, _, _, _, _))
  refine hR (k_lt (by omega) (fun hc1 => ?_) (fun hc1 => ?_))
  · rw [if_neg (by omega)] at h
    iterate 2 refine hR (?_ : R (_, _, _, _, _, _))
    exact hR (zret_i rfl (Nat.le_refl _) trivial h)
  iterate 2 refine hR (?_ : R (_, _, _, _, _, _))
  refine hR (c_get h0 rfl ?_)
  refine hR (c_get h1 rfl ?_)
  refine hR (?_ : R (_, _, _, _, _, _))
  refine hR (c_aldE h3 (by omega) (by omega) (Nat.le_of_ble_eq_true rfl) fun v4 ev rv => ?_)
  replace ev : v4 = tBy cn 1 := ev
  subst ev
  refine hR (j_lt (by omega) (by omega) (fun hc5 => ?_) (fun hc5 => ?_))
  rotate_left
  · rw [if_neg (by omega)] at h
    iterate 2 refine hR (?_ : R (_, _, _, _, _, _))
    exact hR (zret_i rfl (Nat.le_refl _) trivial h)
  rw [if_pos (by omega)] at h
  refine hR (?_ : R (_, _, _, _, _, _))
  refine hR (c_get h0 rfl ?_)
  refine hR (c_get h1 rfl ?_)
  refine hR (?_ : R (_, _, _, _, _, _))
  refine hR (c_rldE hrow rfl (by omega) (by omega) (Nat.le_of_ble_eq_true rfl) rfl ?_)
  cases hb : bo a1.toNat with
  | none =>
    rw [hb] at h
    exact hR (zret_i rfl (Nat.le_refl _) trivial h)
  | some z =>
    rw [hb] at h
    exact hR (zret_i rfl (Nat.le_refl _) trivial h)
def yrX (k u : Int) : tpY → Int
  | (_, _, x0, g1, g2, g3) => yrV x0 g1 g2 g3 k u
def yrXOK : tpY → Prop
  | (_, _, x0, g1, g2, g3) => 0 ≤ x0 ∧ x0 ≤ 40
theorem x_deed {w : zW} (d : Nat) (a1 a2 a3 l f c : Int) (y6 y7 : Value) (cn : Nat → Int32) (bo : Nat → Option Nat) (h0 : zix w 0 = some (ob0 y6 y7)) (h1 : zix w 1 = some (td1 l f c)) (h3 : zix w 3 = some (.inl (1, 3, .inl cn))) (hrow : zix w 5 = some (rfa 4 2 bo)) (hr1 : -2147483648 ≤ a1 ∧ a1 ≤ 2147483647) (hr2 : -2147483648 ≤ a2 ∧ a2 ≤ 2147483647) (hr3 : -2147483648 ≤ a3 ∧ a3 ≤ 2147483647) (hcn : tBy cn 1 ≤ 2) (Q : zQ) (hN : (a1 < 0 ∨ tBy cn 1 ≤ a1) → Q (some (.int (Int32.ofInt (-2)))) w) (hS : (0 ≤ a1 ∧ a1 < tBy cn 1) → ∃ b X, bo a1.toNat = some b ∧ OBY w b X ∧ yrXOK X ∧ Q (some (.int (Int32.ofInt (yrX a2 a3 X)))) w) : zCl zTab (d + 4) iX11_deed [.ref 0, .int (Int32.ofInt a1), .int (Int32.ofInt a2), .int (Int32.ofInt a3)] w 0 0 Q := by
  refine zCl_i (M := kX11_deed) rfl (Nat.le_of_ble_eq_true rfl) fun R hR => ?_
  iterate 2 refine hR (?_ : R (_, _, _, _, _, _))
  refine hR (c_obj h0 (zcall_i 0 0 (Nat.le_refl _) (Nat.le_refl _) (x_yearAt _ a1 l f c y6 y7 cn bo h0 h1 h3 hrow hr1 hcn _ ?_)))
  by_cases hc : 0 ≤ a1 ∧ a1 < tBy cn 1
  · obtain ⟨b, X, hb, hO, hok, hq⟩ := hS hc
    rw [if_pos hc, hb]
    refine (?_ : R (_, _, .ref b :: [], w, 0, 0))
    obtain ⟨f, c, x0, g1, g2, g3⟩ := X
    obtain ⟨q0, q1, q2, q3⟩ := hO
    iterate 6 refine hR (?_ : R (_, _, _, _, _, _))
    refine hR (c_obj q0 (zcall_i 0 0 (Nat.le_refl _) (Nat.le_refl _) (x_yTells _ _ b a2 a3 x0 g1 g2 g3 q0 q1 q2 q3 hok ⟨hr2, hr3⟩ _ fun v hv => ?_)))
    refine (?_ : R (_, _, .int (Int32.ofInt v) :: [], w, 0, 0))
    subst hv
    exact hR (zret_i rfl (Nat.le_refl _) trivial hq)
  · rw [if_neg hc]
    refine (?_ : R (_, _, .null :: [], w, 0, 0))
    iterate 3 refine hR (?_ : R (_, _, _, _, _, _))
    refine hR (t_c (-2) (by decide) ?_)
    refine hR (?_ : R (_, _, _, _, _, _))
    exact hR (zret_i rfl (Nat.le_refl _) trivial (hN (by omega)))
theorem x_sightAt {w : zW} (d : Nat) (a1 l f c : Int) (y6 y7 : Value) (cn : Nat → Int32) (bo : Nat → Option Nat) (h0 : zix w 0 = some (ob0 y6 y7)) (h1 : zix w 1 = some (td1 l f c)) (h3 : zix w 3 = some (.inl (1, 3, .inl cn))) (hrow : zix w 6 = some (rfa 5 2 bo)) (hr : -2147483648 ≤ a1 ∧ a1 ≤ 2147483647) (hc : tBy cn 2 ≤ 2) (Q : zQ) (h : Q (some (va_rf (if 0 ≤ a1 ∧ a1 < tBy cn 2 then bo a1.toNat else none))) w) : zCl zTab (d + 1) iX11_sightAt [.ref 0, .int (Int32.ofInt a1)] w 0 0 Q := by
  refine zCl_i (M := kX11_sightAt) rfl (Nat.le_of_ble_eq_true rfl) fun R hR => ?_
  refine hR (?_ : R (_, _, _, _, _, _))
  refine hR (k_lt (by omega) (fun hc1 => ?_) (fun hc1 => ?_))
  · rw [if_neg (by omega)] at h
    iterate 2 refine hR (?_ : R (_, _, _, _, _, _))
    exact hR (zret_i rfl (Nat.le_refl _) trivial h)
  iterate 2 refine hR (?_ : R (_, _, _, _, _, _))
  refine hR (c_get h0 rfl ?_)
  refine hR (c_get h1 rfl ?_)
  refine hR (?_ : R (_, _, _, _, _, _))
  refine hR (c_aldE h3 (by omega) (by omega) (Nat.le_of_ble_eq_true rfl) fun v4 ev rv => ?_)
  replace ev : v4 = tBy cn 2 := ev
  subst ev
  refine hR (j_lt (by omega) (by omega) (fun hc5 => ?_) (fun hc5 => ?_))
  rotate_left
  · rw [if_neg (by omega)] at h
    iterate 2 refine hR (?_ : R (_, _, _, _, _, _))
    exact hR (zret_i rfl (Nat.le_refl _) trivial h)
  rw [if_pos (by omega)] at h
  refine hR (?_ : R (_, _, _, _, _, _))
  refine hR (c_get h0 rfl ?_)
  refine hR (c_get h1 rfl ?_)
  refine hR (?_ : R (_, _, _, _, _, _))
  refine hR (c_rldE hrow rfl (by omega) (by omega) (Nat.le_of_ble_eq_true rfl) rfl ?_)
  cases hb : bo a1.toNat with
  | none =>
    rw [hb] at h
    exact hR (zret_i rfl (Nat.le_refl _) trivial h)
  | some z =>
    rw [hb] at h
    exact hR (zret_i rfl (Nat.le_refl _) trivial h)
def siX (k u : Int) : tpS → Int
  | (_, _, x0, g1, g2) => siV x0 g1 g2 k u
def siXOK : tpS → Prop
  | (_, _, x0, g1, g2) => 0 ≤ x0 ∧ x0 ≤ 6
theorem x_fact {w : zW} (d : Nat) (a1 a2 a3 l f c : Int) (y6 y7 : Value) (cn : Nat → Int32) (bo : Nat → Option Nat) (h0 : zix w 0 = some (ob0 y6 y7)) (h1 : zix w 1 = some (td1 l f c)) (h3 : zix w 3 = some (.inl (1, 3, .inl cn))) (hrow : zix w 6 = some (rfa 5 2 bo)) (hr1 : -2147483648 ≤ a1 ∧ a1 ≤ 2147483647) (hr2 : -2147483648 ≤ a2 ∧ a2 ≤ 2147483647) (hr3 : -2147483648 ≤ a3 ∧ a3 ≤ 2147483647) (hcn : tBy cn 2 ≤ 2) (Q : zQ) (hN : (a1 < 0 ∨ tBy cn 2 ≤ a1) → Q (some (.int (Int32.ofInt (-2)))) w) (hS : (0 ≤ a1 ∧ a1 < tBy cn 2) → ∃ b X, bo a1.toNat = some b ∧ OBS w b X ∧ siXOK X ∧ Q (some (.int (Int32.ofInt (siX a2 a3 X)))) w) : zCl zTab (d + 4) iX11_fact [.ref 0, .int (Int32.ofInt a1), .int (Int32.ofInt a2), .int (Int32.ofInt a3)] w 0 0 Q := by
  refine zCl_i (M := kX11_fact) rfl (Nat.le_of_ble_eq_true rfl) fun R hR => ?_
  iterate 2 refine hR (?_ : R (_, _, _, _, _, _))
  refine hR (c_obj h0 (zcall_i 0 0 (Nat.le_refl _) (Nat.le_refl _) (x_sightAt _ a1 l f c y6 y7 cn bo h0 h1 h3 hrow hr1 hcn _ ?_)))
  by_cases hc : 0 ≤ a1 ∧ a1 < tBy cn 2
  · obtain ⟨b, X, hb, hO, hok, hq⟩ := hS hc
    rw [if_pos hc, hb]
    refine (?_ : R (_, _, .ref b :: [], w, 0, 0))
    obtain ⟨f, c, x0, g1, g2⟩ := X
    obtain ⟨q0, q1, q2⟩ := hO
    iterate 6 refine hR (?_ : R (_, _, _, _, _, _))
    refine hR (c_obj q0 (zcall_i 0 0 (Nat.le_refl _) (Nat.le_refl _) (x_sTells _ _ b a2 a3 x0 g1 g2 q0 q1 q2 hok ⟨hr2, hr3⟩ _ fun v hv => ?_)))
    refine (?_ : R (_, _, .int (Int32.ofInt v) :: [], w, 0, 0))
    subst hv
    exact hR (zret_i rfl (Nat.le_refl _) trivial hq)
  · rw [if_neg hc]
    refine (?_ : R (_, _, .null :: [], w, 0, 0))
    iterate 3 refine hR (?_ : R (_, _, _, _, _, _))
    refine hR (t_c (-2) (by decide) ?_)
    refine hR (?_ : R (_, _, _, _, _, _))
    exact hR (zret_i rfl (Nat.le_refl _) trivial (hN (by omega)))
