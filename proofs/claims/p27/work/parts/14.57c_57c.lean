/-! THE LINES, exactly. -/
theorem wv_ext {g h : Nat → Int32} {s r : Int} : ∀ k : Nat, (∀ i : Int, 0 ≤ i → i < k → tBy g (s + i) = tBy h (r + i)) → wv g s k = wv h r k
  | 0, _ => rfl
  | k + 1, hh => by
    have e := wv_ext k fun i a b => hh i a (by omega)
    have e2 := hh (k : Int) (by omega) (by omega)
    show wv g s k * 256 + tBy g (s + k) = wv h r k * 256 + tBy h (r + k)
    rw [e, e2]
theorem wv_inj {g h : Nat → Int32} {s r : Int} : ∀ k m : Nat, (∀ i : Int, s ≤ i → i < s + k → 97 ≤ tBy g i ∧ tBy g i ≤ 122) → (∀ i : Int, r ≤ i → i < r + m → 97 ≤ tBy h i ∧ tBy h i ≤ 122) → wv g s k = wv h r m → k = m ∧ ∀ i : Int, 0 ≤ i → i < k → tBy g (s + i) = tBy h (r + i)
  | 0, 0, _, _, _ => ⟨rfl, fun i a b => by omega⟩
  | 0, m + 1, _, h2, e => by
    exfalso
    have b := h2 (r + m) (by omega) (by omega)
    have b2 := (wv_b m fun i x y => h2 i x (by omega)).1
    have e2 : (0 : Int) = wv h r m * 256 + tBy h (r + m) := e
    omega
  | k + 1, 0, h1, _, e => by
    exfalso
    have b := h1 (s + k) (by omega) (by omega)
    have b2 := (wv_b k fun i x y => h1 i x (by omega)).1
    have e2 : wv g s k * 256 + tBy g (s + k) = 0 := e
    omega
  | k + 1, m + 1, h1, h2, e => by
    have b := h1 (s + k) (by omega) (by omega)
    have b' := h2 (r + m) (by omega) (by omega)
    have e2 : wv g s k * 256 + tBy g (s + k) = wv h r m * 256 + tBy h (r + m) := e
    obtain ⟨e3, e4⟩ := wv_inj k m (fun i x y => h1 i x (by omega)) (fun i x y => h2 i x (by omega)) (by omega)
    subst e3
    refine ⟨rfl, fun i x y => ?_⟩
    rcases Int.lt_or_le i k with q | q
    · exact e4 i x q
    · obtain rfl : i = (k : Int) := by omega
      omega
noncomputable def wj (j : Nat) : Int := wv (fun i => chv (j + 100) (i : Int)) 0 (slen j).toNat
noncomputable def wjOK (j : Nat) : Prop := ∀ i : Nat, i < (slen j).toNat → 97 ≤ (chv (j + 100) (i : Int)).toInt ∧ (chv (j + 100) (i : Int)).toInt ≤ 122
theorem ahx {g : Nat → Int32} {s a v : Int} {j : Nat} {n : Int} (hn : wj j = n) (hj : wjOK j) (h0 : 0 ≤ s ∧ s ≤ a) (hl : ∀ i : Int, s ≤ i → i < a → 97 ≤ tBy g i ∧ tBy g i ≤ 122) (h : (v = 1 ∧ AHR g s a j) ∨ (v = 0 ∧ ¬ AHR g s a j)) : (v = 1 ∧ wv g s (a - s).toNat = n) ∨ (v = 0 ∧ wv g s (a - s).toNat ≠ n) := by
  have key : AHR g s a j ↔ wv g s (a - s).toNat = wj j := by
    constructor
    · intro ⟨e1, e2⟩
      rw [e1]
      refine wv_ext _ fun i x y => ?_
      have e3 := e2 i x (by omega)
      rw [e3]
      show _ = (chv (j + 100) (((0 + i).toNat : Nat) : Int)).toInt
      rw [show (((0 + i).toNat : Nat) : Int) = i by omega]
    · intro e
      obtain ⟨e1, e2⟩ := wv_inj _ _ (fun i x y => hl i x (by omega)) (fun i x y => by
        have := hj i.toNat (by omega)
        exact this) e
      have hs : 0 ≤ slen j := Int.natCast_nonneg _
      refine ⟨by omega, fun i x y => ?_⟩
      have e3 := e2 i x (by omega)
      rw [e3]
      show (chv (j + 100) (((0 + i).toNat : Nat) : Int)).toInt = _
      rw [show (((0 + i).toNat : Nat) : Int) = i by omega]
  rw [← hn]
  rcases h with ⟨a1, a2⟩ | ⟨a1, a2⟩
  · exact Or.inl ⟨a1, key.mp a2⟩
  · exact Or.inr ⟨a1, fun q => a2 (key.mpr q)⟩
theorem wj_1 : wj 1 = 495672977012 := by decide
theorem wo_1 : wjOK 1 := by unfold wjOK; decide
theorem wj_2 : wj 2 = 1685221232 := by decide
theorem wo_2 : wjOK 2 := by unfold wjOK; decide
theorem wj_3 : wj 3 = 110429873532005 := by decide
theorem wo_3 : wjOK 3 := by unfold wjOK; decide
theorem wj_4 : wj 4 = 1937203568 := by decide
theorem wo_4 : wjOK 4 := by unfold wjOK; decide
theorem wj_5 : wj 5 = 1953854062 := by decide
theorem wo_5 : wjOK 5 := by unfold wjOK; decide
theorem wj_6 : wj 6 = 1952807028 := by decide
theorem wo_6 : wjOK 6 := by unfold wjOK; decide
theorem wj_7 : wj 7 = 7039342 := by decide
theorem wo_7 : wjOK 7 := by unfold wjOK; decide
theorem wj_8 : wj 8 = 125779751232882 := by decide
theorem wo_8 : wjOK 8 := by unfold wjOK; decide
theorem wj_9 : wj 9 = 1936024942 := by decide
theorem wo_9 : wjOK 9 := by unfold wjOK; decide
theorem wj_10 : wj 10 = 1919246692 := by decide
theorem wo_10 : wjOK 10 := by unfold wjOK; decide
theorem wj_11 : wj 11 = 1668247673 := by decide
theorem wo_11 : wjOK 11 := by unfold wjOK; decide
theorem wj_12 : wj 12 = 1936023916 := by decide
theorem wo_12 : wjOK 12 := by unfold wjOK; decide
theorem wj_13 : wj 13 = 32199693894120037 := by decide
theorem wo_13 : wjOK 13 := by unfold wjOK; decide
theorem wj_14 : wj 14 = 1752527720 := by decide
theorem wo_14 : wjOK 14 := by unfold wjOK; decide
theorem wj_15 : wj 15 = 6578553 := by decide
theorem wo_15 : wjOK 15 := by unfold wjOK; decide
noncomputable def lnB (U : Int) : Int := if U = 495672977012 then 0 else if U = 1685221232 then 1 else if U = 110429873532005 then 2 else if U = 1937203568 then 3 else if U = 1953854062 then 4 else if U = 1952807028 then 5 else if U = 7039342 then 6 else if U = 125779751232882 then 7 else -1
noncomputable def lnY (U : Int) : Int := if U = 1919246692 then 0 else if U = 1668247673 then 1 else if U = 1936023916 then 2 else if U = 32199693894120037 then 3 else if U = 1752527720 then 4 else if U = 6578553 then 5 else -1
noncomputable def lnS (U : Int) : Int := if U = 1936024942 then 0 else -1
/-- a BOOK being told: FAULT, place, number, readers, kinOf, kin, steps, kinds, numbers -/
noncomputable abbrev tdB : Type := Int × Int × Int × (Nat → Int32) × (Nat → Int32) × (Nat → Int32) × (Nat → Int32)
noncomputable abbrev tpB : Type := Int × Int × tdB
noncomputable def bBeg (L s : Int) : tpB → tpB
  | (f, c, x0, x1, x2, g1, g2, g3, g4) =>
    if L = 5 then (f, c, 0, x1, x2, g1, g2, g3, g4)
    else if L = 7 then (if x1 < 5 then (f, c, x0, x1 + 1, x2, g1, g2, g3, g4) else (fW f c 3 s, fC f c 3 s, x0, x1, x2, g1, g2, g3, g4))
    else if L ≤ 4 then (if x1 - 1 < 0 then (fW f c 4 s, fC f c 4 s, x0, x1, x2, g1, g2, g3, g4)
      else if 4 ≤ tBy g2 (x1 - 1) then (fW f c 3 s, fC f c 3 s, x0, x1, x2, g1, g2, g3, g4)
      else (f, c, x0, x1, x2, g1, upd g2 (x1 - 1).toNat (Int32.ofInt (tBy g2 (x1 - 1) + 1)), upd g3 ((x1 - 1) * 4 + tBy g2 (x1 - 1)).toNat (Int32.ofInt L), g4))
    else (f, c, x0, x1, x2, g1, g2, g3, g4)
noncomputable def bKp (L k v : Int) : tdB → tdB
  | (x0, x1, x2, g1, g2, g3, g4) =>
    if L = 5 then (4 * x0 + 1 + v, x1, x2, g1, g2, g3, g4)
    else if L = 6 ∧ k = 0 then (x0, x1, v, g1, g2, g3, g4)
    else if L = 6 then (if 0 ≤ x2 ∧ x2 ≤ 3 then (x0, x1, x2, upd g1 x2.toNat (Int32.ofInt v), g2, g3, g4) else (x0, x1, x2, g1, g2, g3, g4))
    else if 0 ≤ x1 - 1 ∧ 0 < tBy g2 (x1 - 1) then (x0, x1, x2, g1, g2, g3, upd g4 ((x1 - 1) * 4 + tBy g2 (x1 - 1) - 1).toNat (Int32.ofInt v))
    else (x0, x1, x2, g1, g2, g3, g4)
noncomputable def bTake (L k v s : Int) : tpB → tpB
  | (f, c, D) =>
    if L = 1 ∨ L = 2 ∨ L = 3 then (if 1 ≤ v ∧ v ≤ 6 then (wI f c 1 6 v s, wJ f c 1 6 v s, bKp L k v D) else (wI f c 1 6 v s, wJ f c 1 6 v s, D))
    else if L = 5 ∧ 6 ≤ k then (fW (wI f c 0 3 v s) (wJ f c 0 3 v s) 3 s, fC (wI f c 0 3 v s) (wJ f c 0 3 v s) 3 s, D)
    else if 0 ≤ v ∧ v ≤ 3 then (wI f c 0 3 v s, wJ f c 0 3 v s, bKp L k v D) else (wI f c 0 3 v s, wJ f c 0 3 v s, D)
noncomputable def bMs (L : Int) : Int := if L = 5 then 600 else if L = 6 then 2 else if L = 7 ∨ L = 4 then 0 else 1
noncomputable def bFw (L : Int) : Int := if L = 5 then 0 else bMs L
/-- a YEAR being told: FAULT, place, deeds, kinds, ones, others -/
noncomputable abbrev tdY : Type := Int × (Nat → Int32) × (Nat → Int32) × (Nat → Int32)
noncomputable abbrev tpY : Type := Int × Int × tdY
noncomputable def yBeg (L s : Int) : tpY → tpY
  | (f, c, x0, g1, g2, g3) =>
    if 40 ≤ x0 then (fW f c 3 s, fC f c 3 s, x0, g1, g2, g3)
    else (f, c, x0 + 1, upd g1 x0.toNat (Int32.ofInt L), upd g2 x0.toNat (Int32.ofInt (-1)), upd g3 x0.toNat (Int32.ofInt (-1)))
noncomputable def yTk (L k v s hi : Int) : tpY → tpY
  | (f, c, x0, g1, g2, g3) =>
    if ¬ (0 ≤ v ∧ v ≤ hi) ∨ x0 - 1 < 0 then (wI f c 0 hi v s, wJ f c 0 hi v s, x0, g1, g2, g3)
    else if k = 0 then (wI f c 0 hi v s, wJ f c 0 hi v s, x0, g1, upd g2 (x0 - 1).toNat (Int32.ofInt v), g3)
    else if L = 1 ∧ tBy g2 (x0 - 1) = v then (fW (wI f c 0 hi v s) (wJ f c 0 hi v s) 2 s, fC (wI f c 0 hi v s) (wJ f c 0 hi v s) 2 s, x0, g1, g2, upd g3 (x0 - 1).toNat (Int32.ofInt v))
    else (wI f c 0 hi v s, wJ f c 0 hi v s, x0, g1, g2, upd g3 (x0 - 1).toNat (Int32.ofInt v))
noncomputable def yTake (L k v s : Int) (x : tpY) : tpY := if L = 0 ∧ k = 1 then yTk L k v s 4 x else yTk L k v s 3 x
noncomputable def yMs (L : Int) : Int := if L = 0 ∨ L = 1 then 2 else if L = 5 then 0 else 1
/-- a SIGHT being told: FAULT, place, facts, readings, numbers -/
noncomputable abbrev tdS : Type := Int × (Nat → Int32) × (Nat → Int32)
noncomputable abbrev tpS : Type := Int × Int × tdS
noncomputable def sBeg (L s : Int) : tpS → tpS
  | (f, c, x0, g1, g2) =>
    if 6 ≤ x0 then (fW f c 3 s, fC f c 3 s, x0, g1, g2) else (f, c, x0 + 1, g1, upd g2 x0.toNat (Int32.ofInt 0))
noncomputable def sTk (k v s hi : Int) : tpS → tpS
  | (f, c, x0, g1, g2) =>
    if 6 < k then (fW (wI f c 0 hi v s) (wJ f c 0 hi v s) 3 s, fC (wI f c 0 hi v s) (wJ f c 0 hi v s) 3 s, x0, g1, g2)
    else if (0 ≤ v ∧ v ≤ hi) ∧ 0 ≤ x0 - 1 then (if k = 0 then (wI f c 0 hi v s, wJ f c 0 hi v s, x0, upd g1 (x0 - 1).toNat (Int32.ofInt v), g2)
      else (wI f c 0 hi v s, wJ f c 0 hi v s, x0, g1, upd g2 (x0 - 1).toNat (Int32.ofInt (4 * tBy g2 (x0 - 1) + 1 + v))))
    else (wI f c 0 hi v s, wJ f c 0 hi v s, x0, g1, g2)
noncomputable def sTake (k v s : Int) (x : tpS) : tpS := if k = 0 then sTk k v s 9 x else sTk k v s 3 x
theorem x_bLineOf (w : zW) (d : Nat) (q p t : Nat) (l a k s x f c : Int) (g : Nat → Int32) (hK0 : zix w p = some (.inr (6, [.ref t, .int (Int32.ofInt l), .int (Int32.ofInt a), .int (Int32.ofInt k), .int (Int32.ofInt s), .int (Int32.ofInt x), .int (Int32.ofInt f), .int (Int32.ofInt c)]))) (hK1 : zix w t = some (.inl (0, 600, .inl g))) (hr0 : 0 ≤ s ∧ s ≤ a ∧ a ≤ l ∧ l ≤ 600) (hr1 : ∀ i : Int, s ≤ i → i < a → 97 ≤ tBy g i ∧ tBy g i ≤ 122) (Q : zQ) (h : ∀ (v : Int), (v = lnB (wv g s (a - s).toNat)) → Q (some (.int (Int32.ofInt v))) w) : zCl zTab (d + 6) iX0_lineOf [.ref q, .ref p] w 0 0 Q := by
  refine zCl_i (M := kX0_lineOf) rfl (Nat.le_of_ble_eq_true rfl) fun R hR => ?_
  iterate 2 refine hR (?_ : R (_, _, _, _, _, _))
  refine hR (c_obj hK0 (zcall_i 0 0 (Nat.le_of_ble_eq_true rfl) (Nat.le_of_ble_eq_true rfl) (x_isAtHand _ _ _ _ _ _ _ _ _ _ _ _ _ hK0 hK1 rfl (by omega) _ fun v1 hp2 => ?_)))
  refine (?_ : R (_, _, .int (Int32.ofInt v1) :: [], w, 0, 0))
  replace hp2 := ahx wj_1 wo_1 (by omega) hr1 hp2
  refine hR (k_eq (by omega) (fun hc3 => ?_) (fun hc3 => ?_))
  rotate_left
  · skip
    refine hR (?_ : R (_, _, _, _, _, _))
    exact hR (zret_i rfl (Nat.le_refl _) trivial (h _ (by unfold lnB; (repeat' split) <;> omega)))
  iterate 2 refine hR (?_ : R (_, _, _, _, _, _))
  refine hR (c_obj hK0 (zcall_i 0 0 (Nat.le_of_ble_eq_true rfl) (Nat.le_of_ble_eq_true rfl) (x_isAtHand _ _ _ _ _ _ _ _ _ _ _ _ _ hK0 hK1 rfl (by omega) _ fun v4 hp5 => ?_)))
  refine (?_ : R (_, _, .int (Int32.ofInt v4) :: [], w, 0, 0))
  replace hp5 := ahx wj_2 wo_2 (by omega) hr1 hp5
  refine hR (k_eq (by omega) (fun hc6 => ?_) (fun hc6 => ?_))
  rotate_left
  · skip
    refine hR (?_ : R (_, _, _, _, _, _))
    exact hR (zret_i rfl (Nat.le_refl _) trivial (h _ (by unfold lnB; (repeat' split) <;> omega)))
  iterate 2 refine hR (?_ : R (_, _, _, _, _, _))
  refine hR (c_obj hK0 (zcall_i 0 0 (Nat.le_of_ble_eq_true rfl) (Nat.le_of_ble_eq_true rfl) (x_isAtHand _ _ _ _ _ _ _ _ _ _ _ _ _ hK0 hK1 rfl (by omega) _ fun v7 hp8 => ?_)))
  refine (?_ : R (_, _, .int (Int32.ofInt v7) :: [], w, 0, 0))
  replace hp8 := ahx wj_3 wo_3 (by omega) hr1 hp8
  refine hR (k_eq (by omega) (fun hc9 => ?_) (fun hc9 => ?_))
  rotate_left
  · skip
    refine hR (?_ : R (_, _, _, _, _, _))
    exact hR (zret_i rfl (Nat.le_refl _) trivial (h _ (by unfold lnB; (repeat' split) <;> omega)))
  iterate 2 refine hR (?_ : R (_, _, _, _, _, _))
  refine hR (c_obj hK0 (zcall_i 0 0 (Nat.le_of_ble_eq_true rfl) (Nat.le_of_ble_eq_true rfl) (x_isAtHand _ _ _ _ _ _ _ _ _ _ _ _ _ hK0 hK1 rfl (by omega) _ fun v10 hp11 => ?_)))
  refine (?_ : R (_, _, .int (Int32.ofInt v10) :: [], w, 0, 0))
  replace hp11 := ahx wj_4 wo_4 (by omega) hr1 hp11
  refine hR (k_eq (by omega) (fun hc12 => ?_) (fun hc12 => ?_))
  rotate_left
  · skip
    refine hR (?_ : R (_, _, _, _, _, _))
    exact hR (zret_i rfl (Nat.le_refl _) trivial (h _ (by unfold lnB; (repeat' split) <;> omega)))
  iterate 2 refine hR (?_ : R (_, _, _, _, _, _))
  refine hR (c_obj hK0 (zcall_i 0 0 (Nat.le_of_ble_eq_true rfl) (Nat.le_of_ble_eq_true rfl) (x_isAtHand _ _ _ _ _ _ _ _ _ _ _ _ _ hK0 hK1 rfl (by omega) _ fun v13 hp14 => ?_)))
  refine (?_ : R (_, _, .int (Int32.ofInt v13) :: [], w, 0, 0))
  replace hp14 := ahx wj_5 wo_5 (by omega) hr1 hp14
  refine hR (k_eq (by omega) (fun hc15 => ?_) (fun hc15 => ?_))
  rotate_left
  · skip
    refine hR (?_ : R (_, _, _, _, _, _))
    exact hR (zret_i rfl (Nat.le_refl _) trivial (h _ (by unfold lnB; (repeat' split) <;> omega)))
  iterate 2 refine hR (?_ : R (_, _, _, _, _, _))
  refine hR (c_obj hK0 (zcall_i 0 0 (Nat.le_of_ble_eq_true rfl) (Nat.le_of_ble_eq_true rfl) (x_isAtHand _ _ _ _ _ _ _ _ _ _ _ _ _ hK0 hK1 rfl (by omega) _ fun v16 hp17 => ?_)))
  refine (?_ : R (_, _, .int (Int32.ofInt v16) :: [], w, 0, 0))
  replace hp17 := ahx wj_6 wo_6 (by omega) hr1 hp17
  refine hR (k_eq (by omega) (fun hc18 => ?_) (fun hc18 => ?_))
  rotate_left
  · skip
    refine hR (?_ : R (_, _, _, _, _, _))
    exact hR (zret_i rfl (Nat.le_refl _) trivial (h _ (by unfold lnB; (repeat' split) <;> omega)))
  iterate 2 refine hR (?_ : R (_, _, _, _, _, _))
  refine hR (c_obj hK0 (zcall_i 0 0 (Nat.le_of_ble_eq_true rfl) (Nat.le_of_ble_eq_true rfl) (x_isAtHand _ _ _ _ _ _ _ _ _ _ _ _ _ hK0 hK1 rfl (by omega) _ fun v19 hp20 => ?_)))
  refine (?_ : R (_, _, .int (Int32.ofInt v19) :: [], w, 0, 0))
  replace hp20 := ahx wj_7 wo_7 (by omega) hr1 hp20
  refine hR (k_eq (by omega) (fun hc21 => ?_) (fun hc21 => ?_))
  rotate_left
  · skip
    refine hR (t_c 6 (by decide) ?_)
    exact hR (zret_i rfl (Nat.le_refl _) trivial (h _ (by unfold lnB; (repeat' split) <;> omega)))
  iterate 2 refine hR (?_ : R (_, _, _, _, _, _))
  refine hR (c_obj hK0 (zcall_i 0 0 (Nat.le_of_ble_eq_true rfl) (Nat.le_of_ble_eq_true rfl) (x_isAtHand _ _ _ _ _ _ _ _ _ _ _ _ _ hK0 hK1 rfl (by omega) _ fun v22 hp23 => ?_)))
  refine (?_ : R (_, _, .int (Int32.ofInt v22) :: [], w, 0, 0))
  replace hp23 := ahx wj_8 wo_8 (by omega) hr1 hp23
  refine hR (k_eq (by omega) (fun hc24 => ?_) (fun hc24 => ?_))
  · skip
    refine hR (?_ : R (_, _, _, _, _, _))
    exact hR (zret_i rfl (Nat.le_refl _) trivial (h _ (by unfold lnB; (repeat' split) <;> omega)))
  refine hR (t_c 7 (by decide) ?_)
  refine hR (?_ : R (_, _, _, _, _, _))
  exact hR (zret_i rfl (Nat.le_refl _) trivial (h _ (by unfold lnB; (repeat' split) <;> omega)))
theorem x_bMost (w : zW) (d : Nat) (q : Nat) (a1 : Int)  (hr0 : 0 ≤ a1 ∧ a1 ≤ 7) (Q : zQ) (h : ∀ (v : Int), (v = bMs a1) → Q (some (.int (Int32.ofInt v))) w) : zCl zTab (d + 1) iX0_mostNumbers [.ref q, .int (Int32.ofInt a1)] w 0 0 Q := by
  refine zCl_i (M := kX0_mostNumbers) rfl (Nat.le_of_ble_eq_true rfl) fun R hR => ?_
  refine hR (?_ : R (_, _, _, _, _, _))
  have hl1 : a1 = 4 ∨ a1 = 5 ∨ a1 = 6 ∨ a1 = 7 ∨ (a1 ≠ 4 ∧ a1 ≠ 5 ∧ a1 ≠ 6 ∧ a1 ≠ 7) := by omega
  rcases hl1 with hl1 | hl1 | hl1 | hl1 | hl1
  · refine hR (?_ : _ ∧ _)
    rw [zti (e := a1) (by omega) (by omega)]
    refine ⟨fun hx => by omega, fun _ => ⟨39, by rw [hl1]; rfl, (?_ : R (_, _, _, _, _, _))⟩⟩
    refine hR (?_ : R (_, _, _, _, _, _))
    exact hR (zret_i rfl (Nat.le_refl _) trivial (h _ (by unfold bMs; (repeat' split) <;> omega)))
  · refine hR (?_ : _ ∧ _)
    rw [zti (e := a1) (by omega) (by omega)]
    refine ⟨fun hx => by omega, fun _ => ⟨31, by rw [hl1]; rfl, (?_ : R (_, _, _, _, _, _))⟩⟩
    refine hR (t_c 600 (by decide) ?_)
    exact hR (zret_i rfl (Nat.le_refl _) trivial (h _ (by unfold bMs; (repeat' split) <;> omega)))
  · refine hR (?_ : _ ∧ _)
    rw [zti (e := a1) (by omega) (by omega)]
    refine ⟨fun hx => by omega, fun _ => ⟨35, by rw [hl1]; rfl, (?_ : R (_, _, _, _, _, _))⟩⟩
    refine hR (?_ : R (_, _, _, _, _, _))
    exact hR (zret_i rfl (Nat.le_refl _) trivial (h _ (by unfold bMs; (repeat' split) <;> omega)))
  · refine hR (?_ : _ ∧ _)
    rw [zti (e := a1) (by omega) (by omega)]
    refine ⟨fun hx => by omega, fun _ => ⟨37, by rw [hl1]; rfl, (?_ : R (_, _, _, _, _, _))⟩⟩
    refine hR (?_ : R (_, _, _, _, _, _))
    exact hR (zret_i rfl (Nat.le_refl _) trivial (h _ (by unfold bMs; (repeat' split) <;> omega)))
  · refine hR (?_ : _ ∧ _)
    rw [zti (e := a1) (by omega) (by omega)]
    refine ⟨fun _ => (?_ : R (_, _, _, _, _, _)), fun hx => by omega⟩
    refine hR (?_ : R (_, _, _, _, _, _))
    exact hR (zret_i rfl (Nat.le_refl _) trivial (h _ (by unfold bMs; (repeat' split) <;> omega)))
theorem x_bFew (w : zW) (d : Nat) (q : Nat) (a1 : Int) (fs : List Value) (hK0 : zix w q = some (.inr (0, fs))) (hr0 : 0 ≤ a1 ∧ a1 ≤ 7) (Q : zQ) (h : ∀ (v : Int), (v = bFw a1) → Q (some (.int (Int32.ofInt v))) w) : zCl zTab (d + 2) iX0_fewestNumbers [.ref q, .int (Int32.ofInt a1)] w 0 0 Q := by
  refine zCl_i (M := kX0_fewestNumbers) rfl (Nat.le_of_ble_eq_true rfl) fun R hR => ?_
  iterate 2 refine hR (?_ : R (_, _, _, _, _, _))
  refine hR (j_ne (by omega) (by omega) (fun hc1 => ?_) (fun hc1 => ?_))
  rotate_left
  · skip
    iterate 2 refine hR (?_ : R (_, _, _, _, _, _))
    exact hR (zret_i rfl (Nat.le_refl _) trivial (h _ (by unfold bFw; (repeat' split) <;> omega)))
  iterate 2 refine hR (?_ : R (_, _, _, _, _, _))
  refine hR (c_obj hK0 (zcall_i 0 0 (Nat.le_of_ble_eq_true rfl) (Nat.le_of_ble_eq_true rfl) (x_bMost _ _ _ _ (by omega) _ fun v2 hp3 => ?_)))
  refine (?_ : R (_, _, .int (Int32.ofInt v2) :: [], w, 0, 0))
  exact hR (zret_i rfl (Nat.le_refl _) trivial (h _ (by unfold bFw; (repeat' split) <;> omega)))
theorem x_bStep (w : zW) (d : Nat) (q p t : Nat) (a1 : Int) (l a k s x f c x0 x1 x2 : Int) (g1 g2 g3 g4 : Nat → Int32) (hK0 : zix w p = some (.inr (6, [.ref t, .int (Int32.ofInt l), .int (Int32.ofInt a), .int (Int32.ofInt k), .int (Int32.ofInt s), .int (Int32.ofInt x), .int (Int32.ofInt f), .int (Int32.ofInt c)]))) (hK1 : zix w q = some (.inr (0, [.int (Int32.ofInt x0), .int (Int32.ofInt x1), .int (Int32.ofInt x2), .ref (q + 1), .ref (q + 2), .ref (q + 3), .ref (q + 4)]))) (hK2 : zix w (q + 1) = some (.inl (1, 4, .inl g1))) (hK3 : zix w (q + 2) = some (.inl (1, 5, .inl g2))) (hK4 : zix w (q + 3) = some (.inl (1, 20, .inl g3))) (hK5 : zix w (q + 4) = some (.inl (1, 20, .inl g4))) (hr0 : p < q ∧ t < q ∧ p ≠ t) (hr1 : (-2147483648 ≤ s ∧ s ≤ 2147483647) ∧ (-2147483648 ≤ f ∧ f ≤ 2147483647) ∧ (-2147483648 ≤ c ∧ c ≤ 2147483647)) (hr2 : 0 ≤ x1 ∧ x1 ≤ 5) (hr3 : ∀ i : Int, 0 ≤ tBy g2 i ∧ tBy g2 i ≤ 4) (hr4 : 0 ≤ a1 ∧ a1 ≤ 4) (Q : zQ) (h : ∀ (f' c' y0 y1 y2 : Int) (k1 k2 k3 k4 : Nat → Int32) (w' : zW), wfM (fun j => j ≠ p ∧ (j < q ∨ q + 5 ≤ j)) w w' → zix w' p = some (.inr (6, [.ref t, .int (Int32.ofInt l), .int (Int32.ofInt a), .int (Int32.ofInt k), .int (Int32.ofInt s), .int (Int32.ofInt x), .int (Int32.ofInt f'), .int (Int32.ofInt c')])) → zix w' q = some (.inr (0, [.int (Int32.ofInt y0), .int (Int32.ofInt y1), .int (Int32.ofInt y2), .ref (q + 1), .ref (q + 2), .ref (q + 3), .ref (q + 4)])) → zix w' (q + 1) = some (.inl (1, 4, .inl k1)) → zix w' (q + 2) = some (.inl (1, 5, .inl k2)) → zix w' (q + 3) = some (.inl (1, 20, .inl k3)) → zix w' (q + 4) = some (.inl (1, 20, .inl k4)) → ((f', c', y0, y1, y2, k1, k2, k3, k4) = bBeg a1 s (f, c, x0, x1, x2, g1, g2, g3, g4)) → Q (none) w') : zCl zTab (d + 2) iX0_beginStep [.ref q, .int (Int32.ofInt a1), .ref p] w 0 0 Q := by
  refine zCl_i (M := kX0_beginStep) rfl (Nat.le_of_ble_eq_true rfl) fun R hR => ?_
  have fr0 : wfM (fun j => j ≠ p ∧ (j < q ∨ q + 5 ≤ j)) w w := wfM_rf _ w
  have nX0 : FX (∀ j : Nat, (j ≠ p ∧ (j < q ∨ q + 5 ≤ j)) → j ≠ q + 3) := fun j hj => by omega
  have nX1 : FX (p ≠ q + 3) := (show p ≠ q + 3 by omega)
  have nX2 : FX (q ≠ q + 3) := (show q ≠ q + 3 by omega)
  have nX3 : FX ((q + 1) ≠ q + 3) := (show (q + 1) ≠ q + 3 by omega)
  have nX4 : FX ((q + 2) ≠ q + 3) := (show (q + 2) ≠ q + 3 by omega)
  have nX5 : FX ((q + 4) ≠ q + 3) := (show (q + 4) ≠ q + 3 by omega)
  have nX6 : FX (∀ j : Nat, (j ≠ p ∧ (j < q ∨ q + 5 ≤ j)) → j ≠ q + 2) := fun j hj => by omega
  have nX7 : FX (p ≠ q + 2) := (show p ≠ q + 2 by omega)
  have nX8 : FX (q ≠ q + 2) := (show q ≠ q + 2 by omega)
  have nX9 : FX ((q + 1) ≠ q + 2) := (show (q + 1) ≠ q + 2 by omega)
  have nX10 : FX ((q + 3) ≠ q + 2) := (show (q + 3) ≠ q + 2 by omega)
  have nX11 : FX ((q + 4) ≠ q + 2) := (show (q + 4) ≠ q + 2 by omega)
  have nX12 : FX (∀ j : Nat, (j ≠ p ∧ (j < q ∨ q + 5 ≤ j)) → (j ≠ p)) := fun j hj => by omega
  have nX13 : FX (q ≠ p) := (show q ≠ p by omega)
  have nX14 : FX ((q + 1) ≠ p) := (show (q + 1) ≠ p by omega)
  have nX15 : FX ((q + 2) ≠ p) := (show (q + 2) ≠ p by omega)
  have nX16 : FX ((q + 3) ≠ p) := (show (q + 3) ≠ p by omega)
  have nX17 : FX ((q + 4) ≠ p) := (show (q + 4) ≠ p by omega)
  refine hR (?_ : R (_, _, _, _, _, _))
  refine hR (c_get hK1 rfl ?_)
  refine hR (?_ : R (_, _, _, _, _, _))
  refine hR (t_sub ?_)
  iterate 2 refine hR (?_ : R (_, _, _, _, _, _))
  refine hR (k_ge (by omega) (fun hc1 => ?_) (fun hc1 => ?_))
  rotate_left
  · skip
    iterate 2 refine hR (?_ : R (_, _, _, _, _, _))
    refine hR (c_obj hK0 (zcall_i 0 0 (Nat.le_of_ble_eq_true rfl) (Nat.le_of_ble_eq_true rfl) (x_faultHere _ _ _ _ _ _ _ _ _ _ _ _ hK0 (by omega) _ fun f'_36 c'_37 w38 gg39 hC40 hp41 => ?_)))
    have fr42 := wfM_tr fr0 gg39 nX12
    have hC43 := (gg39.2 q nX13).trans hK1
    have hC44 := (gg39.2 (q + 1) nX14).trans hK2
    have hC45 := (gg39.2 (q + 2) nX15).trans hK3
    have hC46 := (gg39.2 (q + 3) nX16).trans hK4
    have hC47 := (gg39.2 (q + 4) nX17).trans hK5
    obtain ⟨rfl, rfl⟩ := hp41
    have hq48 := @fW_r f c 4 s (by omega)
    refine (?_ : R (_, _, [], w38, 0, 0))
    refine hR (?_ : R (_, _, _, _, _, _))
    exact hR (zret_i rfl (Nat.le_refl _) rfl (h _ _ _ _ _ _ _ _ _ _ fr42 hC40 hC43 hC44 hC45 hC46 hC47 (by unfold bBeg; dsimp only; (repeat' split) <;> first | rfl | (exfalso; omega))))
  refine hR (?_ : R (_, _, _, _, _, _))
  refine hR (c_get hK1 rfl ?_)
  refine hR (?_ : R (_, _, _, _, _, _))
  refine hR (c_aldE hK3 (by omega) (by omega) (Nat.le_of_ble_eq_true rfl) fun v2 ev2 rv2 => ?_)
  replace ev2 : v2 = tBy g2 (x1 - 1) := ev2
  subst ev2
  have hq3 := hr3 (x1 - 1)
  refine hR (?_ : R (_, _, _, _, _, _))
  refine hR (j_lt (by omega) (by omega) (fun hc4 => ?_) (fun hc4 => ?_))
  rotate_left
  · skip
    iterate 2 refine hR (?_ : R (_, _, _, _, _, _))
    refine hR (c_obj hK0 (zcall_i 0 0 (Nat.le_of_ble_eq_true rfl) (Nat.le_of_ble_eq_true rfl) (x_faultHere _ _ _ _ _ _ _ _ _ _ _ _ hK0 (by omega) _ fun f'_23 c'_24 w25 gg26 hC27 hp28 => ?_)))
    have fr29 := wfM_tr fr0 gg26 nX12
    have hC30 := (gg26.2 q nX13).trans hK1
    have hC31 := (gg26.2 (q + 1) nX14).trans hK2
    have hC32 := (gg26.2 (q + 2) nX15).trans hK3
    have hC33 := (gg26.2 (q + 3) nX16).trans hK4
    have hC34 := (gg26.2 (q + 4) nX17).trans hK5
    obtain ⟨rfl, rfl⟩ := hp28
    have hq35 := @fW_r f c 3 s (by omega)
    refine (?_ : R (_, _, [], w25, 0, 0))
    refine hR (?_ : R (_, _, _, _, _, _))
    exact hR (zret_i rfl (Nat.le_refl _) rfl (h _ _ _ _ _ _ _ _ _ _ fr29 hC27 hC30 hC31 hC32 hC33 hC34 (by unfold bBeg; dsimp only; (repeat' split) <;> first | rfl | (exfalso; omega))))
  refine hR (?_ : R (_, _, _, _, _, _))
  refine hR (c_get hK1 rfl ?_)
  iterate 2 refine hR (?_ : R (_, _, _, _, _, _))
  refine hR (t_mul ?_)
  refine hR (?_ : R (_, _, _, _, _, _))
  refine hR (c_get hK1 rfl ?_)
  refine hR (?_ : R (_, _, _, _, _, _))
  refine hR (c_aldE hK3 (by omega) (by omega) (Nat.le_of_ble_eq_true rfl) fun v5 ev5 rv5 => ?_)
  replace ev5 : v5 = tBy g2 (x1 - 1) := ev5
  subst ev5
  have hq6 := hr3 (x1 - 1)
  refine hR (t_add ?_)
  refine hR (?_ : R (_, _, _, _, _, _))
  refine hR (x_ast hK4 (by omega) (by omega) (Nat.le_of_ble_eq_true rfl) fun w7 ff7 hC7 => ?_)
  have fr8 := wfM_st fr0 ff7 nX0
  have hC9 := (ff7.2 p nX1).trans hK0
  have hC10 := (ff7.2 q nX2).trans hK1
  have hC11 := (ff7.2 (q + 1) nX3).trans hK2
  have hC12 := (ff7.2 (q + 2) nX4).trans hK3
  have hC13 := (ff7.2 (q + 4) nX5).trans hK5
  refine hR (?_ : R (_, _, _, _, _, _))
  refine hR (c_get hC10 rfl ?_)
  iterate 2 refine hR (?_ : R (_, _, _, _, _, _))
  refine hR (c_aldE hC12 (by omega) (by omega) (Nat.le_of_ble_eq_true rfl) fun v14 ev14 rv14 => ?_)
  replace ev14 : v14 = tBy g2 (x1 - 1) := ev14
  subst ev14
  have hq15 := hr3 (x1 - 1)
  refine hR (?_ : R (_, _, _, _, _, _))
  refine hR (t_add ?_)
  refine hR (x_ast hC12 (by omega) (by omega) (Nat.le_of_ble_eq_true rfl) fun w16 ff16 hC16 => ?_)
  have fr17 := wfM_st fr8 ff16 nX6
  have hC18 := (ff16.2 p nX7).trans hC9
  have hC19 := (ff16.2 q nX8).trans hC10
  have hC20 := (ff16.2 (q + 1) nX9).trans hC11
  have hC21 := (ff16.2 (q + 3) nX10).trans hC7
  have hC22 := (ff16.2 (q + 4) nX11).trans hC13
  exact hR (zret_i rfl (Nat.le_refl _) rfl (h _ _ _ _ _ _ _ _ _ _ fr17 hC18 hC19 hC20 hC16 hC21 hC22 (by unfold bBeg; dsimp only; (repeat' split) <;> first | rfl | (exfalso; omega))))
theorem x_bBegin (w : zW) (d : Nat) (q p t : Nat) (a1 : Int) (l a k s x f c x0 x1 x2 : Int) (g1 g2 g3 g4 : Nat → Int32) (hK0 : zix w p = some (.inr (6, [.ref t, .int (Int32.ofInt l), .int (Int32.ofInt a), .int (Int32.ofInt k), .int (Int32.ofInt s), .int (Int32.ofInt x), .int (Int32.ofInt f), .int (Int32.ofInt c)]))) (hK1 : zix w q = some (.inr (0, [.int (Int32.ofInt x0), .int (Int32.ofInt x1), .int (Int32.ofInt x2), .ref (q + 1), .ref (q + 2), .ref (q + 3), .ref (q + 4)]))) (hK2 : zix w (q + 1) = some (.inl (1, 4, .inl g1))) (hK3 : zix w (q + 2) = some (.inl (1, 5, .inl g2))) (hK4 : zix w (q + 3) = some (.inl (1, 20, .inl g3))) (hK5 : zix w (q + 4) = some (.inl (1, 20, .inl g4))) (hr0 : p < q ∧ t < q ∧ p ≠ t) (hr1 : (-2147483648 ≤ s ∧ s ≤ 2147483647) ∧ (-2147483648 ≤ f ∧ f ≤ 2147483647) ∧ (-2147483648 ≤ c ∧ c ≤ 2147483647)) (hr2 : 0 ≤ x1 ∧ x1 ≤ 5) (hr3 : ∀ i : Int, 0 ≤ tBy g2 i ∧ tBy g2 i ≤ 4) (hr4 : 0 ≤ a1 ∧ a1 ≤ 7) (Q : zQ) (h : ∀ (f' c' y0 y1 y2 : Int) (k1 k2 k3 k4 : Nat → Int32) (w' : zW), wfM (fun j => j ≠ p ∧ (j < q ∨ q + 5 ≤ j)) w w' → zix w' p = some (.inr (6, [.ref t, .int (Int32.ofInt l), .int (Int32.ofInt a), .int (Int32.ofInt k), .int (Int32.ofInt s), .int (Int32.ofInt x), .int (Int32.ofInt f'), .int (Int32.ofInt c')])) → zix w' q = some (.inr (0, [.int (Int32.ofInt y0), .int (Int32.ofInt y1), .int (Int32.ofInt y2), .ref (q + 1), .ref (q + 2), .ref (q + 3), .ref (q + 4)])) → zix w' (q + 1) = some (.inl (1, 4, .inl k1)) → zix w' (q + 2) = some (.inl (1, 5, .inl k2)) → zix w' (q + 3) = some (.inl (1, 20, .inl k3)) → zix w' (q + 4) = some (.inl (1, 20, .inl k4)) → ((f', c', y0, y1, y2, k1, k2, k3, k4) = bBeg a1 s (f, c, x0, x1, x2, g1, g2, g3, g4)) → Q (none) w') : zCl zTab (d + 3) iX0_beginLine [.ref q, .int (Int32.ofInt a1), .ref p] w 0 0 Q := by
  refine zCl_i (M := kX0_beginLine) rfl (Nat.le_of_ble_eq_true rfl) fun R hR => ?_
  have fr0 : wfM (fun j => j ≠ p ∧ (j < q ∨ q + 5 ≤ j)) w w := wfM_rf _ w
  have nX0 : FX (p < q ∧ t < q ∧ p ≠ t) := (show p < q ∧ t < q ∧ p ≠ t by omega)
  have nX1 : FX (∀ j : Nat, (j ≠ p ∧ (j < q ∨ q + 5 ≤ j)) → (j ≠ p ∧ (j < q ∨ q + 5 ≤ j))) := fun j hj => by omega
  have nX2 : FX (∀ j : Nat, (j ≠ p ∧ (j < q ∨ q + 5 ≤ j)) → (j ≠ p)) := fun j hj => by omega
  have nX3 : FX (q ≠ p) := (show q ≠ p by omega)
  have nX4 : FX ((q + 1) ≠ p) := (show (q + 1) ≠ p by omega)
  have nX5 : FX ((q + 2) ≠ p) := (show (q + 2) ≠ p by omega)
  have nX6 : FX ((q + 3) ≠ p) := (show (q + 3) ≠ p by omega)
  have nX7 : FX ((q + 4) ≠ p) := (show (q + 4) ≠ p by omega)
  have nX8 : FX (∀ j : Nat, (j ≠ p ∧ (j < q ∨ q + 5 ≤ j)) → j ≠ q) := fun j hj => by omega
  have nX9 : FX (p ≠ q) := (show p ≠ q by omega)
  have nX10 : FX ((q + 1) ≠ q) := (show (q + 1) ≠ q by omega)
  have nX11 : FX ((q + 2) ≠ q) := (show (q + 2) ≠ q by omega)
  have nX12 : FX ((q + 3) ≠ q) := (show (q + 3) ≠ q by omega)
  have nX13 : FX ((q + 4) ≠ q) := (show (q + 4) ≠ q by omega)
  iterate 2 refine hR (?_ : R (_, _, _, _, _, _))
  refine hR (j_ne (by omega) (by omega) (fun hc1 => ?_) (fun hc1 => ?_))
  rotate_left
  · skip
    iterate 2 refine hR (?_ : R (_, _, _, _, _, _))
    refine hR (c_put hK1 rfl rfl fun w44 ff44 hC44 => ?_)
    have fr45 := wfM_st fr0 ff44 nX8
    have hC46 := (ff44.2 p nX9).trans hK0
    have hC47 := (ff44.2 (q + 1) nX10).trans hK2
    have hC48 := (ff44.2 (q + 2) nX11).trans hK3
    have hC49 := (ff44.2 (q + 3) nX12).trans hK4
    have hC50 := (ff44.2 (q + 4) nX13).trans hK5
    replace hC44 : zix w44 q = some (.inr (0, [.int (Int32.ofInt 0), .int (Int32.ofInt x1), .int (Int32.ofInt x2), .ref (q + 1), .ref (q + 2), .ref (q + 3), .ref (q + 4)])) := hC44
    refine hR (?_ : R (_, _, _, _, _, _))
    exact hR (zret_i rfl (Nat.le_refl _) rfl (h _ _ _ _ _ _ _ _ _ _ fr45 hC46 hC44 hC47 hC48 hC49 hC50 (by unfold bBeg; dsimp only; (repeat' split) <;> first | rfl | (exfalso; omega))))
  refine hR (?_ : R (_, _, _, _, _, _))
  refine hR (t_c 7 (by decide) ?_)
  refine hR (j_ne (by omega) (by omega) (fun hc2 => ?_) (fun hc2 => ?_))
  · skip
    iterate 2 refine hR (?_ : R (_, _, _, _, _, _))
    refine hR (j_gt (by omega) (by omega) (fun hc3 => ?_) (fun hc3 => ?_))
    · skip
      exact hR (zret_i rfl (Nat.le_refl _) rfl (h _ _ _ _ _ _ _ _ _ _ fr0 hK0 hK1 hK2 hK3 hK4 hK5 (by unfold bBeg; dsimp only; (repeat' split) <;> first | rfl | (exfalso; omega))))
    iterate 3 refine hR (?_ : R (_, _, _, _, _, _))
    refine hR (c_obj hK1 (zcall_i 0 0 (Nat.le_of_ble_eq_true rfl) (Nat.le_of_ble_eq_true rfl) (x_bStep _ _ _ _ _ _ _ _ _ _ _ _ _ _ _ _ _ _ _ _ hK0 hK1 hK2 hK3 hK4 hK5 (show p < q ∧ t < q ∧ p ≠ t from nX0) (by omega) (by omega) hr3 (by omega) _ fun f'_4 c'_5 y0_6 y1_7 y2_8 k1_9 k2_10 k3_11 k4_12 w13 gg14 hC15 hC16 hC17 hC18 hC19 hC20 hp21 => ?_)))
    have fr22 := wfM_tr fr0 gg14 nX1
    refine (?_ : R (_, _, [], w13, 0, 0))
    exact hR (zret_i rfl (Nat.le_refl _) rfl (h _ _ _ _ _ _ _ _ _ _ fr22 hC15 hC16 hC17 hC18 hC19 hC20 hp21))
  refine hR (?_ : R (_, _, _, _, _, _))
  refine hR (c_get hK1 rfl ?_)
  refine hR (?_ : R (_, _, _, _, _, _))
  refine hR (j_ge (by omega) (by omega) (fun hc23 => ?_) (fun hc23 => ?_))
  · skip
    iterate 2 refine hR (?_ : R (_, _, _, _, _, _))
    refine hR (c_obj hK0 (zcall_i 0 0 (Nat.le_of_ble_eq_true rfl) (Nat.le_of_ble_eq_true rfl) (x_faultHere _ _ _ _ _ _ _ _ _ _ _ _ hK0 (by omega) _ fun f'_24 c'_25 w26 gg27 hC28 hp29 => ?_)))
    have fr30 := wfM_tr fr0 gg27 nX2
    have hC31 := (gg27.2 q nX3).trans hK1
    have hC32 := (gg27.2 (q + 1) nX4).trans hK2
    have hC33 := (gg27.2 (q + 2) nX5).trans hK3
    have hC34 := (gg27.2 (q + 3) nX6).trans hK4
    have hC35 := (gg27.2 (q + 4) nX7).trans hK5
    obtain ⟨rfl, rfl⟩ := hp29
    have hq36 := @fW_r f c 3 s (by omega)
    refine (?_ : R (_, _, [], w26, 0, 0))
    refine hR (?_ : R (_, _, _, _, _, _))
    exact hR (zret_i rfl (Nat.le_refl _) rfl (h _ _ _ _ _ _ _ _ _ _ fr30 hC28 hC31 hC32 hC33 hC34 hC35 (by unfold bBeg; dsimp only; (repeat' split) <;> first | rfl | (exfalso; omega))))
  iterate 2 refine hR (?_ : R (_, _, _, _, _, _))
  refine hR (c_get hK1 rfl ?_)
  refine hR (?_ : R (_, _, _, _, _, _))
  refine hR (t_add ?_)
  refine hR (c_put hK1 rfl rfl fun w37 ff37 hC37 => ?_)
  have fr38 := wfM_st fr0 ff37 nX8
  have hC39 := (ff37.2 p nX9).trans hK0
  have hC40 := (ff37.2 (q + 1) nX10).trans hK2
  have hC41 := (ff37.2 (q + 2) nX11).trans hK3
  have hC42 := (ff37.2 (q + 3) nX12).trans hK4
  have hC43 := (ff37.2 (q + 4) nX13).trans hK5
  replace hC37 : zix w37 q = some (.inr (0, [.int (Int32.ofInt x0), .int (Int32.ofInt (x1 + 1)), .int (Int32.ofInt x2), .ref (q + 1), .ref (q + 2), .ref (q + 3), .ref (q + 4)])) := hC37
  refine hR (?_ : R (_, _, _, _, _, _))
  exact hR (zret_i rfl (Nat.le_refl _) rfl (h _ _ _ _ _ _ _ _ _ _ fr38 hC39 hC37 hC40 hC41 hC42 hC43 (by unfold bBeg; dsimp only; (repeat' split) <;> first | rfl | (exfalso; omega))))
theorem x_bKeep (w : zW) (d : Nat) (q : Nat) (a1 a2 a3 : Int) (x0 x1 x2 : Int) (g1 g2 g3 g4 : Nat → Int32) (hK0 : zix w q = some (.inr (0, [.int (Int32.ofInt x0), .int (Int32.ofInt x1), .int (Int32.ofInt x2), .ref (q + 1), .ref (q + 2), .ref (q + 3), .ref (q + 4)]))) (hK1 : zix w (q + 1) = some (.inl (1, 4, .inl g1))) (hK2 : zix w (q + 2) = some (.inl (1, 5, .inl g2))) (hK3 : zix w (q + 3) = some (.inl (1, 20, .inl g3))) (hK4 : zix w (q + 4) = some (.inl (1, 20, .inl g4))) (hr0 : 0 ≤ x1 ∧ x1 ≤ 5) (hr1 : ∀ i : Int, 0 ≤ tBy g2 i ∧ tBy g2 i ≤ 4) (hr2 : 0 ≤ a1 ∧ a1 ≤ 7) (hr3 : (-2147483648 ≤ a2 ∧ a2 ≤ 2147483647) ∧ (-2147483648 ≤ a3 ∧ a3 ≤ 2147483647) ∧ (-2147483648 ≤ x2 ∧ x2 ≤ 2147483647)) (Q : zQ) (h : ∀ (y0 y1 y2 : Int) (k1 k2 k3 k4 : Nat → Int32) (w' : zW), wfM (fun j => (j < q ∨ q + 5 ≤ j)) w w' → zix w' q = some (.inr (0, [.int (Int32.ofInt y0), .int (Int32.ofInt y1), .int (Int32.ofInt y2), .ref (q + 1), .ref (q + 2), .ref (q + 3), .ref (q + 4)])) → zix w' (q + 1) = some (.inl (1, 4, .inl k1)) → zix w' (q + 2) = some (.inl (1, 5, .inl k2)) → zix w' (q + 3) = some (.inl (1, 20, .inl k3)) → zix w' (q + 4) = some (.inl (1, 20, .inl k4)) → ((y0, y1, y2, k1, k2, k3, k4) = bKp a1 a2 a3 (x0, x1, x2, g1, g2, g3, g4)) → Q (none) w') : zCl zTab (d + 2) iX0_keepNumber [.ref q, .int (Int32.ofInt a1), .int (Int32.ofInt a2), .int (Int32.ofInt a3)] w 0 0 Q := by
  refine zCl_i (M := kX0_keepNumber) rfl (Nat.le_of_ble_eq_true rfl) fun R hR => ?_
  have fr0 : wfM (fun j => (j < q ∨ q + 5 ≤ j)) w w := wfM_rf _ w
  have nX0 : FX (∀ j : Nat, ((j < q ∨ q + 5 ≤ j)) → j ≠ q + 4) := fun j hj => by omega
  have nX1 : FX (q ≠ q + 4) := (show q ≠ q + 4 by omega)
  have nX2 : FX ((q + 1) ≠ q + 4) := (show (q + 1) ≠ q + 4 by omega)
  have nX3 : FX ((q + 2) ≠ q + 4) := (show (q + 2) ≠ q + 4 by omega)
  have nX4 : FX ((q + 3) ≠ q + 4) := (show (q + 3) ≠ q + 4 by omega)
  have nX5 : FX (∀ j : Nat, ((j < q ∨ q + 5 ≤ j)) → j ≠ q + 1) := fun j hj => by omega
  have nX6 : FX (q ≠ q + 1) := (show q ≠ q + 1 by omega)
  have nX7 : FX ((q + 2) ≠ q + 1) := (show (q + 2) ≠ q + 1 by omega)
  have nX8 : FX ((q + 3) ≠ q + 1) := (show (q + 3) ≠ q + 1 by omega)
  have nX9 : FX ((q + 4) ≠ q + 1) := (show (q + 4) ≠ q + 1 by omega)
  have nX10 : FX (∀ j : Nat, ((j < q ∨ q + 5 ≤ j)) → j ≠ q) := fun j hj => by omega
  have nX11 : FX ((q + 1) ≠ q) := (show (q + 1) ≠ q by omega)
  have nX12 : FX ((q + 2) ≠ q) := (show (q + 2) ≠ q by omega)
  have nX13 : FX ((q + 3) ≠ q) := (show (q + 3) ≠ q by omega)
  have nX14 : FX ((q + 4) ≠ q) := (show (q + 4) ≠ q by omega)
  refine hR (?_ : R (_, _, _, _, _, _))
  refine hR (c_get hK0 rfl ?_)
  refine hR (?_ : R (_, _, _, _, _, _))
  refine hR (t_sub ?_)
  iterate 3 refine hR (?_ : R (_, _, _, _, _, _))
  refine hR (j_ne (by omega) (by omega) (fun hc1 => ?_) (fun hc1 => ?_))
  rotate_left
  · skip
    iterate 2 refine hR (?_ : R (_, _, _, _, _, _))
    refine hR (c_get hK0 rfl ?_)
    refine hR (?_ : R (_, _, _, _, _, _))
    refine hR (zcall_i 0 0 (Nat.le_of_ble_eq_true rfl) (Nat.le_of_ble_eq_true rfl) (c_longer _ _ x0 a3 _ fun v31 hp32 => ?_))
    subst hp32
    refine (?_ : R (_, _, .int (Int32.ofInt (4 * x0 + 1 + a3)) :: .ref q :: [], w, 0, 0))
    refine hR (c_put hK0 rfl rfl fun w33 ff33 hC33 => ?_)
    have fr34 := wfM_st fr0 ff33 nX10
    have hC35 := (ff33.2 (q + 1) nX11).trans hK1
    have hC36 := (ff33.2 (q + 2) nX12).trans hK2
    have hC37 := (ff33.2 (q + 3) nX13).trans hK3
    have hC38 := (ff33.2 (q + 4) nX14).trans hK4
    replace hC33 : zix w33 q = some (.inr (0, [.int (Int32.ofInt (4 * x0 + 1 + a3)), .int (Int32.ofInt x1), .int (Int32.ofInt x2), .ref (q + 1), .ref (q + 2), .ref (q + 3), .ref (q + 4)])) := hC33
    refine hR (?_ : R (_, _, _, _, _, _))
    exact hR (zret_i rfl (Nat.le_refl _) rfl (h _ _ _ _ _ _ _ _ fr34 hC33 hC35 hC36 hC37 hC38 (by unfold bKp; dsimp only; (repeat' split) <;> first | rfl | (exfalso; omega))))
  refine hR (?_ : R (_, _, _, _, _, _))
  refine hR (t_c 6 (by decide) ?_)
  refine hR (j_ne (by omega) (by omega) (fun hc2 => ?_) (fun hc2 => ?_))
  rotate_left
  · skip
    refine hR (?_ : R (_, _, _, _, _, _))
    refine hR (k_ne (by omega) (fun hc15 => ?_) (fun hc15 => ?_))
    rotate_left
    · skip
      iterate 2 refine hR (?_ : R (_, _, _, _, _, _))
      refine hR (c_put hK0 rfl rfl fun w25 ff25 hC25 => ?_)
      have fr26 := wfM_st fr0 ff25 nX10
      have hC27 := (ff25.2 (q + 1) nX11).trans hK1
      have hC28 := (ff25.2 (q + 2) nX12).trans hK2
      have hC29 := (ff25.2 (q + 3) nX13).trans hK3
      have hC30 := (ff25.2 (q + 4) nX14).trans hK4
      replace hC25 : zix w25 q = some (.inr (0, [.int (Int32.ofInt x0), .int (Int32.ofInt x1), .int (Int32.ofInt a3), .ref (q + 1), .ref (q + 2), .ref (q + 3), .ref (q + 4)])) := hC25
      refine hR (?_ : R (_, _, _, _, _, _))
      exact hR (zret_i rfl (Nat.le_refl _) rfl (h _ _ _ _ _ _ _ _ fr26 hC25 hC27 hC28 hC29 hC30 (by unfold bKp; dsimp only; (repeat' split) <;> first | rfl | (exfalso; omega))))
    refine hR (?_ : R (_, _, _, _, _, _))
    refine hR (t_c 6 (by decide) ?_)
    refine hR (j_ne (by omega) (by omega) (fun hc => by omega) (fun _ => ?_))
    refine hR (?_ : R (_, _, _, _, _, _))
    refine hR (c_get hK0 rfl ?_)
    refine hR (zcall_i 0 0 (Nat.le_of_ble_eq_true rfl) (Nat.le_of_ble_eq_true rfl) (c_isWord _ _ x2 (by omega) _ fun v16 hp17 => ?_))
    refine (?_ : R (_, _, .int (Int32.ofInt v16) :: [], w, 0, 0))
    refine hR (k_eq (by omega) (fun hc18 => ?_) (fun hc18 => ?_))
    · skip
      exact hR (zret_i rfl (Nat.le_refl _) rfl (h _ _ _ _ _ _ _ _ fr0 hK0 hK1 hK2 hK3 hK4 (by unfold bKp; dsimp only; (repeat' split) <;> first | rfl | (exfalso; omega))))
    refine hR (?_ : R (_, _, _, _, _, _))
    refine hR (c_get hK0 rfl ?_)
    refine hR (?_ : R (_, _, _, _, _, _))
    refine hR (c_get hK0 rfl ?_)
    refine hR (?_ : R (_, _, _, _, _, _))
    refine hR (x_ast hK1 (by omega) (by omega) (Nat.le_of_ble_eq_true rfl) fun w19 ff19 hC19 => ?_)
    have fr20 := wfM_st fr0 ff19 nX5
    have hC21 := (ff19.2 q nX6).trans hK0
    have hC22 := (ff19.2 (q + 2) nX7).trans hK2
    have hC23 := (ff19.2 (q + 3) nX8).trans hK3
    have hC24 := (ff19.2 (q + 4) nX9).trans hK4
    refine hR (?_ : R (_, _, _, _, _, _))
    exact hR (zret_i rfl (Nat.le_refl _) rfl (h _ _ _ _ _ _ _ _ fr20 hC21 hC19 hC22 hC23 hC24 (by unfold bKp; dsimp only; (repeat' split) <;> first | rfl | (exfalso; omega))))
  refine hR (?_ : R (_, _, _, _, _, _))
  refine hR (t_c 6 (by decide) ?_)
  refine hR (j_ne (by omega) (by omega) (fun _ => ?_) (fun hc => by omega))
  refine hR (?_ : R (_, _, _, _, _, _))
  refine hR (k_lt (by omega) (fun hc3 => ?_) (fun hc3 => ?_))
  · skip
    exact hR (zret_i rfl (Nat.le_refl _) rfl (h _ _ _ _ _ _ _ _ fr0 hK0 hK1 hK2 hK3 hK4 (by unfold bKp; dsimp only; (repeat' split) <;> first | rfl | (exfalso; omega))))
  refine hR (?_ : R (_, _, _, _, _, _))
  refine hR (c_get hK0 rfl ?_)
  refine hR (?_ : R (_, _, _, _, _, _))
  refine hR (c_aldE hK2 (by omega) (by omega) (Nat.le_of_ble_eq_true rfl) fun v4 ev4 rv4 => ?_)
  replace ev4 : v4 = tBy g2 (x1 - 1) := ev4
  subst ev4
  have hq5 := hr1 (x1 - 1)
  refine hR (k_le (by omega) (fun hc6 => ?_) (fun hc6 => ?_))
  · skip
    exact hR (zret_i rfl (Nat.le_refl _) rfl (h _ _ _ _ _ _ _ _ fr0 hK0 hK1 hK2 hK3 hK4 (by unfold bKp; dsimp only; (repeat' split) <;> first | rfl | (exfalso; omega))))
  refine hR (?_ : R (_, _, _, _, _, _))
  refine hR (c_get hK0 rfl ?_)
  iterate 2 refine hR (?_ : R (_, _, _, _, _, _))
  refine hR (t_mul ?_)
  refine hR (?_ : R (_, _, _, _, _, _))
  refine hR (c_get hK0 rfl ?_)
  refine hR (?_ : R (_, _, _, _, _, _))
  refine hR (c_aldE hK2 (by omega) (by omega) (Nat.le_of_ble_eq_true rfl) fun v7 ev7 rv7 => ?_)
  replace ev7 : v7 = tBy g2 (x1 - 1) := ev7
  subst ev7
  have hq8 := hr1 (x1 - 1)
  refine hR (t_add ?_)
  refine hR (?_ : R (_, _, _, _, _, _))
  refine hR (t_sub ?_)
  refine hR (?_ : R (_, _, _, _, _, _))
  refine hR (x_ast hK4 (by omega) (by omega) (Nat.le_of_ble_eq_true rfl) fun w9 ff9 hC9 => ?_)
  have fr10 := wfM_st fr0 ff9 nX0
  have hC11 := (ff9.2 q nX1).trans hK0
  have hC12 := (ff9.2 (q + 1) nX2).trans hK1
  have hC13 := (ff9.2 (q + 2) nX3).trans hK2
  have hC14 := (ff9.2 (q + 3) nX4).trans hK3
  exact hR (zret_i rfl (Nat.le_refl _) rfl (h _ _ _ _ _ _ _ _ fr10 hC11 hC12 hC13 hC14 hC9 (by unfold bKp; dsimp only; (repeat' split) <;> first | rfl | (exfalso; omega))))
theorem x_bTakeN (w : zW) (d : Nat) (q p t : Nat) (a1 a2 : Int) (l a k s x f c x0 x1 x2 : Int) (g1 g2 g3 g4 : Nat → Int32) (hK0 : zix w p = some (.inr (6, [.ref t, .int (Int32.ofInt l), .int (Int32.ofInt a), .int (Int32.ofInt k), .int (Int32.ofInt s), .int (Int32.ofInt x), .int (Int32.ofInt f), .int (Int32.ofInt c)]))) (hK1 : zix w q = some (.inr (0, [.int (Int32.ofInt x0), .int (Int32.ofInt x1), .int (Int32.ofInt x2), .ref (q + 1), .ref (q + 2), .ref (q + 3), .ref (q + 4)]))) (hK2 : zix w (q + 1) = some (.inl (1, 4, .inl g1))) (hK3 : zix w (q + 2) = some (.inl (1, 5, .inl g2))) (hK4 : zix w (q + 3) = some (.inl (1, 20, .inl g3))) (hK5 : zix w (q + 4) = some (.inl (1, 20, .inl g4))) (hr0 : p < q ∧ t < q ∧ p ≠ t) (hr1 : (-2147483648 ≤ s ∧ s ≤ 2147483647) ∧ (-2147483648 ≤ f ∧ f ≤ 2147483647) ∧ (-2147483648 ≤ c ∧ c ≤ 2147483647)) (hr2 : 0 ≤ x1 ∧ x1 ≤ 5) (hr3 : ∀ i : Int, 0 ≤ tBy g2 i ∧ tBy g2 i ≤ 4) (hr4 : 0 ≤ a1 ∧ a1 ≤ 7) (hr5 : (-2147483648 ≤ a2 ∧ a2 ≤ 2147483647) ∧ (-2147483648 ≤ x ∧ x ≤ 2147483647) ∧ (-2147483648 ≤ x2 ∧ x2 ≤ 2147483647)) (Q : zQ) (h : ∀ (f' c' y0 y1 y2 : Int) (k1 k2 k3 k4 : Nat → Int32) (w' : zW), wfM (fun j => j ≠ p ∧ (j < q ∨ q + 5 ≤ j)) w w' → zix w' p = some (.inr (6, [.ref t, .int (Int32.ofInt l), .int (Int32.ofInt a), .int (Int32.ofInt k), .int (Int32.ofInt s), .int (Int32.ofInt x), .int (Int32.ofInt f'), .int (Int32.ofInt c')])) → zix w' q = some (.inr (0, [.int (Int32.ofInt y0), .int (Int32.ofInt y1), .int (Int32.ofInt y2), .ref (q + 1), .ref (q + 2), .ref (q + 3), .ref (q + 4)])) → zix w' (q + 1) = some (.inl (1, 4, .inl k1)) → zix w' (q + 2) = some (.inl (1, 5, .inl k2)) → zix w' (q + 3) = some (.inl (1, 20, .inl k3)) → zix w' (q + 4) = some (.inl (1, 20, .inl k4)) → ((f', c', y0, y1, y2, k1, k2, k3, k4) = bTake a1 a2 x s (f, c, x0, x1, x2, g1, g2, g3, g4)) → Q (none) w') : zCl zTab (d + 3) iX0_takeNumber [.ref q, .int (Int32.ofInt a1), .int (Int32.ofInt a2), .ref p] w 0 0 Q := by
  refine zCl_i (M := kX0_takeNumber) rfl (Nat.le_of_ble_eq_true rfl) fun R hR => ?_
  have fr0 : wfM (fun j => j ≠ p ∧ (j < q ∨ q + 5 ≤ j)) w w := wfM_rf _ w
  have nX0 : FX (∀ j : Nat, (j ≠ p ∧ (j < q ∨ q + 5 ≤ j)) → (j ≠ p)) := fun j hj => by omega
  have nX1 : FX (q ≠ p) := (show q ≠ p by omega)
  have nX2 : FX ((q + 1) ≠ p) := (show (q + 1) ≠ p by omega)
  have nX3 : FX ((q + 2) ≠ p) := (show (q + 2) ≠ p by omega)
  have nX4 : FX ((q + 3) ≠ p) := (show (q + 3) ≠ p by omega)
  have nX5 : FX ((q + 4) ≠ p) := (show (q + 4) ≠ p by omega)
  have nX6 : FX (∀ j : Nat, (j ≠ p ∧ (j < q ∨ q + 5 ≤ j)) → ((j < q ∨ q + 5 ≤ j))) := fun j hj => by omega
  have nX7 : FX ((p < q ∨ q + 5 ≤ p)) := (show (p < q ∨ q + 5 ≤ p) by omega)
  iterate 2 refine hR (?_ : R (_, _, _, _, _, _))
  refine hR (j_eq (by omega) (by omega) (fun hc1 => ?_) (fun hc1 => ?_))
  · skip
    iterate 5 refine hR (?_ : R (_, _, _, _, _, _))
    refine hR (k_eq (by omega) (fun hc => by omega) (fun _ => ?_))
    iterate 3 refine hR (?_ : R (_, _, _, _, _, _))
    refine hR (k_eq (by omega) (fun hc => by omega) (fun _ => ?_))
    refine hR (t_c 6 (by decide) ?_)
    refine hR (?_ : R (_, _, _, _, _, _))
    refine hR (c_obj hK0 (zcall_i 0 0 (Nat.le_of_ble_eq_true rfl) (Nat.le_of_ble_eq_true rfl) (x_isWithin _ _ _ _ _ _ _ _ _ _ _ _ _ hK0 (by omega) _ fun v2 f'_3 c'_4 w5 gg6 hC7 hp8 hp9 => ?_)))
    have fr10 := wfM_tr fr0 gg6 nX0
    have hC11 := (gg6.2 q nX1).trans hK1
    have hC12 := (gg6.2 (q + 1) nX2).trans hK2
    have hC13 := (gg6.2 (q + 2) nX3).trans hK3
    have hC14 := (gg6.2 (q + 3) nX4).trans hK4
    have hC15 := (gg6.2 (q + 4) nX5).trans hK5
    obtain ⟨rfl, rfl⟩ := hp9
    have hq16 := @wI_r f c 1 6 x s (by omega)
    refine (?_ : R (_, _, .int (Int32.ofInt v2) :: [], w5, 0, 0))
    iterate 3 refine hR (?_ : R (_, _, _, _, _, _))
    refine hR (j_ne (by omega) (by omega) (fun hc17 => ?_) (fun hc17 => ?_))
    · skip
      refine hR (?_ : R (_, _, _, _, _, _))
      refine hR (k_eq (by omega) (fun hc18 => ?_) (fun hc18 => ?_))
      · skip
        exact hR (zret_i rfl (Nat.le_refl _) rfl (h _ _ _ _ _ _ _ _ _ _ fr10 hC7 hC11 hC12 hC13 hC14 hC15 (by unfold bTake; dsimp only; (repeat' split) <;> first | rfl | (exfalso; omega))))
      iterate 4 refine hR (?_ : R (_, _, _, _, _, _))
      refine hR (c_get hC7 rfl ?_)
      refine hR (c_obj hC11 (zcall_i 0 0 (Nat.le_of_ble_eq_true rfl) (Nat.le_of_ble_eq_true rfl) (x_bKeep _ _ _ _ _ _ _ _ _ _ _ _ _ hC11 hC12 hC13 hC14 hC15 (by omega) hr3 (by omega) (by omega) _ fun y0_19 y1_20 y2_21 k1_22 k2_23 k3_24 k4_25 w26 gg27 hC28 hC29 hC30 hC31 hC32 hp33 => ?_)))
      have fr34 := wfM_tr fr10 gg27 nX6
      have hC35 := (gg27.2 p nX7).trans hC7
      refine (?_ : R (_, _, [], w26, 0, 0))
      exact hR (zret_i rfl (Nat.le_refl _) rfl (h _ _ _ _ _ _ _ _ _ _ fr34 hC35 hC28 hC29 hC30 hC31 hC32 (by unfold bTake; dsimp only; (repeat' split) <;> first | rfl | (exfalso; omega) | (rw [← hp33]))))
    refine hR (?_ : R (_, _, _, _, _, _))
    refine hR (t_c 6 (by decide) ?_)
    refine hR (j_lt (by omega) (by omega) (fun hc36 => ?_) (fun hc36 => ?_))
    · skip
      refine hR (?_ : R (_, _, _, _, _, _))
      refine hR (k_eq (by omega) (fun hc37 => ?_) (fun hc37 => ?_))
      · skip
        exact hR (zret_i rfl (Nat.le_refl _) rfl (h _ _ _ _ _ _ _ _ _ _ fr10 hC7 hC11 hC12 hC13 hC14 hC15 (by unfold bTake; dsimp only; (repeat' split) <;> first | rfl | (exfalso; omega))))
      iterate 4 refine hR (?_ : R (_, _, _, _, _, _))
      refine hR (c_get hC7 rfl ?_)
      refine hR (c_obj hC11 (zcall_i 0 0 (Nat.le_of_ble_eq_true rfl) (Nat.le_of_ble_eq_true rfl) (x_bKeep _ _ _ _ _ _ _ _ _ _ _ _ _ hC11 hC12 hC13 hC14 hC15 (by omega) hr3 (by omega) (by omega) _ fun y0_38 y1_39 y2_40 k1_41 k2_42 k3_43 k4_44 w45 gg46 hC47 hC48 hC49 hC50 hC51 hp52 => ?_)))
      have fr53 := wfM_tr fr10 gg46 nX6
      have hC54 := (gg46.2 p nX7).trans hC7
      refine (?_ : R (_, _, [], w45, 0, 0))
      exact hR (zret_i rfl (Nat.le_refl _) rfl (h _ _ _ _ _ _ _ _ _ _ fr53 hC54 hC47 hC48 hC49 hC50 hC51 (by unfold bTake; dsimp only; (repeat' split) <;> first | rfl | (exfalso; omega) | (rw [← hp52]))))
    iterate 2 refine hR (?_ : R (_, _, _, _, _, _))
    refine hR (c_obj hC7 (zcall_i 0 0 (Nat.le_of_ble_eq_true rfl) (Nat.le_of_ble_eq_true rfl) (x_faultHere _ _ _ _ _ _ _ _ _ _ _ _ hC7 (by omega) _ fun f'_55 c'_56 w57 gg58 hC59 hp60 => ?_)))
    have fr61 := wfM_tr fr10 gg58 nX0
    have hC62 := (gg58.2 q nX1).trans hC11
    have hC63 := (gg58.2 (q + 1) nX2).trans hC12
    have hC64 := (gg58.2 (q + 2) nX3).trans hC13
    have hC65 := (gg58.2 (q + 3) nX4).trans hC14
    have hC66 := (gg58.2 (q + 4) nX5).trans hC15
    obtain ⟨rfl, rfl⟩ := hp60
    have hq67 := @fW_r (wI f c 1 6 x s) (wJ f c 1 6 x s) 3 s (by omega)
    refine (?_ : R (_, _, [], w57, 0, 0))
    refine hR (?_ : R (_, _, _, _, _, _))
    exact hR (zret_i rfl (Nat.le_refl _) rfl (h _ _ _ _ _ _ _ _ _ _ fr61 hC59 hC62 hC63 hC64 hC65 hC66 (by unfold bTake; dsimp only; (repeat' split) <;> first | rfl | (exfalso; omega))))
  iterate 2 refine hR (?_ : R (_, _, _, _, _, _))
  refine hR (j_eq (by omega) (by omega) (fun hc68 => ?_) (fun hc68 => ?_))
  · skip
    iterate 5 refine hR (?_ : R (_, _, _, _, _, _))
    refine hR (k_eq (by omega) (fun hc => by omega) (fun _ => ?_))
    iterate 3 refine hR (?_ : R (_, _, _, _, _, _))
    refine hR (k_eq (by omega) (fun hc => by omega) (fun _ => ?_))
    refine hR (t_c 6 (by decide) ?_)
    refine hR (?_ : R (_, _, _, _, _, _))
    refine hR (c_obj hK0 (zcall_i 0 0 (Nat.le_of_ble_eq_true rfl) (Nat.le_of_ble_eq_true rfl) (x_isWithin _ _ _ _ _ _ _ _ _ _ _ _ _ hK0 (by omega) _ fun v69 f'_70 c'_71 w72 gg73 hC74 hp75 hp76 => ?_)))
    have fr77 := wfM_tr fr0 gg73 nX0
    have hC78 := (gg73.2 q nX1).trans hK1
    have hC79 := (gg73.2 (q + 1) nX2).trans hK2
    have hC80 := (gg73.2 (q + 2) nX3).trans hK3
    have hC81 := (gg73.2 (q + 3) nX4).trans hK4
    have hC82 := (gg73.2 (q + 4) nX5).trans hK5
    obtain ⟨rfl, rfl⟩ := hp76
    have hq83 := @wI_r f c 1 6 x s (by omega)
    refine (?_ : R (_, _, .int (Int32.ofInt v69) :: [], w72, 0, 0))
    iterate 3 refine hR (?_ : R (_, _, _, _, _, _))
    refine hR (j_ne (by omega) (by omega) (fun hc84 => ?_) (fun hc84 => ?_))
    · skip
      refine hR (?_ : R (_, _, _, _, _, _))
      refine hR (k_eq (by omega) (fun hc85 => ?_) (fun hc85 => ?_))
      · skip
        exact hR (zret_i rfl (Nat.le_refl _) rfl (h _ _ _ _ _ _ _ _ _ _ fr77 hC74 hC78 hC79 hC80 hC81 hC82 (by unfold bTake; dsimp only; (repeat' split) <;> first | rfl | (exfalso; omega))))
      iterate 4 refine hR (?_ : R (_, _, _, _, _, _))
      refine hR (c_get hC74 rfl ?_)
      refine hR (c_obj hC78 (zcall_i 0 0 (Nat.le_of_ble_eq_true rfl) (Nat.le_of_ble_eq_true rfl) (x_bKeep _ _ _ _ _ _ _ _ _ _ _ _ _ hC78 hC79 hC80 hC81 hC82 (by omega) hr3 (by omega) (by omega) _ fun y0_86 y1_87 y2_88 k1_89 k2_90 k3_91 k4_92 w93 gg94 hC95 hC96 hC97 hC98 hC99 hp100 => ?_)))
      have fr101 := wfM_tr fr77 gg94 nX6
      have hC102 := (gg94.2 p nX7).trans hC74
      refine (?_ : R (_, _, [], w93, 0, 0))
      exact hR (zret_i rfl (Nat.le_refl _) rfl (h _ _ _ _ _ _ _ _ _ _ fr101 hC102 hC95 hC96 hC97 hC98 hC99 (by unfold bTake; dsimp only; (repeat' split) <;> first | rfl | (exfalso; omega) | (rw [← hp100]))))
    refine hR (?_ : R (_, _, _, _, _, _))
    refine hR (t_c 6 (by decide) ?_)
    refine hR (j_lt (by omega) (by omega) (fun hc103 => ?_) (fun hc103 => ?_))
    · skip
      refine hR (?_ : R (_, _, _, _, _, _))
      refine hR (k_eq (by omega) (fun hc104 => ?_) (fun hc104 => ?_))
      · skip
        exact hR (zret_i rfl (Nat.le_refl _) rfl (h _ _ _ _ _ _ _ _ _ _ fr77 hC74 hC78 hC79 hC80 hC81 hC82 (by unfold bTake; dsimp only; (repeat' split) <;> first | rfl | (exfalso; omega))))
      iterate 4 refine hR (?_ : R (_, _, _, _, _, _))
      refine hR (c_get hC74 rfl ?_)
      refine hR (c_obj hC78 (zcall_i 0 0 (Nat.le_of_ble_eq_true rfl) (Nat.le_of_ble_eq_true rfl) (x_bKeep _ _ _ _ _ _ _ _ _ _ _ _ _ hC78 hC79 hC80 hC81 hC82 (by omega) hr3 (by omega) (by omega) _ fun y0_105 y1_106 y2_107 k1_108 k2_109 k3_110 k4_111 w112 gg113 hC114 hC115 hC116 hC117 hC118 hp119 => ?_)))
      have fr120 := wfM_tr fr77 gg113 nX6
      have hC121 := (gg113.2 p nX7).trans hC74
      refine (?_ : R (_, _, [], w112, 0, 0))
      exact hR (zret_i rfl (Nat.le_refl _) rfl (h _ _ _ _ _ _ _ _ _ _ fr120 hC121 hC114 hC115 hC116 hC117 hC118 (by unfold bTake; dsimp only; (repeat' split) <;> first | rfl | (exfalso; omega) | (rw [← hp119]))))
    iterate 2 refine hR (?_ : R (_, _, _, _, _, _))
    refine hR (c_obj hC74 (zcall_i 0 0 (Nat.le_of_ble_eq_true rfl) (Nat.le_of_ble_eq_true rfl) (x_faultHere _ _ _ _ _ _ _ _ _ _ _ _ hC74 (by omega) _ fun f'_122 c'_123 w124 gg125 hC126 hp127 => ?_)))
    have fr128 := wfM_tr fr77 gg125 nX0
    have hC129 := (gg125.2 q nX1).trans hC78
    have hC130 := (gg125.2 (q + 1) nX2).trans hC79
    have hC131 := (gg125.2 (q + 2) nX3).trans hC80
    have hC132 := (gg125.2 (q + 3) nX4).trans hC81
    have hC133 := (gg125.2 (q + 4) nX5).trans hC82
    obtain ⟨rfl, rfl⟩ := hp127
    have hq134 := @fW_r (wI f c 1 6 x s) (wJ f c 1 6 x s) 3 s (by omega)
    refine (?_ : R (_, _, [], w124, 0, 0))
    refine hR (?_ : R (_, _, _, _, _, _))
    exact hR (zret_i rfl (Nat.le_refl _) rfl (h _ _ _ _ _ _ _ _ _ _ fr128 hC126 hC129 hC130 hC131 hC132 hC133 (by unfold bTake; dsimp only; (repeat' split) <;> first | rfl | (exfalso; omega))))
  iterate 2 refine hR (?_ : R (_, _, _, _, _, _))
  refine hR (j_ne (by omega) (by omega) (fun hc135 => ?_) (fun hc135 => ?_))
  · skip
    iterate 4 refine hR (?_ : R (_, _, _, _, _, _))
    refine hR (k_eq (by omega) (fun _ => ?_) (fun hc => by omega))
    iterate 2 refine hR (?_ : R (_, _, _, _, _, _))
    refine hR (k_eq (by omega) (fun _ => ?_) (fun hc => by omega))
    refine hR (?_ : R (_, _, _, _, _, _))
    refine hR (c_obj hK0 (zcall_i 0 0 (Nat.le_of_ble_eq_true rfl) (Nat.le_of_ble_eq_true rfl) (x_isWithin _ _ _ _ _ _ _ _ _ _ _ _ _ hK0 (by omega) _ fun v136 f'_137 c'_138 w139 gg140 hC141 hp142 hp143 => ?_)))
    have fr144 := wfM_tr fr0 gg140 nX0
    have hC145 := (gg140.2 q nX1).trans hK1
    have hC146 := (gg140.2 (q + 1) nX2).trans hK2
    have hC147 := (gg140.2 (q + 2) nX3).trans hK3
    have hC148 := (gg140.2 (q + 3) nX4).trans hK4
    have hC149 := (gg140.2 (q + 4) nX5).trans hK5
    obtain ⟨rfl, rfl⟩ := hp143
    have hq150 := @wI_r f c 0 3 x s (by omega)
    refine (?_ : R (_, _, .int (Int32.ofInt v136) :: [], w139, 0, 0))
    iterate 3 refine hR (?_ : R (_, _, _, _, _, _))
    refine hR (j_ne (by omega) (by omega) (fun hc151 => ?_) (fun hc151 => ?_))
    · skip
      refine hR (?_ : R (_, _, _, _, _, _))
      refine hR (k_eq (by omega) (fun hc152 => ?_) (fun hc152 => ?_))
      · skip
        exact hR (zret_i rfl (Nat.le_refl _) rfl (h _ _ _ _ _ _ _ _ _ _ fr144 hC141 hC145 hC146 hC147 hC148 hC149 (by unfold bTake; dsimp only; (repeat' split) <;> first | rfl | (exfalso; omega))))
      iterate 4 refine hR (?_ : R (_, _, _, _, _, _))
      refine hR (c_get hC141 rfl ?_)
      refine hR (c_obj hC145 (zcall_i 0 0 (Nat.le_of_ble_eq_true rfl) (Nat.le_of_ble_eq_true rfl) (x_bKeep _ _ _ _ _ _ _ _ _ _ _ _ _ hC145 hC146 hC147 hC148 hC149 (by omega) hr3 (by omega) (by omega) _ fun y0_153 y1_154 y2_155 k1_156 k2_157 k3_158 k4_159 w160 gg161 hC162 hC163 hC164 hC165 hC166 hp167 => ?_)))
      have fr168 := wfM_tr fr144 gg161 nX6
      have hC169 := (gg161.2 p nX7).trans hC141
      refine (?_ : R (_, _, [], w160, 0, 0))
      exact hR (zret_i rfl (Nat.le_refl _) rfl (h _ _ _ _ _ _ _ _ _ _ fr168 hC169 hC162 hC163 hC164 hC165 hC166 (by unfold bTake; dsimp only; (repeat' split) <;> first | rfl | (exfalso; omega) | (rw [← hp167]))))
    refine hR (?_ : R (_, _, _, _, _, _))
    refine hR (t_c 6 (by decide) ?_)
    refine hR (j_lt (by omega) (by omega) (fun hc170 => ?_) (fun hc170 => ?_))
    · skip
      refine hR (?_ : R (_, _, _, _, _, _))
      refine hR (k_eq (by omega) (fun hc171 => ?_) (fun hc171 => ?_))
      · skip
        exact hR (zret_i rfl (Nat.le_refl _) rfl (h _ _ _ _ _ _ _ _ _ _ fr144 hC141 hC145 hC146 hC147 hC148 hC149 (by unfold bTake; dsimp only; (repeat' split) <;> first | rfl | (exfalso; omega))))
      iterate 4 refine hR (?_ : R (_, _, _, _, _, _))
      refine hR (c_get hC141 rfl ?_)
      refine hR (c_obj hC145 (zcall_i 0 0 (Nat.le_of_ble_eq_true rfl) (Nat.le_of_ble_eq_true rfl) (x_bKeep _ _ _ _ _ _ _ _ _ _ _ _ _ hC145 hC146 hC147 hC148 hC149 (by omega) hr3 (by omega) (by omega) _ fun y0_172 y1_173 y2_174 k1_175 k2_176 k3_177 k4_178 w179 gg180 hC181 hC182 hC183 hC184 hC185 hp186 => ?_)))
      have fr187 := wfM_tr fr144 gg180 nX6
      have hC188 := (gg180.2 p nX7).trans hC141
      refine (?_ : R (_, _, [], w179, 0, 0))
      exact hR (zret_i rfl (Nat.le_refl _) rfl (h _ _ _ _ _ _ _ _ _ _ fr187 hC188 hC181 hC182 hC183 hC184 hC185 (by unfold bTake; dsimp only; (repeat' split) <;> first | rfl | (exfalso; omega) | (rw [← hp186]))))
    iterate 2 refine hR (?_ : R (_, _, _, _, _, _))
    refine hR (c_obj hC141 (zcall_i 0 0 (Nat.le_of_ble_eq_true rfl) (Nat.le_of_ble_eq_true rfl) (x_faultHere _ _ _ _ _ _ _ _ _ _ _ _ hC141 (by omega) _ fun f'_189 c'_190 w191 gg192 hC193 hp194 => ?_)))
    have fr195 := wfM_tr fr144 gg192 nX0
    have hC196 := (gg192.2 q nX1).trans hC145
    have hC197 := (gg192.2 (q + 1) nX2).trans hC146
    have hC198 := (gg192.2 (q + 2) nX3).trans hC147
    have hC199 := (gg192.2 (q + 3) nX4).trans hC148
    have hC200 := (gg192.2 (q + 4) nX5).trans hC149
    obtain ⟨rfl, rfl⟩ := hp194
    have hq201 := @fW_r (wI f c 0 3 x s) (wJ f c 0 3 x s) 3 s (by omega)
    refine (?_ : R (_, _, [], w191, 0, 0))
    refine hR (?_ : R (_, _, _, _, _, _))
    exact hR (zret_i rfl (Nat.le_refl _) rfl (h _ _ _ _ _ _ _ _ _ _ fr195 hC193 hC196 hC197 hC198 hC199 hC200 (by unfold bTake; dsimp only; (repeat' split) <;> first | rfl | (exfalso; omega))))
  iterate 5 refine hR (?_ : R (_, _, _, _, _, _))
  refine hR (k_eq (by omega) (fun hc => by omega) (fun _ => ?_))
  iterate 3 refine hR (?_ : R (_, _, _, _, _, _))
  refine hR (k_eq (by omega) (fun hc => by omega) (fun _ => ?_))
  refine hR (t_c 6 (by decide) ?_)
  refine hR (?_ : R (_, _, _, _, _, _))
  refine hR (c_obj hK0 (zcall_i 0 0 (Nat.le_of_ble_eq_true rfl) (Nat.le_of_ble_eq_true rfl) (x_isWithin _ _ _ _ _ _ _ _ _ _ _ _ _ hK0 (by omega) _ fun v202 f'_203 c'_204 w205 gg206 hC207 hp208 hp209 => ?_)))
  have fr210 := wfM_tr fr0 gg206 nX0
  have hC211 := (gg206.2 q nX1).trans hK1
  have hC212 := (gg206.2 (q + 1) nX2).trans hK2
  have hC213 := (gg206.2 (q + 2) nX3).trans hK3
  have hC214 := (gg206.2 (q + 3) nX4).trans hK4
  have hC215 := (gg206.2 (q + 4) nX5).trans hK5
  obtain ⟨rfl, rfl⟩ := hp209
  have hq216 := @wI_r f c 1 6 x s (by omega)
  refine (?_ : R (_, _, .int (Int32.ofInt v202) :: [], w205, 0, 0))
  iterate 3 refine hR (?_ : R (_, _, _, _, _, _))
  refine hR (j_ne (by omega) (by omega) (fun hc217 => ?_) (fun hc217 => ?_))
  · skip
    refine hR (?_ : R (_, _, _, _, _, _))
    refine hR (k_eq (by omega) (fun hc218 => ?_) (fun hc218 => ?_))
    · skip
      exact hR (zret_i rfl (Nat.le_refl _) rfl (h _ _ _ _ _ _ _ _ _ _ fr210 hC207 hC211 hC212 hC213 hC214 hC215 (by unfold bTake; dsimp only; (repeat' split) <;> first | rfl | (exfalso; omega))))
    iterate 4 refine hR (?_ : R (_, _, _, _, _, _))
    refine hR (c_get hC207 rfl ?_)
    refine hR (c_obj hC211 (zcall_i 0 0 (Nat.le_of_ble_eq_true rfl) (Nat.le_of_ble_eq_true rfl) (x_bKeep _ _ _ _ _ _ _ _ _ _ _ _ _ hC211 hC212 hC213 hC214 hC215 (by omega) hr3 (by omega) (by omega) _ fun y0_219 y1_220 y2_221 k1_222 k2_223 k3_224 k4_225 w226 gg227 hC228 hC229 hC230 hC231 hC232 hp233 => ?_)))
    have fr234 := wfM_tr fr210 gg227 nX6
    have hC235 := (gg227.2 p nX7).trans hC207
    refine (?_ : R (_, _, [], w226, 0, 0))
    exact hR (zret_i rfl (Nat.le_refl _) rfl (h _ _ _ _ _ _ _ _ _ _ fr234 hC235 hC228 hC229 hC230 hC231 hC232 (by unfold bTake; dsimp only; (repeat' split) <;> first | rfl | (exfalso; omega) | (rw [← hp233]))))
  refine hR (?_ : R (_, _, _, _, _, _))
  refine hR (t_c 6 (by decide) ?_)
  refine hR (j_lt (by omega) (by omega) (fun hc236 => ?_) (fun hc236 => ?_))
  · skip
    refine hR (?_ : R (_, _, _, _, _, _))
    refine hR (k_eq (by omega) (fun hc237 => ?_) (fun hc237 => ?_))
    · skip
      exact hR (zret_i rfl (Nat.le_refl _) rfl (h _ _ _ _ _ _ _ _ _ _ fr210 hC207 hC211 hC212 hC213 hC214 hC215 (by unfold bTake; dsimp only; (repeat' split) <;> first | rfl | (exfalso; omega))))
    iterate 4 refine hR (?_ : R (_, _, _, _, _, _))
    refine hR (c_get hC207 rfl ?_)
    refine hR (c_obj hC211 (zcall_i 0 0 (Nat.le_of_ble_eq_true rfl) (Nat.le_of_ble_eq_true rfl) (x_bKeep _ _ _ _ _ _ _ _ _ _ _ _ _ hC211 hC212 hC213 hC214 hC215 (by omega) hr3 (by omega) (by omega) _ fun y0_238 y1_239 y2_240 k1_241 k2_242 k3_243 k4_244 w245 gg246 hC247 hC248 hC249 hC250 hC251 hp252 => ?_)))
    have fr253 := wfM_tr fr210 gg246 nX6
    have hC254 := (gg246.2 p nX7).trans hC207
    refine (?_ : R (_, _, [], w245, 0, 0))
    exact hR (zret_i rfl (Nat.le_refl _) rfl (h _ _ _ _ _ _ _ _ _ _ fr253 hC254 hC247 hC248 hC249 hC250 hC251 (by unfold bTake; dsimp only; (repeat' split) <;> first | rfl | (exfalso; omega) | (rw [← hp252]))))
  iterate 2 refine hR (?_ : R (_, _, _, _, _, _))
  refine hR (c_obj hC207 (zcall_i 0 0 (Nat.le_of_ble_eq_true rfl) (Nat.le_of_ble_eq_true rfl) (x_faultHere _ _ _ _ _ _ _ _ _ _ _ _ hC207 (by omega) _ fun f'_255 c'_256 w257 gg258 hC259 hp260 => ?_)))
  have fr261 := wfM_tr fr210 gg258 nX0
  have hC262 := (gg258.2 q nX1).trans hC211
  have hC263 := (gg258.2 (q + 1) nX2).trans hC212
  have hC264 := (gg258.2 (q + 2) nX3).trans hC213
  have hC265 := (gg258.2 (q + 3) nX4).trans hC214
  have hC266 := (gg258.2 (q + 4) nX5).trans hC215
  obtain ⟨rfl, rfl⟩ := hp260
  have hq267 := @fW_r (wI f c 1 6 x s) (wJ f c 1 6 x s) 3 s (by omega)
  refine (?_ : R (_, _, [], w257, 0, 0))
  refine hR (?_ : R (_, _, _, _, _, _))
  exact hR (zret_i rfl (Nat.le_refl _) rfl (h _ _ _ _ _ _ _ _ _ _ fr261 hC259 hC262 hC263 hC264 hC265 hC266 (by unfold bTake; dsimp only; (repeat' split) <;> first | rfl | (exfalso; omega))))
theorem x_yLineOf (w : zW) (d : Nat) (q p t : Nat) (l a k s x f c : Int) (g : Nat → Int32) (hK0 : zix w p = some (.inr (6, [.ref t, .int (Int32.ofInt l), .int (Int32.ofInt a), .int (Int32.ofInt k), .int (Int32.ofInt s), .int (Int32.ofInt x), .int (Int32.ofInt f), .int (Int32.ofInt c)]))) (hK1 : zix w t = some (.inl (0, 600, .inl g))) (hr0 : 0 ≤ s ∧ s ≤ a ∧ a ≤ l ∧ l ≤ 600) (hr1 : ∀ i : Int, s ≤ i → i < a → 97 ≤ tBy g i ∧ tBy g i ≤ 122) (Q : zQ) (h : ∀ (v : Int), (v = lnY (wv g s (a - s).toNat)) → Q (some (.int (Int32.ofInt v))) w) : zCl zTab (d + 6) iX10_lineOf [.ref q, .ref p] w 0 0 Q := by
  refine zCl_i (M := kX10_lineOf) rfl (Nat.le_of_ble_eq_true rfl) fun R hR => ?_
  iterate 2 refine hR (?_ : R (_, _, _, _, _, _))
  refine hR (c_obj hK0 (zcall_i 0 0 (Nat.le_of_ble_eq_true rfl) (Nat.le_of_ble_eq_true rfl) (x_isAtHand _ _ _ _ _ _ _ _ _ _ _ _ _ hK0 hK1 rfl (by omega) _ fun v1 hp2 => ?_)))
  refine (?_ : R (_, _, .int (Int32.ofInt v1) :: [], w, 0, 0))
  replace hp2 := ahx wj_10 wo_10 (by omega) hr1 hp2
  refine hR (k_eq (by omega) (fun hc3 => ?_) (fun hc3 => ?_))
  rotate_left
  · skip
    refine hR (?_ : R (_, _, _, _, _, _))
    exact hR (zret_i rfl (Nat.le_refl _) trivial (h _ (by unfold lnY; (repeat' split) <;> omega)))
  iterate 2 refine hR (?_ : R (_, _, _, _, _, _))
  refine hR (c_obj hK0 (zcall_i 0 0 (Nat.le_of_ble_eq_true rfl) (Nat.le_of_ble_eq_true rfl) (x_isAtHand _ _ _ _ _ _ _ _ _ _ _ _ _ hK0 hK1 rfl (by omega) _ fun v4 hp5 => ?_)))
  refine (?_ : R (_, _, .int (Int32.ofInt v4) :: [], w, 0, 0))
  replace hp5 := ahx wj_11 wo_11 (by omega) hr1 hp5
  refine hR (k_eq (by omega) (fun hc6 => ?_) (fun hc6 => ?_))
  rotate_left
  · skip
    refine hR (?_ : R (_, _, _, _, _, _))
    exact hR (zret_i rfl (Nat.le_refl _) trivial (h _ (by unfold lnY; (repeat' split) <;> omega)))
  iterate 2 refine hR (?_ : R (_, _, _, _, _, _))
  refine hR (c_obj hK0 (zcall_i 0 0 (Nat.le_of_ble_eq_true rfl) (Nat.le_of_ble_eq_true rfl) (x_isAtHand _ _ _ _ _ _ _ _ _ _ _ _ _ hK0 hK1 rfl (by omega) _ fun v7 hp8 => ?_)))
  refine (?_ : R (_, _, .int (Int32.ofInt v7) :: [], w, 0, 0))
  replace hp8 := ahx wj_12 wo_12 (by omega) hr1 hp8
  refine hR (k_eq (by omega) (fun hc9 => ?_) (fun hc9 => ?_))
  rotate_left
  · skip
    refine hR (?_ : R (_, _, _, _, _, _))
    exact hR (zret_i rfl (Nat.le_refl _) trivial (h _ (by unfold lnY; (repeat' split) <;> omega)))
  iterate 2 refine hR (?_ : R (_, _, _, _, _, _))
  refine hR (c_obj hK0 (zcall_i 0 0 (Nat.le_of_ble_eq_true rfl) (Nat.le_of_ble_eq_true rfl) (x_isAtHand _ _ _ _ _ _ _ _ _ _ _ _ _ hK0 hK1 rfl (by omega) _ fun v10 hp11 => ?_)))
  refine (?_ : R (_, _, .int (Int32.ofInt v10) :: [], w, 0, 0))
  replace hp11 := ahx wj_13 wo_13 (by omega) hr1 hp11
  refine hR (k_eq (by omega) (fun hc12 => ?_) (fun hc12 => ?_))
  rotate_left
  · skip
    refine hR (?_ : R (_, _, _, _, _, _))
    exact hR (zret_i rfl (Nat.le_refl _) trivial (h _ (by unfold lnY; (repeat' split) <;> omega)))
  iterate 2 refine hR (?_ : R (_, _, _, _, _, _))
  refine hR (c_obj hK0 (zcall_i 0 0 (Nat.le_of_ble_eq_true rfl) (Nat.le_of_ble_eq_true rfl) (x_isAtHand _ _ _ _ _ _ _ _ _ _ _ _ _ hK0 hK1 rfl (by omega) _ fun v13 hp14 => ?_)))
  refine (?_ : R (_, _, .int (Int32.ofInt v13) :: [], w, 0, 0))
  replace hp14 := ahx wj_14 wo_14 (by omega) hr1 hp14
  refine hR (k_eq (by omega) (fun hc15 => ?_) (fun hc15 => ?_))
  rotate_left
  · skip
    refine hR (?_ : R (_, _, _, _, _, _))
    exact hR (zret_i rfl (Nat.le_refl _) trivial (h _ (by unfold lnY; (repeat' split) <;> omega)))
  iterate 2 refine hR (?_ : R (_, _, _, _, _, _))
  refine hR (c_obj hK0 (zcall_i 0 0 (Nat.le_of_ble_eq_true rfl) (Nat.le_of_ble_eq_true rfl) (x_isAtHand _ _ _ _ _ _ _ _ _ _ _ _ _ hK0 hK1 rfl (by omega) _ fun v16 hp17 => ?_)))
  refine (?_ : R (_, _, .int (Int32.ofInt v16) :: [], w, 0, 0))
  replace hp17 := ahx wj_15 wo_15 (by omega) hr1 hp17
  refine hR (k_eq (by omega) (fun hc18 => ?_) (fun hc18 => ?_))
  · skip
    refine hR (?_ : R (_, _, _, _, _, _))
    exact hR (zret_i rfl (Nat.le_refl _) trivial (h _ (by unfold lnY; (repeat' split) <;> omega)))
  iterate 2 refine hR (?_ : R (_, _, _, _, _, _))
  exact hR (zret_i rfl (Nat.le_refl _) trivial (h _ (by unfold lnY; (repeat' split) <;> omega)))
theorem x_yMost (w : zW) (d : Nat) (q : Nat) (a1 : Int)  (hr0 : 0 ≤ a1 ∧ a1 ≤ 5) (Q : zQ) (h : ∀ (v : Int), (v = yMs a1) → Q (some (.int (Int32.ofInt v))) w) : zCl zTab (d + 1) iX10_mostNumbers [.ref q, .int (Int32.ofInt a1)] w 0 0 Q := by
  refine zCl_i (M := kX10_mostNumbers) rfl (Nat.le_of_ble_eq_true rfl) fun R hR => ?_
  refine hR (?_ : R (_, _, _, _, _, _))
  have hl1 : a1 = 0 ∨ a1 = 1 ∨ a1 = 5 ∨ (a1 ≠ 0 ∧ a1 ≠ 1 ∧ a1 ≠ 5) := by omega
  rcases hl1 with hl1 | hl1 | hl1 | hl1
  · refine hR (t_pc (pc2 := 36) (by rw [zti (e := a1) (by omega) (by omega)]; show (((1 : Nat) : Int) + Op.lookupswitch.offset [(0, 35), (1, 37), (5, 39)] 41 a1).toNat = 36; simp only [Op.lookupswitch.offset_cons]; (repeat' split) <;> first | omega | rfl) ?_)
    refine hR (?_ : R (_, _, _, _, _, _))
    exact hR (zret_i rfl (Nat.le_refl _) trivial (h _ (by unfold yMs; (repeat' split) <;> omega)))
  · refine hR (t_pc (pc2 := 38) (by rw [zti (e := a1) (by omega) (by omega)]; show (((1 : Nat) : Int) + Op.lookupswitch.offset [(0, 35), (1, 37), (5, 39)] 41 a1).toNat = 38; simp only [Op.lookupswitch.offset_cons]; (repeat' split) <;> first | omega | rfl) ?_)
    refine hR (?_ : R (_, _, _, _, _, _))
    exact hR (zret_i rfl (Nat.le_refl _) trivial (h _ (by unfold yMs; (repeat' split) <;> omega)))
  · refine hR (t_pc (pc2 := 40) (by rw [zti (e := a1) (by omega) (by omega)]; show (((1 : Nat) : Int) + Op.lookupswitch.offset [(0, 35), (1, 37), (5, 39)] 41 a1).toNat = 40; simp only [Op.lookupswitch.offset_cons]; (repeat' split) <;> first | omega | rfl) ?_)
    refine hR (?_ : R (_, _, _, _, _, _))
    exact hR (zret_i rfl (Nat.le_refl _) trivial (h _ (by unfold yMs; (repeat' split) <;> omega)))
  · refine hR (t_pc (pc2 := 42) (by rw [zti (e := a1) (by omega) (by omega)]; show (((1 : Nat) : Int) + Op.lookupswitch.offset [(0, 35), (1, 37), (5, 39)] 41 a1).toNat = 42; simp only [Op.lookupswitch.offset_cons]; (repeat' split) <;> first | omega | rfl) ?_)
    refine hR (?_ : R (_, _, _, _, _, _))
    exact hR (zret_i rfl (Nat.le_refl _) trivial (h _ (by unfold yMs; (repeat' split) <;> omega)))
theorem x_yFew (w : zW) (d : Nat) (q : Nat) (a1 : Int) (fs : List Value) (hK0 : zix w q = some (.inr (9, fs))) (hr0 : 0 ≤ a1 ∧ a1 ≤ 5) (Q : zQ) (h : ∀ (v : Int), (v = yMs a1) → Q (some (.int (Int32.ofInt v))) w) : zCl zTab (d + 2) iX10_fewestNumbers [.ref q, .int (Int32.ofInt a1)] w 0 0 Q := by
  refine zCl_i (M := kX10_fewestNumbers) rfl (Nat.le_of_ble_eq_true rfl) fun R hR => ?_
  iterate 2 refine hR (?_ : R (_, _, _, _, _, _))
  refine hR (c_obj hK0 (zcall_i 0 0 (Nat.le_of_ble_eq_true rfl) (Nat.le_of_ble_eq_true rfl) (x_yMost _ _ _ _ (by omega) _ fun v1 hp2 => ?_)))
  refine (?_ : R (_, _, .int (Int32.ofInt v1) :: [], w, 0, 0))
  exact hR (zret_i rfl (Nat.le_refl _) trivial (h _ (by omega)))
theorem x_yBegin (w : zW) (d : Nat) (q p t : Nat) (a1 : Int) (l a k s x f c x0 : Int) (g1 g2 g3 : Nat → Int32) (hK0 : zix w p = some (.inr (6, [.ref t, .int (Int32.ofInt l), .int (Int32.ofInt a), .int (Int32.ofInt k), .int (Int32.ofInt s), .int (Int32.ofInt x), .int (Int32.ofInt f), .int (Int32.ofInt c)]))) (hK1 : zix w q = some (.inr (9, [.int (Int32.ofInt x0), .ref (q + 1), .ref (q + 2), .ref (q + 3)]))) (hK2 : zix w (q + 1) = some (.inl (1, 40, .inl g1))) (hK3 : zix w (q + 2) = some (.inl (1, 40, .inl g2))) (hK4 : zix w (q + 3) = some (.inl (1, 40, .inl g3))) (hr0 : p < q ∧ t < q ∧ p ≠ t) (hr1 : (-2147483648 ≤ s ∧ s ≤ 2147483647) ∧ (-2147483648 ≤ f ∧ f ≤ 2147483647) ∧ (-2147483648 ≤ c ∧ c ≤ 2147483647)) (hr2 : 0 ≤ x0 ∧ x0 ≤ 40) (hr3 : 0 ≤ a1 ∧ a1 ≤ 5) (Q : zQ) (h : ∀ (f' c' y0 : Int) (k1 k2 k3 : Nat → Int32) (w' : zW), wfM (fun j => j ≠ p ∧ (j < q ∨ q + 4 ≤ j)) w w' → zix w' p = some (.inr (6, [.ref t, .int (Int32.ofInt l), .int (Int32.ofInt a), .int (Int32.ofInt k), .int (Int32.ofInt s), .int (Int32.ofInt x), .int (Int32.ofInt f'), .int (Int32.ofInt c')])) → zix w' q = some (.inr (9, [.int (Int32.ofInt y0), .ref (q + 1), .ref (q + 2), .ref (q + 3)])) → zix w' (q + 1) = some (.inl (1, 40, .inl k1)) → zix w' (q + 2) = some (.inl (1, 40, .inl k2)) → zix w' (q + 3) = some (.inl (1, 40, .inl k3)) → ((f', c', y0, k1, k2, k3) = yBeg a1 s (f, c, x0, g1, g2, g3)) → Q (none) w') : zCl zTab (d + 2) iX10_beginLine [.ref q, .int (Int32.ofInt a1), .ref p] w 0 0 Q := by
  refine zCl_i (M := kX10_beginLine) rfl (Nat.le_of_ble_eq_true rfl) fun R hR => ?_
  have fr0 : wfM (fun j => j ≠ p ∧ (j < q ∨ q + 4 ≤ j)) w w := wfM_rf _ w
  have nX0 : FX (∀ j : Nat, (j ≠ p ∧ (j < q ∨ q + 4 ≤ j)) → j ≠ q + 1) := fun j hj => by omega
  have nX1 : FX (p ≠ q + 1) := (show p ≠ q + 1 by omega)
  have nX2 : FX (q ≠ q + 1) := (show q ≠ q + 1 by omega)
  have nX3 : FX ((q + 2) ≠ q + 1) := (show (q + 2) ≠ q + 1 by omega)
  have nX4 : FX ((q + 3) ≠ q + 1) := (show (q + 3) ≠ q + 1 by omega)
  have nX5 : FX (∀ j : Nat, (j ≠ p ∧ (j < q ∨ q + 4 ≤ j)) → j ≠ q + 2) := fun j hj => by omega
  have nX6 : FX (p ≠ q + 2) := (show p ≠ q + 2 by omega)
  have nX7 : FX (q ≠ q + 2) := (show q ≠ q + 2 by omega)
  have nX8 : FX ((q + 1) ≠ q + 2) := (show (q + 1) ≠ q + 2 by omega)
  have nX9 : FX ((q + 3) ≠ q + 2) := (show (q + 3) ≠ q + 2 by omega)
  have nX10 : FX (∀ j : Nat, (j ≠ p ∧ (j < q ∨ q + 4 ≤ j)) → j ≠ q + 3) := fun j hj => by omega
  have nX11 : FX (p ≠ q + 3) := (show p ≠ q + 3 by omega)
  have nX12 : FX (q ≠ q + 3) := (show q ≠ q + 3 by omega)
  have nX13 : FX ((q + 1) ≠ q + 3) := (show (q + 1) ≠ q + 3 by omega)
  have nX14 : FX ((q + 2) ≠ q + 3) := (show (q + 2) ≠ q + 3 by omega)
  have nX15 : FX (∀ j : Nat, (j ≠ p ∧ (j < q ∨ q + 4 ≤ j)) → j ≠ q) := fun j hj => by omega
  have nX16 : FX (p ≠ q) := (show p ≠ q by omega)
  have nX17 : FX ((q + 1) ≠ q) := (show (q + 1) ≠ q by omega)
  have nX18 : FX ((q + 2) ≠ q) := (show (q + 2) ≠ q by omega)
  have nX19 : FX ((q + 3) ≠ q) := (show (q + 3) ≠ q by omega)
  have nX20 : FX (∀ j : Nat, (j ≠ p ∧ (j < q ∨ q + 4 ≤ j)) → (j ≠ p)) := fun j hj => by omega
  have nX21 : FX (q ≠ p) := (show q ≠ p by omega)
  have nX22 : FX ((q + 1) ≠ p) := (show (q + 1) ≠ p by omega)
  have nX23 : FX ((q + 2) ≠ p) := (show (q + 2) ≠ p by omega)
  have nX24 : FX ((q + 3) ≠ p) := (show (q + 3) ≠ p by omega)
  refine hR (?_ : R (_, _, _, _, _, _))
  refine hR (c_get hK1 rfl ?_)
  refine hR (t_c 40 (by decide) ?_)
  refine hR (j_lt (by omega) (by omega) (fun hc1 => ?_) (fun hc1 => ?_))
  rotate_left
  · skip
    iterate 2 refine hR (?_ : R (_, _, _, _, _, _))
    refine hR (c_obj hK0 (zcall_i 0 0 (Nat.le_of_ble_eq_true rfl) (Nat.le_of_ble_eq_true rfl) (x_faultHere _ _ _ _ _ _ _ _ _ _ _ _ hK0 (by omega) _ fun f'_26 c'_27 w28 gg29 hC30 hp31 => ?_)))
    have fr32 := wfM_tr fr0 gg29 nX20
    have hC33 := (gg29.2 q nX21).trans hK1
    have hC34 := (gg29.2 (q + 1) nX22).trans hK2
    have hC35 := (gg29.2 (q + 2) nX23).trans hK3
    have hC36 := (gg29.2 (q + 3) nX24).trans hK4
    obtain ⟨rfl, rfl⟩ := hp31
    have hq37 := @fW_r f c 3 s (by omega)
    refine (?_ : R (_, _, [], w28, 0, 0))
    exact hR (zret_i rfl (Nat.le_refl _) rfl (h _ _ _ _ _ _ _ fr32 hC30 hC33 hC34 hC35 hC36 (by unfold yBeg; dsimp only; (repeat' split) <;> first | rfl | (exfalso; omega))))
  refine hR (?_ : R (_, _, _, _, _, _))
  refine hR (c_get hK1 rfl ?_)
  refine hR (?_ : R (_, _, _, _, _, _))
  refine hR (c_get hK1 rfl ?_)
  refine hR (?_ : R (_, _, _, _, _, _))
  refine hR (x_ast hK2 (by omega) (by omega) (Nat.le_of_ble_eq_true rfl) fun w2 ff2 hC2 => ?_)
  have fr3 := wfM_st fr0 ff2 nX0
  have hC4 := (ff2.2 p nX1).trans hK0
  have hC5 := (ff2.2 q nX2).trans hK1
  have hC6 := (ff2.2 (q + 2) nX3).trans hK3
  have hC7 := (ff2.2 (q + 3) nX4).trans hK4
  refine hR (?_ : R (_, _, _, _, _, _))
  refine hR (c_get hC5 rfl ?_)
  refine hR (?_ : R (_, _, _, _, _, _))
  refine hR (c_get hC5 rfl ?_)
  refine hR (?_ : R (_, _, _, _, _, _))
  refine hR (x_ast hC6 (by omega) (by omega) (Nat.le_of_ble_eq_true rfl) fun w8 ff8 hC8 => ?_)
  have fr9 := wfM_st fr3 ff8 nX5
  have hC10 := (ff8.2 p nX6).trans hC4
  have hC11 := (ff8.2 q nX7).trans hC5
  have hC12 := (ff8.2 (q + 1) nX8).trans hC2
  have hC13 := (ff8.2 (q + 3) nX9).trans hC7
  refine hR (?_ : R (_, _, _, _, _, _))
  refine hR (c_get hC11 rfl ?_)
  refine hR (?_ : R (_, _, _, _, _, _))
  refine hR (c_get hC11 rfl ?_)
  refine hR (?_ : R (_, _, _, _, _, _))
  refine hR (x_ast hC13 (by omega) (by omega) (Nat.le_of_ble_eq_true rfl) fun w14 ff14 hC14 => ?_)
  have fr15 := wfM_st fr9 ff14 nX10
  have hC16 := (ff14.2 p nX11).trans hC10
  have hC17 := (ff14.2 q nX12).trans hC11
  have hC18 := (ff14.2 (q + 1) nX13).trans hC12
  have hC19 := (ff14.2 (q + 2) nX14).trans hC8
  iterate 2 refine hR (?_ : R (_, _, _, _, _, _))
  refine hR (c_get hC17 rfl ?_)
  refine hR (?_ : R (_, _, _, _, _, _))
  refine hR (t_add ?_)
  refine hR (c_put hC17 rfl rfl fun w20 ff20 hC20 => ?_)
  have fr21 := wfM_st fr15 ff20 nX15
  have hC22 := (ff20.2 p nX16).trans hC16
  have hC23 := (ff20.2 (q + 1) nX17).trans hC18
  have hC24 := (ff20.2 (q + 2) nX18).trans hC19
  have hC25 := (ff20.2 (q + 3) nX19).trans hC14
  replace hC20 : zix w20 q = some (.inr (9, [.int (Int32.ofInt (x0 + 1)), .ref (q + 1), .ref (q + 2), .ref (q + 3)])) := hC20
  exact hR (zret_i rfl (Nat.le_refl _) rfl (h _ _ _ _ _ _ _ fr21 hC22 hC20 hC23 hC24 hC25 (by unfold yBeg; dsimp only; (repeat' split) <;> first | rfl | (exfalso; omega))))
theorem x_yTakeN (w : zW) (d : Nat) (q p t : Nat) (a1 a2 : Int) (l a k s x f c x0 : Int) (g1 g2 g3 : Nat → Int32) (hK0 : zix w p = some (.inr (6, [.ref t, .int (Int32.ofInt l), .int (Int32.ofInt a), .int (Int32.ofInt k), .int (Int32.ofInt s), .int (Int32.ofInt x), .int (Int32.ofInt f), .int (Int32.ofInt c)]))) (hK1 : zix w q = some (.inr (9, [.int (Int32.ofInt x0), .ref (q + 1), .ref (q + 2), .ref (q + 3)]))) (hK2 : zix w (q + 1) = some (.inl (1, 40, .inl g1))) (hK3 : zix w (q + 2) = some (.inl (1, 40, .inl g2))) (hK4 : zix w (q + 3) = some (.inl (1, 40, .inl g3))) (hr0 : p < q ∧ t < q ∧ p ≠ t) (hr1 : (-2147483648 ≤ s ∧ s ≤ 2147483647) ∧ (-2147483648 ≤ f ∧ f ≤ 2147483647) ∧ (-2147483648 ≤ c ∧ c ≤ 2147483647)) (hr2 : 0 ≤ x0 ∧ x0 ≤ 40) (hr3 : 0 ≤ a1 ∧ a1 ≤ 5) (hr4 : (-2147483648 ≤ a2 ∧ a2 ≤ 2147483647) ∧ (-2147483648 ≤ x ∧ x ≤ 2147483647)) (Q : zQ) (h : ∀ (f' c' y0 : Int) (k1 k2 k3 : Nat → Int32) (w' : zW), wfM (fun j => j ≠ p ∧ (j < q ∨ q + 4 ≤ j)) w w' → zix w' p = some (.inr (6, [.ref t, .int (Int32.ofInt l), .int (Int32.ofInt a), .int (Int32.ofInt k), .int (Int32.ofInt s), .int (Int32.ofInt x), .int (Int32.ofInt f'), .int (Int32.ofInt c')])) → zix w' q = some (.inr (9, [.int (Int32.ofInt y0), .ref (q + 1), .ref (q + 2), .ref (q + 3)])) → zix w' (q + 1) = some (.inl (1, 40, .inl k1)) → zix w' (q + 2) = some (.inl (1, 40, .inl k2)) → zix w' (q + 3) = some (.inl (1, 40, .inl k3)) → ((f', c', y0, k1, k2, k3) = yTake a1 a2 x s (f, c, x0, g1, g2, g3)) → Q (none) w') : zCl zTab (d + 3) iX10_takeNumber [.ref q, .int (Int32.ofInt a1), .int (Int32.ofInt a2), .ref p] w 0 0 Q := by
  refine zCl_i (M := kX10_takeNumber) rfl (Nat.le_of_ble_eq_true rfl) fun R hR => ?_
  have fr0 : wfM (fun j => j ≠ p ∧ (j < q ∨ q + 4 ≤ j)) w w := wfM_rf _ w
  have nX0 : FX (∀ j : Nat, (j ≠ p ∧ (j < q ∨ q + 4 ≤ j)) → (j ≠ p)) := fun j hj => by omega
  have nX1 : FX (q ≠ p) := (show q ≠ p by omega)
  have nX2 : FX ((q + 1) ≠ p) := (show (q + 1) ≠ p by omega)
  have nX3 : FX ((q + 2) ≠ p) := (show (q + 2) ≠ p by omega)
  have nX4 : FX ((q + 3) ≠ p) := (show (q + 3) ≠ p by omega)
  have nX5 : FX (∀ j : Nat, (j ≠ p ∧ (j < q ∨ q + 4 ≤ j)) → j ≠ q + 3) := fun j hj => by omega
  have nX6 : FX (p ≠ q + 3) := (show p ≠ q + 3 by omega)
  have nX7 : FX (q ≠ q + 3) := (show q ≠ q + 3 by omega)
  have nX8 : FX ((q + 1) ≠ q + 3) := (show (q + 1) ≠ q + 3 by omega)
  have nX9 : FX ((q + 2) ≠ q + 3) := (show (q + 2) ≠ q + 3 by omega)
  have nX10 : FX (∀ j : Nat, (j ≠ p ∧ (j < q ∨ q + 4 ≤ j)) → j ≠ q + 2) := fun j hj => by omega
  have nX11 : FX (p ≠ q + 2) := (show p ≠ q + 2 by omega)
  have nX12 : FX (q ≠ q + 2) := (show q ≠ q + 2 by omega)
  have nX13 : FX ((q + 1) ≠ q + 2) := (show (q + 1) ≠ q + 2 by omega)
  have nX14 : FX ((q + 3) ≠ q + 2) := (show (q + 3) ≠ q + 2 by omega)
  refine hR (?_ : R (_, _, _, _, _, _))
  refine hR (c_get hK1 rfl ?_)
  refine hR (?_ : R (_, _, _, _, _, _))
  refine hR (t_sub ?_)
  iterate 2 refine hR (?_ : R (_, _, _, _, _, _))
  refine hR (k_ne (by omega) (fun hc1 => ?_) (fun hc1 => ?_))
  · skip
    iterate 5 refine hR (?_ : R (_, _, _, _, _, _))
    refine hR (k_eq (by omega) (fun _ => ?_) (fun hc => by omega))
    refine hR (?_ : R (_, _, _, _, _, _))
    refine hR (c_obj hK0 (zcall_i 0 0 (Nat.le_of_ble_eq_true rfl) (Nat.le_of_ble_eq_true rfl) (x_isWithin _ _ _ _ _ _ _ _ _ _ _ _ _ hK0 (by omega) _ fun v2 f'_3 c'_4 w5 gg6 hC7 hp8 hp9 => ?_)))
    have fr10 := wfM_tr fr0 gg6 nX0
    have hC11 := (gg6.2 q nX1).trans hK1
    have hC12 := (gg6.2 (q + 1) nX2).trans hK2
    have hC13 := (gg6.2 (q + 2) nX3).trans hK3
    have hC14 := (gg6.2 (q + 3) nX4).trans hK4
    obtain ⟨rfl, rfl⟩ := hp9
    have hq15 := @wI_r f c 0 3 x s (by omega)
    refine (?_ : R (_, _, .int (Int32.ofInt v2) :: [], w5, 0, 0))
    refine hR (k_eq (by omega) (fun hc16 => ?_) (fun hc16 => ?_))
    · skip
      exact hR (zret_i rfl (Nat.le_refl _) rfl (h _ _ _ _ _ _ _ fr10 hC7 hC11 hC12 hC13 hC14 (by unfold yTake yTk; dsimp only; (repeat' split) <;> first | rfl | (exfalso; omega))))
    refine hR (?_ : R (_, _, _, _, _, _))
    refine hR (k_ge (by omega) (fun hc17 => ?_) (fun hc17 => ?_))
    rotate_left
    · skip
      exact hR (zret_i rfl (Nat.le_refl _) rfl (h _ _ _ _ _ _ _ fr10 hC7 hC11 hC12 hC13 hC14 (by unfold yTake yTk; dsimp only; (repeat' split) <;> first | rfl | (exfalso; omega))))
    refine hR (?_ : R (_, _, _, _, _, _))
    refine hR (k_ne (by omega) (fun hc18 => ?_) (fun hc18 => ?_))
    rotate_left
    · skip
      refine hR (?_ : R (_, _, _, _, _, _))
      refine hR (c_get hC11 rfl ?_)
      iterate 2 refine hR (?_ : R (_, _, _, _, _, _))
      refine hR (c_get hC7 rfl ?_)
      refine hR (x_ast hC13 (by omega) (by omega) (Nat.le_of_ble_eq_true rfl) fun w52 ff52 hC52 => ?_)
      have fr53 := wfM_st fr10 ff52 nX10
      have hC54 := (ff52.2 p nX11).trans hC7
      have hC55 := (ff52.2 q nX12).trans hC11
      have hC56 := (ff52.2 (q + 1) nX13).trans hC12
      have hC57 := (ff52.2 (q + 3) nX14).trans hC14
      exact hR (zret_i rfl (Nat.le_refl _) rfl (h _ _ _ _ _ _ _ fr53 hC54 hC55 hC56 hC52 hC57 (by unfold yTake yTk; dsimp only; (repeat' split) <;> first | rfl | (exfalso; omega))))
    iterate 2 refine hR (?_ : R (_, _, _, _, _, _))
    refine hR (j_ne (by omega) (by omega) (fun hc19 => ?_) (fun hc19 => ?_))
    · skip
      refine hR (?_ : R (_, _, _, _, _, _))
      refine hR (c_get hC11 rfl ?_)
      iterate 2 refine hR (?_ : R (_, _, _, _, _, _))
      refine hR (c_get hC7 rfl ?_)
      refine hR (x_ast hC14 (by omega) (by omega) (Nat.le_of_ble_eq_true rfl) fun w20 ff20 hC20 => ?_)
      have fr21 := wfM_st fr10 ff20 nX5
      have hC22 := (ff20.2 p nX6).trans hC7
      have hC23 := (ff20.2 q nX7).trans hC11
      have hC24 := (ff20.2 (q + 1) nX8).trans hC12
      have hC25 := (ff20.2 (q + 2) nX9).trans hC13
      exact hR (zret_i rfl (Nat.le_refl _) rfl (h _ _ _ _ _ _ _ fr21 hC22 hC23 hC24 hC25 hC20 (by unfold yTake yTk; dsimp only; (repeat' split) <;> first | rfl | (exfalso; omega))))
    refine hR (?_ : R (_, _, _, _, _, _))
    refine hR (c_get hC11 rfl ?_)
    refine hR (?_ : R (_, _, _, _, _, _))
    refine hR (c_aldE hC13 (by omega) (by omega) (Nat.le_of_ble_eq_true rfl) fun v26 ev26 rv26 => ?_)
    replace ev26 : v26 = tBy g2 (x0 - 1) := ev26
    subst ev26
    refine hR (?_ : R (_, _, _, _, _, _))
    refine hR (c_get hC7 rfl ?_)
    refine hR (j_ne (by omega) (by omega) (fun hc27 => ?_) (fun hc27 => ?_))
    · skip
      refine hR (?_ : R (_, _, _, _, _, _))
      refine hR (c_get hC11 rfl ?_)
      iterate 2 refine hR (?_ : R (_, _, _, _, _, _))
      refine hR (c_get hC7 rfl ?_)
      refine hR (x_ast hC14 (by omega) (by omega) (Nat.le_of_ble_eq_true rfl) fun w28 ff28 hC28 => ?_)
      have fr29 := wfM_st fr10 ff28 nX5
      have hC30 := (ff28.2 p nX6).trans hC7
      have hC31 := (ff28.2 q nX7).trans hC11
      have hC32 := (ff28.2 (q + 1) nX8).trans hC12
      have hC33 := (ff28.2 (q + 2) nX9).trans hC13
      exact hR (zret_i rfl (Nat.le_refl _) rfl (h _ _ _ _ _ _ _ fr29 hC30 hC31 hC32 hC33 hC28 (by unfold yTake yTk; dsimp only; (repeat' split) <;> first | rfl | (exfalso; omega))))
    iterate 2 refine hR (?_ : R (_, _, _, _, _, _))
    refine hR (c_obj hC7 (zcall_i 0 0 (Nat.le_of_ble_eq_true rfl) (Nat.le_of_ble_eq_true rfl) (x_faultHere _ _ _ _ _ _ _ _ _ _ _ _ hC7 (by omega) _ fun f'_34 c'_35 w36 gg37 hC38 hp39 => ?_)))
    have fr40 := wfM_tr fr10 gg37 nX0
    have hC41 := (gg37.2 q nX1).trans hC11
    have hC42 := (gg37.2 (q + 1) nX2).trans hC12
    have hC43 := (gg37.2 (q + 2) nX3).trans hC13
    have hC44 := (gg37.2 (q + 3) nX4).trans hC14
    obtain ⟨rfl, rfl⟩ := hp39
    have hq45 := @fW_r (wI f c 0 3 x s) (wJ f c 0 3 x s) 2 s (by omega)
    refine (?_ : R (_, _, [], w36, 0, 0))
    refine hR (?_ : R (_, _, _, _, _, _))
    refine hR (c_get hC41 rfl ?_)
    iterate 2 refine hR (?_ : R (_, _, _, _, _, _))
    refine hR (c_get hC38 rfl ?_)
    refine hR (x_ast hC44 (by omega) (by omega) (Nat.le_of_ble_eq_true rfl) fun w46 ff46 hC46 => ?_)
    have fr47 := wfM_st fr40 ff46 nX5
    have hC48 := (ff46.2 p nX6).trans hC38
    have hC49 := (ff46.2 q nX7).trans hC41
    have hC50 := (ff46.2 (q + 1) nX8).trans hC42
    have hC51 := (ff46.2 (q + 2) nX9).trans hC43
    exact hR (zret_i rfl (Nat.le_refl _) rfl (h _ _ _ _ _ _ _ fr47 hC48 hC49 hC50 hC51 hC46 (by unfold yTake yTk; dsimp only; (repeat' split) <;> first | rfl | (exfalso; omega))))
  iterate 2 refine hR (?_ : R (_, _, _, _, _, _))
  refine hR (j_ne (by omega) (by omega) (fun hc58 => ?_) (fun hc58 => ?_))
  · skip
    iterate 5 refine hR (?_ : R (_, _, _, _, _, _))
    refine hR (k_eq (by omega) (fun _ => ?_) (fun hc => by omega))
    refine hR (?_ : R (_, _, _, _, _, _))
    refine hR (c_obj hK0 (zcall_i 0 0 (Nat.le_of_ble_eq_true rfl) (Nat.le_of_ble_eq_true rfl) (x_isWithin _ _ _ _ _ _ _ _ _ _ _ _ _ hK0 (by omega) _ fun v59 f'_60 c'_61 w62 gg63 hC64 hp65 hp66 => ?_)))
    have fr67 := wfM_tr fr0 gg63 nX0
    have hC68 := (gg63.2 q nX1).trans hK1
    have hC69 := (gg63.2 (q + 1) nX2).trans hK2
    have hC70 := (gg63.2 (q + 2) nX3).trans hK3
    have hC71 := (gg63.2 (q + 3) nX4).trans hK4
    obtain ⟨rfl, rfl⟩ := hp66
    have hq72 := @wI_r f c 0 3 x s (by omega)
    refine (?_ : R (_, _, .int (Int32.ofInt v59) :: [], w62, 0, 0))
    refine hR (k_eq (by omega) (fun hc73 => ?_) (fun hc73 => ?_))
    · skip
      exact hR (zret_i rfl (Nat.le_refl _) rfl (h _ _ _ _ _ _ _ fr67 hC64 hC68 hC69 hC70 hC71 (by unfold yTake yTk; dsimp only; (repeat' split) <;> first | rfl | (exfalso; omega))))
    refine hR (?_ : R (_, _, _, _, _, _))
    refine hR (k_ge (by omega) (fun hc74 => ?_) (fun hc74 => ?_))
    rotate_left
    · skip
      exact hR (zret_i rfl (Nat.le_refl _) rfl (h _ _ _ _ _ _ _ fr67 hC64 hC68 hC69 hC70 hC71 (by unfold yTake yTk; dsimp only; (repeat' split) <;> first | rfl | (exfalso; omega))))
    refine hR (?_ : R (_, _, _, _, _, _))
    refine hR (k_ne (by omega) (fun hc75 => ?_) (fun hc75 => ?_))
    rotate_left
    · skip
      refine hR (?_ : R (_, _, _, _, _, _))
      refine hR (c_get hC68 rfl ?_)
      iterate 2 refine hR (?_ : R (_, _, _, _, _, _))
      refine hR (c_get hC64 rfl ?_)
      refine hR (x_ast hC70 (by omega) (by omega) (Nat.le_of_ble_eq_true rfl) fun w109 ff109 hC109 => ?_)
      have fr110 := wfM_st fr67 ff109 nX10
      have hC111 := (ff109.2 p nX11).trans hC64
      have hC112 := (ff109.2 q nX12).trans hC68
      have hC113 := (ff109.2 (q + 1) nX13).trans hC69
      have hC114 := (ff109.2 (q + 3) nX14).trans hC71
      exact hR (zret_i rfl (Nat.le_refl _) rfl (h _ _ _ _ _ _ _ fr110 hC111 hC112 hC113 hC109 hC114 (by unfold yTake yTk; dsimp only; (repeat' split) <;> first | rfl | (exfalso; omega))))
    iterate 2 refine hR (?_ : R (_, _, _, _, _, _))
    refine hR (j_ne (by omega) (by omega) (fun hc76 => ?_) (fun hc76 => ?_))
    · skip
      refine hR (?_ : R (_, _, _, _, _, _))
      refine hR (c_get hC68 rfl ?_)
      iterate 2 refine hR (?_ : R (_, _, _, _, _, _))
      refine hR (c_get hC64 rfl ?_)
      refine hR (x_ast hC71 (by omega) (by omega) (Nat.le_of_ble_eq_true rfl) fun w77 ff77 hC77 => ?_)
      have fr78 := wfM_st fr67 ff77 nX5
      have hC79 := (ff77.2 p nX6).trans hC64
      have hC80 := (ff77.2 q nX7).trans hC68
      have hC81 := (ff77.2 (q + 1) nX8).trans hC69
      have hC82 := (ff77.2 (q + 2) nX9).trans hC70
      exact hR (zret_i rfl (Nat.le_refl _) rfl (h _ _ _ _ _ _ _ fr78 hC79 hC80 hC81 hC82 hC77 (by unfold yTake yTk; dsimp only; (repeat' split) <;> first | rfl | (exfalso; omega))))
    refine hR (?_ : R (_, _, _, _, _, _))
    refine hR (c_get hC68 rfl ?_)
    refine hR (?_ : R (_, _, _, _, _, _))
    refine hR (c_aldE hC70 (by omega) (by omega) (Nat.le_of_ble_eq_true rfl) fun v83 ev83 rv83 => ?_)
    replace ev83 : v83 = tBy g2 (x0 - 1) := ev83
    subst ev83
    refine hR (?_ : R (_, _, _, _, _, _))
    refine hR (c_get hC64 rfl ?_)
    refine hR (j_ne (by omega) (by omega) (fun hc84 => ?_) (fun hc84 => ?_))
    · skip
      refine hR (?_ : R (_, _, _, _, _, _))
      refine hR (c_get hC68 rfl ?_)
      iterate 2 refine hR (?_ : R (_, _, _, _, _, _))
      refine hR (c_get hC64 rfl ?_)
      refine hR (x_ast hC71 (by omega) (by omega) (Nat.le_of_ble_eq_true rfl) fun w85 ff85 hC85 => ?_)
      have fr86 := wfM_st fr67 ff85 nX5
      have hC87 := (ff85.2 p nX6).trans hC64
      have hC88 := (ff85.2 q nX7).trans hC68
      have hC89 := (ff85.2 (q + 1) nX8).trans hC69
      have hC90 := (ff85.2 (q + 2) nX9).trans hC70
      exact hR (zret_i rfl (Nat.le_refl _) rfl (h _ _ _ _ _ _ _ fr86 hC87 hC88 hC89 hC90 hC85 (by unfold yTake yTk; dsimp only; (repeat' split) <;> first | rfl | (exfalso; omega))))
    iterate 2 refine hR (?_ : R (_, _, _, _, _, _))
    refine hR (c_obj hC64 (zcall_i 0 0 (Nat.le_of_ble_eq_true rfl) (Nat.le_of_ble_eq_true rfl) (x_faultHere _ _ _ _ _ _ _ _ _ _ _ _ hC64 (by omega) _ fun f'_91 c'_92 w93 gg94 hC95 hp96 => ?_)))
    have fr97 := wfM_tr fr67 gg94 nX0
    have hC98 := (gg94.2 q nX1).trans hC68
    have hC99 := (gg94.2 (q + 1) nX2).trans hC69
    have hC100 := (gg94.2 (q + 2) nX3).trans hC70
    have hC101 := (gg94.2 (q + 3) nX4).trans hC71
    obtain ⟨rfl, rfl⟩ := hp96
    have hq102 := @fW_r (wI f c 0 3 x s) (wJ f c 0 3 x s) 2 s (by omega)
    refine (?_ : R (_, _, [], w93, 0, 0))
    refine hR (?_ : R (_, _, _, _, _, _))
    refine hR (c_get hC98 rfl ?_)
    iterate 2 refine hR (?_ : R (_, _, _, _, _, _))
    refine hR (c_get hC95 rfl ?_)
    refine hR (x_ast hC101 (by omega) (by omega) (Nat.le_of_ble_eq_true rfl) fun w103 ff103 hC103 => ?_)
    have fr104 := wfM_st fr97 ff103 nX5
    have hC105 := (ff103.2 p nX6).trans hC95
    have hC106 := (ff103.2 q nX7).trans hC98
    have hC107 := (ff103.2 (q + 1) nX8).trans hC99
    have hC108 := (ff103.2 (q + 2) nX9).trans hC100
    exact hR (zret_i rfl (Nat.le_refl _) rfl (h _ _ _ _ _ _ _ fr104 hC105 hC106 hC107 hC108 hC103 (by unfold yTake yTk; dsimp only; (repeat' split) <;> first | rfl | (exfalso; omega))))
  iterate 6 refine hR (?_ : R (_, _, _, _, _, _))
  refine hR (k_eq (by omega) (fun hc => by omega) (fun _ => ?_))
  iterate 2 refine hR (?_ : R (_, _, _, _, _, _))
  refine hR (c_obj hK0 (zcall_i 0 0 (Nat.le_of_ble_eq_true rfl) (Nat.le_of_ble_eq_true rfl) (x_isWithin _ _ _ _ _ _ _ _ _ _ _ _ _ hK0 (by omega) _ fun v115 f'_116 c'_117 w118 gg119 hC120 hp121 hp122 => ?_)))
  have fr123 := wfM_tr fr0 gg119 nX0
  have hC124 := (gg119.2 q nX1).trans hK1
  have hC125 := (gg119.2 (q + 1) nX2).trans hK2
  have hC126 := (gg119.2 (q + 2) nX3).trans hK3
  have hC127 := (gg119.2 (q + 3) nX4).trans hK4
  obtain ⟨rfl, rfl⟩ := hp122
  have hq128 := @wI_r f c 0 4 x s (by omega)
  refine (?_ : R (_, _, .int (Int32.ofInt v115) :: [], w118, 0, 0))
  refine hR (k_eq (by omega) (fun hc129 => ?_) (fun hc129 => ?_))
  · skip
    exact hR (zret_i rfl (Nat.le_refl _) rfl (h _ _ _ _ _ _ _ fr123 hC120 hC124 hC125 hC126 hC127 (by unfold yTake yTk; dsimp only; (repeat' split) <;> first | rfl | (exfalso; omega))))
  refine hR (?_ : R (_, _, _, _, _, _))
  refine hR (k_ge (by omega) (fun hc130 => ?_) (fun hc130 => ?_))
  rotate_left
  · skip
    exact hR (zret_i rfl (Nat.le_refl _) rfl (h _ _ _ _ _ _ _ fr123 hC120 hC124 hC125 hC126 hC127 (by unfold yTake yTk; dsimp only; (repeat' split) <;> first | rfl | (exfalso; omega))))
  refine hR (?_ : R (_, _, _, _, _, _))
  refine hR (k_ne (by omega) (fun hc131 => ?_) (fun hc131 => ?_))
  rotate_left
  · skip
    refine hR (?_ : R (_, _, _, _, _, _))
    refine hR (c_get hC124 rfl ?_)
    iterate 2 refine hR (?_ : R (_, _, _, _, _, _))
    refine hR (c_get hC120 rfl ?_)
    refine hR (x_ast hC126 (by omega) (by omega) (Nat.le_of_ble_eq_true rfl) fun w165 ff165 hC165 => ?_)
    have fr166 := wfM_st fr123 ff165 nX10
    have hC167 := (ff165.2 p nX11).trans hC120
    have hC168 := (ff165.2 q nX12).trans hC124
    have hC169 := (ff165.2 (q + 1) nX13).trans hC125
    have hC170 := (ff165.2 (q + 3) nX14).trans hC127
    exact hR (zret_i rfl (Nat.le_refl _) rfl (h _ _ _ _ _ _ _ fr166 hC167 hC168 hC169 hC165 hC170 (by unfold yTake yTk; dsimp only; (repeat' split) <;> first | rfl | (exfalso; omega))))
  iterate 2 refine hR (?_ : R (_, _, _, _, _, _))
  refine hR (j_ne (by omega) (by omega) (fun hc132 => ?_) (fun hc132 => ?_))
  · skip
    refine hR (?_ : R (_, _, _, _, _, _))
    refine hR (c_get hC124 rfl ?_)
    iterate 2 refine hR (?_ : R (_, _, _, _, _, _))
    refine hR (c_get hC120 rfl ?_)
    refine hR (x_ast hC127 (by omega) (by omega) (Nat.le_of_ble_eq_true rfl) fun w133 ff133 hC133 => ?_)
    have fr134 := wfM_st fr123 ff133 nX5
    have hC135 := (ff133.2 p nX6).trans hC120
    have hC136 := (ff133.2 q nX7).trans hC124
    have hC137 := (ff133.2 (q + 1) nX8).trans hC125
    have hC138 := (ff133.2 (q + 2) nX9).trans hC126
    exact hR (zret_i rfl (Nat.le_refl _) rfl (h _ _ _ _ _ _ _ fr134 hC135 hC136 hC137 hC138 hC133 (by unfold yTake yTk; dsimp only; (repeat' split) <;> first | rfl | (exfalso; omega))))
  refine hR (?_ : R (_, _, _, _, _, _))
  refine hR (c_get hC124 rfl ?_)
  refine hR (?_ : R (_, _, _, _, _, _))
  refine hR (c_aldE hC126 (by omega) (by omega) (Nat.le_of_ble_eq_true rfl) fun v139 ev139 rv139 => ?_)
  replace ev139 : v139 = tBy g2 (x0 - 1) := ev139
  subst ev139
  refine hR (?_ : R (_, _, _, _, _, _))
  refine hR (c_get hC120 rfl ?_)
  refine hR (j_ne (by omega) (by omega) (fun hc140 => ?_) (fun hc140 => ?_))
  · skip
    refine hR (?_ : R (_, _, _, _, _, _))
    refine hR (c_get hC124 rfl ?_)
    iterate 2 refine hR (?_ : R (_, _, _, _, _, _))
    refine hR (c_get hC120 rfl ?_)
    refine hR (x_ast hC127 (by omega) (by omega) (Nat.le_of_ble_eq_true rfl) fun w141 ff141 hC141 => ?_)
    have fr142 := wfM_st fr123 ff141 nX5
    have hC143 := (ff141.2 p nX6).trans hC120
    have hC144 := (ff141.2 q nX7).trans hC124
    have hC145 := (ff141.2 (q + 1) nX8).trans hC125
    have hC146 := (ff141.2 (q + 2) nX9).trans hC126
    exact hR (zret_i rfl (Nat.le_refl _) rfl (h _ _ _ _ _ _ _ fr142 hC143 hC144 hC145 hC146 hC141 (by unfold yTake yTk; dsimp only; (repeat' split) <;> first | rfl | (exfalso; omega))))
  iterate 2 refine hR (?_ : R (_, _, _, _, _, _))
  refine hR (c_obj hC120 (zcall_i 0 0 (Nat.le_of_ble_eq_true rfl) (Nat.le_of_ble_eq_true rfl) (x_faultHere _ _ _ _ _ _ _ _ _ _ _ _ hC120 (by omega) _ fun f'_147 c'_148 w149 gg150 hC151 hp152 => ?_)))
  have fr153 := wfM_tr fr123 gg150 nX0
  have hC154 := (gg150.2 q nX1).trans hC124
  have hC155 := (gg150.2 (q + 1) nX2).trans hC125
  have hC156 := (gg150.2 (q + 2) nX3).trans hC126
  have hC157 := (gg150.2 (q + 3) nX4).trans hC127
  obtain ⟨rfl, rfl⟩ := hp152
  have hq158 := @fW_r (wI f c 0 4 x s) (wJ f c 0 4 x s) 2 s (by omega)
  refine (?_ : R (_, _, [], w149, 0, 0))
  refine hR (?_ : R (_, _, _, _, _, _))
  refine hR (c_get hC154 rfl ?_)
  iterate 2 refine hR (?_ : R (_, _, _, _, _, _))
  refine hR (c_get hC151 rfl ?_)
  refine hR (x_ast hC157 (by omega) (by omega) (Nat.le_of_ble_eq_true rfl) fun w159 ff159 hC159 => ?_)
  have fr160 := wfM_st fr153 ff159 nX5
  have hC161 := (ff159.2 p nX6).trans hC151
  have hC162 := (ff159.2 q nX7).trans hC154
  have hC163 := (ff159.2 (q + 1) nX8).trans hC155
  have hC164 := (ff159.2 (q + 2) nX9).trans hC156
  exact hR (zret_i rfl (Nat.le_refl _) rfl (h _ _ _ _ _ _ _ fr160 hC161 hC162 hC163 hC164 hC159 (by unfold yTake yTk; dsimp only; (repeat' split) <;> first | rfl | (exfalso; omega))))
theorem x_sLineOf (w : zW) (d : Nat) (q p t : Nat) (l a k s x f c : Int) (g : Nat → Int32) (hK0 : zix w p = some (.inr (6, [.ref t, .int (Int32.ofInt l), .int (Int32.ofInt a), .int (Int32.ofInt k), .int (Int32.ofInt s), .int (Int32.ofInt x), .int (Int32.ofInt f), .int (Int32.ofInt c)]))) (hK1 : zix w t = some (.inl (0, 600, .inl g))) (hr0 : 0 ≤ s ∧ s ≤ a ∧ a ≤ l ∧ l ≤ 600) (hr1 : ∀ i : Int, s ≤ i → i < a → 97 ≤ tBy g i ∧ tBy g i ≤ 122) (Q : zQ) (h : ∀ (v : Int), (v = lnS (wv g s (a - s).toNat)) → Q (some (.int (Int32.ofInt v))) w) : zCl zTab (d + 6) iX6_lineOf [.ref q, .ref p] w 0 0 Q := by
  refine zCl_i (M := kX6_lineOf) rfl (Nat.le_of_ble_eq_true rfl) fun R hR => ?_
  iterate 2 refine hR (?_ : R (_, _, _, _, _, _))
  refine hR (c_obj hK0 (zcall_i 0 0 (Nat.le_of_ble_eq_true rfl) (Nat.le_of_ble_eq_true rfl) (x_isAtHand _ _ _ _ _ _ _ _ _ _ _ _ _ hK0 hK1 rfl (by omega) _ fun v1 hp2 => ?_)))
  refine (?_ : R (_, _, .int (Int32.ofInt v1) :: [], w, 0, 0))
  replace hp2 := ahx wj_9 wo_9 (by omega) hr1 hp2
  refine hR (k_eq (by omega) (fun hc3 => ?_) (fun hc3 => ?_))
  · skip
    refine hR (?_ : R (_, _, _, _, _, _))
    exact hR (zret_i rfl (Nat.le_refl _) trivial (h _ (by unfold lnS; (repeat' split) <;> omega)))
  iterate 2 refine hR (?_ : R (_, _, _, _, _, _))
  exact hR (zret_i rfl (Nat.le_refl _) trivial (h _ (by unfold lnS; (repeat' split) <;> omega)))
theorem x_sMost (w : zW) (d : Nat) (q : Nat) (a1 : Int)  (hr0 : 0 ≤ a1 ∧ a1 ≤ 0) (Q : zQ) (h : ∀ (v : Int), (v = 600) → Q (some (.int (Int32.ofInt v))) w) : zCl zTab (d + 1) iX6_mostNumbers [.ref q, .int (Int32.ofInt a1)] w 0 0 Q := by
  refine zCl_i (M := kX6_mostNumbers) rfl (Nat.le_of_ble_eq_true rfl) fun R hR => ?_
  refine hR (t_c 600 (by decide) ?_)
  exact hR (zret_i rfl (Nat.le_refl _) trivial (h _ (by skip; (repeat' split) <;> omega)))
theorem x_sFew (w : zW) (d : Nat) (q : Nat) (a1 : Int)  (hr0 : 0 ≤ a1 ∧ a1 ≤ 0) (Q : zQ) (h : ∀ (v : Int), (v = 1) → Q (some (.int (Int32.ofInt v))) w) : zCl zTab (d + 1) iX6_fewestNumbers [.ref q, .int (Int32.ofInt a1)] w 0 0 Q := by
  refine zCl_i (M := kX6_fewestNumbers) rfl (Nat.le_of_ble_eq_true rfl) fun R hR => ?_
  refine hR (?_ : R (_, _, _, _, _, _))
  exact hR (zret_i rfl (Nat.le_refl _) trivial (h _ (by skip; (repeat' split) <;> omega)))
theorem x_sBegin (w : zW) (d : Nat) (q p t : Nat) (a1 : Int) (l a k s x f c x0 : Int) (g1 g2 : Nat → Int32) (hK0 : zix w p = some (.inr (6, [.ref t, .int (Int32.ofInt l), .int (Int32.ofInt a), .int (Int32.ofInt k), .int (Int32.ofInt s), .int (Int32.ofInt x), .int (Int32.ofInt f), .int (Int32.ofInt c)]))) (hK1 : zix w q = some (.inr (5, [.int (Int32.ofInt x0), .ref (q + 1), .ref (q + 2)]))) (hK2 : zix w (q + 1) = some (.inl (1, 6, .inl g1))) (hK3 : zix w (q + 2) = some (.inl (1, 6, .inl g2))) (hr0 : p < q ∧ t < q ∧ p ≠ t) (hr1 : (-2147483648 ≤ s ∧ s ≤ 2147483647) ∧ (-2147483648 ≤ f ∧ f ≤ 2147483647) ∧ (-2147483648 ≤ c ∧ c ≤ 2147483647)) (hr2 : 0 ≤ x0 ∧ x0 ≤ 6) (hr3 : 0 ≤ a1 ∧ a1 ≤ 0) (Q : zQ) (h : ∀ (f' c' y0 : Int) (k1 k2 : Nat → Int32) (w' : zW), wfM (fun j => j ≠ p ∧ (j < q ∨ q + 3 ≤ j)) w w' → zix w' p = some (.inr (6, [.ref t, .int (Int32.ofInt l), .int (Int32.ofInt a), .int (Int32.ofInt k), .int (Int32.ofInt s), .int (Int32.ofInt x), .int (Int32.ofInt f'), .int (Int32.ofInt c')])) → zix w' q = some (.inr (5, [.int (Int32.ofInt y0), .ref (q + 1), .ref (q + 2)])) → zix w' (q + 1) = some (.inl (1, 6, .inl k1)) → zix w' (q + 2) = some (.inl (1, 6, .inl k2)) → ((f', c', y0, k1, k2) = sBeg a1 s (f, c, x0, g1, g2)) → Q (none) w') : zCl zTab (d + 2) iX6_beginLine [.ref q, .int (Int32.ofInt a1), .ref p] w 0 0 Q := by
  refine zCl_i (M := kX6_beginLine) rfl (Nat.le_of_ble_eq_true rfl) fun R hR => ?_
  have fr0 : wfM (fun j => j ≠ p ∧ (j < q ∨ q + 3 ≤ j)) w w := wfM_rf _ w
  have nX0 : FX (∀ j : Nat, (j ≠ p ∧ (j < q ∨ q + 3 ≤ j)) → j ≠ q + 2) := fun j hj => by omega
  have nX1 : FX (p ≠ q + 2) := (show p ≠ q + 2 by omega)
  have nX2 : FX (q ≠ q + 2) := (show q ≠ q + 2 by omega)
  have nX3 : FX ((q + 1) ≠ q + 2) := (show (q + 1) ≠ q + 2 by omega)
  have nX4 : FX (∀ j : Nat, (j ≠ p ∧ (j < q ∨ q + 3 ≤ j)) → j ≠ q) := fun j hj => by omega
  have nX5 : FX (p ≠ q) := (show p ≠ q by omega)
  have nX6 : FX ((q + 1) ≠ q) := (show (q + 1) ≠ q by omega)
  have nX7 : FX ((q + 2) ≠ q) := (show (q + 2) ≠ q by omega)
  have nX8 : FX (∀ j : Nat, (j ≠ p ∧ (j < q ∨ q + 3 ≤ j)) → (j ≠ p)) := fun j hj => by omega
  have nX9 : FX (q ≠ p) := (show q ≠ p by omega)
  have nX10 : FX ((q + 1) ≠ p) := (show (q + 1) ≠ p by omega)
  have nX11 : FX ((q + 2) ≠ p) := (show (q + 2) ≠ p by omega)
  refine hR (?_ : R (_, _, _, _, _, _))
  refine hR (c_get hK1 rfl ?_)
  refine hR (t_c 6 (by decide) ?_)
  refine hR (j_lt (by omega) (by omega) (fun hc1 => ?_) (fun hc1 => ?_))
  rotate_left
  · skip
    iterate 2 refine hR (?_ : R (_, _, _, _, _, _))
    refine hR (c_obj hK0 (zcall_i 0 0 (Nat.le_of_ble_eq_true rfl) (Nat.le_of_ble_eq_true rfl) (x_faultHere _ _ _ _ _ _ _ _ _ _ _ _ hK0 (by omega) _ fun f'_12 c'_13 w14 gg15 hC16 hp17 => ?_)))
    have fr18 := wfM_tr fr0 gg15 nX8
    have hC19 := (gg15.2 q nX9).trans hK1
    have hC20 := (gg15.2 (q + 1) nX10).trans hK2
    have hC21 := (gg15.2 (q + 2) nX11).trans hK3
    obtain ⟨rfl, rfl⟩ := hp17
    have hq22 := @fW_r f c 3 s (by omega)
    refine (?_ : R (_, _, [], w14, 0, 0))
    exact hR (zret_i rfl (Nat.le_refl _) rfl (h _ _ _ _ _ _ fr18 hC16 hC19 hC20 hC21 (by unfold sBeg; dsimp only; (repeat' split) <;> first | rfl | (exfalso; omega))))
  refine hR (?_ : R (_, _, _, _, _, _))
  refine hR (c_get hK1 rfl ?_)
  refine hR (?_ : R (_, _, _, _, _, _))
  refine hR (c_get hK1 rfl ?_)
  refine hR (?_ : R (_, _, _, _, _, _))
  refine hR (x_ast hK3 (by omega) (by omega) (Nat.le_of_ble_eq_true rfl) fun w2 ff2 hC2 => ?_)
  have fr3 := wfM_st fr0 ff2 nX0
  have hC4 := (ff2.2 p nX1).trans hK0
  have hC5 := (ff2.2 q nX2).trans hK1
  have hC6 := (ff2.2 (q + 1) nX3).trans hK2
  iterate 2 refine hR (?_ : R (_, _, _, _, _, _))
  refine hR (c_get hC5 rfl ?_)
  refine hR (?_ : R (_, _, _, _, _, _))
  refine hR (t_add ?_)
  refine hR (c_put hC5 rfl rfl fun w7 ff7 hC7 => ?_)
  have fr8 := wfM_st fr3 ff7 nX4
  have hC9 := (ff7.2 p nX5).trans hC4
  have hC10 := (ff7.2 (q + 1) nX6).trans hC6
  have hC11 := (ff7.2 (q + 2) nX7).trans hC2
  replace hC7 : zix w7 q = some (.inr (5, [.int (Int32.ofInt (x0 + 1)), .ref (q + 1), .ref (q + 2)])) := hC7
  exact hR (zret_i rfl (Nat.le_refl _) rfl (h _ _ _ _ _ _ fr8 hC9 hC7 hC10 hC11 (by unfold sBeg; dsimp only; (repeat' split) <;> first | rfl | (exfalso; omega))))
theorem x_sTakeN (w : zW) (d : Nat) (q p t : Nat) (a1 a2 : Int) (l a k s x f c x0 : Int) (g1 g2 : Nat → Int32) (hK0 : zix w p = some (.inr (6, [.ref t, .int (Int32.ofInt l), .int (Int32.ofInt a), .int (Int32.ofInt k), .int (Int32.ofInt s), .int (Int32.ofInt x), .int (Int32.ofInt f), .int (Int32.ofInt c)]))) (hK1 : zix w q = some (.inr (5, [.int (Int32.ofInt x0), .ref (q + 1), .ref (q + 2)]))) (hK2 : zix w (q + 1) = some (.inl (1, 6, .inl g1))) (hK3 : zix w (q + 2) = some (.inl (1, 6, .inl g2))) (hr0 : p < q ∧ t < q ∧ p ≠ t) (hr1 : (-2147483648 ≤ s ∧ s ≤ 2147483647) ∧ (-2147483648 ≤ f ∧ f ≤ 2147483647) ∧ (-2147483648 ≤ c ∧ c ≤ 2147483647)) (hr2 : 0 ≤ x0 ∧ x0 ≤ 6) (hr3 : 0 ≤ a1 ∧ a1 ≤ 0) (hr4 : (-2147483648 ≤ a2 ∧ a2 ≤ 2147483647) ∧ (-2147483648 ≤ x ∧ x ≤ 2147483647)) (Q : zQ) (h : ∀ (f' c' y0 : Int) (k1 k2 : Nat → Int32) (w' : zW), wfM (fun j => j ≠ p ∧ (j < q ∨ q + 3 ≤ j)) w w' → zix w' p = some (.inr (6, [.ref t, .int (Int32.ofInt l), .int (Int32.ofInt a), .int (Int32.ofInt k), .int (Int32.ofInt s), .int (Int32.ofInt x), .int (Int32.ofInt f'), .int (Int32.ofInt c')])) → zix w' q = some (.inr (5, [.int (Int32.ofInt y0), .ref (q + 1), .ref (q + 2)])) → zix w' (q + 1) = some (.inl (1, 6, .inl k1)) → zix w' (q + 2) = some (.inl (1, 6, .inl k2)) → ((f', c', y0, k1, k2) = sTake a2 x s (f, c, x0, g1, g2)) → Q (none) w') : zCl zTab (d + 3) iX6_takeNumber [.ref q, .int (Int32.ofInt a1), .int (Int32.ofInt a2), .ref p] w 0 0 Q := by
  refine zCl_i (M := kX6_takeNumber) rfl (Nat.le_of_ble_eq_true rfl) fun R hR => ?_
  have fr0 : wfM (fun j => j ≠ p ∧ (j < q ∨ q + 3 ≤ j)) w w := wfM_rf _ w
  have nX0 : FX (∀ j : Nat, (j ≠ p ∧ (j < q ∨ q + 3 ≤ j)) → (j ≠ p)) := fun j hj => by omega
  have nX1 : FX (q ≠ p) := (show q ≠ p by omega)
  have nX2 : FX ((q + 1) ≠ p) := (show (q + 1) ≠ p by omega)
  have nX3 : FX ((q + 2) ≠ p) := (show (q + 2) ≠ p by omega)
  have nX4 : FX (∀ j : Nat, (j ≠ p ∧ (j < q ∨ q + 3 ≤ j)) → j ≠ q + 2) := fun j hj => by omega
  have nX5 : FX (p ≠ q + 2) := (show p ≠ q + 2 by omega)
  have nX6 : FX (q ≠ q + 2) := (show q ≠ q + 2 by omega)
  have nX7 : FX ((q + 1) ≠ q + 2) := (show (q + 1) ≠ q + 2 by omega)
  have nX8 : FX (∀ j : Nat, (j ≠ p ∧ (j < q ∨ q + 3 ≤ j)) → j ≠ q + 1) := fun j hj => by omega
  have nX9 : FX (p ≠ q + 1) := (show p ≠ q + 1 by omega)
  have nX10 : FX (q ≠ q + 1) := (show q ≠ q + 1 by omega)
  have nX11 : FX ((q + 2) ≠ q + 1) := (show (q + 2) ≠ q + 1 by omega)
  iterate 3 refine hR (?_ : R (_, _, _, _, _, _))
  refine hR (k_ne (by omega) (fun hc1 => ?_) (fun hc1 => ?_))
  rotate_left
  · skip
    refine hR (t_c 9 (by decide) ?_)
    refine hR (?_ : R (_, _, _, _, _, _))
    refine hR (c_obj hK0 (zcall_i 0 0 (Nat.le_of_ble_eq_true rfl) (Nat.le_of_ble_eq_true rfl) (x_isWithin _ _ _ _ _ _ _ _ _ _ _ _ _ hK0 (by omega) _ fun v37 f'_38 c'_39 w40 gg41 hC42 hp43 hp44 => ?_)))
    have fr45 := wfM_tr fr0 gg41 nX0
    have hC46 := (gg41.2 q nX1).trans hK1
    have hC47 := (gg41.2 (q + 1) nX2).trans hK2
    have hC48 := (gg41.2 (q + 2) nX3).trans hK3
    obtain ⟨rfl, rfl⟩ := hp44
    have hq49 := @wI_r f c 0 9 x s (by omega)
    refine (?_ : R (_, _, .int (Int32.ofInt v37) :: [], w40, 0, 0))
    iterate 2 refine hR (?_ : R (_, _, _, _, _, _))
    refine hR (c_get hC46 rfl ?_)
    refine hR (?_ : R (_, _, _, _, _, _))
    refine hR (t_sub ?_)
    iterate 2 refine hR (?_ : R (_, _, _, _, _, _))
    refine hR (t_c 6 (by decide) ?_)
    refine hR (j_le (by omega) (by omega) (fun hc50 => ?_) (fun hc50 => ?_))
    rotate_left
    · skip
      iterate 2 refine hR (?_ : R (_, _, _, _, _, _))
      refine hR (c_obj hC42 (zcall_i 0 0 (Nat.le_of_ble_eq_true rfl) (Nat.le_of_ble_eq_true rfl) (x_faultHere _ _ _ _ _ _ _ _ _ _ _ _ hC42 (by omega) _ fun f'_58 c'_59 w60 gg61 hC62 hp63 => ?_)))
      have fr64 := wfM_tr fr45 gg61 nX0
      have hC65 := (gg61.2 q nX1).trans hC46
      have hC66 := (gg61.2 (q + 1) nX2).trans hC47
      have hC67 := (gg61.2 (q + 2) nX3).trans hC48
      obtain ⟨rfl, rfl⟩ := hp63
      have hq68 := @fW_r (wI f c 0 9 x s) (wJ f c 0 9 x s) 3 s (by omega)
      refine (?_ : R (_, _, [], w60, 0, 0))
      refine hR (?_ : R (_, _, _, _, _, _))
      exact hR (zret_i rfl (Nat.le_refl _) rfl (h _ _ _ _ _ _ fr64 hC62 hC65 hC66 hC67 (by unfold sTake sTk; dsimp only; (repeat' split) <;> first | rfl | (exfalso; omega))))
    refine hR (?_ : R (_, _, _, _, _, _))
    refine hR (k_eq (by omega) (fun hc51 => ?_) (fun hc51 => ?_))
    · skip
      exact hR (zret_i rfl (Nat.le_refl _) rfl (h _ _ _ _ _ _ fr45 hC42 hC46 hC47 hC48 (by unfold sTake sTk; dsimp only; (repeat' split) <;> first | rfl | (exfalso; omega))))
    refine hR (?_ : R (_, _, _, _, _, _))
    refine hR (k_lt (by omega) (fun hc52 => ?_) (fun hc52 => ?_))
    · skip
      exact hR (zret_i rfl (Nat.le_refl _) rfl (h _ _ _ _ _ _ fr45 hC42 hC46 hC47 hC48 (by unfold sTake sTk; dsimp only; (repeat' split) <;> first | rfl | (exfalso; omega))))
    refine hR (?_ : R (_, _, _, _, _, _))
    refine hR (k_ne (by omega) (fun hc => by omega) (fun _ => ?_))
    refine hR (?_ : R (_, _, _, _, _, _))
    refine hR (c_get hC46 rfl ?_)
    iterate 2 refine hR (?_ : R (_, _, _, _, _, _))
    refine hR (c_get hC42 rfl ?_)
    refine hR (x_ast hC47 (by omega) (by omega) (Nat.le_of_ble_eq_true rfl) fun w53 ff53 hC53 => ?_)
    have fr54 := wfM_st fr45 ff53 nX8
    have hC55 := (ff53.2 p nX9).trans hC42
    have hC56 := (ff53.2 q nX10).trans hC46
    have hC57 := (ff53.2 (q + 2) nX11).trans hC48
    refine hR (?_ : R (_, _, _, _, _, _))
    exact hR (zret_i rfl (Nat.le_refl _) rfl (h _ _ _ _ _ _ fr54 hC55 hC56 hC53 hC57 (by unfold sTake sTk; dsimp only; (repeat' split) <;> first | rfl | (exfalso; omega))))
  refine hR (?_ : R (_, _, _, _, _, _))
  refine hR (c_obj hK0 (zcall_i 0 0 (Nat.le_of_ble_eq_true rfl) (Nat.le_of_ble_eq_true rfl) (x_isWithin _ _ _ _ _ _ _ _ _ _ _ _ _ hK0 (by omega) _ fun v2 f'_3 c'_4 w5 gg6 hC7 hp8 hp9 => ?_)))
  have fr10 := wfM_tr fr0 gg6 nX0
  have hC11 := (gg6.2 q nX1).trans hK1
  have hC12 := (gg6.2 (q + 1) nX2).trans hK2
  have hC13 := (gg6.2 (q + 2) nX3).trans hK3
  obtain ⟨rfl, rfl⟩ := hp9
  have hq14 := @wI_r f c 0 3 x s (by omega)
  refine (?_ : R (_, _, .int (Int32.ofInt v2) :: [], w5, 0, 0))
  iterate 2 refine hR (?_ : R (_, _, _, _, _, _))
  refine hR (c_get hC11 rfl ?_)
  refine hR (?_ : R (_, _, _, _, _, _))
  refine hR (t_sub ?_)
  iterate 2 refine hR (?_ : R (_, _, _, _, _, _))
  refine hR (t_c 6 (by decide) ?_)
  refine hR (j_le (by omega) (by omega) (fun hc15 => ?_) (fun hc15 => ?_))
  rotate_left
  · skip
    iterate 2 refine hR (?_ : R (_, _, _, _, _, _))
    refine hR (c_obj hC7 (zcall_i 0 0 (Nat.le_of_ble_eq_true rfl) (Nat.le_of_ble_eq_true rfl) (x_faultHere _ _ _ _ _ _ _ _ _ _ _ _ hC7 (by omega) _ fun f'_26 c'_27 w28 gg29 hC30 hp31 => ?_)))
    have fr32 := wfM_tr fr10 gg29 nX0
    have hC33 := (gg29.2 q nX1).trans hC11
    have hC34 := (gg29.2 (q + 1) nX2).trans hC12
    have hC35 := (gg29.2 (q + 2) nX3).trans hC13
    obtain ⟨rfl, rfl⟩ := hp31
    have hq36 := @fW_r (wI f c 0 3 x s) (wJ f c 0 3 x s) 3 s (by omega)
    refine (?_ : R (_, _, [], w28, 0, 0))
    refine hR (?_ : R (_, _, _, _, _, _))
    exact hR (zret_i rfl (Nat.le_refl _) rfl (h _ _ _ _ _ _ fr32 hC30 hC33 hC34 hC35 (by unfold sTake sTk; dsimp only; (repeat' split) <;> first | rfl | (exfalso; omega))))
  refine hR (?_ : R (_, _, _, _, _, _))
  refine hR (k_eq (by omega) (fun hc16 => ?_) (fun hc16 => ?_))
  · skip
    exact hR (zret_i rfl (Nat.le_refl _) rfl (h _ _ _ _ _ _ fr10 hC7 hC11 hC12 hC13 (by unfold sTake sTk; dsimp only; (repeat' split) <;> first | rfl | (exfalso; omega))))
  refine hR (?_ : R (_, _, _, _, _, _))
  refine hR (k_lt (by omega) (fun hc17 => ?_) (fun hc17 => ?_))
  · skip
    exact hR (zret_i rfl (Nat.le_refl _) rfl (h _ _ _ _ _ _ fr10 hC7 hC11 hC12 hC13 (by unfold sTake sTk; dsimp only; (repeat' split) <;> first | rfl | (exfalso; omega))))
  refine hR (?_ : R (_, _, _, _, _, _))
  refine hR (k_ne (by omega) (fun _ => ?_) (fun hc => by omega))
  refine hR (?_ : R (_, _, _, _, _, _))
  refine hR (c_get hC11 rfl ?_)
  iterate 2 refine hR (?_ : R (_, _, _, _, _, _))
  refine hR (c_get hC11 rfl ?_)
  refine hR (?_ : R (_, _, _, _, _, _))
  refine hR (c_aldE hC13 (by omega) (by omega) (Nat.le_of_ble_eq_true rfl) fun v18 ev18 rv18 => ?_)
  replace ev18 : v18 = tBy g2 (x0 - 1) := ev18
  subst ev18
  refine hR (?_ : R (_, _, _, _, _, _))
  refine hR (c_get hC7 rfl ?_)
  refine hR (zcall_i 0 0 (Nat.le_of_ble_eq_true rfl) (Nat.le_of_ble_eq_true rfl) (c_longer _ _ (tBy g2 (x0 - 1)) x _ fun v19 hp20 => ?_))
  subst hp20
  refine (?_ : R (_, _, .int (Int32.ofInt (4 * (tBy g2 (x0 - 1)) + 1 + x)) :: .int (Int32.ofInt (x0 - 1)) :: .ref (q + 2) :: [], w5, 0, 0))
  refine hR (x_ast hC13 (by omega) (by omega) (Nat.le_of_ble_eq_true rfl) fun w21 ff21 hC21 => ?_)
  have fr22 := wfM_st fr10 ff21 nX4
  have hC23 := (ff21.2 p nX5).trans hC7
  have hC24 := (ff21.2 q nX6).trans hC11
  have hC25 := (ff21.2 (q + 1) nX7).trans hC12
  exact hR (zret_i rfl (Nat.le_refl _) rfl (h _ _ _ _ _ _ fr22 hC23 hC24 hC25 hC21 (by unfold sTake sTk; dsimp only; (repeat' split) <;> first | rfl | (exfalso; omega))))
