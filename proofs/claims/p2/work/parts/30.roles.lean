/-! THE CLASS'S WORLD: every cell has a role; a role says what the cell holds. -/
def wfr (q0 : Nat) (w w1 : zW) : Prop := w1.length = w.length ∧ ∀ q, q ≠ q0 → zix w1 q = zix w q
theorem wfr_st {w : zW} {q : Nat} {c c' : va_E} (h : zix w q = some c) : wfr q w (zst w q c') ∧ zix (zst w q c') q = some c' := by
  have hq : q < w.length := by
    rw [zix_eq] at h
    exact (List.getElem?_eq_some_iff.mp h).1
  refine ⟨⟨by rw [zst_eq, List.length_set], fun j hj => ?_⟩, ?_⟩
  · rw [zst_eq, zix_eq, zix_eq, List.getElem?_set_ne (fun e => hj e.symm)]
  · rw [zst_eq, zix_eq, List.getElem?_set_self hq]
def rAr (r : Nat) : Option (Nat × Nat × Int × Int) := match r with
  | 3 => some (0, 600, (-128), 127)
  | 4 => some (1, 3, 0, 2)
  | 11 => some (1, 4, 0, 5460)
  | 12 => some (1, 5, (-2147483648), 2147483647)
  | 21 => some (1, 4, 0, 3)
  | 22 => some (1, 5, 0, 4)
  | 23 => some (1, 20, 0, 4)
  | 24 => some (1, 20, 0, 6)
  | 25 => some (1, 20, 0, 4)
  | 26 => some (1, 20, 0, 6)
  | 31 => some (1, 40, (-2147483648), 2147483647)
  | 32 => some (1, 40, (-2147483648), 2147483647)
  | 33 => some (1, 40, (-2147483648), 2147483647)
  | 41 => some (1, 6, 0, 9)
  | 42 => some (1, 6, (-2147483648), 2147483647)
  | 51 => some (1, 27305, (-1), 5460)
  | 52 => some (0, 5461, (-2147483648), 2147483647)
  | 61 => some (1, 5461, 0, 5460)
  | 62 => some (1, 5461, (-2147483648), 2147483647)
  | 63 => some (1, 5461, (-2147483648), 2147483647)
  | 64 => some (1, 5461, (-2147483648), 2147483647)
  | 71 => some (1, 11, 0, 25750)
  | 72 => some (1, 10, (-2147483648), 2147483647)
  | 73 => some (1, 25750, 0, 5460)
  | 74 => some (1, 25750, (-2147483648), 2147483647)
  | 75 => some (1, 25750, (-2147483648), 2147483647)
  | 76 => some (1, 5461, (-1), 25749)
  | 81 => some (1, 6, (-2147483648), 2147483647)
  | 82 => some (1, 5461, (-2147483648), 2147483647)
  | 83 => some (1, 5461, 0, 5460)
  | 84 => some (1, 5461, (-2147483648), 2147483647)
  | 85 => some (1, 5461, 0, 5460)
  | 86 => some (1, 5461, 0, 5460)
  | 87 => some (1, 5461, (-2147483648), 2147483647)
  | 88 => some (1, 5461, (-2147483648), 2147483647)
  | 89 => some (1, 5461, 0, 5)
  | 90 => some (1, 5461, (-2147483648), 2147483647)
  | _ => none
def rRf (r : Nat) : Option (Nat × Nat × Nat) := match r with
  | 5 => some (3, 2, 20)
  | 6 => some (4, 2, 30)
  | 7 => some (5, 2, 40)
  | 8 => some (6, 3, 2)
  | 13 => some (7, 2, 50)
  | 14 => some (8, 2, 60)
  | _ => none
def rOb (ρ : Nat → Nat) (r q : Nat) (c : va_E) : Prop := match r with
  | 1 => ∃ (y6 : Option Nat) (y7 : Option Nat), c = .inr (10, [.ref 1, .ref 7, .ref 8, .ref 9, .ref 12, .ref 13, va_rf y6, va_rf y7]) ∧ ρ 1 = 2 ∧ ρ 7 = 8 ∧ ρ 8 = 9 ∧ ρ 9 = 10 ∧ ρ 12 = 13 ∧ ρ 13 = 14 ∧ (∀ z, y6 = some z → ρ z = 70) ∧ (∀ z, y7 = some z → ρ z = 80)
  | 2 => ∃ (x1 : Int) (x2 : Int) (x3 : Int), c = .inr (7, [.ref (q + 1), .int (Int32.ofInt x1), .int (Int32.ofInt x2), .int (Int32.ofInt x3), .ref (q + 2), .ref (q + 3), .ref (q + 4), .ref (q + 5)]) ∧ ρ (q + 1) = 3 ∧ (0 ≤ x1 ∧ x1 ≤ 600) ∧ ((-2147483648) ≤ x2 ∧ x2 ≤ 2147483647) ∧ ((-2147483648) ≤ x3 ∧ x3 ≤ 2147483647) ∧ ρ (q + 2) = 4 ∧ ρ (q + 3) = 5 ∧ ρ (q + 4) = 6 ∧ ρ (q + 5) = 7
  | 9 => ∃ (y0 : Option Nat) (x1 : Int) (x2 : Int) (x3 : Int) (x4 : Int) (x5 : Int) (x6 : Int) (x7 : Int), c = .inr (6, [va_rf y0, .int (Int32.ofInt x1), .int (Int32.ofInt x2), .int (Int32.ofInt x3), .int (Int32.ofInt x4), .int (Int32.ofInt x5), .int (Int32.ofInt x6), .int (Int32.ofInt x7)]) ∧ (∀ z, y0 = some z → ρ z = 3) ∧ ((-2147483648) ≤ x1 ∧ x1 ≤ 2147483647) ∧ ((-2147483648) ≤ x2 ∧ x2 ≤ 2147483647) ∧ ((-2147483648) ≤ x3 ∧ x3 ≤ 2147483647) ∧ ((-2147483648) ≤ x4 ∧ x4 ≤ 2147483647) ∧ ((-2147483648) ≤ x5 ∧ x5 ≤ 2147483647) ∧ ((-2147483648) ≤ x6 ∧ x6 ≤ 2147483647) ∧ ((-2147483648) ≤ x7 ∧ x7 ≤ 2147483647)
  | 10 => ∃ (y0 : Option Nat) (x1 : Int) (x2 : Int) (x3 : Int) (x4 : Int), c = .inr (1, [va_rf y0, .int (Int32.ofInt x1), .int (Int32.ofInt x2), .int (Int32.ofInt x3), .int (Int32.ofInt x4), .ref (q + 1), .ref (q + 2)]) ∧ (∀ z, y0 = some z → ρ z = 20) ∧ ((-2147483648) ≤ x1 ∧ x1 ≤ 2147483647) ∧ (0 ≤ x2 ∧ x2 ≤ 3) ∧ ((-2147483648) ≤ x3 ∧ x3 ≤ 2147483647) ∧ ((-2147483648) ≤ x4 ∧ x4 ≤ 2147483647) ∧ ρ (q + 1) = 11 ∧ ρ (q + 2) = 12
  | 19 => ∃ (x0 : Int) (x1 : Int) (x2 : Int), c = .inr (0, [.int (Int32.ofInt x0), .int (Int32.ofInt x1), .int (Int32.ofInt x2), .ref (q + 1), .ref (q + 2), .ref (q + 3), .ref (q + 4)]) ∧ (0 ≤ x0 ∧ x0 ≤ 5460) ∧ (0 ≤ x1 ∧ x1 ≤ 5) ∧ ((-1) ≤ x2 ∧ x2 ≤ 3) ∧ ρ (q + 1) = 21 ∧ ρ (q + 2) = 22 ∧ ρ (q + 3) = 25 ∧ ρ (q + 4) = 26
  | 20 => ∃ (x0 : Int) (x1 : Int) (x2 : Int), c = .inr (0, [.int (Int32.ofInt x0), .int (Int32.ofInt x1), .int (Int32.ofInt x2), .ref (q + 1), .ref (q + 2), .ref (q + 3), .ref (q + 4)]) ∧ (0 ≤ x0 ∧ x0 ≤ 5460) ∧ (0 ≤ x1 ∧ x1 ≤ 5) ∧ ((-1) ≤ x2 ∧ x2 ≤ 3) ∧ ρ (q + 1) = 21 ∧ ρ (q + 2) = 22 ∧ ρ (q + 3) = 23 ∧ ρ (q + 4) = 24
  | 30 => ∃ (x0 : Int), c = .inr (9, [.int (Int32.ofInt x0), .ref (q + 1), .ref (q + 2), .ref (q + 3)]) ∧ (0 ≤ x0 ∧ x0 ≤ 40) ∧ ρ (q + 1) = 31 ∧ ρ (q + 2) = 32 ∧ ρ (q + 3) = 33
  | 40 => ∃ (x0 : Int), c = .inr (5, [.int (Int32.ofInt x0), .ref (q + 1), .ref (q + 2)]) ∧ (0 ≤ x0 ∧ x0 ≤ 6) ∧ ρ (q + 1) = 41 ∧ ρ (q + 2) = 42
  | 49 => ∃ (y0 : Option Nat) (z2 : Nat) (z3 : Nat), c = .inr (3, [va_rf y0, .ref (q + 1), .ref z2, .ref z3]) ∧ (∀ z, y0 = some z → ρ z = 20) ∧ ρ (q + 1) = 51 ∧ ρ z2 = 52 ∧ ρ z3 = 52 ∧ z2 ≠ z3
  | 50 => ∃ (z0 : Nat) (z2 : Nat) (z3 : Nat), c = .inr (3, [.ref z0, .ref (q + 1), .ref z2, .ref z3]) ∧ ρ z0 = 20 ∧ ρ (q + 1) = 51 ∧ ρ z2 = 52 ∧ ρ z3 = 52 ∧ z2 ≠ z3
  | 60 => ∃ (x0 : Int), c = .inr (8, [.int (Int32.ofInt x0), .ref (q + 1), .ref (q + 2), .ref (q + 3), .ref (q + 4)]) ∧ (0 ≤ x0 ∧ x0 ≤ 5461) ∧ ρ (q + 1) = 61 ∧ ρ (q + 2) = 62 ∧ ρ (q + 3) = 63 ∧ ρ (q + 4) = 64
  | 70 => ∃ (y0 : Option Nat) (x1 : Int) (x2 : Int) (x3 : Int), c = .inr (2, [va_rf y0, .int (Int32.ofInt x1), .int (Int32.ofInt x2), .int (Int32.ofInt x3), .ref (q + 1), .ref (q + 2), .ref (q + 3), .ref (q + 4), .ref (q + 5), .ref (q + 6)]) ∧ (∀ z, y0 = some z → ρ z = 50) ∧ (0 ≤ x1 ∧ x1 ≤ 9) ∧ ((-2147483648) ≤ x2 ∧ x2 ≤ 2147483647) ∧ ((-2147483648) ≤ x3 ∧ x3 ≤ 2147483647) ∧ ρ (q + 1) = 71 ∧ ρ (q + 2) = 72 ∧ ρ (q + 3) = 73 ∧ ρ (q + 4) = 74 ∧ ρ (q + 5) = 75 ∧ ρ (q + 6) = 76
  | 80 => ∃ (x1 : Int) (x2 : Int) (x3 : Int) (x4 : Int) (x5 : Int), c = .inr (4, [.ref (q + 1), .int (Int32.ofInt x1), .int (Int32.ofInt x2), .int (Int32.ofInt x3), .int (Int32.ofInt x4), .int (Int32.ofInt x5), .ref (q + 2), .ref (q + 3), .ref (q + 4), .ref (q + 5), .ref (q + 6), .ref (q + 7), .ref (q + 8), .ref (q + 9), .ref (q + 10)]) ∧ ρ (q + 1) = 81 ∧ ((-2147483648) ≤ x1 ∧ x1 ≤ 2147483647) ∧ ((-2147483648) ≤ x2 ∧ x2 ≤ 2147483647) ∧ ((-2147483648) ≤ x3 ∧ x3 ≤ 2147483647) ∧ ((-2147483648) ≤ x4 ∧ x4 ≤ 2147483647) ∧ ((-2147483648) ≤ x5 ∧ x5 ≤ 2147483647) ∧ ρ (q + 2) = 82 ∧ ρ (q + 3) = 83 ∧ ρ (q + 4) = 84 ∧ ρ (q + 5) = 85 ∧ ρ (q + 6) = 86 ∧ ρ (q + 7) = 87 ∧ ρ (q + 8) = 88 ∧ ρ (q + 9) = 89 ∧ ρ (q + 10) = 90
  | _ => True
def rOK (ρ : Nat → Nat) (q : Nat) (c : va_E) : Prop := match rAr (ρ q) with
  | some (ti, len, lo, hi) => ∃ g, c = .inl (ti, len, .inl g) ∧ zB lo hi g
  | none => match rRf (ρ q) with
    | some (ti, len, re) => ∃ g : Nat → Option Nat, c = .inl (ti, len, .inr (.inr (.inr (.inr g)))) ∧ ∀ j x, g j = some x → ρ x = re
    | none => rOb ρ (ρ q) q c
def wt (ρ : Nat → Nat) (w : zW) : Prop := ∀ q, q < w.length → ∃ c, zix w q = some c ∧ rOK ρ q c
def wrel (ρ : Nat → Nat) (w : zW) : Prop := ∀ q, ρ q = 23 → ρ (q + 1) = 24 ∧ ∃ gk gn, zix w q = some (.inl (1, 20, .inl gk)) ∧ zix w (q + 1) = some (.inl (1, 20, .inl gn)) ∧ ∀ j, j < 20 → ((gk j).toInt = 0 → (gn j).toInt ≤ 3) ∧ (1 ≤ (gk j).toInt → (gk j).toInt ≤ 3 → 1 ≤ (gn j).toInt)
def CI (ρ : Nat → Nat) (w : zW) : Prop := wt ρ w ∧ (∀ q, w.length ≤ q → ρ q = 0) ∧ wrel ρ w
theorem CI_lt {ρ : Nat → Nat} {w : zW} (h : CI ρ w) {q : Nat} (hq : ρ q ≠ 0) : q < w.length := by
  rcases Nat.lt_or_ge q w.length with h1 | h1
  · exact h1
  · exact absurd (h.2.1 q h1) hq
theorem CI_at {ρ : Nat → Nat} {w : zW} (h : CI ρ w) {q : Nat} (hq : ρ q ≠ 0) : ∃ c, zix w q = some c ∧ rOK ρ q c := h.1 q (CI_lt h hq)
theorem CI_ar {ρ : Nat → Nat} {w : zW} (h : CI ρ w) {q ti len : Nat} {lo hi : Int} (hr : rAr (ρ q) = some (ti, len, lo, hi)) : ∃ g, zix w q = some (.inl (ti, len, .inl g)) ∧ zB lo hi g := by
  have h0 : ρ q ≠ 0 := by intro e; rw [e] at hr; cases hr
  obtain ⟨c, h1, h2⟩ := CI_at h h0
  unfold rOK at h2
  rw [hr] at h2
  obtain ⟨g, rfl, h3⟩ := h2
  exact ⟨g, h1, h3⟩
theorem CI_rf {ρ : Nat → Nat} {w : zW} (h : CI ρ w) {q ti len re : Nat} (ha : rAr (ρ q) = none) (hr : rRf (ρ q) = some (ti, len, re)) : ∃ g : Nat → Option Nat, zix w q = some (.inl (ti, len, .inr (.inr (.inr (.inr g))))) ∧ ∀ j x, g j = some x → ρ x = re := by
  have h0 : ρ q ≠ 0 := by intro e; rw [e] at hr; cases hr
  obtain ⟨c, h1, h2⟩ := CI_at h h0
  unfold rOK at h2
  rw [ha, hr] at h2
  obtain ⟨g, rfl, h3⟩ := h2
  exact ⟨g, h1, h3⟩
theorem CI_st {ρ : Nat → Nat} {w w1 : zW} {q : Nat} {c : va_E} (h : CI ρ w) (hf : wfr q w w1) (hc : zix w1 q = some c) (hok : rOK ρ q c) (hm : ρ q ≠ 23 ∧ ρ q ≠ 24) : CI ρ w1 := by
  refine ⟨fun j hj => ?_, fun j hj => h.2.1 j (by rw [← hf.1]; exact hj), fun j hj => ?_⟩
  · by_cases e : j = q
    · subst e; exact ⟨c, hc, hok⟩
    · rw [hf.2 j e]; exact h.1 j (by rw [← hf.1]; exact hj)
  · obtain ⟨h1, gk, gn, h2, h3, h4⟩ := h.2.2 j hj
    refine ⟨h1, gk, gn, ?_, ?_, h4⟩
    · rw [hf.2 j (fun e => hm.1 (e ▸ hj))]; exact h2
    · rw [hf.2 (j + 1) (fun e => hm.2 (e ▸ h1))]; exact h3
/-- what a call may change: cells of some roles -/
def wfR (rs : List Nat) (ρ : Nat → Nat) (w w1 : zW) : Prop := w1.length = w.length ∧ ∀ q, ρ q ∉ rs → zix w1 q = zix w q
theorem wfR_rf (rs : List Nat) (ρ : Nat → Nat) (w : zW) : wfR rs ρ w w := ⟨rfl, fun _ _ => rfl⟩
theorem wfR_st {rs : List Nat} {ρ : Nat → Nat} {w w1 w2 : zW} {q : Nat} (h : wfR rs ρ w w1) (hf : wfr q w1 w2) (hq : ρ q ∈ rs) : wfR rs ρ w w2 :=
  ⟨hf.1.trans h.1, fun j hj => (hf.2 j (fun e => hj (e ▸ hq))).trans (h.2 j hj)⟩
theorem wfR_tr {rs rs' : List Nat} {ρ : Nat → Nat} {w w1 w2 : zW} (h : wfR rs ρ w w1) (h2 : wfR rs' ρ w1 w2) (hs : ∀ r ∈ rs', r ∈ rs) : wfR rs ρ w w2 :=
  ⟨h2.1.trans h.1, fun j hj => (h2.2 j (fun e => hj (hs _ e))).trans (h.2 j hj)⟩
theorem CI_o1 {ρ : Nat → Nat} {w : zW} (h : CI ρ w) {q : Nat} (hq : ρ q = 1) : ∃ (y6 : Option Nat) (y7 : Option Nat), zix w q = some (.inr (10, [.ref 1, .ref 7, .ref 8, .ref 9, .ref 12, .ref 13, va_rf y6, va_rf y7])) ∧ ρ 1 = 2 ∧ ρ 7 = 8 ∧ ρ 8 = 9 ∧ ρ 9 = 10 ∧ ρ 12 = 13 ∧ ρ 13 = 14 ∧ (∀ z, y6 = some z → ρ z = 70) ∧ (∀ z, y7 = some z → ρ z = 80) := by
  obtain ⟨c, h1, h2⟩ := CI_at h (q := q) (by rw [hq]; decide)
  unfold rOK at h2
  rw [hq] at h2
  obtain ⟨y6, y7, rfl, h3⟩ := h2
  exact ⟨y6, y7, h1, h3⟩
theorem CI_w1 {ρ : Nat → Nat} {w w1 : zW} (h : CI ρ w) {q : Nat} (hq : ρ q = 1) (hf : wfr q w w1) {y6 : Option Nat} {y7 : Option Nat} (hc : zix w1 q = some (.inr (10, [.ref 1, .ref 7, .ref 8, .ref 9, .ref 12, .ref 13, va_rf y6, va_rf y7]))) (hk : ρ 1 = 2 ∧ ρ 7 = 8 ∧ ρ 8 = 9 ∧ ρ 9 = 10 ∧ ρ 12 = 13 ∧ ρ 13 = 14 ∧ (∀ z, y6 = some z → ρ z = 70) ∧ (∀ z, y7 = some z → ρ z = 80)) : CI ρ w1 := by
  refine CI_st h hf hc ?_ ⟨by rw [hq]; decide, by rw [hq]; decide⟩
  unfold rOK
  rw [hq]
  exact ⟨y6, y7, rfl, hk⟩
theorem CI_o2 {ρ : Nat → Nat} {w : zW} (h : CI ρ w) {q : Nat} (hq : ρ q = 2) : ∃ (x1 : Int) (x2 : Int) (x3 : Int), zix w q = some (.inr (7, [.ref (q + 1), .int (Int32.ofInt x1), .int (Int32.ofInt x2), .int (Int32.ofInt x3), .ref (q + 2), .ref (q + 3), .ref (q + 4), .ref (q + 5)])) ∧ ρ (q + 1) = 3 ∧ (0 ≤ x1 ∧ x1 ≤ 600) ∧ ((-2147483648) ≤ x2 ∧ x2 ≤ 2147483647) ∧ ((-2147483648) ≤ x3 ∧ x3 ≤ 2147483647) ∧ ρ (q + 2) = 4 ∧ ρ (q + 3) = 5 ∧ ρ (q + 4) = 6 ∧ ρ (q + 5) = 7 := by
  obtain ⟨c, h1, h2⟩ := CI_at h (q := q) (by rw [hq]; decide)
  unfold rOK at h2
  rw [hq] at h2
  obtain ⟨x1, x2, x3, rfl, h3⟩ := h2
  exact ⟨x1, x2, x3, h1, h3⟩
theorem CI_w2 {ρ : Nat → Nat} {w w1 : zW} (h : CI ρ w) {q : Nat} (hq : ρ q = 2) (hf : wfr q w w1) {x1 : Int} {x2 : Int} {x3 : Int} (hc : zix w1 q = some (.inr (7, [.ref (q + 1), .int (Int32.ofInt x1), .int (Int32.ofInt x2), .int (Int32.ofInt x3), .ref (q + 2), .ref (q + 3), .ref (q + 4), .ref (q + 5)]))) (hk : ρ (q + 1) = 3 ∧ (0 ≤ x1 ∧ x1 ≤ 600) ∧ ((-2147483648) ≤ x2 ∧ x2 ≤ 2147483647) ∧ ((-2147483648) ≤ x3 ∧ x3 ≤ 2147483647) ∧ ρ (q + 2) = 4 ∧ ρ (q + 3) = 5 ∧ ρ (q + 4) = 6 ∧ ρ (q + 5) = 7) : CI ρ w1 := by
  refine CI_st h hf hc ?_ ⟨by rw [hq]; decide, by rw [hq]; decide⟩
  unfold rOK
  rw [hq]
  exact ⟨x1, x2, x3, rfl, hk⟩
theorem CI_o9 {ρ : Nat → Nat} {w : zW} (h : CI ρ w) {q : Nat} (hq : ρ q = 9) : ∃ (y0 : Option Nat) (x1 : Int) (x2 : Int) (x3 : Int) (x4 : Int) (x5 : Int) (x6 : Int) (x7 : Int), zix w q = some (.inr (6, [va_rf y0, .int (Int32.ofInt x1), .int (Int32.ofInt x2), .int (Int32.ofInt x3), .int (Int32.ofInt x4), .int (Int32.ofInt x5), .int (Int32.ofInt x6), .int (Int32.ofInt x7)])) ∧ (∀ z, y0 = some z → ρ z = 3) ∧ ((-2147483648) ≤ x1 ∧ x1 ≤ 2147483647) ∧ ((-2147483648) ≤ x2 ∧ x2 ≤ 2147483647) ∧ ((-2147483648) ≤ x3 ∧ x3 ≤ 2147483647) ∧ ((-2147483648) ≤ x4 ∧ x4 ≤ 2147483647) ∧ ((-2147483648) ≤ x5 ∧ x5 ≤ 2147483647) ∧ ((-2147483648) ≤ x6 ∧ x6 ≤ 2147483647) ∧ ((-2147483648) ≤ x7 ∧ x7 ≤ 2147483647) := by
  obtain ⟨c, h1, h2⟩ := CI_at h (q := q) (by rw [hq]; decide)
  unfold rOK at h2
  rw [hq] at h2
  obtain ⟨y0, x1, x2, x3, x4, x5, x6, x7, rfl, h3⟩ := h2
  exact ⟨y0, x1, x2, x3, x4, x5, x6, x7, h1, h3⟩
theorem CI_w9 {ρ : Nat → Nat} {w w1 : zW} (h : CI ρ w) {q : Nat} (hq : ρ q = 9) (hf : wfr q w w1) {y0 : Option Nat} {x1 : Int} {x2 : Int} {x3 : Int} {x4 : Int} {x5 : Int} {x6 : Int} {x7 : Int} (hc : zix w1 q = some (.inr (6, [va_rf y0, .int (Int32.ofInt x1), .int (Int32.ofInt x2), .int (Int32.ofInt x3), .int (Int32.ofInt x4), .int (Int32.ofInt x5), .int (Int32.ofInt x6), .int (Int32.ofInt x7)]))) (hk : (∀ z, y0 = some z → ρ z = 3) ∧ ((-2147483648) ≤ x1 ∧ x1 ≤ 2147483647) ∧ ((-2147483648) ≤ x2 ∧ x2 ≤ 2147483647) ∧ ((-2147483648) ≤ x3 ∧ x3 ≤ 2147483647) ∧ ((-2147483648) ≤ x4 ∧ x4 ≤ 2147483647) ∧ ((-2147483648) ≤ x5 ∧ x5 ≤ 2147483647) ∧ ((-2147483648) ≤ x6 ∧ x6 ≤ 2147483647) ∧ ((-2147483648) ≤ x7 ∧ x7 ≤ 2147483647)) : CI ρ w1 := by
  refine CI_st h hf hc ?_ ⟨by rw [hq]; decide, by rw [hq]; decide⟩
  unfold rOK
  rw [hq]
  exact ⟨y0, x1, x2, x3, x4, x5, x6, x7, rfl, hk⟩
theorem CI_o10 {ρ : Nat → Nat} {w : zW} (h : CI ρ w) {q : Nat} (hq : ρ q = 10) : ∃ (y0 : Option Nat) (x1 : Int) (x2 : Int) (x3 : Int) (x4 : Int), zix w q = some (.inr (1, [va_rf y0, .int (Int32.ofInt x1), .int (Int32.ofInt x2), .int (Int32.ofInt x3), .int (Int32.ofInt x4), .ref (q + 1), .ref (q + 2)])) ∧ (∀ z, y0 = some z → ρ z = 20) ∧ ((-2147483648) ≤ x1 ∧ x1 ≤ 2147483647) ∧ (0 ≤ x2 ∧ x2 ≤ 3) ∧ ((-2147483648) ≤ x3 ∧ x3 ≤ 2147483647) ∧ ((-2147483648) ≤ x4 ∧ x4 ≤ 2147483647) ∧ ρ (q + 1) = 11 ∧ ρ (q + 2) = 12 := by
  obtain ⟨c, h1, h2⟩ := CI_at h (q := q) (by rw [hq]; decide)
  unfold rOK at h2
  rw [hq] at h2
  obtain ⟨y0, x1, x2, x3, x4, rfl, h3⟩ := h2
  exact ⟨y0, x1, x2, x3, x4, h1, h3⟩
theorem CI_w10 {ρ : Nat → Nat} {w w1 : zW} (h : CI ρ w) {q : Nat} (hq : ρ q = 10) (hf : wfr q w w1) {y0 : Option Nat} {x1 : Int} {x2 : Int} {x3 : Int} {x4 : Int} (hc : zix w1 q = some (.inr (1, [va_rf y0, .int (Int32.ofInt x1), .int (Int32.ofInt x2), .int (Int32.ofInt x3), .int (Int32.ofInt x4), .ref (q + 1), .ref (q + 2)]))) (hk : (∀ z, y0 = some z → ρ z = 20) ∧ ((-2147483648) ≤ x1 ∧ x1 ≤ 2147483647) ∧ (0 ≤ x2 ∧ x2 ≤ 3) ∧ ((-2147483648) ≤ x3 ∧ x3 ≤ 2147483647) ∧ ((-2147483648) ≤ x4 ∧ x4 ≤ 2147483647) ∧ ρ (q + 1) = 11 ∧ ρ (q + 2) = 12) : CI ρ w1 := by
  refine CI_st h hf hc ?_ ⟨by rw [hq]; decide, by rw [hq]; decide⟩
  unfold rOK
  rw [hq]
  exact ⟨y0, x1, x2, x3, x4, rfl, hk⟩
theorem CI_o19 {ρ : Nat → Nat} {w : zW} (h : CI ρ w) {q : Nat} (hq : ρ q = 19) : ∃ (x0 : Int) (x1 : Int) (x2 : Int), zix w q = some (.inr (0, [.int (Int32.ofInt x0), .int (Int32.ofInt x1), .int (Int32.ofInt x2), .ref (q + 1), .ref (q + 2), .ref (q + 3), .ref (q + 4)])) ∧ (0 ≤ x0 ∧ x0 ≤ 5460) ∧ (0 ≤ x1 ∧ x1 ≤ 5) ∧ ((-1) ≤ x2 ∧ x2 ≤ 3) ∧ ρ (q + 1) = 21 ∧ ρ (q + 2) = 22 ∧ ρ (q + 3) = 25 ∧ ρ (q + 4) = 26 := by
  obtain ⟨c, h1, h2⟩ := CI_at h (q := q) (by rw [hq]; decide)
  unfold rOK at h2
  rw [hq] at h2
  obtain ⟨x0, x1, x2, rfl, h3⟩ := h2
  exact ⟨x0, x1, x2, h1, h3⟩
theorem CI_w19 {ρ : Nat → Nat} {w w1 : zW} (h : CI ρ w) {q : Nat} (hq : ρ q = 19) (hf : wfr q w w1) {x0 : Int} {x1 : Int} {x2 : Int} (hc : zix w1 q = some (.inr (0, [.int (Int32.ofInt x0), .int (Int32.ofInt x1), .int (Int32.ofInt x2), .ref (q + 1), .ref (q + 2), .ref (q + 3), .ref (q + 4)]))) (hk : (0 ≤ x0 ∧ x0 ≤ 5460) ∧ (0 ≤ x1 ∧ x1 ≤ 5) ∧ ((-1) ≤ x2 ∧ x2 ≤ 3) ∧ ρ (q + 1) = 21 ∧ ρ (q + 2) = 22 ∧ ρ (q + 3) = 25 ∧ ρ (q + 4) = 26) : CI ρ w1 := by
  refine CI_st h hf hc ?_ ⟨by rw [hq]; decide, by rw [hq]; decide⟩
  unfold rOK
  rw [hq]
  exact ⟨x0, x1, x2, rfl, hk⟩
theorem CI_o20 {ρ : Nat → Nat} {w : zW} (h : CI ρ w) {q : Nat} (hq : ρ q = 20) : ∃ (x0 : Int) (x1 : Int) (x2 : Int), zix w q = some (.inr (0, [.int (Int32.ofInt x0), .int (Int32.ofInt x1), .int (Int32.ofInt x2), .ref (q + 1), .ref (q + 2), .ref (q + 3), .ref (q + 4)])) ∧ (0 ≤ x0 ∧ x0 ≤ 5460) ∧ (0 ≤ x1 ∧ x1 ≤ 5) ∧ ((-1) ≤ x2 ∧ x2 ≤ 3) ∧ ρ (q + 1) = 21 ∧ ρ (q + 2) = 22 ∧ ρ (q + 3) = 23 ∧ ρ (q + 4) = 24 := by
  obtain ⟨c, h1, h2⟩ := CI_at h (q := q) (by rw [hq]; decide)
  unfold rOK at h2
  rw [hq] at h2
  obtain ⟨x0, x1, x2, rfl, h3⟩ := h2
  exact ⟨x0, x1, x2, h1, h3⟩
theorem CI_w20 {ρ : Nat → Nat} {w w1 : zW} (h : CI ρ w) {q : Nat} (hq : ρ q = 20) (hf : wfr q w w1) {x0 : Int} {x1 : Int} {x2 : Int} (hc : zix w1 q = some (.inr (0, [.int (Int32.ofInt x0), .int (Int32.ofInt x1), .int (Int32.ofInt x2), .ref (q + 1), .ref (q + 2), .ref (q + 3), .ref (q + 4)]))) (hk : (0 ≤ x0 ∧ x0 ≤ 5460) ∧ (0 ≤ x1 ∧ x1 ≤ 5) ∧ ((-1) ≤ x2 ∧ x2 ≤ 3) ∧ ρ (q + 1) = 21 ∧ ρ (q + 2) = 22 ∧ ρ (q + 3) = 23 ∧ ρ (q + 4) = 24) : CI ρ w1 := by
  refine CI_st h hf hc ?_ ⟨by rw [hq]; decide, by rw [hq]; decide⟩
  unfold rOK
  rw [hq]
  exact ⟨x0, x1, x2, rfl, hk⟩
theorem CI_o30 {ρ : Nat → Nat} {w : zW} (h : CI ρ w) {q : Nat} (hq : ρ q = 30) : ∃ (x0 : Int), zix w q = some (.inr (9, [.int (Int32.ofInt x0), .ref (q + 1), .ref (q + 2), .ref (q + 3)])) ∧ (0 ≤ x0 ∧ x0 ≤ 40) ∧ ρ (q + 1) = 31 ∧ ρ (q + 2) = 32 ∧ ρ (q + 3) = 33 := by
  obtain ⟨c, h1, h2⟩ := CI_at h (q := q) (by rw [hq]; decide)
  unfold rOK at h2
  rw [hq] at h2
  obtain ⟨x0, rfl, h3⟩ := h2
  exact ⟨x0, h1, h3⟩
theorem CI_w30 {ρ : Nat → Nat} {w w1 : zW} (h : CI ρ w) {q : Nat} (hq : ρ q = 30) (hf : wfr q w w1) {x0 : Int} (hc : zix w1 q = some (.inr (9, [.int (Int32.ofInt x0), .ref (q + 1), .ref (q + 2), .ref (q + 3)]))) (hk : (0 ≤ x0 ∧ x0 ≤ 40) ∧ ρ (q + 1) = 31 ∧ ρ (q + 2) = 32 ∧ ρ (q + 3) = 33) : CI ρ w1 := by
  refine CI_st h hf hc ?_ ⟨by rw [hq]; decide, by rw [hq]; decide⟩
  unfold rOK
  rw [hq]
  exact ⟨x0, rfl, hk⟩
theorem CI_o40 {ρ : Nat → Nat} {w : zW} (h : CI ρ w) {q : Nat} (hq : ρ q = 40) : ∃ (x0 : Int), zix w q = some (.inr (5, [.int (Int32.ofInt x0), .ref (q + 1), .ref (q + 2)])) ∧ (0 ≤ x0 ∧ x0 ≤ 6) ∧ ρ (q + 1) = 41 ∧ ρ (q + 2) = 42 := by
  obtain ⟨c, h1, h2⟩ := CI_at h (q := q) (by rw [hq]; decide)
  unfold rOK at h2
  rw [hq] at h2
  obtain ⟨x0, rfl, h3⟩ := h2
  exact ⟨x0, h1, h3⟩
theorem CI_w40 {ρ : Nat → Nat} {w w1 : zW} (h : CI ρ w) {q : Nat} (hq : ρ q = 40) (hf : wfr q w w1) {x0 : Int} (hc : zix w1 q = some (.inr (5, [.int (Int32.ofInt x0), .ref (q + 1), .ref (q + 2)]))) (hk : (0 ≤ x0 ∧ x0 ≤ 6) ∧ ρ (q + 1) = 41 ∧ ρ (q + 2) = 42) : CI ρ w1 := by
  refine CI_st h hf hc ?_ ⟨by rw [hq]; decide, by rw [hq]; decide⟩
  unfold rOK
  rw [hq]
  exact ⟨x0, rfl, hk⟩
theorem CI_o49 {ρ : Nat → Nat} {w : zW} (h : CI ρ w) {q : Nat} (hq : ρ q = 49) : ∃ (y0 : Option Nat) (z2 : Nat) (z3 : Nat), zix w q = some (.inr (3, [va_rf y0, .ref (q + 1), .ref z2, .ref z3])) ∧ (∀ z, y0 = some z → ρ z = 20) ∧ ρ (q + 1) = 51 ∧ ρ z2 = 52 ∧ ρ z3 = 52 ∧ z2 ≠ z3 := by
  obtain ⟨c, h1, h2⟩ := CI_at h (q := q) (by rw [hq]; decide)
  unfold rOK at h2
  rw [hq] at h2
  obtain ⟨y0, z2, z3, rfl, h3⟩ := h2
  exact ⟨y0, z2, z3, h1, h3⟩
theorem CI_w49 {ρ : Nat → Nat} {w w1 : zW} (h : CI ρ w) {q : Nat} (hq : ρ q = 49) (hf : wfr q w w1) {y0 : Option Nat} {z2 : Nat} {z3 : Nat} (hc : zix w1 q = some (.inr (3, [va_rf y0, .ref (q + 1), .ref z2, .ref z3]))) (hk : (∀ z, y0 = some z → ρ z = 20) ∧ ρ (q + 1) = 51 ∧ ρ z2 = 52 ∧ ρ z3 = 52 ∧ z2 ≠ z3) : CI ρ w1 := by
  refine CI_st h hf hc ?_ ⟨by rw [hq]; decide, by rw [hq]; decide⟩
  unfold rOK
  rw [hq]
  exact ⟨y0, z2, z3, rfl, hk⟩
theorem CI_o50 {ρ : Nat → Nat} {w : zW} (h : CI ρ w) {q : Nat} (hq : ρ q = 50) : ∃ (z0 : Nat) (z2 : Nat) (z3 : Nat), zix w q = some (.inr (3, [.ref z0, .ref (q + 1), .ref z2, .ref z3])) ∧ ρ z0 = 20 ∧ ρ (q + 1) = 51 ∧ ρ z2 = 52 ∧ ρ z3 = 52 ∧ z2 ≠ z3 := by
  obtain ⟨c, h1, h2⟩ := CI_at h (q := q) (by rw [hq]; decide)
  unfold rOK at h2
  rw [hq] at h2
  obtain ⟨z0, z2, z3, rfl, h3⟩ := h2
  exact ⟨z0, z2, z3, h1, h3⟩
theorem CI_w50 {ρ : Nat → Nat} {w w1 : zW} (h : CI ρ w) {q : Nat} (hq : ρ q = 50) (hf : wfr q w w1) {z0 : Nat} {z2 : Nat} {z3 : Nat} (hc : zix w1 q = some (.inr (3, [.ref z0, .ref (q + 1), .ref z2, .ref z3]))) (hk : ρ z0 = 20 ∧ ρ (q + 1) = 51 ∧ ρ z2 = 52 ∧ ρ z3 = 52 ∧ z2 ≠ z3) : CI ρ w1 := by
  refine CI_st h hf hc ?_ ⟨by rw [hq]; decide, by rw [hq]; decide⟩
  unfold rOK
  rw [hq]
  exact ⟨z0, z2, z3, rfl, hk⟩
theorem CI_o60 {ρ : Nat → Nat} {w : zW} (h : CI ρ w) {q : Nat} (hq : ρ q = 60) : ∃ (x0 : Int), zix w q = some (.inr (8, [.int (Int32.ofInt x0), .ref (q + 1), .ref (q + 2), .ref (q + 3), .ref (q + 4)])) ∧ (0 ≤ x0 ∧ x0 ≤ 5461) ∧ ρ (q + 1) = 61 ∧ ρ (q + 2) = 62 ∧ ρ (q + 3) = 63 ∧ ρ (q + 4) = 64 := by
  obtain ⟨c, h1, h2⟩ := CI_at h (q := q) (by rw [hq]; decide)
  unfold rOK at h2
  rw [hq] at h2
  obtain ⟨x0, rfl, h3⟩ := h2
  exact ⟨x0, h1, h3⟩
theorem CI_w60 {ρ : Nat → Nat} {w w1 : zW} (h : CI ρ w) {q : Nat} (hq : ρ q = 60) (hf : wfr q w w1) {x0 : Int} (hc : zix w1 q = some (.inr (8, [.int (Int32.ofInt x0), .ref (q + 1), .ref (q + 2), .ref (q + 3), .ref (q + 4)]))) (hk : (0 ≤ x0 ∧ x0 ≤ 5461) ∧ ρ (q + 1) = 61 ∧ ρ (q + 2) = 62 ∧ ρ (q + 3) = 63 ∧ ρ (q + 4) = 64) : CI ρ w1 := by
  refine CI_st h hf hc ?_ ⟨by rw [hq]; decide, by rw [hq]; decide⟩
  unfold rOK
  rw [hq]
  exact ⟨x0, rfl, hk⟩
theorem CI_o70 {ρ : Nat → Nat} {w : zW} (h : CI ρ w) {q : Nat} (hq : ρ q = 70) : ∃ (y0 : Option Nat) (x1 : Int) (x2 : Int) (x3 : Int), zix w q = some (.inr (2, [va_rf y0, .int (Int32.ofInt x1), .int (Int32.ofInt x2), .int (Int32.ofInt x3), .ref (q + 1), .ref (q + 2), .ref (q + 3), .ref (q + 4), .ref (q + 5), .ref (q + 6)])) ∧ (∀ z, y0 = some z → ρ z = 50) ∧ (0 ≤ x1 ∧ x1 ≤ 9) ∧ ((-2147483648) ≤ x2 ∧ x2 ≤ 2147483647) ∧ ((-2147483648) ≤ x3 ∧ x3 ≤ 2147483647) ∧ ρ (q + 1) = 71 ∧ ρ (q + 2) = 72 ∧ ρ (q + 3) = 73 ∧ ρ (q + 4) = 74 ∧ ρ (q + 5) = 75 ∧ ρ (q + 6) = 76 := by
  obtain ⟨c, h1, h2⟩ := CI_at h (q := q) (by rw [hq]; decide)
  unfold rOK at h2
  rw [hq] at h2
  obtain ⟨y0, x1, x2, x3, rfl, h3⟩ := h2
  exact ⟨y0, x1, x2, x3, h1, h3⟩
theorem CI_w70 {ρ : Nat → Nat} {w w1 : zW} (h : CI ρ w) {q : Nat} (hq : ρ q = 70) (hf : wfr q w w1) {y0 : Option Nat} {x1 : Int} {x2 : Int} {x3 : Int} (hc : zix w1 q = some (.inr (2, [va_rf y0, .int (Int32.ofInt x1), .int (Int32.ofInt x2), .int (Int32.ofInt x3), .ref (q + 1), .ref (q + 2), .ref (q + 3), .ref (q + 4), .ref (q + 5), .ref (q + 6)]))) (hk : (∀ z, y0 = some z → ρ z = 50) ∧ (0 ≤ x1 ∧ x1 ≤ 9) ∧ ((-2147483648) ≤ x2 ∧ x2 ≤ 2147483647) ∧ ((-2147483648) ≤ x3 ∧ x3 ≤ 2147483647) ∧ ρ (q + 1) = 71 ∧ ρ (q + 2) = 72 ∧ ρ (q + 3) = 73 ∧ ρ (q + 4) = 74 ∧ ρ (q + 5) = 75 ∧ ρ (q + 6) = 76) : CI ρ w1 := by
  refine CI_st h hf hc ?_ ⟨by rw [hq]; decide, by rw [hq]; decide⟩
  unfold rOK
  rw [hq]
  exact ⟨y0, x1, x2, x3, rfl, hk⟩
theorem CI_o80 {ρ : Nat → Nat} {w : zW} (h : CI ρ w) {q : Nat} (hq : ρ q = 80) : ∃ (x1 : Int) (x2 : Int) (x3 : Int) (x4 : Int) (x5 : Int), zix w q = some (.inr (4, [.ref (q + 1), .int (Int32.ofInt x1), .int (Int32.ofInt x2), .int (Int32.ofInt x3), .int (Int32.ofInt x4), .int (Int32.ofInt x5), .ref (q + 2), .ref (q + 3), .ref (q + 4), .ref (q + 5), .ref (q + 6), .ref (q + 7), .ref (q + 8), .ref (q + 9), .ref (q + 10)])) ∧ ρ (q + 1) = 81 ∧ ((-2147483648) ≤ x1 ∧ x1 ≤ 2147483647) ∧ ((-2147483648) ≤ x2 ∧ x2 ≤ 2147483647) ∧ ((-2147483648) ≤ x3 ∧ x3 ≤ 2147483647) ∧ ((-2147483648) ≤ x4 ∧ x4 ≤ 2147483647) ∧ ((-2147483648) ≤ x5 ∧ x5 ≤ 2147483647) ∧ ρ (q + 2) = 82 ∧ ρ (q + 3) = 83 ∧ ρ (q + 4) = 84 ∧ ρ (q + 5) = 85 ∧ ρ (q + 6) = 86 ∧ ρ (q + 7) = 87 ∧ ρ (q + 8) = 88 ∧ ρ (q + 9) = 89 ∧ ρ (q + 10) = 90 := by
  obtain ⟨c, h1, h2⟩ := CI_at h (q := q) (by rw [hq]; decide)
  unfold rOK at h2
  rw [hq] at h2
  obtain ⟨x1, x2, x3, x4, x5, rfl, h3⟩ := h2
  exact ⟨x1, x2, x3, x4, x5, h1, h3⟩
theorem CI_w80 {ρ : Nat → Nat} {w w1 : zW} (h : CI ρ w) {q : Nat} (hq : ρ q = 80) (hf : wfr q w w1) {x1 : Int} {x2 : Int} {x3 : Int} {x4 : Int} {x5 : Int} (hc : zix w1 q = some (.inr (4, [.ref (q + 1), .int (Int32.ofInt x1), .int (Int32.ofInt x2), .int (Int32.ofInt x3), .int (Int32.ofInt x4), .int (Int32.ofInt x5), .ref (q + 2), .ref (q + 3), .ref (q + 4), .ref (q + 5), .ref (q + 6), .ref (q + 7), .ref (q + 8), .ref (q + 9), .ref (q + 10)]))) (hk : ρ (q + 1) = 81 ∧ ((-2147483648) ≤ x1 ∧ x1 ≤ 2147483647) ∧ ((-2147483648) ≤ x2 ∧ x2 ≤ 2147483647) ∧ ((-2147483648) ≤ x3 ∧ x3 ≤ 2147483647) ∧ ((-2147483648) ≤ x4 ∧ x4 ≤ 2147483647) ∧ ((-2147483648) ≤ x5 ∧ x5 ≤ 2147483647) ∧ ρ (q + 2) = 82 ∧ ρ (q + 3) = 83 ∧ ρ (q + 4) = 84 ∧ ρ (q + 5) = 85 ∧ ρ (q + 6) = 86 ∧ ρ (q + 7) = 87 ∧ ρ (q + 8) = 88 ∧ ρ (q + 9) = 89 ∧ ρ (q + 10) = 90) : CI ρ w1 := by
  refine CI_st h hf hc ?_ ⟨by rw [hq]; decide, by rw [hq]; decide⟩
  unfold rOK
  rw [hq]
  exact ⟨x1, x2, x3, x4, x5, rfl, hk⟩
section CZ
variable {R : zS → Prop} {np : Nat} {L : zL} {S : List Value} {w : zW} {k n : Nat} {ρ : Nat → Nat}
theorem c_get {p ci b : Nat} {fs : List Value} {v : Value} (h : zix w p = some (.inr (ci, fs))) (hv : zix fs b = some v) (hk : R (np, L, v :: S, w, k, n)) : zob w p ci (fun fs => zfld fs b fun v => R (np, L, v :: S, w, k, n)) := by
  unfold zob
  rw [h]
  dsimp only
  rw [show Nat.beq ci ci = true from Nat.beq_refl ci]
  show zfld fs b _
  unfold zfld
  rw [hv]
  exact hk
theorem c_put {p ci b : Nat} {fs : List Value} {v : Value} {ty : FieldType} (h : zix w p = some (.inr (ci, fs))) (ht : zfit ty v = true) (hb : Nat.blt b fs.length = true) (hk : ∀ w1, wfr p w w1 → zix w1 p = some (.inr (ci, zst fs b v)) → R (np, L, S, w1, k, n)) : zob w p ci (fun fs => zif (zfit ty v) (zif (Nat.blt b fs.length) (R (np, L, S, zst w p (.inr (ci, zst fs b v)), k, n)))) := by
  unfold zob
  rw [h]
  dsimp only
  rw [show Nat.beq ci ci = true from Nat.beq_refl ci]
  show zif (zfit ty v) _
  rw [ht]
  show zif (Nat.blt b fs.length) _
  rw [hb]
  obtain ⟨h1, h2⟩ := wfr_st (c' := .inr (ci, zst fs b v)) h
  exact hk _ h1 h2
theorem c_obj {p ci : Nat} {fs : List Value} {A : Prop} (h : zix w p = some (.inr (ci, fs))) (hk : A) : zob w p ci (fun _ => A) := by
  unfold zob
  rw [h]
  dsimp only
  rw [show Nat.beq ci ci = true from Nat.beq_refl ci]
  exact hk
theorem c_ald {q len : Nat} {i lo hi : Int} (hw : CI ρ w) (hr : rAr (ρ q) = some (1, len, lo, hi)) (h0 : 0 ≤ i) (h1 : i < len) (hl : len ≤ 60000) (hk : ∀ v : Int, lo ≤ v → v ≤ hi → R (np, L, .int (Int32.ofInt v) :: S, w, k, n)) : zai w q (fun ti len g => zif (Nat.beq ti 1) (vp_in (Int32.ofInt i) len ∧ R (np, L, .int (g (Int32.ofInt i).toNatClampNeg) :: S, w, k, n))) := by
  obtain ⟨g, h2, h3⟩ := CI_ar hw hr
  unfold zai
  rw [h2]
  exact t_ldB h3 h0 h1 hl fun v _ a b => hk v a b
theorem c_aldE {q len : Nat} {i : Int} {g : Nat → Int32} (h2 : zix w q = some (.inl (1, len, .inl g))) (h0 : 0 ≤ i) (h1 : i < len) (hl : len ≤ 60000) (hk : ∀ v : Int, v = (g i.toNat).toInt → (-2147483648 ≤ v ∧ v ≤ 2147483647) → R (np, L, .int (Int32.ofInt v) :: S, w, k, n)) : zai w q (fun ti len g => zif (Nat.beq ti 1) (vp_in (Int32.ofInt i) len ∧ R (np, L, .int (g (Int32.ofInt i).toNatClampNeg) :: S, w, k, n))) := by
  unfold zai
  rw [h2]
  exact t_ldE h0 h1 hl hk
theorem c_bld {q len : Nat} {i lo hi : Int} (hw : CI ρ w) (hr : rAr (ρ q) = some (0, len, lo, hi)) (h0 : 0 ≤ i) (h1 : i < len) (hl : len ≤ 60000) (hk : ∀ v : Int, (-2147483648 ≤ v ∧ v ≤ 2147483647) → R (np, L, .int (Int32.ofInt v) :: S, w, k, n)) : zai w q (fun ti len g => zif (Nat.beq ti 0 || Nat.beq ti 2) (vp_in (Int32.ofInt i) len ∧ R (np, L, .int (g (Int32.ofInt i).toNatClampNeg) :: S, w, k, n))) := by
  obtain ⟨g, h2, h3⟩ := CI_ar hw hr
  unfold zai
  rw [h2]
  exact t_ldo h0 h1 hl hk
theorem c_ast {q len : Nat} {i e lo hi : Int} (hw : CI ρ w) (hr : rAr (ρ q) = some (1, len, lo, hi)) (hm : ρ q ≠ 23 ∧ ρ q ≠ 24) (he1 : lo ≤ e) (he2 : e ≤ hi) (hl1 : -2147483648 ≤ lo) (hh : hi ≤ 2147483647) (h0 : 0 ≤ i) (h1 : i < len) (hl : len ≤ 60000) (hk : ∀ w1, CI ρ w1 → wfr q w w1 → R (np, L, S, w1, k, n)) : zai w q (fun ti len g => zif (Nat.beq ti 1) (vp_in (Int32.ofInt i) len ∧ R (np, L, S, zst w q (.inl (ti, len, .inl (upd g (Int32.ofInt i).toNatClampNeg (Int32.ofInt e)))), k, n))) := by
  obtain ⟨g, h2, h3⟩ := CI_ar hw hr
  unfold zai
  rw [h2]
  refine ⟨zvin h0 h1 hl, ?_⟩
  obtain ⟨f1, f2⟩ := wfr_st (c' := .inl (1, len, .inl (upd g (Int32.ofInt i).toNatClampNeg (Int32.ofInt e)))) h2
  refine hk _ (CI_st hw f1 f2 ?_ hm) f1
  unfold rOK
  rw [hr]
  exact ⟨_, rfl, zB_u h3 he1 he2 hl1 hh⟩
theorem c_bst {q len : Nat} {i : Int} {x : Int32} (hw : CI ρ w) (hr : rAr (ρ q) = some (0, len, -2147483648, 2147483647)) (hm : ρ q ≠ 23 ∧ ρ q ≠ 24) (h0 : 0 ≤ i) (h1 : i < len) (hl : len ≤ 60000) (hk : ∀ w1, CI ρ w1 → wfr q w w1 → R (np, L, S, w1, k, n)) : zai w q (fun ti len g => zor (Nat.beq ti 0) (vp_in (Int32.ofInt i) len ∧ R (np, L, S, zst w q (.inl (ti, len, .inl (upd g (Int32.ofInt i).toNatClampNeg (vp_nar .byte x)))), k, n)) (zif (Nat.beq ti 2) (vp_in (Int32.ofInt i) len ∧ R (np, L, S, zst w q (.inl (ti, len, .inl (upd g (Int32.ofInt i).toNatClampNeg (vp_nar .boolean x)))), k, n)))) := by
  obtain ⟨g, h2, h3⟩ := CI_ar hw hr
  unfold zai
  rw [h2]
  refine ⟨zvin h0 h1 hl, ?_⟩
  obtain ⟨f1, f2⟩ := wfr_st (c' := .inl (0, len, .inl (upd g (Int32.ofInt i).toNatClampNeg (vp_nar .byte x)))) h2
  refine hk _ (CI_st hw f1 f2 ?_ hm) f1
  unfold rOK
  rw [hr]
  exact ⟨_, rfl, fun j => zrg _⟩
/-- a reference out of an array -/
theorem c_rld {q ti len re : Nat} {i : Int} (hw : CI ρ w) (ha : rAr (ρ q) = none) (hr : rRf (ρ q) = some (ti, len, re)) (ht : (Nat.ble 3 ti && Nat.ble ti 8) = true) (h0 : 0 ≤ i) (h1 : i < len) (hl : len ≤ 60000) (hk : ∀ o : Option Nat, (∀ x, o = some x → ρ x = re) → R (np, L, va_rf o :: S, w, k, n)) : zaq w q (fun ti len g => zif (Nat.ble 3 ti && Nat.ble ti 8) (vp_in (Int32.ofInt i) len ∧ R (np, L, va_rf (g (Int32.ofInt i).toNatClampNeg) :: S, w, k, n))) := by
  obtain ⟨g, h2, h3⟩ := CI_rf hw ha hr
  unfold zaq
  rw [h2]
  dsimp only
  rw [ht]
  exact ⟨zvin h0 h1 hl, hk _ fun x hx => h3 _ x hx⟩
end CZ
