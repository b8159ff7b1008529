/-! THE START. -/
theorem bk0 : bkOK (fun _ => 0) := by
  intro b _
  refine ⟨by dsimp only; decide, by dsimp only; decide, fun j _ _ => by dsimp only; decide, fun j _ _ => by dsimp only; decide, fun j _ => by dsimp only; decide⟩
theorem yr0 : yrOK (fun _ => 0) := by
  intro b _
  refine ⟨by dsimp only; decide, fun j _ => by dsimp only; decide⟩
theorem si0 : siOK (fun _ => 0) := by
  intro b _
  dsimp only
  decide
def rl0 : Nat → Nat := fun q => [1, 2, 3, 4, 5, 6, 7, 8, 9, 10, 11, 12, 13, 14].getD q 0
theorem rl0_ge {q : Nat} (h : 14 ≤ q) : rl0 q = 0 := lgd_ge h
theorem TOP0 : TOP rl0 (zCw (zMf [])) := by
  have hci : CI rl0 (zCw (zMf [])) := by
    refine ⟨fun q hq => ?_, fun q hq => rl0_ge (by have h : (zCw (zMf [])).length = 45 := rfl; omega), fun q hq => ?_⟩
    · have hq : q < 45 := hq
      match q, hq with
      | 0, _ => exact ⟨_, rfl, ⟨none, none, rfl, rfl, rfl, rfl, rfl, rfl, rfl, (fun z h => by cases h), (fun z h => by cases h)⟩⟩
      | 1, _ => exact ⟨_, rfl, ⟨0, 0, -1, rfl, rfl, ⟨by decide, by decide⟩, ⟨by decide, by decide⟩, ⟨by decide, by decide⟩, rfl, rfl, rfl, rfl⟩⟩
      | 2, _ => exact ⟨_, rfl, ⟨_, rfl, fun j => by show _ ∧ _; decide⟩⟩
      | 3, _ => exact ⟨_, rfl, ⟨_, rfl, fun j => by show _ ∧ _; decide⟩⟩
      | 4, _ => exact ⟨_, rfl, ⟨_, rfl, fun j x hx => by cases hx⟩⟩
      | 5, _ => exact ⟨_, rfl, ⟨_, rfl, fun j x hx => by cases hx⟩⟩
      | 6, _ => exact ⟨_, rfl, ⟨_, rfl, fun j x hx => by cases hx⟩⟩
      | 7, _ => exact ⟨_, rfl, ⟨_, rfl, fun j x hx => by cases hx⟩⟩
      | 8, _ => exact ⟨_, rfl, ⟨none, 0, 0, 0, 0, 0, 0, -1, rfl, (fun z h => by cases h), ⟨by decide, by decide⟩, ⟨by decide, by decide⟩, ⟨by decide, by decide⟩, ⟨by decide, by decide⟩, ⟨by decide, by decide⟩, ⟨by decide, by decide⟩, ⟨by decide, by decide⟩⟩⟩
      | 9, _ => exact ⟨_, rfl, ⟨none, 0, 0, 0, 0, rfl, (fun z h => by cases h), ⟨by decide, by decide⟩, ⟨by decide, by decide⟩, ⟨by decide, by decide⟩, ⟨by decide, by decide⟩, rfl, rfl⟩⟩
      | 10, _ => exact ⟨_, rfl, ⟨_, rfl, fun j => by show _ ∧ _; decide⟩⟩
      | 11, _ => exact ⟨_, rfl, ⟨_, rfl, fun j => by show _ ∧ _; decide⟩⟩
      | 12, _ => exact ⟨_, rfl, ⟨_, rfl, fun j x hx => by cases hx⟩⟩
      | 13, _ => exact ⟨_, rfl, ⟨_, rfl, fun j x hx => by cases hx⟩⟩
      | 14, _ => exact ⟨_, rfl, trivial⟩
      | 15, _ => exact ⟨_, rfl, trivial⟩
      | 16, _ => exact ⟨_, rfl, trivial⟩
      | 17, _ => exact ⟨_, rfl, trivial⟩
      | 18, _ => exact ⟨_, rfl, trivial⟩
      | 19, _ => exact ⟨_, rfl, trivial⟩
      | 20, _ => exact ⟨_, rfl, trivial⟩
      | 21, _ => exact ⟨_, rfl, trivial⟩
      | 22, _ => exact ⟨_, rfl, trivial⟩
      | 23, _ => exact ⟨_, rfl, trivial⟩
      | 24, _ => exact ⟨_, rfl, trivial⟩
      | 25, _ => exact ⟨_, rfl, trivial⟩
      | 26, _ => exact ⟨_, rfl, trivial⟩
      | 27, _ => exact ⟨_, rfl, trivial⟩
      | 28, _ => exact ⟨_, rfl, trivial⟩
      | 29, _ => exact ⟨_, rfl, trivial⟩
      | 30, _ => exact ⟨_, rfl, trivial⟩
      | 31, _ => exact ⟨_, rfl, trivial⟩
      | 32, _ => exact ⟨_, rfl, trivial⟩
      | 33, _ => exact ⟨_, rfl, trivial⟩
      | 34, _ => exact ⟨_, rfl, trivial⟩
      | 35, _ => exact ⟨_, rfl, trivial⟩
      | 36, _ => exact ⟨_, rfl, trivial⟩
      | 37, _ => exact ⟨_, rfl, trivial⟩
      | 38, _ => exact ⟨_, rfl, trivial⟩
      | 39, _ => exact ⟨_, rfl, trivial⟩
      | 40, _ => exact ⟨_, rfl, trivial⟩
      | 41, _ => exact ⟨_, rfl, trivial⟩
      | 42, _ => exact ⟨_, rfl, trivial⟩
      | 43, _ => exact ⟨_, rfl, trivial⟩
      | 44, _ => exact ⟨_, rfl, trivial⟩
      | n + 45, h => omega
    · exfalso
      by_cases h : q < 14
      · have : q = 0 ∨ q = 1 ∨ q = 2 ∨ q = 3 ∨ q = 4 ∨ q = 5 ∨ q = 6 ∨ q = 7 ∨ q = 8 ∨ q = 9 ∨ q = 10 ∨ q = 11 ∨ q = 12 ∨ q = 13 := by omega
        rcases this with rfl | rfl | rfl | rfl | rfl | rfl | rfl | rfl | rfl | rfl | rfl | rfl | rfl | rfl <;> cases hq
      · rw [rl0_ge (by omega)] at hq; cases hq
  refine ⟨hci, rfl, fun q hq => ?_, fun q a _ => rl0_ge a, Nat.le_of_ble_eq_true rfl⟩
  exfalso
  by_cases h : q < 14
  · have : q = 0 ∨ q = 1 ∨ q = 2 ∨ q = 3 ∨ q = 4 ∨ q = 5 ∨ q = 6 ∨ q = 7 ∨ q = 8 ∨ q = 9 ∨ q = 10 ∨ q = 11 ∨ q = 12 ∨ q = 13 := by omega
    rcases this with rfl | rfl | rfl | rfl | rfl | rfl | rfl | rfl | rfl | rfl | rfl | rfl | rfl | rfl <;> cases hq
  · rw [rl0_ge (by omega)] at hq; cases hq
theorem MI0 : MI (zCw (zMf [])) (fun _ => 0) (fun _ => 0) := by
  have hz : ∀ lo hi : Int, lo ≤ 0 → 0 ≤ hi → zB lo hi (fun _ => 0) := fun lo hi a b j => ⟨a, b⟩
  exact ⟨_, _, _, _, _, _, _, _, _, _, _, _, _, _, 0, 0, 0, 0, 0, 0, 0, 0, 0, 0, (-1), 0, 0, 0, 0, 0, 0, 0, 0, 0, 0, 0, _, _, _, _, _, _, _, _, _, _, _, _, _, _, _, _, _, _, _, _, _, _, _, _, _, _, _, _, [], rfl, hz _ _ (by decide) (by decide), hz _ _ (by decide) (by decide), bk0, yr0, si0, hz _ _ (by decide) (by decide), hz _ _ (by decide) (by decide), hz _ _ (by decide) (by decide), hz _ _ (by decide) (by decide), hz _ _ (by decide) (by decide), hz _ _ (by decide) (by decide)⟩
theorem J0 : J (zCw (zMf [])) := by
  refine ⟨rl0, fun _ => 0, fun _ => 0, TOP0, MI0, ⟨⟨_, _, rfl, by decide, by decide⟩, fun _ => none, rfl, fun k hk => Or.inl ⟨rfl, rfl⟩, fun j k q _ _ h => by cases h⟩⟩
theorem phi0 : phi (zCw (zMf [])) = 254700 := by decide
