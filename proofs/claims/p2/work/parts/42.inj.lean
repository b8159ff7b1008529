theorem pg_hole : ∀ (m n : Nat) (f : Nat → Nat), (∀ i, i < n → f i < m) → (∀ i j, i < n → j < n → f i = f j → i = j) → n ≤ m
  | 0, n, f, h, _ => by
    cases n with
    | zero => exact Nat.le_refl _
    | succ n => exact absurd (h 0 (by omega)) (by omega)
  | m + 1, n, f, h, hi => by
    by_cases hk : ∃ k, k < n ∧ f k = m
    · obtain ⟨k, k1, k2⟩ := hk
      have := pg_hole m (n - 1) (fun i => if i < k then f i else f (i + 1)) (fun i hi2 => by
        split
        · have h1 := h i (by omega)
          have h2 : f i ≠ m := fun e => by have := hi i k (by omega) k1 (by omega); omega
          omega
        · have h1 := h (i + 1) (by omega)
          have h2 : f (i + 1) ≠ m := fun e => by have := hi (i + 1) k (by omega) k1 (by omega); omega
          omega) (fun i j h1 h2 e => by
        split at e <;> split at e
        · exact hi i j (by omega) (by omega) e
        · have := hi i (j + 1) (by omega) (by omega) e; omega
        · have := hi (i + 1) j (by omega) (by omega) e; omega
        · have := hi (i + 1) (j + 1) (by omega) (by omega) e; omega)
      omega
    · have := pg_hole m n f (fun i hi2 => by
        have h1 := h i hi2
        have h2 : f i ≠ m := fun e => hk ⟨i, hi2, e⟩
        omega) hi
      omega
/-- the nodes of a level stand for different TEXTS -/
def INJ (w : zW) (p : Nat) (s1 en : Int) : Prop := ∃ gt gno : Nat → Int32, zix w (p + 3) = some (.inl (1, 25750, .inl gt)) ∧ zix w (p + 6) = some (.inl (1, 5461, .inl gno)) ∧ ∀ i : Nat, s1 ≤ i → (i : Int) < en → (gno (gt i).toInt.toNat).toInt = i
theorem INJ_0 {ρ : Nat → Nat} {w : zW} {p : Nat} (hw : CI ρ w) (h3 : ρ (p + 3) = 73) (h6 : ρ (p + 6) = 76) (s1 : Int) : INJ w p s1 s1 := by
  obtain ⟨g, a, _⟩ := CI_ar hw (q := p + 3) (by rw [h3]; rfl)
  obtain ⟨g2, b, _⟩ := CI_ar hw (q := p + 6) (by rw [h6]; rfl)
  exact ⟨g, g2, a, b, fun i h1 h2 => by omega⟩
theorem INJ_eq {w w1 : zW} {p : Nat} {s1 en : Int} (e3 : zix w1 (p + 3) = zix w (p + 3)) (e6 : zix w1 (p + 6) = zix w (p + 6)) (h : INJ w p s1 en) : INJ w1 p s1 en := by
  obtain ⟨g, g2, a, b, c⟩ := h
  exact ⟨g, g2, e3.trans a, e6.trans b, c⟩
theorem INJ_le {ρ : Nat → Nat} {w : zW} {p : Nat} (hw : CI ρ w) (h3 : ρ (p + 3) = 73) {s1 en : Int} (h0 : 0 ≤ s1) (h : INJ w p s1 en) : en - s1 ≤ 5461 := by
  obtain ⟨g, g2, a, b, c⟩ := h
  obtain ⟨g', a', hB⟩ := CI_ar hw (q := p + 3) (by rw [h3]; rfl)
  rw [a] at a'
  cases a'
  have := pg_hole 5461 (en - s1).toNat (fun i => (g (s1.toNat + i)).toInt.toNat) (fun i hi => by have := hB (s1.toNat + i); omega) (fun i j hi hj e => by
    have e1 := c (s1.toNat + i) (by omega) (by omega)
    have e2 := c (s1.toNat + j) (by omega) (by omega)
    rw [e] at e1
    omega)
  omega
theorem INJ_add {w w1 w2 w3 : zW} {p : Nat} {s1 en made v : Int} {g g2 gt : Nat → Int32} (h : INJ w p s1 en) (h0 : 0 ≤ s1) (hs : s1 ≤ en) (hE : en < 25750) (hm : 0 ≤ made ∧ made ≤ 5460) (hg : zix w (p + 6) = some (.inl (1, 5461, .inl g))) (e : v = (g made.toNat).toInt) (hv : v = -1) (hg2 : zix w (p + 6) = some (.inl (1, 5461, .inl g2))) (f1 : wfr (p + 6) w w1) (k1 : zix w1 (p + 6) = some (.inl (1, 5461, .inl (upd g2 made.toNat (Int32.ofInt en))))) (hgt : zix w1 (p + 3) = some (.inl (1, 25750, .inl gt))) (f2 : wfr (p + 3) w1 w2) (k2 : zix w2 (p + 3) = some (.inl (1, 25750, .inl (upd gt en.toNat (Int32.ofInt made))))) (f3 : wfr (p + 4) w2 w3) : INJ w3 p s1 (en + 1) := by
  obtain ⟨ga, gb, a, b, c⟩ := h
  rw [hg] at b
  cases b
  rw [hg] at hg2
  cases hg2
  have a1 := (f1.2 (p + 3) (by omega)).trans a
  rw [hgt] at a1
  cases a1
  refine ⟨_, _, (f3.2 (p + 3) (by omega)).trans k2, (f3.2 (p + 6) (by omega)).trans ((f2.2 (p + 6) (by omega)).trans k1), fun i i1 i2 => ?_⟩
  by_cases ci : i = en.toNat
  · subst ci
    rw [pk_us, zti (by omega) (by omega), pk_us, zti (by omega) (by omega)]
    omega
  · have := c i i1 (by omega)
    rw [pk_un ci, pk_un ?_]
    · exact this
    · intro e2
      rw [e2] at this
      omega
