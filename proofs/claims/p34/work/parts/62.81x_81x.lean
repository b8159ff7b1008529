/-! THE CLASS'S WALKS, BY PLACES. -/
theorem AFK_ok {w : zW} {p b : Nat} {gk gs gi gn : Nat → Int32} {n : Int} (h : AFK w p b (rdF gk gs gi gn)) (hn : 0 ≤ n ∧ n ≤ 5) : FOK (rdF gk gs gi gn) n := by
  obtain ⟨kn, hk, hs, hi, hg, -, hb, -, e⟩ := h
  intro r t r0 r1 t0 t1
  rw [e]
  have hlt := fBy_lt hb (r := r.toNat) (t := t.toNat) (by omega) (by omega)
  have e2 : rdF hk hs hi hg r t = ((fBy hk hs hi hg r.toNat t.toNat : Nat) : Int) := if_pos (by omega)
  rw [e2]
  omega
theorem rx_keep {σ : Nat → Nat} {w w2 : zW} {p z c : Nat} (hT : TOP σ w) (hf : ∀ q, q < w.length → q ≠ c → zix w2 q = zix w q) (hp : σ p = 50) (hz : σ z = 20) (hc : σ c = 1 ∨ σ c = 14) : zix w2 p = zix w p ∧ (∀ j, z ≤ j → j ≤ z + 4 → zix w2 j = zix w j) ∧ zix w2 (p + 1) = zix w (p + 1) := by
  obtain ⟨_, _, _, -, r0, r1, -⟩ := CI_o50 hT.1 hp
  obtain ⟨b1, b2, b3, b4⟩ := CI_r20 hT.1 hz
  have k : ∀ j, σ j ≠ 0 → σ j ≠ 1 → σ j ≠ 14 → zix w2 j = zix w j := fun j h0 h1 h2 => hf j (CI_lt hT.1 h0) (fun e => by rw [e] at h1 h2; omega)
  refine ⟨k p (by omega) (by omega) (by omega), fun j j0 j1 => ?_, k _ (by omega) (by omega) (by omega)⟩
  have hj : j = z ∨ j = z + 1 ∨ j = z + 2 ∨ j = z + 3 ∨ j = z + 4 := by omega
  rcases hj with rfl | rfl | rfl | rfl | rfl <;> exact k _ (by omega) (by omega) (by omega)
theorem rx_j {w w2 : zW} {p z j : Nat} (h1 : zix w2 (p + 1) = zix w (p + 1)) (h2 : ∀ j, z ≤ j → j ≤ z + 4 → zix w2 j = zix w j) (hj : j = p + 1 ∨ (z ≤ j ∧ j ≤ z + 4)) : zix w2 j = zix w j := by
  rcases hj with rfl | hj
  · exact h1
  · exact h2 j hj.1 hj.2
