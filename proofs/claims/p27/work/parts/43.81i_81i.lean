/-! KINSHIP OF THE CLASS. -/
noncomputable def kbX : tpB → Prop
  | (_, _, _, _, _, g1, _, _, _) => ∀ i : Int, 0 ≤ i → i ≤ 3 → 0 ≤ tBy g1 i ∧ tBy g1 i ≤ 3
noncomputable def ksX (u r : Int) : tpB → Int
  | (_, _, _, _, _, g1, _, _, _) => if r = 0 then kuP (tBy g1) u else krP (tBy g1) u
theorem x_kinship {w : zW} (d : Nat) (a1 a2 a3 l f c : Int) (y6 y7 : Value) (cn : Nat → Int32) (bo : Nat → Option Nat) (h0 : zix w 0 = some (ob0 y6 y7)) (h1 : zix w 1 = some (td1 l f c)) (h3 : zix w 3 = some (.inl (1, 3, .inl cn))) (hrow : zix w 4 = some (rfa 3 2 bo)) (hr1 : -2147483648 ≤ a1 ∧ a1 ≤ 2147483647) (hr2 : -2147483648 ≤ a2 ∧ a2 ≤ 2147483647) (hr3 : -2147483648 ≤ a3 ∧ a3 ≤ 2147483647) (hcn : tBy cn 0 ≤ 2) (hE : ∀ k : Int, 0 ≤ k → k < tBy cn 0 → ∃ b X, bo k.toNat = some b ∧ OBB w b X ∧ kbX X) (Q : zQ) (hN : (a1 < 0 ∨ tBy cn 0 ≤ a1 ∨ a2 < 0 ∨ 3 < a2) → Q (some (.int (Int32.ofInt (-1)))) w) (hS : (0 ≤ a1 ∧ a1 < tBy cn 0) → (0 ≤ a2 ∧ a2 ≤ 3) → ∀ b X, bo a1.toNat = some b → OBB w b X → Q (some (.int (Int32.ofInt (ksX a2 a3 X)))) w) : zCl zTab (d + 4) iX11_kinship [.ref 0, .int (Int32.ofInt a1), .int (Int32.ofInt a2), .int (Int32.ofInt a3)] w 0 0 Q := by
  refine zCl_i (M := kX11_kinship) rfl (Nat.le_of_ble_eq_true rfl) fun R hR => ?_
  have bad : ∀ L : zL, (a1 < 0 ∨ tBy cn 0 ≤ a1 ∨ a2 < 0 ∨ 3 < a2) → R (19, L, [], w, 0, 0) := by
    intro L hx
    refine hR (?_ : R (_, _, _, _, _, _))
    exact hR (zret_i rfl (Nat.le_refl _) trivial (hN hx))
  iterate 2 refine hR (?_ : R (_, _, _, _, _, _))
  refine hR (c_obj h0 (zcall_i 0 0 (Nat.le_refl _) (Nat.le_refl _) (x_bookAt _ a1 l f c y6 y7 cn bo h0 h1 h3 hrow hr1 hcn _ ?_)))
  by_cases hc : 0 ≤ a1 ∧ a1 < tBy cn 0
  · obtain ⟨b, X, hb, hO, hk⟩ := hE a1 hc.1 hc.2
    have hS' := fun hw => hS hc hw b X hb hO
    rw [if_pos hc, hb]
    refine (?_ : R (_, _, .ref b :: [], w, 0, 0))
    obtain ⟨f', c', x0, x1, x2, g1, g2, g3, g4⟩ := X
    obtain ⟨q0, q1, q2, q3, q4⟩ := hO
    iterate 4 refine hR (?_ : R (_, _, _, _, _, _))
    refine hR (zcall_i 0 0 (Nat.le_refl _) (Nat.le_refl _) (c_isWord _ _ a2 (by omega) _ fun v hv => ?_))
    refine (?_ : R (_, _, .int (Int32.ofInt v) :: [], w, 0, 0))
    refine hR (k_ne (by omega) (fun hv2 => ?_) (fun hv2 => bad _ (by omega)))
    have hS2 := hS' (by omega)
    refine hR (?_ : R (_, _, _, _, _, _))
    refine hR (k_eq (by omega) (fun hz => ?_) (fun hz => ?_))
    · replace hS2 : Q (some (.int (Int32.ofInt (if a3 = 0 then kuP (tBy g1) a2 else krP (tBy g1) a2)))) w := hS2
      rw [if_pos hz] at hS2
      iterate 2 refine hR (?_ : R (_, _, _, _, _, _))
      refine hR (c_obj q0 (zcall_i 0 0 (Nat.le_refl _) (Nat.le_refl _) (x_kinUntil _ _ b a2 x0 x1 x2 g1 q0 q1 (by omega) hk _ fun v hv => ?_)))
      refine (?_ : R (_, _, .int (Int32.ofInt v) :: [], w, 0, 0))
      subst hv
      exact hR (zret_i rfl (Nat.le_refl _) trivial hS2)
    · replace hS2 : Q (some (.int (Int32.ofInt (if a3 = 0 then kuP (tBy g1) a2 else krP (tBy g1) a2)))) w := hS2
      rw [if_neg hz] at hS2
      iterate 2 refine hR (?_ : R (_, _, _, _, _, _))
      refine hR (c_obj q0 (zcall_i 0 0 (Nat.le_refl _) (Nat.le_refl _) (x_kinRing _ _ b a2 x0 x1 x2 g1 q0 q1 (by omega) hk _ fun v hv => ?_)))
      refine (?_ : R (_, _, .int (Int32.ofInt v) :: [], w, 0, 0))
      subst hv
      refine hR (?_ : R (_, _, _, _, _, _))
      exact hR (zret_i rfl (Nat.le_refl _) trivial hS2)
  · rw [if_neg hc]
    refine (?_ : R (_, _, .null :: [], w, 0, 0))
    iterate 3 refine hR (?_ : R (_, _, _, _, _, _))
    exact bad _ (by omega)
