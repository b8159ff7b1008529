theorem a_levelsThere {ρ : Nat → Nat} {w : zW} (hT : TOP ρ w) (d : Nat) : DET zTab (d + 3) iX11_levelsThere [.ref 0] w (fun mc ms r w' => ∃ σ p, AL ρ w mc ms σ w' ∧ r = some (.ref p) ∧ σ p = 70) := by
  obtain ⟨y6, y7, h0, r1, r7, r8, r9, r12, r13, e6, e7⟩ := top_o hT
  cases y6 with
  | some p =>
    refine det_of (mc := 0) (ms := 0) ?_
    refine zCl_i (M := kX11_levelsThere) rfl (Nat.le_of_ble_eq_true rfl) fun R hR => ?_
    refine hR (?_ : R (_, _, _, _, _, _))
    refine hR (c_get h0 rfl ?_)
    iterate 2 refine hR (?_ : R (_, _, _, _, _, _))
    refine hR (c_get h0 rfl ?_)
    exact hR (zret_i rfl (Nat.le_refl _) trivial ⟨ρ, p, ⟨hT, fun _ _ h => h, fun _ _ _ => rfl, EXT_rf ρ, by omega, by omega⟩, rfl, e6 p rfl⟩)
  | none =>
    refine det_of (mc := 7) (ms := 82742) ?_
    refine zCl_i (M := kX11_levelsThere) rfl (Nat.le_of_ble_eq_true rfl) fun R hR => ?_
    refine hR (?_ : R (_, _, _, _, _, _))
    refine hR (c_get h0 rfl ?_)
    iterate 4 refine hR (?_ : R (_, _, _, _, _, _))
    refine hR (zcall_i 6 82732 (Nat.le_of_ble_eq_true rfl) (Nat.le_of_ble_eq_true rfl) (n_Levels hT.1 _ _ fun σ w1 hc1 g1 hl1 hr1 hn1 => ?_))
    refine (?_ : R (_, _, .ref w.length :: .ref 0 :: [], w1, 7, 82742))
    obtain ⟨hT1, hI1, hp1, hK1, hx1⟩ := top_gro hT hc1 g1 (fun q a b => absurd b (hn1 q a))
    have hb := (g1.2 0 (by have := hT.2.2.2.2; omega)).2.trans h0
    obtain ⟨y6', y7', h0', r1', r7', r8', r9', r12', r13', e6', e7'⟩ := top_o hT1
    have e6n : va_rf y6' = .null := by
      have e := h0'.symm.trans hb
      injection e with e; injection e with e; injection e with _ e; injection e with _ e; injection e with _ e; injection e with _ e; injection e with _ e; injection e with _ e; injection e with _ e; injection e with e _
    refine hR (c_put h0' rfl rfl fun w2 f2 hO2 => ?_)
    have hO2 : zix w2 0 = some (.inr (10, [.ref 1, .ref 7, .ref 8, .ref 9, .ref 12, .ref 13, .ref w.length, va_rf y7'])) := hO2
    have hc2 : CI σ w2 := CI_w1 hc1 hT1.2.1 f2 (y6 := some w.length) (y7 := y7') hO2 ⟨r1', r7', r8', r9', r12', r13', fun z h => by cases h; exact hr1, e7'⟩
    refine hR (?_ : R (_, _, _, _, _, _))
    refine hR (c_get hO2 rfl ?_)
    obtain ⟨hT2, hI2, hK2⟩ := top_st hT1 hc2 f2 (Or.inl hT1.2.1)
    have hph := phi_0 (c := 83000) f2 h0' hO2 (by rw [e6n]; show 0 + _ + 83000 = 83000 + _; omega)
    exact hR (zret_i rfl (Nat.le_refl _) trivial ⟨σ, w.length, ⟨hT2, fun l m h => hI2 l m (hI1 l m h), KEEP_tr hK1 hK2, hx1, by omega, by omega⟩, rfl, hr1⟩)
theorem a_ringsThere {ρ : Nat → Nat} {w : zW} (hT : TOP ρ w) (d : Nat) : DET zTab (d + 3) iX11_ringsThere [.ref 0] w (fun mc ms r w' => ∃ σ p, AL ρ w mc ms σ w' ∧ r = some (.ref p) ∧ σ p = 80) := by
  obtain ⟨y6, y7, h0, r1, r7, r8, r9, r12, r13, e6, e7⟩ := top_o hT
  cases y7 with
  | some p =>
    refine det_of (mc := 0) (ms := 0) ?_
    refine zCl_i (M := kX11_ringsThere) rfl (Nat.le_of_ble_eq_true rfl) fun R hR => ?_
    refine hR (?_ : R (_, _, _, _, _, _))
    refine hR (c_get h0 rfl ?_)
    iterate 2 refine hR (?_ : R (_, _, _, _, _, _))
    refine hR (c_get h0 rfl ?_)
    exact hR (zret_i rfl (Nat.le_refl _) trivial ⟨ρ, p, ⟨hT, fun _ _ h => h, fun _ _ _ => rfl, EXT_rf ρ, by omega, by omega⟩, rfl, e7 p rfl⟩)
  | none =>
    refine det_of (mc := 11) (ms := 49170) ?_
    refine zCl_i (M := kX11_ringsThere) rfl (Nat.le_of_ble_eq_true rfl) fun R hR => ?_
    refine hR (?_ : R (_, _, _, _, _, _))
    refine hR (c_get h0 rfl ?_)
    iterate 4 refine hR (?_ : R (_, _, _, _, _, _))
    refine hR (zcall_i 10 49155 (Nat.le_of_ble_eq_true rfl) (Nat.le_of_ble_eq_true rfl) (n_Rings hT.1 _ _ fun σ w1 hc1 g1 hl1 hr1 hn1 => ?_))
    refine (?_ : R (_, _, .ref w.length :: .ref 0 :: [], w1, 11, 49170))
    obtain ⟨hT1, hI1, hp1, hK1, hx1⟩ := top_gro hT hc1 g1 (fun q a b => absurd b (hn1 q a))
    have hb := (g1.2 0 (by have := hT.2.2.2.2; omega)).2.trans h0
    obtain ⟨y6', y7', h0', r1', r7', r8', r9', r12', r13', e6', e7'⟩ := top_o hT1
    have e7n : va_rf y7' = .null := by
      have e := h0'.symm.trans hb
      injection e with e; injection e with e; injection e with _ e; injection e with _ e; injection e with _ e; injection e with _ e; injection e with _ e; injection e with _ e; injection e with _ e; injection e with _ e; injection e with e _
    refine hR (c_put h0' rfl rfl fun w2 f2 hO2 => ?_)
    have hO2 : zix w2 0 = some (.inr (10, [.ref 1, .ref 7, .ref 8, .ref 9, .ref 12, .ref 13, va_rf y6', .ref w.length])) := hO2
    have hc2 : CI σ w2 := CI_w1 hc1 hT1.2.1 f2 (y6 := y6') (y7 := some w.length) hO2 ⟨r1', r7', r8', r9', r12', r13', e6', fun z h => by cases h; exact hr1⟩
    refine hR (?_ : R (_, _, _, _, _, _))
    refine hR (c_get hO2 rfl ?_)
    obtain ⟨hT2, hI2, hK2⟩ := top_st hT1 hc2 f2 (Or.inl hT1.2.1)
    have hph := phi_0 (c := 49200) f2 h0' hO2 (by rw [e7n]; show _ + 0 + 49200 = _ + 49200; omega)
    exact hR (zret_i rfl (Nat.le_refl _) trivial ⟨σ, w.length, ⟨hT2, fun l m h => hI2 l m (hI1 l m h), KEEP_tr hK1 hK2, hx1, by omega, by omega⟩, rfl, hr1⟩)
