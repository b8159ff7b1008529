/-! WHAT IS MADE AT FIRST USE. -/
/-- the class's call that touches nothing told -/
def AL (ρ : Nat → Nat) (w : zW) (mc ms : Nat) (σ : Nat → Nat) (w' : zW) : Prop := TOP σ w' ∧ (∀ l m, IM w l m → IM w' l m) ∧ KEEP w w' ∧ EXT ρ σ ∧ mc ≤ 20 ∧ ms + phi w' ≤ phi w
theorem a_walkAt {ρ : Nat → Nat} {w : zW} (hT : TOP ρ w) (d i : Nat) (hi : i ≤ 1) : DET zTab (d + 3) iX11_walkAt [.ref 0, .int (Int32.ofInt i)] w (fun mc ms r w' => ∃ σ p, AL ρ w mc ms σ w' ∧ r = some (.ref p) ∧ σ p = 60) := by
  obtain ⟨y6, y7, h0, r1, r7, r8, r9, r12, r13, e6, e7⟩ := top_o hT
  obtain ⟨g, hg, hgr⟩ := CI_rf hT.1 (q := 13) (by rw [r13]; rfl) (by rw [r13]; rfl)
  have ei : ((i : Int)).toNat = i := Int.toNat_natCast i
  cases hgi : g i with
  | some p =>
    refine det_of (mc := 0) (ms := 0) ?_
    refine zCl_i (M := kX11_walkAt) rfl (Nat.le_of_ble_eq_true rfl) fun R hR => ?_
    refine hR (?_ : R (_, _, _, _, _, _))
    refine hR (c_get h0 rfl ?_)
    refine hR (?_ : R (_, _, _, _, _, _))
    refine hR (c_rldE hg rfl (by omega) (by omega) (Nat.le_of_ble_eq_true rfl) (v := .ref p) (by rw [ei, hgi]; rfl) ?_)
    iterate 2 refine hR (?_ : R (_, _, _, _, _, _))
    refine hR (c_get h0 rfl ?_)
    refine hR (?_ : R (_, _, _, _, _, _))
    refine hR (c_rldE hg rfl (by omega) (by omega) (Nat.le_of_ble_eq_true rfl) (v := .ref p) (by rw [ei, hgi]; rfl) ?_)
    exact hR (zret_i rfl (Nat.le_refl _) trivial ⟨ρ, p, ⟨hT, fun _ _ h => h, fun _ _ _ => rfl, EXT_rf ρ, by omega, by omega⟩, rfl, hgr i p hgi⟩)
  | none =>
    refine det_of (mc := 5) (ms := 21849) ?_
    refine zCl_i (M := kX11_walkAt) rfl (Nat.le_of_ble_eq_true rfl) fun R hR => ?_
    refine hR (?_ : R (_, _, _, _, _, _))
    refine hR (c_get h0 rfl ?_)
    refine hR (?_ : R (_, _, _, _, _, _))
    refine hR (c_rldE hg rfl (by omega) (by omega) (Nat.le_of_ble_eq_true rfl) (v := .null) (by rw [ei, hgi]; rfl) ?_)
    iterate 2 refine hR (?_ : R (_, _, _, _, _, _))
    refine hR (c_get h0 rfl ?_)
    iterate 3 refine hR (?_ : R (_, _, _, _, _, _))
    refine hR (zcall_i 4 21844 (Nat.le_of_ble_eq_true rfl) (Nat.le_of_ble_eq_true rfl) (n_Walk hT.1 _ _ fun σ w1 hc1 g1 hl1 hr1 hk1 => ?_))
    refine (?_ : R (_, _, .ref w.length :: .int (Int32.ofInt i) :: .ref 13 :: [], w1, 5, 21849))
    have hwk : ∀ q, w.length ≤ q → σ q = 60 → WK w1 q := by
      intro q hq h6
      obtain ⟨x0, hO, hx0, f1, f2, f3, f4⟩ := CI_o60 hc1 hr1
      have hlt : q < w1.length := CI_lt hc1 (by rw [h6]; decide)
      have : q = w.length ∨ q = w.length + 1 ∨ q = w.length + 2 ∨ q = w.length + 3 ∨ q = w.length + 4 := by omega
      rcases this with rfl | rfl | rfl | rfl | rfl
      · exact hk1
      all_goals omega
    obtain ⟨hT1, hI1, hp1, hK1, hx1⟩ := top_gro hT hc1 g1 hwk
    obtain ⟨y6', y7', h0', r1', r7', r8', r9', r12', r13', e6', e7'⟩ := top_o hT1
    have hg1 : zix w1 13 = some (rfa 8 2 g) := (g1.2 13 (by have := hT.2.2.2.2; omega)).2.trans hg
    obtain ⟨x0, hO, -⟩ := CI_o60 hc1 hr1
    refine hR (c_rst hc1 (by rw [r13']; rfl) (by rw [r13']; rfl) rfl ⟨by rw [r13']; decide, by rw [r13']; decide⟩ hg1 hr1 hO (by omega) (by omega) (Nat.le_of_ble_eq_true rfl) fun w2 hc2 f2 hg2 => ?_)
    rw [ei] at hg2
    have h02 := (f2.2 0 (by decide)).trans h0'
    refine hR (?_ : R (_, _, _, _, _, _))
    refine hR (c_get h02 rfl ?_)
    refine hR (?_ : R (_, _, _, _, _, _))
    refine hR (c_rldE hg2 rfl (by omega) (by omega) (Nat.le_of_ble_eq_true rfl) (v := .ref w.length) (by rw [ei, up_s]; rfl) ?_)
    obtain ⟨hT2, hI2, hK2⟩ := top_st hT1 hc2 f2 (Or.inr (Or.inr r13'))
    have hph := phi_13 f2 hg1 hg2 hi hgi
    exact hR (zret_i rfl (Nat.le_refl _) trivial ⟨σ, w.length, ⟨hT2, fun l m h => hI2 l m (hI1 l m h), KEEP_tr hK1 hK2, hx1, by omega, by omega⟩, rfl, hr1⟩)
