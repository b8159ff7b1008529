/-! THE CLASS'S READINGS, BY PLACES. -/
/-- readings at p of the book at b: what they know is right, F is what the readers make -/
noncomputable def AFK (w : zW) (p b : Nat) (F : Int → Int → Int) : Prop := ∃ kn gk gs gi gn : Nat → Int32, zix w (p + 1) = some (.inl (1, 27305, .inl kn)) ∧ bkAt w b gk gs gi gn ∧ KNR kn gk gs gi gn ∧ F = rdF gk gs gi gn
theorem AFK_fr {w w1 : zW} {p b : Nat} {F : Int → Int → Int} (h : AFK w p b F) (hf : ∀ j, (j = p + 1 ∨ (b ≤ j ∧ j ≤ b + 4)) → zix w1 j = zix w j) : AFK w1 p b F := by
  obtain ⟨kn, gk, gs, gi, gn, h1, h2, h3, h4⟩ := h
  obtain ⟨x0, x1, x2, hb⟩ := h2.ob
  exact ⟨kn, gk, gs, gi, gn, (hf _ (Or.inl rfl)).trans h1, ⟨⟨x0, x1, x2, (hf b (Or.inr (by omega))).trans hb⟩, (hf (b + 1) (Or.inr (by omega))).trans h2.kin, (hf (b + 2) (Or.inr (by omega))).trans h2.steps, (hf (b + 3) (Or.inr (by omega))).trans h2.kinds, (hf (b + 4) (Or.inr (by omega))).trans h2.nums, h2.2.2.2.2.2⟩, h3, h4⟩
theorem AFK_st {w w1 : zW} {p b r t : Nat} {g gk gs gi gn : Nat → Int32} (hg1 : zix w1 (p + 1) = some (.inl (1, 27305, .inl (upd g (r * 5461 + t) (Int32.ofInt ((fBy gk gs gi gn r t : Nat) : Int)))))) (f1 : wfr (p + 1) w w1) (hg : zix w (p + 1) = some (.inl (1, 27305, .inl g))) (hb : bkAt w b gk gs gi gn) (hkn : KNR g gk gs gi gn) (ht : t < 5461) (hl : fBy gk gs gi gn r t < 5461) (hd : b + 4 < p + 1 ∨ p + 1 < b) : AFK w1 p b (rdF gk gs gi gn) := by
  obtain ⟨x0, x1, x2, hO⟩ := hb.ob
  refine ⟨_, gk, gs, gi, gn, hg1, ⟨⟨x0, x1, x2, (f1.2 b (by omega)).trans hO⟩, (f1.2 (b + 1) (by omega)).trans hb.kin, (f1.2 (b + 2) (by omega)).trans hb.steps, (f1.2 (b + 3) (by omega)).trans hb.kinds, (f1.2 (b + 4) (by omega)).trans hb.nums, hb.2.2.2.2.2⟩, ?_, rfl⟩
  intro r' t' hr' ht'
  by_cases e : r' * 5461 + t' = r * 5461 + t
  · have e1 : r' = r := by omega
    have e2 : t' = t := by omega
    subst e1
    subst e2
    rw [pk_us]
    exact Or.inr (zti (by omega) (by omega))
  · rw [pk_un e]
    exact hkn r' t' hr' ht'
section XB1
variable {R : zS → Prop} {np : Nat} {L : zL} {S : List Value} {w : zW} {k n : Nat}
theorem x_bst1 {q len : Nat} {i v : Int} {g : Nat → Int32} (h2 : zix w q = some (.inl (0, len, .inl g))) (h0 : 0 ≤ i) (h1 : i < len) (hl : len ≤ 60000) (hv : -128 ≤ v ∧ v ≤ 127) (hk : ∀ w1, wfr q w w1 → zix w1 q = some (.inl (0, len, .inl (upd g i.toNat (Int32.ofInt v)))) → R (np, L, S, w1, k, n)) : zai w q (fun ti len g => zor (Nat.beq ti 0) (vp_in (Int32.ofInt i) len ∧ R (np, L, S, zst w q (.inl (ti, len, .inl (upd g (Int32.ofInt i).toNatClampNeg (vp_nar .byte (Int32.ofInt v))))), k, n)) (zif (Nat.beq ti 2) (vp_in (Int32.ofInt i) len ∧ R (np, L, S, zst w q (.inl (ti, len, .inl (upd g (Int32.ofInt i).toNatClampNeg (vp_nar .boolean (Int32.ofInt v))))), k, n)))) := by
  refine x_bst h2 h0 h1 hl fun w1 f1 hc => hk w1 f1 ?_
  rwa [byt8_i hv] at hc
end XB1
noncomputable def bkB : tpB → Int
  | (_, _, x0, _, _, _, _, _, _) => x0
noncomputable def bkN : tpB → Int
  | (_, _, _, x1, _, _, _, _, _) => x1
noncomputable def bkF : tpB → Int → Int → Int
  | (_, _, _, _, _, g1, g2, g3, g4) => rdF g1 g2 g3 g4
/-- what a call on readings answers, told of the book that it asks for -/
noncomputable def RXP (dd : Nat) (w : zW) (a dft : Int) (V : Int → Int → (Int → Int → Int) → Int) (r : Option Value) : Prop := ∃ (o : Option Nat) (wm : zW), (∀ Q : zQ, Q (some (va_rf o)) w → zCl zTab (dd + 1) iX11_bookAt [.ref 0, .int (Int32.ofInt a)] w 0 0 Q) ∧ (∀ q, TC w q → zix wm q = zix w q) ∧ ((o = none ∧ r = some (.int (Int32.ofInt dft))) ∨ ∃ (z : Nat) (X : tpB), o = some z ∧ OBB wm z X ∧ bkXA wm z X ∧ bkX1 X ∧ (0 ≤ bkB X ∧ bkB X ≤ 5460) ∧ r = some (.int (Int32.ofInt (V (bkB X) (bkN X) (bkF X)))))
theorem rx_ret {e v : Int} (h : e = v) : (some (.int (Int32.ofInt e)) : Option Value) = some (.int (Int32.ofInt v)) := by rw [h]
theorem rx_open {σ : Nat → Nat} {w : zW} (hw : CI σ w) {p z z2 z3 : Nat} (hp : σ p = 50) (hz : σ z = 20) (hO : zix w p = some (.inr (3, [.ref z, .ref (p + 1), .ref z2, .ref z3]))) : ∃ (x0 nn x2 : Int) (gk gs gi gn gm gm2 : Nat → Int32), zix w z = some (.inr (0, [.int (Int32.ofInt x0), .int (Int32.ofInt nn), .int (Int32.ofInt x2), .ref (z + 1), .ref (z + 2), .ref (z + 3), .ref (z + 4)])) ∧ OBB w z (0, 0, x0, nn, x2, gk, gs, gi, gn) ∧ bkXA w z (0, 0, x0, nn, x2, gk, gs, gi, gn) ∧ (0 ≤ nn ∧ nn ≤ 5) ∧ (0 ≤ x0 ∧ x0 ≤ 5460) ∧ AFK w p z (rdF gk gs gi gn) ∧ zix w z2 = some (.inl (0, 5461, .inl gm)) ∧ zix w z3 = some (.inl (0, 5461, .inl gm2)) ∧ (((z + 4 < p ∨ p + 1 < z) ∧ (z2 ≠ p ∧ z2 ≠ p + 1 ∧ z3 ≠ p ∧ z3 ≠ p + 1 ∧ z2 ≠ z3)) ∧ ((z2 < z ∨ z + 4 < z2) ∧ (z3 < z ∨ z + 4 < z3))) ∧ RDF σ w p nn (rdF gk gs gi gn) := by
  obtain ⟨z0', y2, y3, hO', r0, r1, r2, r3, hne⟩ := CI_o50 hw hp
  have e := Option.some.inj (hO.symm.trans hO')
  have e2 : z = z0' ∧ z2 = y2 ∧ z3 = y3 := by
    cases e
    exact ⟨rfl, rfl, rfl⟩
  obtain ⟨rfl, rfl, rfl⟩ := e2
  obtain ⟨x0, nn, x2, hB, b0, b1, b2, k1, k2, k3, k4⟩ := CI_o20 hw hz
  obtain ⟨gk, gs, gi, gn, hb⟩ := bkAt_of hw hz
  obtain ⟨kn, hkn, -⟩ := CI_ar hw (q := p + 1) (by rw [r1]; rfl)
  obtain ⟨gm, hm, -⟩ := CI_ar hw (q := z2) (by rw [r2]; rfl)
  obtain ⟨gm2, hm2, -⟩ := CI_ar hw (q := z3) (by rw [r3]; rfl)
  have hK := hw.2.2.2 p _ _ _ kn gk gs gi gn hp hO hkn hb.kin hb.steps hb.kinds hb.nums
  have ne : ∀ {x y : Nat}, σ x ≠ σ y → x ≠ y := fun h e => h (by rw [e])
  have n0 : ∀ x, (σ x = 50 ∨ σ x = 51 ∨ σ x = 52) → x < z ∨ z + 4 < x := fun x hx => by
    have q0 : x ≠ z := ne (by omega)
    have q1 : x ≠ z + 1 := ne (by omega)
    have q2 : x ≠ z + 2 := ne (by omega)
    have q3 : x ≠ z + 3 := ne (by omega)
    have q4 : x ≠ z + 4 := ne (by omega)
    omega
  have m0 := n0 p (by omega)
  have m1 := n0 (p + 1) (by omega)
  have m2 := n0 z2 (by omega)
  have m3 := n0 z3 (by omega)
  have m4 : z2 ≠ p := ne (by omega)
  have m5 : z2 ≠ p + 1 := ne (by omega)
  have m6 : z3 ≠ p := ne (by omega)
  have m7 : z3 ≠ p + 1 := ne (by omega)
  exact ⟨x0, nn, x2, gk, gs, gi, gn, gm, gm2, hB, ⟨hB, hb.kin, hb.steps, hb.kinds, hb.nums⟩, hb, b1, b0, ⟨kn, gk, gs, gi, gn, hkn, hb, hK, rfl⟩, hm, hm2, ⟨⟨by omega, m4, m5, m6, m7, hne⟩, m2, m3⟩, ⟨z, z2, z3, x0, x2, gk, gs, gi, gn, hO, hz, hB, hb, b1, rfl⟩⟩
theorem x_after (w : zW) (d : Nat) (p b z2 z3 : Nat) (a1 a2 : Int) (x0 nn x2 : Int) (F : Int → Int → Int) (hK0 : zix w p = some (.inr (3, [.ref b, .ref (p + 1), .ref z2, .ref z3]))) (hK1 : zix w b = some (.inr (0, [.int (Int32.ofInt x0), .int (Int32.ofInt nn), .int (Int32.ofInt x2), .ref (b + 1), .ref (b + 2), .ref (b + 3), .ref (b + 4)]))) (hK2 : AFK w p b F) (hr0 : 0 ≤ a1 ∧ a1 ≤ 4) (hr1 : 0 ≤ a2 ∧ a2 ≤ 5460) (hr2 : ((b + 4 < p ∨ p + 1 < b) ∧ (z2 ≠ p ∧ z2 ≠ p + 1 ∧ z3 ≠ p ∧ z3 ≠ p + 1 ∧ z2 ≠ z3)) ∧ ((z2 < b ∨ b + 4 < z2) ∧ (z3 < b ∨ b + 4 < z3))) (Q : zQ) (h : ∀ (v : Int) (w' : zW), wfM (fun j => j ≠ p + 1) w w' → AFK w' p b F → (v = F a1 a2 ∧ 0 ≤ v ∧ v ≤ 5460) → Q (some (.int (Int32.ofInt v))) w') : zCl zTab (d + 4) iX4_after [.ref p, .int (Int32.ofInt a1), .int (Int32.ofInt a2)] w 0 0 Q := by
  obtain ⟨g, gk, gs, gi, gn, hg, hb, hkn, rfl⟩ := hK2
  obtain ⟨r, rfl⟩ := Int.eq_ofNat_of_zero_le hr0.1
  obtain ⟨t, rfl⟩ := Int.eq_ofNat_of_zero_le hr1.1
  have hlt := fBy_lt hb (r := r) (t := t) (by omega) (by omega)
  have hF : rdF gk gs gi gn (r : Int) (t : Int) = ((fBy gk gs gi gn r t : Nat) : Int) := rdF_e (by omega)
  have hix : ((r : Int) * 5461 + (t : Int)).toNat = r * 5461 + t := by omega
  refine zCl_i (M := kX4_after) rfl (Nat.le_of_ble_eq_true rfl) fun R hR => ?_
  have tail : ∀ (w1 : zW) (g1 : Nat → Int32), wfM (fun j => j ≠ p + 1) w w1 → AFK w1 p b (rdF gk gs gi gn) → zix w1 (p + 1) = some (.inl (1, 27305, .inl g1)) → (g1 ((r : Int) * 5461 + (t : Int)).toNat).toInt = ((fBy gk gs gi gn r t : Nat) : Int) → R (33, [some (.ref p), some (.int (Int32.ofInt (r : Int))), some (.int (Int32.ofInt (t : Int))), some (.int (Int32.ofInt ((r : Int) * 5461 + (t : Int))))], [], w1, 0, 0) := by
    intro w1 g1 f1 hA1 hg1 hv1
    have hO1 := (f1.2 p (by omega)).trans hK0
    refine hR (?_ : R (_, _, _, _, _, _))
    refine hR (c_get hO1 rfl ?_)
    refine hR (?_ : R (_, _, _, _, _, _))
    refine hR (c_aldE hg1 (by omega) (by omega) (by omega) fun v e hv => ?_)
    rw [hv1] at e
    subst e
    exact hR (zret_i rfl (Nat.le_refl _) trivial (h _ _ f1 hA1 ⟨hF.symm, by omega, by omega⟩))
  refine hR (?_ : R (_, _, _, _, _, _))
  refine hR (t_c 5461 (by decide) ?_)
  refine hR (t_mul ?_)
  refine hR (?_ : R (_, _, _, _, _, _))
  refine hR (t_add ?_)
  iterate 2 refine hR (?_ : R (_, _, _, _, _, _))
  refine hR (c_get hK0 rfl ?_)
  refine hR (?_ : R (_, _, _, _, _, _))
  refine hR (c_aldE hg (by omega) (by omega) (by omega) fun v e hv => ?_)
  refine hR (?_ : R (_, _, _, _, _, _))
  have hkv := hkn r t (by omega) (by omega)
  rw [← hix] at hkv
  refine hR (j_ne (by omega) (by omega) (fun hc => ?_) (fun hc => ?_))
  · exact tail w g (wfM_rf _ _) ⟨g, gk, gs, gi, gn, hg, hb, hkn, rfl⟩ hg (by omega)
  · refine hR (?_ : R (_, _, _, _, _, _))
    refine hR (c_get hK0 rfl ?_)
    iterate 2 refine hR (?_ : R (_, _, _, _, _, _))
    refine hR (c_get hK0 rfl ?_)
    iterate 2 refine hR (?_ : R (_, _, _, _, _, _))
    refine hR (c_obj hK1 (zcall_i 0 0 (Nat.le_of_ble_eq_true rfl) (Nat.le_of_ble_eq_true rfl) (b_readBy hb _ r t (by omega) (by omega) _ ?_)))
    refine (?_ : R (_, _, .int (Int32.ofInt ((fBy gk gs gi gn r t : Nat) : Int)) :: .int (Int32.ofInt ((r : Int) * 5461 + (t : Int))) :: .ref (p + 1) :: [], w, 0, 0))
    refine hR (c_ast1 hg (by omega) (by omega) (by omega) fun w1 f1 hg1 => ?_)
    have hg1' := hg1
    rw [hix] at hg1'
    refine tail w1 _ (wfM_st (wfM_rf _ _) f1 (fun j hj => hj)) (AFK_st hg1' f1 hg hb hkn (by omega) (by omega) (by omega)) hg1 ?_
    rw [hix, pk_us]
    exact zti (by omega) (by omega)
theorem x_fillB (w : zW) (d : Nat) (q : Nat) (a1 : Int) (g : Nat → Int32) (hK0 : zix w q = some (.inl (0, 5461, .inl g))) (hr0 : 0 ≤ a1 ∧ a1 ≤ 1) (Q : zQ) (h : ∀ (T' : Nat → Int32) (w' : zW), wfM (fun j => j ≠ q) w w' → zix w' q = some (.inl (0, 5461, .inl T')) → (∀ x : Int, 0 ≤ x → x < 5461 → tBy T' x = a1) → Q (none) w') : zCl zTab (d + 1) iJ7_fill_031fb [.ref q, .int (Int32.ofInt a1)] w 0 0 Q := by
  refine zCl_i (M := kJ7_fill_031fb) rfl (Nat.le_of_ble_eq_true rfl) fun R hR => ?_
  have loop : ∀ (N : Nat) (i : Int) (w1 : zW) (g1 : Nat → Int32), 0 ≤ i → i ≤ 5461 → wfM (fun j => j ≠ q) w w1 → zix w1 q = some (.inl (0, 5461, .inl g1)) → (∀ x : Int, 0 ≤ x → x < i → tBy g1 x = a1) → 5461 - i < N → R (5, [some (.ref q), some (.int (Int32.ofInt a1)), some (.int (Int32.ofInt i)), some (.int (Int32.ofInt 5461))], [], w1, 0, 0) := by
    intro N
    induction N with
    | zero => intros; omega
    | succ N ih =>
      intro i w1 g1 h0 h1 hf hg hc hN
      iterate 2 refine hR (?_ : R (_, _, _, _, _, _))
      refine hR (j_ge (by omega) (by omega) (fun hc1 => ?_) (fun hc1 => ?_))
      · exact hR (zret_i rfl (Nat.le_refl _) rfl (h _ w1 hf hg (fun x x0 x1 => hc x x0 (by omega))))
      iterate 3 refine hR (?_ : R (_, _, _, _, _, _))
      refine hR (x_bst1 hg h0 (by omega) (Nat.le_of_ble_eq_true rfl) (by omega) fun w2 f2 hg2 => ?_)
      refine hR (t_inc ?_)
      refine hR (?_ : R (_, _, _, _, _, _))
      refine ih (i + 1) _ _ (by omega) (by omega) (wfM_st hf f2 (fun j hj => hj)) hg2 (fun x x0 x1 => ?_) (by omega)
      rw [zupI (by exact ⟨by omega, by omega⟩) h0 x0]
      by_cases c1 : x = i
      · rw [if_pos c1]
      · rw [if_neg c1]
        exact hc x x0 (by omega)
  iterate 3 refine hR (?_ : R (_, _, _, _, _, _))
  refine hR (c_len hK0 rfl ?_)
  refine hR (?_ : R (_, _, _, _, _, _))
  exact loop 5462 0 w g (by omega) (by omega) (wfM_rf _ w) hK0 (fun x x0 x1 => by omega) (by omega)
theorem x_markUnmade (w : zW) (d : Nat) (p b z2 z3 : Nat) (x0 nn x2 : Int) (F : Int → Int → Int) (gm : Nat → Int32) (hK0 : zix w p = some (.inr (3, [.ref b, .ref (p + 1), .ref z2, .ref z3]))) (hK1 : zix w b = some (.inr (0, [.int (Int32.ofInt x0), .int (Int32.ofInt nn), .int (Int32.ofInt x2), .ref (b + 1), .ref (b + 2), .ref (b + 3), .ref (b + 4)]))) (hK2 : AFK w p b F) (hK3 : zix w z2 = some (.inl (0, 5461, .inl gm))) (hr0 : 0 ≤ nn ∧ nn ≤ 5) (hr1 : ((b + 4 < p ∨ p + 1 < b) ∧ (z2 ≠ p ∧ z2 ≠ p + 1 ∧ z3 ≠ p ∧ z3 ≠ p + 1 ∧ z2 ≠ z3)) ∧ ((z2 < b ∨ b + 4 < z2) ∧ (z3 < b ∨ b + 4 < z3))) (Q : zQ) (h : ∀ (T' : Nat → Int32) (w' : zW), wfM (fun j => j ≠ p + 1 ∧ j ≠ z2) w w' → AFK w' p b F → zix w' z2 = some (.inl (0, 5461, .inl T')) → (∀ x : Int, 0 ≤ x → x < 5461 → tBy T' x = if htL F x (5461 * nn : Int).toNat = true then 0 else 1) → Q (none) w') : zCl zTab (d + 5) iX4_markUnmade [.ref p] w 0 0 Q := by
  refine zCl_i (M := kX4_markUnmade) rfl (Nat.le_of_ble_eq_true rfl) fun R hR => ?_
  have fr0 : wfM (fun j => j ≠ p + 1 ∧ j ≠ z2) w w := wfM_rf _ w
  have nX0 : FX (∀ j : Nat, (j ≠ p + 1 ∧ j ≠ z2) → (j ≠ z2)) := fun j hj => by omega
  have nX1 : FX (p ≠ z2) := (show p ≠ z2 by omega)
  have nX2 : FX (b ≠ z2) := (show b ≠ z2 by omega)
  have nX3 : FX (∀ j : Nat, (j = p + 1 ∨ (b ≤ j ∧ j ≤ b + 4)) → (j ≠ z2)) := fun j hj => by omega
  have nX4 : FX (∀ j : Nat, (j ≠ p + 1 ∧ j ≠ z2) → (j ≠ p + 1)) := fun j hj => by omega
  have nX5 : FX (p ≠ p + 1) := (show p ≠ p + 1 by omega)
  have nX6 : FX (b ≠ p + 1) := (show b ≠ p + 1 by omega)
  have nX7 : FX (z2 ≠ p + 1) := (show z2 ≠ p + 1 by omega)
  have nX8 : FX (∀ j : Nat, (j ≠ p + 1 ∧ j ≠ z2) → j ≠ z2) := fun j hj => by omega
  refine hR (?_ : R (_, _, _, _, _, _))
  refine hR (c_get hK0 rfl ?_)
  refine hR (?_ : R (_, _, _, _, _, _))
  refine hR (zcall_i 0 0 (Nat.le_of_ble_eq_true rfl) (Nat.le_of_ble_eq_true rfl) (x_fillB _ _ _ _ _ hK3 (by omega) _ fun T'_1 w2 gg3 hC4 hp5 => ?_))
  have fr6 := wfM_tr fr0 gg3 nX0
  have hC7 := (gg3.2 p nX1).trans hK0
  have hC8 := (gg3.2 b nX2).trans hK1
  have hC9 := AFK_fr hK2 (fun j hj => gg3.2 j (nX3 j hj))
  refine (?_ : R (_, _, [], w2, 0, 0))
  iterate 2 refine hR (?_ : R (_, _, _, _, _, _))
  have lp10 : ∀ (N : Nat) (rr : Int) (o2_10 : Option Value) (T2 : Nat → Int32) (w_10 : zW), (zc2 o2_10 = false) → (wfM (fun j => j ≠ p + 1 ∧ j ≠ z2) w w_10) → (zix w_10 p = some (.inr (3, [.ref b, .ref (p + 1), .ref z2, .ref z3]))) → (zix w_10 b = some (.inr (0, [.int (Int32.ofInt x0), .int (Int32.ofInt nn), .int (Int32.ofInt x2), .ref (b + 1), .ref (b + 2), .ref (b + 3), .ref (b + 4)]))) → (AFK w_10 p b F) → (zix w_10 z2 = some (.inl (0, 5461, .inl T2))) → (0 ≤ rr ∧ rr ≤ 5) → (∀ x : Int, 0 ≤ x → x < 5461 → tBy T2 x = if htL F x (5461 * rr : Int).toNat = true then 0 else 1) → (rr ≤ nn) → (6 - rr < N) → R (10, [some (.ref p), some (.int (Int32.ofInt rr)), o2_10], [], w_10, 0, 0) := by
    intro N
    induction N with
    | zero => intros; omega
    | succ N ih10 =>
      intro rr o2_10 T2 w_10 hzo2_10 fr_10 hCp_10 hCb_10 hCAF_10 hCz2_10 hf0_10 hp0_10 hp1_10 hN10
      iterate 2 refine hR (?_ : R (_, _, _, _, _, _))
      refine hR (c_get hCp_10 rfl ?_)
      refine hR (c_get hCb_10 rfl ?_)
      refine hR (j_ge (by omega) (by omega) (fun hc10 => ?_) (fun hc10 => ?_))
      · skip
        exact hR (zret_i rfl (Nat.le_refl _) rfl (h _ _ fr_10 hCAF_10 hCz2_10 (fun x x0 x1 => by rw [hp0_10 x x0 x1, show rr = nn by omega])))
      iterate 2 refine hR (?_ : R (_, _, _, _, _, _))
      have lp23 : ∀ (N : Nat) (tt : Int) (T3 : Nat → Int32) (w_23 : zW), (wfM (fun j => j ≠ p + 1 ∧ j ≠ z2) w w_23) → (zix w_23 p = some (.inr (3, [.ref b, .ref (p + 1), .ref z2, .ref z3]))) → (zix w_23 b = some (.inr (0, [.int (Int32.ofInt x0), .int (Int32.ofInt nn), .int (Int32.ofInt x2), .ref (b + 1), .ref (b + 2), .ref (b + 3), .ref (b + 4)]))) → (AFK w_23 p b F) → (zix w_23 z2 = some (.inl (0, 5461, .inl T3))) → (0 ≤ tt ∧ tt ≤ 5461) → (∀ x : Int, 0 ≤ x → x < 5461 → tBy T3 x = if htL F x (5461 * rr + tt : Int).toNat = true then 0 else 1) → (5462 - tt < N) → R (23, [some (.ref p), some (.int (Int32.ofInt rr)), some (.int (Int32.ofInt tt))], [], w_23, 0, 0) := by
        intro N
        induction N with
        | zero => intros; omega
        | succ N ih23 =>
          intro tt T3 w_23 fr_23 hCp_23 hCb_23 hCAF_23 hCz2_23 hf0_23 hp0_23 hN23
          refine hR (?_ : R (_, _, _, _, _, _))
          refine hR (t_c 5461 (by decide) ?_)
          refine hR (j_ge (by omega) (by omega) (fun hc11 => ?_) (fun hc11 => ?_))
          · skip
            refine hR (t_inc ?_)
            refine hR (?_ : R (_, _, _, _, _, _))
            exact ih10 _ _ _ _ (by rfl) fr_23 hCp_23 hCb_23 hCAF_23 hCz2_23 (by omega) (fun x x0 x1 => by rw [hp0_23 x x0 x1, show 5461 * (rr + 1) = 5461 * rr + tt by omega]) (by omega) (by omega)
          refine hR (?_ : R (_, _, _, _, _, _))
          refine hR (c_get hCp_23 rfl ?_)
          iterate 3 refine hR (?_ : R (_, _, _, _, _, _))
          refine hR (c_obj hCp_23 (zcall_i 0 0 (Nat.le_of_ble_eq_true rfl) (Nat.le_of_ble_eq_true rfl) (x_after _ _ _ _ _ _ _ _ _ _ _ _ hCp_23 hCb_23 hCAF_23 (by omega) (by omega) (by omega) _ fun v12 w13 gg14 hC15 hp16 => ?_)))
          have fr17 := wfM_tr fr_23 gg14 nX4
          have hC18 := (gg14.2 p nX5).trans hCp_23
          have hC19 := (gg14.2 b nX6).trans hCb_23
          have hC20 := (gg14.2 z2 nX7).trans hCz2_23
          refine (?_ : R (_, _, .int (Int32.ofInt v12) :: .ref z2 :: [], w13, 0, 0))
          have hq21 := hp16
          refine hR (?_ : R (_, _, _, _, _, _))
          refine hR (x_bst1 hC20 (by omega) (by omega) (Nat.le_of_ble_eq_true rfl) (by omega) fun w22 ff22 hC22 => ?_)
          have fr23 := wfM_st fr17 ff22 nX8
          have hC24 := (ff22.2 p nX1).trans hC18
          have hC25 := (ff22.2 b nX2).trans hC19
          have hC26 := AFK_fr hC15 (fun j hj => ff22.2 j (nX3 j hj))
          refine hR (t_inc ?_)
          refine hR (?_ : R (_, _, _, _, _, _))
          exact ih23 _ _ _ fr23 hC24 hC25 hC26 hC22 (by omega) (mk_st hp0_23 (by omega) (by omega) (by omega) hp16.1 (by omega)) (by omega)
      exact lp23 400000000 _ _ _ fr_10 hCp_10 hCb_10 hCAF_10 hCz2_10 (by omega) (fun x x0 x1 => by rw [hp0_10 x x0 x1, show 5461 * rr + 0 = 5461 * rr by omega]) (by omega)
  exact lp10 400000000 _ _ _ _ (by rfl) fr6 hC7 hC8 hC9 hC4 (by omega) (fun x x0 x1 => (hp5 x x0 x1).trans rfl) (by omega) (by omega)
theorem x_marked (w : zW) (d : Nat) (p b z2 z3 : Nat) (gm : Nat → Int32) (P : Nat → Bool) (hK0 : zix w p = some (.inr (3, [.ref b, .ref (p + 1), .ref z2, .ref z3]))) (hK1 : zix w z2 = some (.inl (0, 5461, .inl gm))) (hr0 : ∀ x : Int, 0 ≤ x → x < 5461 → tBy gm x = if P x.toNat = true then 1 else 0) (Q : zQ) (h : ∀ (v : Int), (v = (cntP P 5461 : Int)) → Q (some (.int (Int32.ofInt v))) w) : zCl zTab (d + 1) iX4_marked [.ref p] w 0 0 Q := by
  refine zCl_i (M := kX4_marked) rfl (Nat.le_of_ble_eq_true rfl) fun R hR => ?_
  iterate 4 refine hR (?_ : R (_, _, _, _, _, _))
  have lp4 : ∀ (N : Nat) (sv : Int) (tt : Int), (0 ≤ sv ∧ sv ≤ 5461) → (0 ≤ tt ∧ tt ≤ 5461) → (sv = (cntP P tt.toNat : Int)) → (sv ≤ tt) → (5462 - tt < N) → R (4, [some (.ref p), some (.int (Int32.ofInt sv)), some (.int (Int32.ofInt tt))], [], w, 0, 0) := by
    intro N
    induction N with
    | zero => intros; omega
    | succ N ih4 =>
      intro sv tt hf0_4 hf1_4 hp0_4 hp1_4 hN4
      refine hR (?_ : R (_, _, _, _, _, _))
      refine hR (t_c 5461 (by decide) ?_)
      refine hR (j_ge (by omega) (by omega) (fun hc1 => ?_) (fun hc1 => ?_))
      · skip
        refine hR (?_ : R (_, _, _, _, _, _))
        exact hR (zret_i rfl (Nat.le_refl _) trivial (h _ (cn_e hp0_4 (by omega))))
      iterate 2 refine hR (?_ : R (_, _, _, _, _, _))
      refine hR (c_get hK0 rfl ?_)
      refine hR (?_ : R (_, _, _, _, _, _))
      refine hR (x_bld hK1 (by omega) (by omega) (Nat.le_of_ble_eq_true rfl) fun v2 ev2 rv2 => ?_)
      replace ev2 : v2 = tBy gm tt := ev2
      subst ev2
      have hld := hr0 tt (by omega) (by omega)
      have hlb := bm_r hld
      refine hR (t_add ?_)
      refine hR (?_ : R (_, _, _, _, _, _))
      refine hR (t_inc ?_)
      refine hR (?_ : R (_, _, _, _, _, _))
      exact ih4 _ _ (by omega) (by omega) (cn_m (by omega) hp0_4 hld) (by omega) (by omega)
  exact lp4 400000000 _ _ (by omega) (by omega) cn_0 (by omega) (by omega)
theorem x_leastMarked (w : zW) (d : Nat) (p b z2 z3 : Nat) (gm : Nat → Int32) (P : Nat → Bool) (hK0 : zix w p = some (.inr (3, [.ref b, .ref (p + 1), .ref z2, .ref z3]))) (hK1 : zix w z2 = some (.inl (0, 5461, .inl gm))) (hr0 : ∀ x : Int, 0 ≤ x → x < 5461 → tBy gm x = if P x.toNat = true then 1 else 0) (Q : zQ) (h : ∀ (v : Int), (v = fstP P 5461) → Q (some (.int (Int32.ofInt v))) w) : zCl zTab (d + 1) iX4_leastMarked [.ref p] w 0 0 Q := by
  refine zCl_i (M := kX4_leastMarked) rfl (Nat.le_of_ble_eq_true rfl) fun R hR => ?_
  iterate 2 refine hR (?_ : R (_, _, _, _, _, _))
  have lp2 : ∀ (N : Nat) (tt : Int), (0 ≤ tt ∧ tt ≤ 5461) → (fstP P tt.toNat = -1) → (5462 - tt < N) → R (2, [some (.ref p), some (.int (Int32.ofInt tt))], [], w, 0, 0) := by
    intro N
    induction N with
    | zero => intros; omega
    | succ N ih2 =>
      intro tt hf0_2 hp0_2 hN2
      refine hR (?_ : R (_, _, _, _, _, _))
      refine hR (t_c 5461 (by decide) ?_)
      refine hR (j_ge (by omega) (by omega) (fun hc1 => ?_) (fun hc1 => ?_))
      · skip
        refine hR (?_ : R (_, _, _, _, _, _))
        exact hR (zret_i rfl (Nat.le_refl _) trivial (h _ (fs_e hp0_2 (by omega))))
      refine hR (?_ : R (_, _, _, _, _, _))
      refine hR (c_get hK0 rfl ?_)
      refine hR (?_ : R (_, _, _, _, _, _))
      refine hR (x_bld hK1 (by omega) (by omega) (Nat.le_of_ble_eq_true rfl) fun v2 ev2 rv2 => ?_)
      replace ev2 : v2 = tBy gm tt := ev2
      subst ev2
      have hld := hr0 tt (by omega) (by omega)
      have hlb := bm_r hld
      refine hR (k_eq (by omega) (fun hc3 => ?_) (fun hc3 => ?_))
      rotate_left
      · skip
        refine hR (?_ : R (_, _, _, _, _, _))
        exact hR (zret_i rfl (Nat.le_refl _) trivial (h _ (fs_y (by omega) (by omega) hp0_2 (bm_t hld (by omega)))))
      refine hR (t_inc ?_)
      refine hR (?_ : R (_, _, _, _, _, _))
      exact ih2 _ (by omega) (fs_n (by omega) hp0_2 (bm_f hld (by omega))) (by omega)
  exact lp2 400000000 _ (by omega) rfl (by omega)
theorem x_comesToMarked (w : zW) (d : Nat) (p b z2 z3 : Nat) (a1 : Int) (x0 nn x2 : Int) (F : Int → Int → Int) (gm : Nat → Int32) (S : Int → Bool) (hK0 : zix w p = some (.inr (3, [.ref b, .ref (p + 1), .ref z2, .ref z3]))) (hK1 : zix w b = some (.inr (0, [.int (Int32.ofInt x0), .int (Int32.ofInt nn), .int (Int32.ofInt x2), .ref (b + 1), .ref (b + 2), .ref (b + 3), .ref (b + 4)]))) (hK2 : AFK w p b F) (hK3 : zix w z2 = some (.inl (0, 5461, .inl gm))) (hr0 : 0 ≤ nn ∧ nn ≤ 5) (hr1 : 0 ≤ a1 ∧ a1 ≤ 5460) (hr2 : ∀ x : Int, 0 ≤ x → x < 5461 → tBy gm x = if S x = true then 1 else 0) (hr3 : ((b + 4 < p ∨ p + 1 < b) ∧ (z2 ≠ p ∧ z2 ≠ p + 1 ∧ z3 ≠ p ∧ z3 ≠ p + 1 ∧ z2 ≠ z3)) ∧ ((z2 < b ∨ b + 4 < z2) ∧ (z3 < b ∨ b + 4 < z3))) (Q : zQ) (h : ∀ (v : Int) (w' : zW), wfM (fun j => j ≠ p + 1) w w' → AFK w' p b F → ((v = 1 ∧ anR F S a1 nn.toNat = true) ∨ (v = 0 ∧ anR F S a1 nn.toNat = false)) → Q (some (.int (Int32.ofInt v))) w') : zCl zTab (d + 5) iX4_comesToMarked [.ref p, .int (Int32.ofInt a1)] w 0 0 Q := by
  refine zCl_i (M := kX4_comesToMarked) rfl (Nat.le_of_ble_eq_true rfl) fun R hR => ?_
  have fr0 : wfM (fun j => j ≠ p + 1) w w := wfM_rf _ w
  have nX0 : FX (∀ j : Nat, (j ≠ p + 1) → (j ≠ p + 1)) := fun j hj => by omega
  have nX1 : FX (p ≠ p + 1) := (show p ≠ p + 1 by omega)
  have nX2 : FX (b ≠ p + 1) := (show b ≠ p + 1 by omega)
  have nX3 : FX (z2 ≠ p + 1) := (show z2 ≠ p + 1 by omega)
  iterate 2 refine hR (?_ : R (_, _, _, _, _, _))
  have lp2 : ∀ (N : Nat) (rr : Int) (w_2 : zW), (wfM (fun j => j ≠ p + 1) w w_2) → (zix w_2 p = some (.inr (3, [.ref b, .ref (p + 1), .ref z2, .ref z3]))) → (zix w_2 b = some (.inr (0, [.int (Int32.ofInt x0), .int (Int32.ofInt nn), .int (Int32.ofInt x2), .ref (b + 1), .ref (b + 2), .ref (b + 3), .ref (b + 4)]))) → (AFK w_2 p b F) → (zix w_2 z2 = some (.inl (0, 5461, .inl gm))) → (0 ≤ rr ∧ rr ≤ 5) → (anR F S a1 rr.toNat = false) → (rr ≤ nn) → (6 - rr < N) → R (2, [some (.ref p), some (.int (Int32.ofInt a1)), some (.int (Int32.ofInt rr))], [], w_2, 0, 0) := by
    intro N
    induction N with
    | zero => intros; omega
    | succ N ih2 =>
      intro rr w_2 fr_2 hCp_2 hCb_2 hCAF_2 hCz2_2 hf0_2 hp0_2 hp1_2 hN2
      iterate 2 refine hR (?_ : R (_, _, _, _, _, _))
      refine hR (c_get hCp_2 rfl ?_)
      refine hR (c_get hCb_2 rfl ?_)
      refine hR (j_ge (by omega) (by omega) (fun hc1 => ?_) (fun hc1 => ?_))
      · skip
        refine hR (?_ : R (_, _, _, _, _, _))
        exact hR (zret_i rfl (Nat.le_refl _) (zbo (by omega)) (h _ _ fr_2 hCAF_2 (Or.inr ⟨rfl, (by rw [show nn = rr by omega]; exact hp0_2)⟩)))
      refine hR (?_ : R (_, _, _, _, _, _))
      refine hR (c_get hCp_2 rfl ?_)
      iterate 3 refine hR (?_ : R (_, _, _, _, _, _))
      refine hR (c_obj hCp_2 (zcall_i 0 0 (Nat.le_of_ble_eq_true rfl) (Nat.le_of_ble_eq_true rfl) (x_after _ _ _ _ _ _ _ _ _ _ _ _ hCp_2 hCb_2 hCAF_2 (by omega) (by omega) (by omega) _ fun v2 w3 gg4 hC5 hp6 => ?_)))
      have fr7 := wfM_tr fr_2 gg4 nX0
      have hC8 := (gg4.2 p nX1).trans hCp_2
      have hC9 := (gg4.2 b nX2).trans hCb_2
      have hC10 := (gg4.2 z2 nX3).trans hCz2_2
      refine (?_ : R (_, _, .int (Int32.ofInt v2) :: .ref z2 :: [], w3, 0, 0))
      have hq11 := hp6
      refine hR (x_bld hC10 (by omega) (by omega) (Nat.le_of_ble_eq_true rfl) fun v12 ev12 rv12 => ?_)
      replace ev12 : v12 = tBy gm v2 := ev12
      subst ev12
      have hld := hr2 v2 (by omega) (by omega)
      have hlb := bm_r hld
      refine hR (k_eq (by omega) (fun hc13 => ?_) (fun hc13 => ?_))
      rotate_left
      · skip
        refine hR (?_ : R (_, _, _, _, _, _))
        exact hR (zret_i rfl (Nat.le_refl _) (zbo (by omega)) (h _ _ fr7 hC5 (Or.inl ⟨rfl, an_y (by omega) (by omega) hp6.1 (bm_t hld (by omega))⟩)))
      refine hR (t_inc ?_)
      refine hR (?_ : R (_, _, _, _, _, _))
      exact ih2 _ _ fr7 hC8 hC9 hC5 hC10 (by omega) (an_n (by omega) hp0_2 hp6.1 (bm_f hld (by omega))) (by omega) (by omega)
  exact lp2 400000000 _ _ fr0 hK0 hK1 hK2 hK3 (by omega) rfl (by omega) (by omega)
theorem x_goBack (w : zW) (d : Nat) (p b z2 z3 : Nat) (a1 a2 : Int) (x0 nn x2 : Int) (F : Int → Int → Int) (gm gm2 : Nat → Int32) (hK0 : zix w p = some (.inr (3, [.ref b, .ref (p + 1), .ref z2, .ref z3]))) (hK1 : zix w b = some (.inr (0, [.int (Int32.ofInt x0), .int (Int32.ofInt nn), .int (Int32.ofInt x2), .ref (b + 1), .ref (b + 2), .ref (b + 3), .ref (b + 4)]))) (hK2 : AFK w p b F) (hK3 : zix w z2 = some (.inl (0, 5461, .inl gm))) (hK4 : zix w z3 = some (.inl (0, 5461, .inl gm2))) (hr0 : 0 ≤ nn ∧ nn ≤ 5) (hr1 : 0 ≤ a1 ∧ a1 ≤ 5460) (hr2 : 0 ≤ a2 ∧ a2 ≤ 9) (hr3 : ((b + 4 < p ∨ p + 1 < b) ∧ (z2 ≠ p ∧ z2 ≠ p + 1 ∧ z3 ≠ p ∧ z3 ≠ p + 1 ∧ z2 ≠ z3)) ∧ ((z2 < b ∨ b + 4 < z2) ∧ (z3 < b ∨ b + 4 < z3))) (Q : zQ) (h : ∀ (y2 y3 : Nat) (T' T'' : Nat → Int32) (w' : zW), wfM (fun j => j ≠ p ∧ j ≠ p + 1 ∧ j ≠ z2 ∧ j ≠ z3) w w' → zix w' p = some (.inr (3, [.ref b, .ref (p + 1), .ref y2, .ref y3])) → zix w' y2 = some (.inl (0, 5461, .inl T')) → zix w' y3 = some (.inl (0, 5461, .inl T'')) → (∀ x : Int, 0 ≤ x → x < 5461 → tBy T' x = if elP F nn.toNat a1 (a2 : Int).toNat x = true then 1 else 0) → Q (none) w') : zCl zTab (d + 6) iX4_goBack [.ref p, .int (Int32.ofInt a1), .int (Int32.ofInt a2)] w 0 0 Q := by
  refine zCl_i (M := kX4_goBack) rfl (Nat.le_of_ble_eq_true rfl) fun R hR => ?_
  have fr0 : wfM (fun j => j ≠ p ∧ j ≠ p + 1 ∧ j ≠ z2 ∧ j ≠ z3) w w := wfM_rf _ w
  have nX0 : FX (∀ j : Nat, (j ≠ p ∧ j ≠ p + 1 ∧ j ≠ z2 ∧ j ≠ z3) → (j ≠ z2)) := fun j hj => by omega
  have nX1 : FX (p ≠ z2) := (show p ≠ z2 by omega)
  have nX2 : FX (b ≠ z2) := (show b ≠ z2 by omega)
  have nX3 : FX (∀ j : Nat, (j = p + 1 ∨ (b ≤ j ∧ j ≤ b + 4)) → (j ≠ z2)) := fun j hj => by omega
  have nX4 : FX (z3 ≠ z2) := (show z3 ≠ z2 by omega)
  have nX5 : FX (∀ j : Nat, (j ≠ p ∧ j ≠ p + 1 ∧ j ≠ z2 ∧ j ≠ z3) → j ≠ z2) := fun j hj => by omega
  have nX6 : FX (∀ j : Nat, (j ≠ p ∧ j ≠ p + 1 ∧ j ≠ z2 ∧ j ≠ z3) → j ≠ p) := fun j hj => by omega
  have nX7 : FX (b ≠ p) := (show b ≠ p by omega)
  have nX8 : FX (∀ j : Nat, (j = p + 1 ∨ (b ≤ j ∧ j ≤ b + 4)) → (j ≠ p)) := fun j hj => by omega
  have nX9 : FX (∀ j : Nat, (j ≠ p ∧ j ≠ p + 1 ∧ j ≠ z2 ∧ j ≠ z3) → (j ≠ p + 1)) := fun j hj => by omega
  have nX10 : FX (p ≠ p + 1) := (show p ≠ p + 1 by omega)
  have nX11 : FX (b ≠ p + 1) := (show b ≠ p + 1 by omega)
  refine hR (?_ : R (_, _, _, _, _, _))
  refine hR (c_get hK0 rfl ?_)
  refine hR (?_ : R (_, _, _, _, _, _))
  refine hR (zcall_i 0 0 (Nat.le_of_ble_eq_true rfl) (Nat.le_of_ble_eq_true rfl) (x_fillB _ _ _ _ _ hK3 (by omega) _ fun T'_1 w2 gg3 hC4 hp5 => ?_))
  have fr6 := wfM_tr fr0 gg3 nX0
  have hC7 := (gg3.2 p nX1).trans hK0
  have hC8 := (gg3.2 b nX2).trans hK1
  have hC9 := AFK_fr hK2 (fun j hj => gg3.2 j (nX3 j hj))
  have hC10 := (gg3.2 z3 nX4).trans hK4
  refine (?_ : R (_, _, [], w2, 0, 0))
  refine hR (?_ : R (_, _, _, _, _, _))
  refine hR (c_get hC7 rfl ?_)
  iterate 2 refine hR (?_ : R (_, _, _, _, _, _))
  refine hR (x_bst1 hC4 (by omega) (by omega) (Nat.le_of_ble_eq_true rfl) (by omega) fun w11 ff11 hC11 => ?_)
  have fr12 := wfM_st fr6 ff11 nX5
  have hC13 := (ff11.2 p nX1).trans hC7
  have hC14 := (ff11.2 b nX2).trans hC8
  have hC15 := AFK_fr hC9 (fun j hj => ff11.2 j (nX3 j hj))
  have hC16 := (ff11.2 z3 nX4).trans hC10
  iterate 2 refine hR (?_ : R (_, _, _, _, _, _))
  have lp17 : ∀ (N : Nat) (kk : Int) (o4_17 : Option Value) (u2 u3 : Nat) (T2 T3 : Nat → Int32) (w_17 : zW), (zc2 o4_17 = false) → (wfM (fun j => j ≠ p ∧ j ≠ p + 1 ∧ j ≠ z2 ∧ j ≠ z3) w w_17) → (zix w_17 p = some (.inr (3, [.ref b, .ref (p + 1), .ref u2, .ref u3]))) → (zix w_17 b = some (.inr (0, [.int (Int32.ofInt x0), .int (Int32.ofInt nn), .int (Int32.ofInt x2), .ref (b + 1), .ref (b + 2), .ref (b + 3), .ref (b + 4)]))) → (AFK w_17 p b F) → (zix w_17 u2 = some (.inl (0, 5461, .inl T2))) → (zix w_17 u3 = some (.inl (0, 5461, .inl T3))) → (0 ≤ kk ∧ kk ≤ 9) → (∀ x : Int, 0 ≤ x → x < 5461 → tBy T2 x = if elP F nn.toNat a1 (kk : Int).toNat x = true then 1 else 0) → (kk ≤ a2) → ((u2 = z2 ∧ u3 = z3) ∨ (u2 = z3 ∧ u3 = z2)) → (10 - kk < N) → R (17, [some (.ref p), some (.int (Int32.ofInt a1)), some (.int (Int32.ofInt a2)), some (.int (Int32.ofInt kk)), o4_17], [], w_17, 0, 0) := by
    intro N
    induction N with
    | zero => intros; omega
    | succ N ih17 =>
      intro kk o4_17 u2 u3 T2 T3 w_17 hzo4_17 fr_17 hCp_17 hCb_17 hCAF_17 hCu2_17 hCu3_17 hf0_17 hp0_17 hp1_17 hp2_17 hN17
      iterate 2 refine hR (?_ : R (_, _, _, _, _, _))
      refine hR (j_ge (by omega) (by omega) (fun hc17 => ?_) (fun hc17 => ?_))
      · skip
        exact hR (zret_i rfl (Nat.le_refl _) rfl (h _ _ _ _ _ fr_17 hCp_17 hCu2_17 hCu3_17 (fun x x0 x1 => by rw [hp0_17 x x0 x1, show kk = a2 by omega])))
      iterate 2 refine hR (?_ : R (_, _, _, _, _, _))
      have lp25 : ∀ (N : Nat) (tt : Int) (T4 : Nat → Int32) (w_25 : zW), (wfM (fun j => j ≠ p ∧ j ≠ p + 1 ∧ j ≠ z2 ∧ j ≠ z3) w w_25) → (zix w_25 p = some (.inr (3, [.ref b, .ref (p + 1), .ref u2, .ref u3]))) → (zix w_25 b = some (.inr (0, [.int (Int32.ofInt x0), .int (Int32.ofInt nn), .int (Int32.ofInt x2), .ref (b + 1), .ref (b + 2), .ref (b + 3), .ref (b + 4)]))) → (AFK w_25 p b F) → (zix w_25 u2 = some (.inl (0, 5461, .inl T2))) → (zix w_25 u3 = some (.inl (0, 5461, .inl T4))) → (0 ≤ tt ∧ tt ≤ 5461) → (∀ x : Int, 0 ≤ x → x < tt → tBy T4 x = if elP F nn.toNat a1 (kk + 1 : Int).toNat x = true then 1 else 0) → (5462 - tt < N) → R (25, [some (.ref p), some (.int (Int32.ofInt a1)), some (.int (Int32.ofInt a2)), some (.int (Int32.ofInt kk)), some (.int (Int32.ofInt tt))], [], w_25, 0, 0) := by
        intro N
        induction N with
        | zero => intros; omega
        | succ N ih25 =>
          intro tt T4 w_25 fr_25 hCp_25 hCb_25 hCAF_25 hCu2_25 hCu3_25 hf0_25 hp0_25 hN25
          refine hR (?_ : R (_, _, _, _, _, _))
          refine hR (t_c 5461 (by decide) ?_)
          refine hR (j_ge (by omega) (by omega) (fun hc18 => ?_) (fun hc18 => ?_))
          · skip
            refine hR (?_ : R (_, _, _, _, _, _))
            refine hR (c_get hCp_25 rfl ?_)
            iterate 3 refine hR (?_ : R (_, _, _, _, _, _))
            refine hR (c_get hCp_25 rfl ?_)
            refine hR (c_put hCp_25 rfl rfl fun w19 ff19 hC19 => ?_)
            have fr20 := wfM_st fr_25 ff19 nX6
            have hC21 := (ff19.2 b nX7).trans hCb_25
            have hC22 := AFK_fr hCAF_25 (fun j hj => ff19.2 j (nX8 j hj))
            have hC23 := (ff19.2 u2 (by omega)).trans hCu2_25
            have hC24 := (ff19.2 u3 (by omega)).trans hCu3_25
            replace hC19 : zix w19 p = some (.inr (3, [.ref b, .ref (p + 1), .ref u3, .ref u3])) := hC19
            iterate 2 refine hR (?_ : R (_, _, _, _, _, _))
            refine hR (c_put hC19 rfl rfl fun w25 ff25 hC25 => ?_)
            have fr26 := wfM_st fr20 ff25 nX6
            have hC27 := (ff25.2 b nX7).trans hC21
            have hC28 := AFK_fr hC22 (fun j hj => ff25.2 j (nX8 j hj))
            have hC29 := (ff25.2 u2 (by omega)).trans hC23
            have hC30 := (ff25.2 u3 (by omega)).trans hC24
            replace hC25 : zix w25 p = some (.inr (3, [.ref b, .ref (p + 1), .ref u3, .ref u2])) := hC25
            refine hR (t_inc ?_)
            refine hR (?_ : R (_, _, _, _, _, _))
            exact ih17 _ _ _ _ _ _ _ (by rfl) fr26 hC25 hC27 hC28 hC30 hC29 (by omega) (fun x x0 x1 => hp0_25 x x0 (by omega)) (by omega) (by omega) (by omega)
          refine hR (?_ : R (_, _, _, _, _, _))
          refine hR (c_get hCp_25 rfl ?_)
          iterate 3 refine hR (?_ : R (_, _, _, _, _, _))
          refine hR (c_obj hCp_25 (zcall_i 0 0 (Nat.le_of_ble_eq_true rfl) (Nat.le_of_ble_eq_true rfl) (x_comesToMarked _ _ _ _ _ _ _ _ _ _ _ _ _ hCp_25 hCb_25 hCAF_25 hCu2_25 (by omega) (by omega) hp0_17 (by omega) _ fun v31 w32 gg33 hC34 hp35 => ?_)))
          have fr36 := wfM_tr fr_25 gg33 nX9
          have hC37 := (gg33.2 p nX10).trans hCp_25
          have hC38 := (gg33.2 b nX11).trans hCb_25
          have hC39 := (gg33.2 u2 (by (try dsimp only); omega)).trans hCu2_25
          have hC40 := (gg33.2 u3 (by (try dsimp only); omega)).trans hCu3_25
          refine (?_ : R (_, _, .int (Int32.ofInt v31) :: .int (Int32.ofInt tt) :: .ref u3 :: [], w32, 0, 0))
          refine hR (k_eq (by omega) (fun hc41 => ?_) (fun hc41 => ?_))
          · skip
            refine hR (?_ : R (_, _, _, _, _, _))
            refine hR (x_bst1 hC40 (by omega) (by omega) (Nat.le_of_ble_eq_true rfl) (by omega) fun w42 ff42 hC42 => ?_)
            have fr43 := wfM_st fr36 ff42 (fun j hj => by (try dsimp only at hj); omega)
            have hC44 := (ff42.2 p (by omega)).trans hC37
            have hC45 := (ff42.2 b (by omega)).trans hC38
            have hC46 := AFK_fr hC34 (fun j hj => ff42.2 j (by omega))
            have hC47 := (ff42.2 u2 (by omega)).trans hC39
            refine hR (t_inc ?_)
            refine hR (?_ : R (_, _, _, _, _, _))
            exact ih25 _ _ _ fr43 hC44 hC45 hC46 hC47 hC42 (by omega) (el_st hp0_25 (by omega) (by omega) (by omega) (Or.inr ⟨rfl, (hp35.resolve_left (fun z => by omega)).2⟩)) (by omega)
          iterate 2 refine hR (?_ : R (_, _, _, _, _, _))
          refine hR (x_bst1 hC40 (by omega) (by omega) (Nat.le_of_ble_eq_true rfl) (by omega) fun w48 ff48 hC48 => ?_)
          have fr49 := wfM_st fr36 ff48 (fun j hj => by (try dsimp only at hj); omega)
          have hC50 := (ff48.2 p (by omega)).trans hC37
          have hC51 := (ff48.2 b (by omega)).trans hC38
          have hC52 := AFK_fr hC34 (fun j hj => ff48.2 j (by omega))
          have hC53 := (ff48.2 u2 (by omega)).trans hC39
          refine hR (t_inc ?_)
          refine hR (?_ : R (_, _, _, _, _, _))
          exact ih25 _ _ _ fr49 hC50 hC51 hC52 hC53 hC48 (by omega) (el_st hp0_25 (by omega) (by omega) (by omega) (Or.inl ⟨rfl, (hp35.resolve_right (fun z => by omega)).2⟩)) (by omega)
      exact lp25 400000000 _ _ _ fr_17 hCp_17 hCb_17 hCAF_17 hCu2_17 hCu3_17 (by omega) (fun x x0 x1 => by omega) (by omega)
  exact lp17 400000000 _ _ _ _ _ _ _ (by rfl) fr12 hC13 hC14 hC15 hC11 hC16 (by omega) (el_0 hp5 (by omega)) (by omega) (by omega) (by omega)
theorem x_hasReadersI (w : zW) (d : Nat) (q : Nat) (a1 : Int) (x0 x1 x2 : Int) (hK0 : zix w q = some (.inr (0, [.int (Int32.ofInt x0), .int (Int32.ofInt x1), .int (Int32.ofInt x2), .ref (q + 1), .ref (q + 2), .ref (q + 3), .ref (q + 4)]))) (hr0 : (-2147483648 ≤ a1 ∧ a1 ≤ 2147483647)) (hr1 : 0 ≤ x1 ∧ x1 ≤ 5) (Q : zQ) (h : ∀ (v : Int), ((v = 1 ∧ 0 ≤ a1 ∧ a1 ≤ bShl 1 x1 - 1) ∨ (v = 0 ∧ (a1 < 0 ∨ bShl 1 x1 - 1 < a1))) → Q (some (.int (Int32.ofInt v))) w) : zCl zTab (d + 1) iX0_hasReaders [.ref q, .int (Int32.ofInt a1)] w 0 0 Q := by
  refine zCl_i (M := kX0_hasReaders) rfl (Nat.le_of_ble_eq_true rfl) fun R hR => ?_
  have hsb := shl_b hr1
  refine hR (?_ : R (_, _, _, _, _, _))
  refine hR (k_lt (by omega) (fun hc1 => ?_) (fun hc1 => ?_))
  · skip
    refine hR (?_ : R (_, _, _, _, _, _))
    exact hR (zret_i rfl (Nat.le_refl _) (zbo (by omega)) (h _ (by omega)))
  iterate 3 refine hR (?_ : R (_, _, _, _, _, _))
  refine hR (c_get hK0 rfl ?_)
  refine hR (t_c (bShl 1 x1) (zoi _).symm ?_)
  have hbt2 : r32 (bShl 1 x1) := zrg _
  refine hR (j_ge (by omega) (by omega) (fun hc3 => ?_) (fun hc3 => ?_))
  · skip
    refine hR (?_ : R (_, _, _, _, _, _))
    exact hR (zret_i rfl (Nat.le_refl _) (zbo (by omega)) (h _ (by omega)))
  iterate 2 refine hR (?_ : R (_, _, _, _, _, _))
  exact hR (zret_i rfl (Nat.le_refl _) (zbo (by omega)) (h _ (by omega)))
