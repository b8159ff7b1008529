theorem rne {ρ : Nat → Nat} {a b r s : Nat} (ha : ρ a = r) (hb : ρ b = s) (h : r ≠ s) : a ≠ b := fun e => h (by rw [← ha, ← hb, e])
theorem wfr_rf (q : Nat) (w : zW) : wfr q w w := ⟨rfl, fun _ _ => rfl⟩
theorem wfr_tr {q : Nat} {w w1 w2 : zW} (h : wfr q w w1) (h2 : wfr q w1 w2) : wfr q w w2 := ⟨h2.1.trans h.1, fun j hj => (h2.2 j hj).trans (h.2 j hj)⟩
theorem zmax_r {a b : Int} (ha : -2147483648 ≤ a ∧ a ≤ 2147483647) (hb : -2147483648 ≤ b ∧ b ≤ 2147483647) : ∃ v : Int, (a ≤ v ∧ b ≤ v ∧ (v = a ∨ v = b)) ∧ (if Int32.ofInt a < Int32.ofInt b then Int32.ofInt b else Int32.ofInt a) = Int32.ofInt v := by
  by_cases h : a < b
  · exact ⟨b, by omega, by rw [if_pos ((zlt_o ha hb).mpr h)]⟩
  · exact ⟨a, by omega, by rw [if_neg (fun z => h ((zlt_o ha hb).mp z))]⟩
theorem zmin_r {a b : Int} (ha : -2147483648 ≤ a ∧ a ≤ 2147483647) (hb : -2147483648 ≤ b ∧ b ≤ 2147483647) : ∃ v : Int, (v ≤ a ∧ v ≤ b ∧ (v = a ∨ v = b)) ∧ (if Int32.ofInt b < Int32.ofInt a then Int32.ofInt b else Int32.ofInt a) = Int32.ofInt v := by
  by_cases h : b < a
  · exact ⟨b, by omega, by rw [if_pos ((zlt_o hb ha).mpr h)]⟩
  · exact ⟨a, by omega, by rw [if_neg (fun z => h ((zlt_o hb ha).mp z))]⟩
theorem t_pc {R : zS → Prop} {pc : Nat} {L : zL} {S : List Value} {w : zW} {k n : Nat} (pc2 : Nat) (e : pc = pc2) (h : R (pc2, L, S, w, k, n)) : R (pc, L, S, w, k, n) := by rw [e]; exact h
section CY
variable {R : zS → Prop} {np : Nat} {L : zL} {S : List Value} {w : zW} {k n : Nat} {ρ : Nat → Nat}
theorem c_astx {q len : Nat} {i : Int} {x : Int32} (hw : CI ρ w) (hr : rAr (ρ q) = some (1, len, -2147483648, 2147483647)) (hm : ρ q ≠ 23 ∧ ρ q ≠ 24) (h0 : 0 ≤ i) (h1 : i < len) (hl : len ≤ 60000) (hk : ∀ w1, CI ρ w1 → wfr q w w1 → R (np, L, S, w1, k, n)) : zai w q (fun ti len g => zif (Nat.beq ti 1) (vp_in (Int32.ofInt i) len ∧ R (np, L, S, zst w q (.inl (ti, len, .inl (upd g (Int32.ofInt i).toNatClampNeg x))), k, n))) := by
  obtain ⟨g, h2, h3⟩ := CI_ar hw hr
  unfold zai
  rw [h2]
  refine ⟨zvin h0 h1 hl, ?_⟩
  obtain ⟨f1, f2⟩ := wfr_st (c' := .inl (1, len, .inl (upd g (Int32.ofInt i).toNatClampNeg x))) h2
  refine hk _ (CI_st hw f1 f2 ?_ hm) f1
  unfold rOK
  rw [hr]
  exact ⟨_, rfl, fun j => zrg _⟩
theorem c_astE {q len : Nat} {g : Nat → Int32} {i e lo hi : Int} (hw : CI ρ w) (hg : zix w q = some (.inl (1, len, .inl g))) (hB : zB lo hi g) (hr : rAr (ρ q) = some (1, len, lo, hi)) (hm : ρ q ≠ 23 ∧ ρ q ≠ 24) (he : lo ≤ e ∧ e ≤ hi) (hb : -2147483648 ≤ lo ∧ hi ≤ 2147483647) (h0 : 0 ≤ i) (h1 : i < len) (hl : len ≤ 60000) (hk : ∀ w1, CI ρ w1 → wfr q w w1 → zix w1 q = some (.inl (1, len, .inl (upd g i.toNat (Int32.ofInt e)))) → zB lo hi (upd g i.toNat (Int32.ofInt e)) → R (np, L, S, w1, k, n)) : zai w q (fun ti len g => zif (Nat.beq ti 1) (vp_in (Int32.ofInt i) len ∧ R (np, L, S, zst w q (.inl (ti, len, .inl (upd g (Int32.ofInt i).toNatClampNeg (Int32.ofInt e)))), k, n))) := by
  unfold zai
  rw [hg]
  refine ⟨zvin h0 h1 hl, ?_⟩
  have ec : (Int32.ofInt i).toNatClampNeg = i.toNat := zcl h0 (by omega)
  rw [ec]
  obtain ⟨f1, f2⟩ := wfr_st (c' := .inl (1, len, .inl (upd g i.toNat (Int32.ofInt e)))) hg
  have hB2 := zB_u (i := i.toNat) hB he.1 he.2 hb.1 hb.2
  refine hk _ (CI_st hw f1 f2 ?_ hm) f1 f2 hB2
  unfold rOK
  rw [hr]
  exact ⟨_, rfl, hB2⟩
theorem c_len {q ti len : Nat} {g : Nat → Int32} (h : zix w q = some (.inl (ti, len, .inl g))) (ht : Nat.ble ti 2 = true) (hk : R (np, L, .int (Int32.ofNat len) :: S, w, k, n)) : zai w q (fun ti len _ => zif (Nat.ble ti 2) (R (np, L, .int (Int32.ofNat len) :: S, w, k, n))) := by
  unfold zai
  rw [h]
  dsimp only
  rw [ht]
  exact hk
end CY
theorem z_on {len : Nat} : Int32.ofNat len = Int32.ofInt (len : Int) := rfl
/-- Arrays.fill of ints -/
theorem c_fill {ρ : Nat → Nat} {w : zW} (d q len : Nat) (e lo hi : Int) (hw : CI ρ w) (hr : rAr (ρ q) = some (1, len, lo, hi)) (hm : ρ q ≠ 23 ∧ ρ q ≠ 24) (he : lo ≤ e ∧ e ≤ hi) (hb : -2147483648 ≤ lo ∧ hi ≤ 2147483647) (hl : len ≤ 60000) (Q : zQ) (h : ∀ w' : zW, CI ρ w' → wfr q w w' → (∃ g, zix w' q = some (.inl (1, len, .inl g)) ∧ ∀ j : Nat, j < len → (g j).toInt = e) → Q none w') : zCl zTab (d + 1) iJ7_fill_53178 [.ref q, .int (Int32.ofInt e)] w 0 0 Q := by
  refine zCl_i (M := kJ7_fill_53178) rfl (Nat.le_of_ble_eq_true rfl) fun R hR => ?_
  have loop : ∀ (N : Nat) (i : Int) (w1 : zW) (g : Nat → Int32), 0 ≤ i → i ≤ len → CI ρ w1 → wfr q w w1 → zix w1 q = some (.inl (1, len, .inl g)) → zB lo hi g → (∀ j : Nat, (j : Int) < i → (g j).toInt = e) → len - i < N → R (5, [some (.ref q), some (.int (Int32.ofInt e)), some (.int (Int32.ofInt i)), some (.int (Int32.ofInt len))], [], w1, 0, 0) := by
    intro N
    induction N with
    | zero => intros; omega
    | succ N ih =>
      intro i w1 g h0 h1 hw1 hf hg hB hc hN
      iterate 2 refine hR (?_ : R (_, _, _, _, _, _))
      refine hR (j_ge (by omega) (by omega) (fun hc1 => ?_) (fun hc1 => ?_))
      · exact hR (zret_i rfl (Nat.le_refl _) rfl (h _ hw1 hf ⟨g, hg, fun j hj => hc j (by omega)⟩))
      iterate 3 refine hR (?_ : R (_, _, _, _, _, _))
      refine hR (c_astE hw1 hg hB hr hm he hb h0 (by omega) hl fun w2 hw2 f2 hg2 hB2 => ?_)
      refine hR (t_inc ?_)
      refine hR (?_ : R (_, _, _, _, _, _))
      refine ih (i + 1) _ _ (by omega) (by omega) hw2 (wfr_tr hf f2) hg2 hB2 (fun j hj => ?_) (by omega)
      by_cases ej : j = i.toNat
      · subst ej; rw [pk_us, zti (by omega) (by omega)]
      · rw [pk_un ej]; exact hc j (by omega)
  obtain ⟨g, h2, h3⟩ := CI_ar hw hr
  iterate 3 refine hR (?_ : R (_, _, _, _, _, _))
  refine hR (c_len h2 rfl ?_)
  refine hR (?_ : R (_, _, _, _, _, _))
  exact loop (len + 1) 0 w g (by omega) (by omega) hw (wfr_rf q w) h2 h3 (fun j hj => by omega) (by omega)
/-- Arrays.fill of bytes -/
theorem c_fillb {ρ : Nat → Nat} {w : zW} (d q len : Nat) (e : Int) (hw : CI ρ w) (hr : rAr (ρ q) = some (0, len, -2147483648, 2147483647)) (hm : ρ q ≠ 23 ∧ ρ q ≠ 24) (hl : len ≤ 60000) (Q : zQ) (h : ∀ w' : zW, CI ρ w' → wfr q w w' → Q none w') : zCl zTab (d + 1) iJ7_fill_031fb [.ref q, .int (Int32.ofInt e)] w 0 0 Q := by
  refine zCl_i (M := kJ7_fill_031fb) rfl (Nat.le_of_ble_eq_true rfl) fun R hR => ?_
  have loop : ∀ (N : Nat) (i : Int) (w1 : zW), 0 ≤ i → i ≤ len → CI ρ w1 → wfr q w w1 → len - i < N → R (5, [some (.ref q), some (.int (Int32.ofInt e)), some (.int (Int32.ofInt i)), some (.int (Int32.ofInt len))], [], w1, 0, 0) := by
    intro N
    induction N with
    | zero => intros; omega
    | succ N ih =>
      intro i w1 h0 h1 hw1 hf hN
      iterate 2 refine hR (?_ : R (_, _, _, _, _, _))
      refine hR (j_ge (by omega) (by omega) (fun hc1 => ?_) (fun hc1 => ?_))
      · exact hR (zret_i rfl (Nat.le_refl _) rfl (h _ hw1 hf))
      iterate 3 refine hR (?_ : R (_, _, _, _, _, _))
      refine hR (c_bst hw1 hr hm h0 (by omega) hl fun w2 hw2 f2 => ?_)
      refine hR (t_inc ?_)
      refine hR (?_ : R (_, _, _, _, _, _))
      exact ih (i + 1) w2 (by omega) (by omega) hw2 (wfr_tr hf f2) (by omega)
  obtain ⟨g, h2, h3⟩ := CI_ar hw hr
  iterate 3 refine hR (?_ : R (_, _, _, _, _, _))
  refine hR (c_len h2 rfl ?_)
  refine hR (?_ : R (_, _, _, _, _, _))
  exact loop (len + 1) 0 w (by omega) (by omega) hw (wfr_rf q w) (by omega)
theorem c_isText (w : zW) (d : Nat) (a1 : Int) (hr0 : -2147483648 ≤ a1 ∧ a1 ≤ 2147483647) (Q : zQ) (h : ∀ (v : Int), ((v = 1 ∧ 0 ≤ a1 ∧ a1 ≤ 5460) ∨ (v = 0 ∧ (a1 < 0 ∨ 5460 < a1))) → Q (some (.int (Int32.ofInt v))) w) : zCl zTab (d + 1) iX11_isText [.int (Int32.ofInt a1)] w 0 0 Q := by
  refine zCl_i (M := kX11_isText) rfl (Nat.le_of_ble_eq_true rfl) fun R hR => ?_
  refine hR (?_ : R (_, _, _, _, _, _))
  refine hR (k_lt (by omega) (fun hc1 => ?_) (fun hc1 => ?_))
  · skip
    refine hR (?_ : R (_, _, _, _, _, _))
    exact hR (zret_i rfl (Nat.le_refl _) (zbo (by omega)) (h _ (by omega)))
  refine hR (?_ : R (_, _, _, _, _, _))
  refine hR (t_c 5461 (by decide) ?_)
  refine hR (j_ge (by omega) (by omega) (fun hc2 => ?_) (fun hc2 => ?_))
  · skip
    refine hR (?_ : R (_, _, _, _, _, _))
    exact hR (zret_i rfl (Nat.le_refl _) (zbo (by omega)) (h _ (by omega)))
  iterate 2 refine hR (?_ : R (_, _, _, _, _, _))
  exact hR (zret_i rfl (Nat.le_refl _) (zbo (by omega)) (h _ (by omega)))
theorem c_isWord (w : zW) (d : Nat) (a1 : Int) (hr0 : -2147483648 ≤ a1 ∧ a1 ≤ 2147483647) (Q : zQ) (h : ∀ (v : Int), ((v = 1 ∧ 0 ≤ a1 ∧ a1 ≤ 3) ∨ (v = 0 ∧ (a1 < 0 ∨ 3 < a1))) → Q (some (.int (Int32.ofInt v))) w) : zCl zTab (d + 1) iX11_isWord [.int (Int32.ofInt a1)] w 0 0 Q := by
  refine zCl_i (M := kX11_isWord) rfl (Nat.le_of_ble_eq_true rfl) fun R hR => ?_
  refine hR (?_ : R (_, _, _, _, _, _))
  refine hR (k_lt (by omega) (fun hc1 => ?_) (fun hc1 => ?_))
  · skip
    refine hR (?_ : R (_, _, _, _, _, _))
    exact hR (zret_i rfl (Nat.le_refl _) (zbo (by omega)) (h _ (by omega)))
  iterate 2 refine hR (?_ : R (_, _, _, _, _, _))
  refine hR (j_ge (by omega) (by omega) (fun hc2 => ?_) (fun hc2 => ?_))
  · skip
    refine hR (?_ : R (_, _, _, _, _, _))
    exact hR (zret_i rfl (Nat.le_refl _) (zbo (by omega)) (h _ (by omega)))
  iterate 2 refine hR (?_ : R (_, _, _, _, _, _))
  exact hR (zret_i rfl (Nat.le_refl _) (zbo (by omega)) (h _ (by omega)))
theorem c_isSpan (w : zW) (d : Nat) (a1 : Int) (hr0 : -2147483648 ≤ a1 ∧ a1 ≤ 2147483647) (Q : zQ) (h : ∀ (v : Int), ((v = 1 ∧ 0 ≤ a1 ∧ a1 ≤ 9) ∨ (v = 0 ∧ (a1 < 0 ∨ 9 < a1))) → Q (some (.int (Int32.ofInt v))) w) : zCl zTab (d + 1) iX11_isSpan [.int (Int32.ofInt a1)] w 0 0 Q := by
  refine zCl_i (M := kX11_isSpan) rfl (Nat.le_of_ble_eq_true rfl) fun R hR => ?_
  refine hR (?_ : R (_, _, _, _, _, _))
  refine hR (k_lt (by omega) (fun hc1 => ?_) (fun hc1 => ?_))
  · skip
    refine hR (?_ : R (_, _, _, _, _, _))
    exact hR (zret_i rfl (Nat.le_refl _) (zbo (by omega)) (h _ (by omega)))
  refine hR (?_ : R (_, _, _, _, _, _))
  refine hR (t_c 9 (by decide) ?_)
  refine hR (j_gt (by omega) (by omega) (fun hc2 => ?_) (fun hc2 => ?_))
  · skip
    refine hR (?_ : R (_, _, _, _, _, _))
    exact hR (zret_i rfl (Nat.le_refl _) (zbo (by omega)) (h _ (by omega)))
  iterate 2 refine hR (?_ : R (_, _, _, _, _, _))
  exact hR (zret_i rfl (Nat.le_refl _) (zbo (by omega)) (h _ (by omega)))
theorem c_isIn (w : zW) (d : Nat) (a1 a2 : Int)  (Q : zQ) (h : ∀ (v : Int), (v = 0 ∨ v = 1) → Q (some (.int (Int32.ofInt v))) w) : zCl zTab (d + 1) iX11_isIn [.int (Int32.ofInt a1), .int (Int32.ofInt a2)] w 0 0 Q := by
  refine zCl_i (M := kX11_isIn) rfl (Nat.le_of_ble_eq_true rfl) fun R hR => ?_
  iterate 2 refine hR (?_ : R (_, _, _, _, _, _))
  refine hR (t_o fun v1 rv1 => ?_)
  refine hR (?_ : R (_, _, _, _, _, _))
  obtain ⟨v2, lv2, uv2, qv2⟩ := zand_r (Int32.ofInt v1) (m := Int32.ofInt 1) 1 (by decide) (by decide)
  refine hR (t_c v2 qv2 ?_)
  refine hR (k_eq (by omega) (fun hc3 => ?_) (fun hc3 => ?_))
  · skip
    refine hR (?_ : R (_, _, _, _, _, _))
    exact hR (zret_i rfl (Nat.le_refl _) (zbo (by omega)) (h _ (by omega)))
  iterate 2 refine hR (?_ : R (_, _, _, _, _, _))
  exact hR (zret_i rfl (Nat.le_refl _) (zbo (by omega)) (h _ (by omega)))
theorem c_longer (w : zW) (d : Nat) (a1 a2 : Int)  (Q : zQ) (h : ∀ (v : Int), (v = 4 * a1 + 1 + a2) → Q (some (.int (Int32.ofInt v))) w) : zCl zTab (d + 1) iX11_longer [.int (Int32.ofInt a1), .int (Int32.ofInt a2)] w 0 0 Q := by
  refine zCl_i (M := kX11_longer) rfl (Nat.le_of_ble_eq_true rfl) fun R hR => ?_
  iterate 2 refine hR (?_ : R (_, _, _, _, _, _))
  refine hR (t_mul ?_)
  refine hR (?_ : R (_, _, _, _, _, _))
  refine hR (t_add ?_)
  refine hR (?_ : R (_, _, _, _, _, _))
  refine hR (t_add ?_)
  exact hR (zret_i rfl (Nat.le_refl _) trivial (h _ (by omega)))
theorem c_hasReader {ρ : Nat → Nat} {w : zW} (d : Nat) (b : Nat) (a1 : Int) (hw : CI ρ w) (hρb : ρ b = 20) (hr0 : -2147483648 ≤ a1 ∧ a1 ≤ 2147483647) (Q : zQ) (h : ∀ (v : Int), ((v = 1 ∧ 0 ≤ a1 ∧ a1 ≤ 4) ∨ v = 0) → Q (some (.int (Int32.ofInt v))) w) : zCl zTab (d + 1) iX0_hasReader [.ref b, .int (Int32.ofInt a1)] w 0 0 Q := by
  refine zCl_i (M := kX0_hasReader) rfl (Nat.le_of_ble_eq_true rfl) fun R hR => ?_
  have fr0 := wfR_rf [] ρ w
  refine hR (?_ : R (_, _, _, _, _, _))
  refine hR (k_lt (by omega) (fun hc1 => ?_) (fun hc1 => ?_))
  · skip
    refine hR (?_ : R (_, _, _, _, _, _))
    exact hR (zret_i rfl (Nat.le_refl _) (zbo (by omega)) (h _ (by omega)))
  iterate 2 refine hR (?_ : R (_, _, _, _, _, _))
  obtain ⟨x0_2, x1_2, x2_2, hO2, hk2_0, hk2_1, hk2_2, hk2_3, hk2_4, hk2_5, hk2_6⟩ := CI_o20 hw hρb
  refine hR (c_get hO2 rfl ?_)
  refine hR (j_ge (by omega) (by omega) (fun hc3 => ?_) (fun hc3 => ?_))
  · skip
    refine hR (?_ : R (_, _, _, _, _, _))
    exact hR (zret_i rfl (Nat.le_refl _) (zbo (by omega)) (h _ (by omega)))
  iterate 2 refine hR (?_ : R (_, _, _, _, _, _))
  exact hR (zret_i rfl (Nat.le_refl _) (zbo (by omega)) (h _ (by omega)))
theorem c_hasReaders {ρ : Nat → Nat} {w : zW} (d : Nat) (b : Nat) (a1 : Int) (hw : CI ρ w) (hρb : ρ b = 20) (hr0 : -2147483648 ≤ a1 ∧ a1 ≤ 2147483647) (Q : zQ) (h : ∀ (v : Int), ((v = 1 ∧ 0 ≤ a1 ∧ a1 ≤ 31) ∨ v = 0) → Q (some (.int (Int32.ofInt v))) w) : zCl zTab (d + 1) iX0_hasReaders [.ref b, .int (Int32.ofInt a1)] w 0 0 Q := by
  refine zCl_i (M := kX0_hasReaders) rfl (Nat.le_of_ble_eq_true rfl) fun R hR => ?_
  have fr0 := wfR_rf [] ρ w
  refine hR (?_ : R (_, _, _, _, _, _))
  refine hR (k_lt (by omega) (fun hc1 => ?_) (fun hc1 => ?_))
  · skip
    refine hR (?_ : R (_, _, _, _, _, _))
    exact hR (zret_i rfl (Nat.le_refl _) (zbo (by omega)) (h _ (by omega)))
  iterate 3 refine hR (?_ : R (_, _, _, _, _, _))
  obtain ⟨x0_2, x1_2, x2_2, hO2, hk2_0, hk2_1, hk2_2, hk2_3, hk2_4, hk2_5, hk2_6⟩ := CI_o20 hw hρb
  refine hR (c_get hO2 rfl ?_)
  obtain ⟨v3, lv3, uv3, qv3⟩ := zshl_r (e := x1_2) (by omega) (by omega)
  refine hR (t_c v3 qv3 ?_)
  refine hR (j_ge (by omega) (by omega) (fun hc4 => ?_) (fun hc4 => ?_))
  · skip
    refine hR (?_ : R (_, _, _, _, _, _))
    exact hR (zret_i rfl (Nat.le_refl _) (zbo (by omega)) (h _ (by omega)))
  iterate 2 refine hR (?_ : R (_, _, _, _, _, _))
  exact hR (zret_i rfl (Nat.le_refl _) (zbo (by omega)) (h _ (by omega)))
theorem c_tellsStep {ρ : Nat → Nat} {w : zW} (d : Nat) (b : Nat) (a1 a2 : Int) (hw : CI ρ w) (hρb : ρ b = 20) (hr0 : 0 ≤ a1 ∧ a1 ≤ 300000000) (hr1 : 0 ≤ a2 ∧ a2 ≤ 9) (Q : zQ) (h : ∀ (v : Int), Q (some (.int (Int32.ofInt v))) w) : zCl zTab (d + 2) iX0_tellsStep [.ref b, .int (Int32.ofInt a1), .int (Int32.ofInt a2)] w 0 0 Q := by
  refine zCl_i (M := kX0_tellsStep) rfl (Nat.le_of_ble_eq_true rfl) fun R hR => ?_
  have fr0 := wfR_rf [] ρ w
  iterate 2 refine hR (?_ : R (_, _, _, _, _, _))
  obtain ⟨x0_4, x1_4, x2_4, hO4, hk4_0, hk4_1, hk4_2, hk4_3, hk4_4, hk4_5, hk4_6⟩ := CI_o20 hw hρb
  refine hR (c_obj hO4 (zcall_i 0 0 (Nat.le_of_ble_eq_true rfl) (Nat.le_of_ble_eq_true rfl) (c_hasReader _ b a1 hw hρb (by omega) _ fun v1 hp3 => ?_)))
  refine (?_ : R (_, _, (.int (Int32.ofInt v1)) :: [], w, 0, 0))
  refine hR (k_eq (by omega) (fun hc5 => ?_) (fun hc5 => ?_))
  · skip
    refine hR (?_ : R (_, _, _, _, _, _))
    exact hR (zret_i rfl (Nat.le_refl _) trivial (h _))
  iterate 2 refine hR (?_ : R (_, _, _, _, _, _))
  refine hR (t_div (by omega) (by omega) (by omega) (by omega) ?_)
  refine hR (?_ : R (_, _, _, _, _, _))
  refine hR (c_get hO4 rfl ?_)
  refine hR (?_ : R (_, _, _, _, _, _))
  refine hR (c_ald hw (by rw [hk4_4]; rfl) (by omega) (by omega) (Nat.le_of_ble_eq_true rfl) fun v6 lv6 uv6 => ?_)
  refine hR (j_lt (by omega) (by omega) (fun hc7 => ?_) (fun hc7 => ?_))
  rotate_left
  · skip
    refine hR (?_ : R (_, _, _, _, _, _))
    exact hR (zret_i rfl (Nat.le_refl _) trivial (h _))
  iterate 2 refine hR (?_ : R (_, _, _, _, _, _))
  refine hR (t_mul ?_)
  iterate 2 refine hR (?_ : R (_, _, _, _, _, _))
  refine hR (t_div (by omega) (by omega) (by omega) (by omega) ?_)
  refine hR (t_add ?_)
  iterate 3 refine hR (?_ : R (_, _, _, _, _, _))
  refine hR (t_rem (by omega) (by omega) (by omega) (by omega) ?_)
  refine hR (k_ne (by omega) (fun hc8 => ?_) (fun hc8 => ?_))
  · skip
    refine hR (?_ : R (_, _, _, _, _, _))
    refine hR (c_get hO4 rfl ?_)
    refine hR (?_ : R (_, _, _, _, _, _))
    refine hR (c_ald hw (by rw [hk4_6]; rfl) (by omega) (by omega) (Nat.le_of_ble_eq_true rfl) fun v9 lv9 uv9 => ?_)
    exact hR (zret_i rfl (Nat.le_refl _) trivial (h _))
  refine hR (?_ : R (_, _, _, _, _, _))
  refine hR (c_get hO4 rfl ?_)
  refine hR (?_ : R (_, _, _, _, _, _))
  refine hR (c_ald hw (by rw [hk4_5]; rfl) (by omega) (by omega) (Nat.le_of_ble_eq_true rfl) fun v10 lv10 uv10 => ?_)
  refine hR (?_ : R (_, _, _, _, _, _))
  exact hR (zret_i rfl (Nat.le_refl _) trivial (h _))
theorem c_bookTells {ρ : Nat → Nat} {w : zW} (d : Nat) (b : Nat) (a1 : Int) (hw : CI ρ w) (hρb : ρ b = 20) (hr0 : -2147483648 ≤ a1 ∧ a1 ≤ 2147483647) (Q : zQ) (h : ∀ (v : Int), Q (some (.int (Int32.ofInt v))) w) : zCl zTab (d + 3) iX0_tells [.ref b, .int (Int32.ofInt a1)] w 0 0 Q := by
  refine zCl_i (M := kX0_tells) rfl (Nat.le_of_ble_eq_true rfl) fun R hR => ?_
  have fr0 := wfR_rf [] ρ w
  refine hR (?_ : R (_, _, _, _, _, _))
  refine hR (k_ne (by omega) (fun hc1 => ?_) (fun hc1 => ?_))
  rotate_left
  · skip
    refine hR (?_ : R (_, _, _, _, _, _))
    obtain ⟨x0_30, x1_30, x2_30, hO30, hk30_0, hk30_1, hk30_2, hk30_3, hk30_4, hk30_5, hk30_6⟩ := CI_o20 hw hρb
    refine hR (c_get hO30 rfl ?_)
    exact hR (zret_i rfl (Nat.le_refl _) trivial (h _))
  iterate 2 refine hR (?_ : R (_, _, _, _, _, _))
  refine hR (j_ne (by omega) (by omega) (fun hc2 => ?_) (fun hc2 => ?_))
  rotate_left
  · skip
    refine hR (?_ : R (_, _, _, _, _, _))
    obtain ⟨x0_29, x1_29, x2_29, hO29, hk29_0, hk29_1, hk29_2, hk29_3, hk29_4, hk29_5, hk29_6⟩ := CI_o20 hw hρb
    refine hR (c_get hO29 rfl ?_)
    exact hR (zret_i rfl (Nat.le_refl _) trivial (h _))
  refine hR (?_ : R (_, _, _, _, _, _))
  refine hR (t_c 10 (by decide) ?_)
  refine hR (j_lt (by omega) (by omega) (fun hc3 => ?_) (fun hc3 => ?_))
  · skip
    refine hR (?_ : R (_, _, _, _, _, _))
    refine hR (t_c 20 (by decide) ?_)
    refine hR (j_lt (by omega) (by omega) (fun hc4 => ?_) (fun hc4 => ?_))
    · skip
      refine hR (?_ : R (_, _, _, _, _, _))
      refine hR (t_c 30 (by decide) ?_)
      refine hR (j_ge (by omega) (by omega) (fun hc5 => ?_) (fun hc5 => ?_))
      rotate_left
      · skip
        iterate 2 refine hR (?_ : R (_, _, _, _, _, _))
        exact hR (zret_i rfl (Nat.le_refl _) trivial (h _))
      iterate 2 refine hR (?_ : R (_, _, _, _, _, _))
      refine hR (t_c 30 (by decide) ?_)
      refine hR (t_sub ?_)
      refine hR (t_c 10 (by decide) ?_)
      refine hR (t_div (by omega) (by omega) (by omega) (by omega) ?_)
      refine hR (?_ : R (_, _, _, _, _, _))
      refine hR (t_c 30 (by decide) ?_)
      refine hR (t_sub ?_)
      refine hR (t_c 10 (by decide) ?_)
      refine hR (t_rem (by omega) (by omega) (by omega) (by omega) ?_)
      obtain ⟨x0_8, x1_8, x2_8, hO8, hk8_0, hk8_1, hk8_2, hk8_3, hk8_4, hk8_5, hk8_6⟩ := CI_o20 hw hρb
      refine hR (c_obj hO8 (zcall_i 0 0 (Nat.le_of_ble_eq_true rfl) (Nat.le_of_ble_eq_true rfl) (c_tellsStep _ b ((a1 - 30) / 10) ((a1 - 30) % 10) hw hρb (by omega) (by omega) _ fun v6 => ?_)))
      refine (?_ : R (_, _, (.int (Int32.ofInt v6)) :: [], w, 0, 0))
      exact hR (zret_i rfl (Nat.le_refl _) trivial (h _))
    refine hR (?_ : R (_, _, _, _, _, _))
    refine hR (t_c 20 (by decide) ?_)
    refine hR (?_ : R (_, _, _, _, _, _))
    obtain ⟨x0_9, x1_9, x2_9, hO9, hk9_0, hk9_1, hk9_2, hk9_3, hk9_4, hk9_5, hk9_6⟩ := CI_o20 hw hρb
    refine hR (c_get hO9 rfl ?_)
    refine hR (t_add ?_)
    refine hR (j_ge (by omega) (by omega) (fun hc10 => ?_) (fun hc10 => ?_))
    rotate_left
    · skip
      refine hR (?_ : R (_, _, _, _, _, _))
      refine hR (c_get hO9 rfl ?_)
      refine hR (?_ : R (_, _, _, _, _, _))
      refine hR (t_c 20 (by decide) ?_)
      refine hR (t_sub ?_)
      refine hR (c_ald hw (by rw [hk9_4]; rfl) (by omega) (by omega) (Nat.le_of_ble_eq_true rfl) fun v14 lv14 uv14 => ?_)
      exact hR (zret_i rfl (Nat.le_refl _) trivial (h _))
    refine hR (?_ : R (_, _, _, _, _, _))
    refine hR (t_c 30 (by decide) ?_)
    refine hR (j_ge (by omega) (by omega) (fun hc11 => ?_) (fun hc11 => ?_))
    rotate_left
    · skip
      iterate 2 refine hR (?_ : R (_, _, _, _, _, _))
      exact hR (zret_i rfl (Nat.le_refl _) trivial (h _))
    iterate 2 refine hR (?_ : R (_, _, _, _, _, _))
    refine hR (t_c 30 (by decide) ?_)
    refine hR (t_sub ?_)
    refine hR (t_c 10 (by decide) ?_)
    refine hR (t_div (by omega) (by omega) (by omega) (by omega) ?_)
    refine hR (?_ : R (_, _, _, _, _, _))
    refine hR (t_c 30 (by decide) ?_)
    refine hR (t_sub ?_)
    refine hR (t_c 10 (by decide) ?_)
    refine hR (t_rem (by omega) (by omega) (by omega) (by omega) ?_)
    refine hR (c_obj hO9 (zcall_i 0 0 (Nat.le_of_ble_eq_true rfl) (Nat.le_of_ble_eq_true rfl) (c_tellsStep _ b ((a1 - 30) / 10) ((a1 - 30) % 10) hw hρb (by omega) (by omega) _ fun v12 => ?_)))
    refine (?_ : R (_, _, (.int (Int32.ofInt v12)) :: [], w, 0, 0))
    exact hR (zret_i rfl (Nat.le_refl _) trivial (h _))
  refine hR (?_ : R (_, _, _, _, _, _))
  refine hR (t_c 14 (by decide) ?_)
  refine hR (j_ge (by omega) (by omega) (fun hc15 => ?_) (fun hc15 => ?_))
  rotate_left
  · skip
    refine hR (?_ : R (_, _, _, _, _, _))
    obtain ⟨x0_27, x1_27, x2_27, hO27, hk27_0, hk27_1, hk27_2, hk27_3, hk27_4, hk27_5, hk27_6⟩ := CI_o20 hw hρb
    refine hR (c_get hO27 rfl ?_)
    refine hR (?_ : R (_, _, _, _, _, _))
    refine hR (t_c 10 (by decide) ?_)
    refine hR (t_sub ?_)
    refine hR (c_ald hw (by rw [hk27_3]; rfl) (by omega) (by omega) (Nat.le_of_ble_eq_true rfl) fun v28 lv28 uv28 => ?_)
    exact hR (zret_i rfl (Nat.le_refl _) trivial (h _))
  refine hR (?_ : R (_, _, _, _, _, _))
  refine hR (t_c 20 (by decide) ?_)
  refine hR (j_lt (by omega) (by omega) (fun hc16 => ?_) (fun hc16 => ?_))
  · skip
    refine hR (?_ : R (_, _, _, _, _, _))
    refine hR (t_c 30 (by decide) ?_)
    refine hR (j_ge (by omega) (by omega) (fun hc17 => ?_) (fun hc17 => ?_))
    rotate_left
    · skip
      iterate 2 refine hR (?_ : R (_, _, _, _, _, _))
      exact hR (zret_i rfl (Nat.le_refl _) trivial (h _))
    iterate 2 refine hR (?_ : R (_, _, _, _, _, _))
    refine hR (t_c 30 (by decide) ?_)
    refine hR (t_sub ?_)
    refine hR (t_c 10 (by decide) ?_)
    refine hR (t_div (by omega) (by omega) (by omega) (by omega) ?_)
    refine hR (?_ : R (_, _, _, _, _, _))
    refine hR (t_c 30 (by decide) ?_)
    refine hR (t_sub ?_)
    refine hR (t_c 10 (by decide) ?_)
    refine hR (t_rem (by omega) (by omega) (by omega) (by omega) ?_)
    obtain ⟨x0_20, x1_20, x2_20, hO20, hk20_0, hk20_1, hk20_2, hk20_3, hk20_4, hk20_5, hk20_6⟩ := CI_o20 hw hρb
    refine hR (c_obj hO20 (zcall_i 0 0 (Nat.le_of_ble_eq_true rfl) (Nat.le_of_ble_eq_true rfl) (c_tellsStep _ b ((a1 - 30) / 10) ((a1 - 30) % 10) hw hρb (by omega) (by omega) _ fun v18 => ?_)))
    refine (?_ : R (_, _, (.int (Int32.ofInt v18)) :: [], w, 0, 0))
    exact hR (zret_i rfl (Nat.le_refl _) trivial (h _))
  refine hR (?_ : R (_, _, _, _, _, _))
  refine hR (t_c 20 (by decide) ?_)
  refine hR (?_ : R (_, _, _, _, _, _))
  obtain ⟨x0_21, x1_21, x2_21, hO21, hk21_0, hk21_1, hk21_2, hk21_3, hk21_4, hk21_5, hk21_6⟩ := CI_o20 hw hρb
  refine hR (c_get hO21 rfl ?_)
  refine hR (t_add ?_)
  refine hR (j_ge (by omega) (by omega) (fun hc22 => ?_) (fun hc22 => ?_))
  rotate_left
  · skip
    refine hR (?_ : R (_, _, _, _, _, _))
    refine hR (c_get hO21 rfl ?_)
    refine hR (?_ : R (_, _, _, _, _, _))
    refine hR (t_c 20 (by decide) ?_)
    refine hR (t_sub ?_)
    refine hR (c_ald hw (by rw [hk21_4]; rfl) (by omega) (by omega) (Nat.le_of_ble_eq_true rfl) fun v26 lv26 uv26 => ?_)
    exact hR (zret_i rfl (Nat.le_refl _) trivial (h _))
  refine hR (?_ : R (_, _, _, _, _, _))
  refine hR (t_c 30 (by decide) ?_)
  refine hR (j_ge (by omega) (by omega) (fun hc23 => ?_) (fun hc23 => ?_))
  rotate_left
  · skip
    iterate 2 refine hR (?_ : R (_, _, _, _, _, _))
    exact hR (zret_i rfl (Nat.le_refl _) trivial (h _))
  iterate 2 refine hR (?_ : R (_, _, _, _, _, _))
  refine hR (t_c 30 (by decide) ?_)
  refine hR (t_sub ?_)
  refine hR (t_c 10 (by decide) ?_)
  refine hR (t_div (by omega) (by omega) (by omega) (by omega) ?_)
  refine hR (?_ : R (_, _, _, _, _, _))
  refine hR (t_c 30 (by decide) ?_)
  refine hR (t_sub ?_)
  refine hR (t_c 10 (by decide) ?_)
  refine hR (t_rem (by omega) (by omega) (by omega) (by omega) ?_)
  refine hR (c_obj hO21 (zcall_i 0 0 (Nat.le_of_ble_eq_true rfl) (Nat.le_of_ble_eq_true rfl) (c_tellsStep _ b ((a1 - 30) / 10) ((a1 - 30) % 10) hw hρb (by omega) (by omega) _ fun v24 => ?_)))
  refine (?_ : R (_, _, (.int (Int32.ofInt v24)) :: [], w, 0, 0))
  exact hR (zret_i rfl (Nat.le_refl _) trivial (h _))
theorem c_isInKinRing {ρ : Nat → Nat} {w : zW} (d : Nat) (b : Nat) (a1 : Int) (hw : CI ρ w) (hρb : ρ b = 20) (hr0 : 0 ≤ a1 ∧ a1 ≤ 3) (Q : zQ) (h : ∀ (v : Int), (v = 0 ∨ v = 1) → Q (some (.int (Int32.ofInt v))) w) : zCl zTab (d + 1) iX0_isInKinRing [.ref b, .int (Int32.ofInt a1)] w 0 0 Q := by
  refine zCl_i (M := kX0_isInKinRing) rfl (Nat.le_of_ble_eq_true rfl) fun R hR => ?_
  have fr0 := wfR_rf [] ρ w
  iterate 4 refine hR (?_ : R (_, _, _, _, _, _))
  have lp4 : ∀ (N : Nat) (at_ : Int) (i : Int), (0 ≤ at_ ∧ at_ ≤ 3) → (0 ≤ i ∧ i ≤ 4) → (4 - i < N) → R (4, [some (.ref b), some (.int (Int32.ofInt a1)), some (.int (Int32.ofInt at_)), some (.int (Int32.ofInt i))], [], w, 0, 0) := by
    intro N
    induction N with
    | zero => intros; omega
    | succ N ih4 =>
      intro at_ i hf0_4 hf1_4 hN4
      iterate 2 refine hR (?_ : R (_, _, _, _, _, _))
      refine hR (j_ge (by omega) (by omega) (fun hc1 => ?_) (fun hc1 => ?_))
      · skip
        refine hR (?_ : R (_, _, _, _, _, _))
        exact hR (zret_i rfl (Nat.le_refl _) (zbo (by omega)) (h _ (by omega)))
      refine hR (?_ : R (_, _, _, _, _, _))
      obtain ⟨x0_2, x1_2, x2_2, hO2, hk2_0, hk2_1, hk2_2, hk2_3, hk2_4, hk2_5, hk2_6⟩ := CI_o20 hw hρb
      refine hR (c_get hO2 rfl ?_)
      refine hR (?_ : R (_, _, _, _, _, _))
      refine hR (c_ald hw (by rw [hk2_3]; rfl) (by omega) (by omega) (Nat.le_of_ble_eq_true rfl) fun v3 lv3 uv3 => ?_)
      iterate 3 refine hR (?_ : R (_, _, _, _, _, _))
      refine hR (j_ne (by omega) (by omega) (fun hc4 => ?_) (fun hc4 => ?_))
      rotate_left
      · skip
        refine hR (?_ : R (_, _, _, _, _, _))
        exact hR (zret_i rfl (Nat.le_refl _) (zbo (by omega)) (h _ (by omega)))
      refine hR (t_inc ?_)
      refine hR (?_ : R (_, _, _, _, _, _))
      exact ih4 _ _ (by omega) (by omega) (by omega)
  exact lp4 400000000 _ _ (by omega) (by omega) (by omega)
theorem c_kinUntilRing {ρ : Nat → Nat} {w : zW} (d : Nat) (b : Nat) (a1 : Int) (hw : CI ρ w) (hρb : ρ b = 20) (hr0 : 0 ≤ a1 ∧ a1 ≤ 3) (Q : zQ) (h : ∀ (v : Int), Q (some (.int (Int32.ofInt v))) w) : zCl zTab (d + 2) iX0_kinUntilRing [.ref b, .int (Int32.ofInt a1)] w 0 0 Q := by
  refine zCl_i (M := kX0_kinUntilRing) rfl (Nat.le_of_ble_eq_true rfl) fun R hR => ?_
  have fr0 := wfR_rf [] ρ w
  iterate 4 refine hR (?_ : R (_, _, _, _, _, _))
  have lp4 : ∀ (N : Nat) (at_ : Int) (i : Int), (0 ≤ at_ ∧ at_ ≤ 3) → (0 ≤ i ∧ i ≤ 4) → (4 - i < N) → R (4, [some (.ref b), some (.int (Int32.ofInt a1)), some (.int (Int32.ofInt at_)), some (.int (Int32.ofInt i))], [], w, 0, 0) := by
    intro N
    induction N with
    | zero => intros; omega
    | succ N ih4 =>
      intro at_ i hf0_4 hf1_4 hN4
      iterate 2 refine hR (?_ : R (_, _, _, _, _, _))
      refine hR (j_ge (by omega) (by omega) (fun hc1 => ?_) (fun hc1 => ?_))
      · skip
        refine hR (?_ : R (_, _, _, _, _, _))
        exact hR (zret_i rfl (Nat.le_refl _) trivial (h _))
      iterate 2 refine hR (?_ : R (_, _, _, _, _, _))
      obtain ⟨x0_5, x1_5, x2_5, hO5, hk5_0, hk5_1, hk5_2, hk5_3, hk5_4, hk5_5, hk5_6⟩ := CI_o20 hw hρb
      refine hR (c_obj hO5 (zcall_i 0 0 (Nat.le_of_ble_eq_true rfl) (Nat.le_of_ble_eq_true rfl) (c_isInKinRing _ b at_ hw hρb (by omega) _ fun v2 hp4 => ?_)))
      refine (?_ : R (_, _, (.int (Int32.ofInt v2)) :: [], w, 0, 0))
      refine hR (k_eq (by omega) (fun hc6 => ?_) (fun hc6 => ?_))
      rotate_left
      · skip
        refine hR (?_ : R (_, _, _, _, _, _))
        exact hR (zret_i rfl (Nat.le_refl _) trivial (h _))
      refine hR (?_ : R (_, _, _, _, _, _))
      refine hR (c_get hO5 rfl ?_)
      refine hR (?_ : R (_, _, _, _, _, _))
      refine hR (c_ald hw (by rw [hk5_3]; rfl) (by omega) (by omega) (Nat.le_of_ble_eq_true rfl) fun v7 lv7 uv7 => ?_)
      refine hR (?_ : R (_, _, _, _, _, _))
      refine hR (t_inc ?_)
      refine hR (?_ : R (_, _, _, _, _, _))
      exact ih4 _ _ (by omega) (by omega) (by omega)
  exact lp4 400000000 _ _ (by omega) (by omega) (by omega)
theorem c_kinRing {ρ : Nat → Nat} {w : zW} (d : Nat) (b : Nat) (a1 : Int) (hw : CI ρ w) (hρb : ρ b = 20) (hr0 : 0 ≤ a1 ∧ a1 ≤ 3) (Q : zQ) (h : ∀ (v : Int), Q (some (.int (Int32.ofInt v))) w) : zCl zTab (d + 1) iX0_kinRing [.ref b, .int (Int32.ofInt a1)] w 0 0 Q := by
  refine zCl_i (M := kX0_kinRing) rfl (Nat.le_of_ble_eq_true rfl) fun R hR => ?_
  have fr0 := wfR_rf [] ρ w
  iterate 4 refine hR (?_ : R (_, _, _, _, _, _))
  have lp4 : ∀ (N : Nat) (at_ : Int) (i : Int), (0 ≤ at_ ∧ at_ ≤ 3) → (0 ≤ i ∧ i ≤ 4) → (4 - i < N) → R (4, [some (.ref b), some (.int (Int32.ofInt a1)), some (.int (Int32.ofInt at_)), some (.int (Int32.ofInt i)), none], [], w, 0, 0) := by
    intro N
    induction N with
    | zero => intros; omega
    | succ N ih4 =>
      intro at_ i hf0_4 hf1_4 hN4
      iterate 2 refine hR (?_ : R (_, _, _, _, _, _))
      refine hR (j_ge (by omega) (by omega) (fun hc1 => ?_) (fun hc1 => ?_))
      rotate_left
      · skip
        refine hR (?_ : R (_, _, _, _, _, _))
        obtain ⟨x0_6, x1_6, x2_6, hO6, hk6_0, hk6_1, hk6_2, hk6_3, hk6_4, hk6_5, hk6_6⟩ := CI_o20 hw hρb
        refine hR (c_get hO6 rfl ?_)
        refine hR (?_ : R (_, _, _, _, _, _))
        refine hR (c_ald hw (by rw [hk6_3]; rfl) (by omega) (by omega) (Nat.le_of_ble_eq_true rfl) fun v7 lv7 uv7 => ?_)
        refine hR (?_ : R (_, _, _, _, _, _))
        refine hR (t_inc ?_)
        refine hR (?_ : R (_, _, _, _, _, _))
        exact ih4 _ _ (by omega) (by omega) (by omega)
      iterate 4 refine hR (?_ : R (_, _, _, _, _, _))
      have lp27 : ∀ (N : Nat) (ar : Int) (n : Int), (0 ≤ ar ∧ ar ≤ 3) → (0 ≤ n ∧ n ≤ 3) → (4 - n < N) → R (27, [some (.ref b), some (.int (Int32.ofInt a1)), some (.int (Int32.ofInt ar)), some (.int (Int32.ofInt at_)), some (.int (Int32.ofInt n))], [], w, 0, 0) := by
        intro N
        induction N with
        | zero => intros; omega
        | succ N ih27 =>
          intro ar n hf0_27 hf1_27 hN27
          refine hR (?_ : R (_, _, _, _, _, _))
          obtain ⟨x0_2, x1_2, x2_2, hO2, hk2_0, hk2_1, hk2_2, hk2_3, hk2_4, hk2_5, hk2_6⟩ := CI_o20 hw hρb
          refine hR (c_get hO2 rfl ?_)
          refine hR (?_ : R (_, _, _, _, _, _))
          refine hR (c_ald hw (by rw [hk2_3]; rfl) (by omega) (by omega) (Nat.le_of_ble_eq_true rfl) fun v3 lv3 uv3 => ?_)
          refine hR (?_ : R (_, _, _, _, _, _))
          refine hR (t_inc ?_)
          iterate 2 refine hR (?_ : R (_, _, _, _, _, _))
          refine hR (j_eq (by omega) (by omega) (fun hc4 => ?_) (fun hc4 => ?_))
          · skip
            refine hR (?_ : R (_, _, _, _, _, _))
            exact hR (zret_i rfl (Nat.le_refl _) trivial (h _))
          iterate 2 refine hR (?_ : R (_, _, _, _, _, _))
          refine hR (j_lt (by omega) (by omega) (fun hc5 => ?_) (fun hc5 => ?_))
          · skip
            exact ih27 _ _ (by omega) (by omega) (by omega)
          refine hR (?_ : R (_, _, _, _, _, _))
          exact hR (zret_i rfl (Nat.le_refl _) trivial (h _))
      exact lp27 400000000 _ _ (by omega) (by omega) (by omega)
  exact lp4 400000000 _ _ (by omega) (by omega) (by omega)
theorem c_yearTells {ρ : Nat → Nat} {w : zW} (d : Nat) (p : Nat) (a1 a2 : Int) (hw : CI ρ w) (hρp : ρ p = 30) (hr0 : -2147483648 ≤ a1 ∧ a1 ≤ 2147483647) (hr1 : -2147483648 ≤ a2 ∧ a2 ≤ 2147483647) (Q : zQ) (h : ∀ (v : Int), Q (some (.int (Int32.ofInt v))) w) : zCl zTab (d + 1) iX10_tells [.ref p, .int (Int32.ofInt a1), .int (Int32.ofInt a2)] w 0 0 Q := by
  refine zCl_i (M := kX10_tells) rfl (Nat.le_of_ble_eq_true rfl) fun R hR => ?_
  have fr0 := wfR_rf [] ρ w
  iterate 2 refine hR (?_ : R (_, _, _, _, _, _))
  refine hR (j_ne (by omega) (by omega) (fun hc1 => ?_) (fun hc1 => ?_))
  · skip
    refine hR (?_ : R (_, _, _, _, _, _))
    refine hR (k_lt (by omega) (fun hc2 => ?_) (fun hc2 => ?_))
    · skip
      refine hR (t_c (-2) (by decide) ?_)
      exact hR (zret_i rfl (Nat.le_refl _) trivial (h _))
    iterate 2 refine hR (?_ : R (_, _, _, _, _, _))
    obtain ⟨x0_3, hO3, hk3_0, hk3_1, hk3_2, hk3_3⟩ := CI_o30 hw hρp
    refine hR (c_get hO3 rfl ?_)
    refine hR (j_lt (by omega) (by omega) (fun hc4 => ?_) (fun hc4 => ?_))
    rotate_left
    · skip
      refine hR (t_c (-2) (by decide) ?_)
      exact hR (zret_i rfl (Nat.le_refl _) trivial (h _))
    refine hR (?_ : R (_, _, _, _, _, _))
    refine hR (?_ : _ ∧ _)
    rw [zti (e := a2) (by omega) (by omega)]
    refine ⟨fun hs5 => ?_, fun hs5 => ?_⟩
    · skip
      refine hR (t_c (-2) (by decide) ?_)
      exact hR (zret_i rfl (Nat.le_refl _) trivial (h _))
    · skip
      have hs5d : a2 = 0 ∨ a2 = 1 ∨ a2 = 2 := by omega
      rcases hs5d with hs5e | hs5e | hs5e
      · refine ⟨26, by rw [hs5e]; rfl, (?_ : R (_, _, _, _, _, _))⟩
        refine hR (?_ : R (_, _, _, _, _, _))
        refine hR (c_get hO3 rfl ?_)
        refine hR (?_ : R (_, _, _, _, _, _))
        refine hR (c_ald hw (by rw [hk3_1]; rfl) (by omega) (by omega) (Nat.le_of_ble_eq_true rfl) fun v6 lv6 uv6 => ?_)
        exact hR (zret_i rfl (Nat.le_refl _) trivial (h _))
      · refine ⟨33, by rw [hs5e]; rfl, (?_ : R (_, _, _, _, _, _))⟩
        refine hR (?_ : R (_, _, _, _, _, _))
        refine hR (c_get hO3 rfl ?_)
        refine hR (?_ : R (_, _, _, _, _, _))
        refine hR (c_ald hw (by rw [hk3_2]; rfl) (by omega) (by omega) (Nat.le_of_ble_eq_true rfl) fun v7 lv7 uv7 => ?_)
        exact hR (zret_i rfl (Nat.le_refl _) trivial (h _))
      · refine ⟨40, by rw [hs5e]; rfl, (?_ : R (_, _, _, _, _, _))⟩
        refine hR (?_ : R (_, _, _, _, _, _))
        refine hR (c_get hO3 rfl ?_)
        refine hR (?_ : R (_, _, _, _, _, _))
        refine hR (c_ald hw (by rw [hk3_3]; rfl) (by omega) (by omega) (Nat.le_of_ble_eq_true rfl) fun v8 lv8 uv8 => ?_)
        exact hR (zret_i rfl (Nat.le_refl _) trivial (h _))
  refine hR (?_ : R (_, _, _, _, _, _))
  refine hR (k_ne (by omega) (fun hc9 => ?_) (fun hc9 => ?_))
  rotate_left
  · skip
    refine hR (?_ : R (_, _, _, _, _, _))
    obtain ⟨x0_17, hO17, hk17_0, hk17_1, hk17_2, hk17_3⟩ := CI_o30 hw hρp
    refine hR (c_get hO17 rfl ?_)
    exact hR (zret_i rfl (Nat.le_refl _) trivial (h _))
  refine hR (?_ : R (_, _, _, _, _, _))
  refine hR (k_lt (by omega) (fun hc10 => ?_) (fun hc10 => ?_))
  · skip
    refine hR (t_c (-2) (by decide) ?_)
    exact hR (zret_i rfl (Nat.le_refl _) trivial (h _))
  iterate 2 refine hR (?_ : R (_, _, _, _, _, _))
  obtain ⟨x0_11, hO11, hk11_0, hk11_1, hk11_2, hk11_3⟩ := CI_o30 hw hρp
  refine hR (c_get hO11 rfl ?_)
  refine hR (j_lt (by omega) (by omega) (fun hc12 => ?_) (fun hc12 => ?_))
  rotate_left
  · skip
    refine hR (t_c (-2) (by decide) ?_)
    exact hR (zret_i rfl (Nat.le_refl _) trivial (h _))
  refine hR (?_ : R (_, _, _, _, _, _))
  refine hR (?_ : _ ∧ _)
  rw [zti (e := a2) (by omega) (by omega)]
  refine ⟨fun hs13 => ?_, fun hs13 => ?_⟩
  · skip
    refine hR (t_c (-2) (by decide) ?_)
    exact hR (zret_i rfl (Nat.le_refl _) trivial (h _))
  · skip
    have hs13d : a2 = 0 ∨ a2 = 1 ∨ a2 = 2 := by omega
    rcases hs13d with hs13e | hs13e | hs13e
    · refine ⟨26, by rw [hs13e]; rfl, (?_ : R (_, _, _, _, _, _))⟩
      refine hR (?_ : R (_, _, _, _, _, _))
      refine hR (c_get hO11 rfl ?_)
      refine hR (?_ : R (_, _, _, _, _, _))
      refine hR (c_ald hw (by rw [hk11_1]; rfl) (by omega) (by omega) (Nat.le_of_ble_eq_true rfl) fun v14 lv14 uv14 => ?_)
      exact hR (zret_i rfl (Nat.le_refl _) trivial (h _))
    · refine ⟨33, by rw [hs13e]; rfl, (?_ : R (_, _, _, _, _, _))⟩
      refine hR (?_ : R (_, _, _, _, _, _))
      refine hR (c_get hO11 rfl ?_)
      refine hR (?_ : R (_, _, _, _, _, _))
      refine hR (c_ald hw (by rw [hk11_2]; rfl) (by omega) (by omega) (Nat.le_of_ble_eq_true rfl) fun v15 lv15 uv15 => ?_)
      exact hR (zret_i rfl (Nat.le_refl _) trivial (h _))
    · refine ⟨40, by rw [hs13e]; rfl, (?_ : R (_, _, _, _, _, _))⟩
      refine hR (?_ : R (_, _, _, _, _, _))
      refine hR (c_get hO11 rfl ?_)
      refine hR (?_ : R (_, _, _, _, _, _))
      refine hR (c_ald hw (by rw [hk11_3]; rfl) (by omega) (by omega) (Nat.le_of_ble_eq_true rfl) fun v16 lv16 uv16 => ?_)
      exact hR (zret_i rfl (Nat.le_refl _) trivial (h _))
theorem c_sightTells {ρ : Nat → Nat} {w : zW} (d : Nat) (p : Nat) (a1 a2 : Int) (hw : CI ρ w) (hρp : ρ p = 40) (hr0 : -2147483648 ≤ a1 ∧ a1 ≤ 2147483647) (hr1 : -2147483648 ≤ a2 ∧ a2 ≤ 2147483647) (Q : zQ) (h : ∀ (v : Int), Q (some (.int (Int32.ofInt v))) w) : zCl zTab (d + 1) iX6_tells [.ref p, .int (Int32.ofInt a1), .int (Int32.ofInt a2)] w 0 0 Q := by
  refine zCl_i (M := kX6_tells) rfl (Nat.le_of_ble_eq_true rfl) fun R hR => ?_
  have fr0 := wfR_rf [] ρ w
  iterate 2 refine hR (?_ : R (_, _, _, _, _, _))
  refine hR (j_ne (by omega) (by omega) (fun hc1 => ?_) (fun hc1 => ?_))
  · skip
    refine hR (?_ : R (_, _, _, _, _, _))
    refine hR (k_lt (by omega) (fun hc2 => ?_) (fun hc2 => ?_))
    · skip
      refine hR (t_c (-2) (by decide) ?_)
      exact hR (zret_i rfl (Nat.le_refl _) trivial (h _))
    iterate 2 refine hR (?_ : R (_, _, _, _, _, _))
    obtain ⟨x0_3, hO3, hk3_0, hk3_1, hk3_2⟩ := CI_o40 hw hρp
    refine hR (c_get hO3 rfl ?_)
    refine hR (j_lt (by omega) (by omega) (fun hc4 => ?_) (fun hc4 => ?_))
    rotate_left
    · skip
      refine hR (t_c (-2) (by decide) ?_)
      exact hR (zret_i rfl (Nat.le_refl _) trivial (h _))
    refine hR (?_ : R (_, _, _, _, _, _))
    have hl5 : a2 = 0 ∨ a2 = 1 ∨ (a2 ≠ 0 ∧ a2 ≠ 1) := by omega
    rcases hl5 with hl5 | hl5 | hl5
    · refine hR (t_pc (pc2 := 56) (by rw [zti (e := a2) (by omega) (by omega)]; show (((30 : Nat) : Int) + Op.lookupswitch.offset [(0, 26), (1, 33)] 40 a2).toNat = 56; simp only [Op.lookupswitch.offset_cons]; (repeat' split) <;> first | omega | rfl) ?_)
      refine hR (?_ : R (_, _, _, _, _, _))
      refine hR (c_get hO3 rfl ?_)
      refine hR (?_ : R (_, _, _, _, _, _))
      refine hR (c_ald hw (by rw [hk3_1]; rfl) (by omega) (by omega) (Nat.le_of_ble_eq_true rfl) fun v6 lv6 uv6 => ?_)
      exact hR (zret_i rfl (Nat.le_refl _) trivial (h _))
    · refine hR (t_pc (pc2 := 63) (by rw [zti (e := a2) (by omega) (by omega)]; show (((30 : Nat) : Int) + Op.lookupswitch.offset [(0, 26), (1, 33)] 40 a2).toNat = 63; simp only [Op.lookupswitch.offset_cons]; (repeat' split) <;> first | omega | rfl) ?_)
      refine hR (?_ : R (_, _, _, _, _, _))
      refine hR (c_get hO3 rfl ?_)
      refine hR (?_ : R (_, _, _, _, _, _))
      refine hR (c_ald hw (by rw [hk3_2]; rfl) (by omega) (by omega) (Nat.le_of_ble_eq_true rfl) fun v7 lv7 uv7 => ?_)
      exact hR (zret_i rfl (Nat.le_refl _) trivial (h _))
    · refine hR (t_pc (pc2 := 70) (by rw [zti (e := a2) (by omega) (by omega)]; show (((30 : Nat) : Int) + Op.lookupswitch.offset [(0, 26), (1, 33)] 40 a2).toNat = 70; simp only [Op.lookupswitch.offset_cons]; (repeat' split) <;> first | omega | rfl) ?_)
      refine hR (t_c (-2) (by decide) ?_)
      exact hR (zret_i rfl (Nat.le_refl _) trivial (h _))
  refine hR (?_ : R (_, _, _, _, _, _))
  refine hR (k_ne (by omega) (fun hc8 => ?_) (fun hc8 => ?_))
  rotate_left
  · skip
    refine hR (?_ : R (_, _, _, _, _, _))
    obtain ⟨x0_15, hO15, hk15_0, hk15_1, hk15_2⟩ := CI_o40 hw hρp
    refine hR (c_get hO15 rfl ?_)
    exact hR (zret_i rfl (Nat.le_refl _) trivial (h _))
  refine hR (?_ : R (_, _, _, _, _, _))
  refine hR (k_lt (by omega) (fun hc9 => ?_) (fun hc9 => ?_))
  · skip
    refine hR (t_c (-2) (by decide) ?_)
    exact hR (zret_i rfl (Nat.le_refl _) trivial (h _))
  iterate 2 refine hR (?_ : R (_, _, _, _, _, _))
  obtain ⟨x0_10, hO10, hk10_0, hk10_1, hk10_2⟩ := CI_o40 hw hρp
  refine hR (c_get hO10 rfl ?_)
  refine hR (j_lt (by omega) (by omega) (fun hc11 => ?_) (fun hc11 => ?_))
  rotate_left
  · skip
    refine hR (t_c (-2) (by decide) ?_)
    exact hR (zret_i rfl (Nat.le_refl _) trivial (h _))
  refine hR (?_ : R (_, _, _, _, _, _))
  have hl12 : a2 = 0 ∨ a2 = 1 ∨ (a2 ≠ 0 ∧ a2 ≠ 1) := by omega
  rcases hl12 with hl12 | hl12 | hl12
  · refine hR (t_pc (pc2 := 56) (by rw [zti (e := a2) (by omega) (by omega)]; show (((30 : Nat) : Int) + Op.lookupswitch.offset [(0, 26), (1, 33)] 40 a2).toNat = 56; simp only [Op.lookupswitch.offset_cons]; (repeat' split) <;> first | omega | rfl) ?_)
    refine hR (?_ : R (_, _, _, _, _, _))
    refine hR (c_get hO10 rfl ?_)
    refine hR (?_ : R (_, _, _, _, _, _))
    refine hR (c_ald hw (by rw [hk10_1]; rfl) (by omega) (by omega) (Nat.le_of_ble_eq_true rfl) fun v13 lv13 uv13 => ?_)
    exact hR (zret_i rfl (Nat.le_refl _) trivial (h _))
  · refine hR (t_pc (pc2 := 63) (by rw [zti (e := a2) (by omega) (by omega)]; show (((30 : Nat) : Int) + Op.lookupswitch.offset [(0, 26), (1, 33)] 40 a2).toNat = 63; simp only [Op.lookupswitch.offset_cons]; (repeat' split) <;> first | omega | rfl) ?_)
    refine hR (?_ : R (_, _, _, _, _, _))
    refine hR (c_get hO10 rfl ?_)
    refine hR (?_ : R (_, _, _, _, _, _))
    refine hR (c_ald hw (by rw [hk10_2]; rfl) (by omega) (by omega) (Nat.le_of_ble_eq_true rfl) fun v14 lv14 uv14 => ?_)
    exact hR (zret_i rfl (Nat.le_refl _) trivial (h _))
  · refine hR (t_pc (pc2 := 70) (by rw [zti (e := a2) (by omega) (by omega)]; show (((30 : Nat) : Int) + Op.lookupswitch.offset [(0, 26), (1, 33)] 40 a2).toNat = 70; simp only [Op.lookupswitch.offset_cons]; (repeat' split) <;> first | omega | rfl) ?_)
    refine hR (t_c (-2) (by decide) ?_)
    exact hR (zret_i rfl (Nat.le_refl _) trivial (h _))
