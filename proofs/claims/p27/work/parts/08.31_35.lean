theorem rne {ρ : Nat → Nat} {a b r s : Nat} (ha : ρ a = r) (hb : ρ b = s) (h : r ≠ s) : a ≠ b := fun e => h (by rw [← ha, ← hb, e])
theorem wfr_rf (q : Nat) (w : zW) : wfr q w w := ⟨rfl, fun _ _ => rfl⟩
theorem wfr_tr {q : Nat} {w w1 w2 : zW} (h : wfr q w w1) (h2 : wfr q w1 w2) : wfr q w w2 := ⟨h2.1.trans h.1, fun j hj => (h2.2 j hj).trans (h.2 j hj)⟩
theorem zmax_r {a b : Int} (ha : -2147483648 ≤ a ∧ a ≤ 2147483647) (hb : -2147483648 ≤ b ∧ b ≤ 2147483647) : ∃ v : Int, (a ≤ v ∧ b ≤ v ∧ (v = a ∨ v = b)) ∧ (if Int32.ofInt a < Int32.ofInt b then Int32.ofInt b else Int32.ofInt a) = Int32.ofInt v := by
  by_cases h : a < b
  · exact ⟨b, by omega, by rw [if_pos ((zlt_o ha hb).mpr h)]⟩
  · exact ⟨a, by omega, by rw [if_neg (fun z => h ((zlt_o ha hb).mp z))]⟩
theorem t_pc {R : zS → Prop} {pc : Nat} {L : zL} {S : List Value} {w : zW} {k n : Nat} (pc2 : Nat) (e : pc = pc2) (h : R (pc2, L, S, w, k, n)) : R (pc, L, S, w, k, n) := by rw [e]; exact h
section CY
variable {R : zS → Prop} {np : Nat} {L : zL} {S : List Value} {w : zW} {k n : Nat} {ρ : Nat → Nat}
theorem c_astx {q len : Nat} {i : Int} {x : Int32} (hw : CI ρ w) (hr : rAr (ρ q) = some (1, len, -2147483648, 2147483647)) (hm : ρ q ≠ 23 ∧ ρ q ≠ 24) (h0 : 0 ≤ i) (h1 : i < len) (hl : len ≤ 60000) (hk : ∀ w1, CI ρ w1 → wfr q w w1 → R (np, L, S, w1, k, n)) : zai w q (fun ti len g => zif (Nat.beq ti 1) (vp_in (Int32.ofInt i) len ∧ R (np, L, S, zst w q (.inl (ti, len, .inl (upd g (Int32.ofInt i).toNatClampNeg x))), k, n))) := by
  obtain ⟨g, h2, h3⟩ := CI_ar hw hr
  unfold zai
  rw [h2]
  refine ⟨zvin h0 h1 hl, ?_⟩
  obtain ⟨f1, f2⟩ := wfr_st (c' := .inl (1, len, .inl (upd g (Int32.ofInt i).toNatClampNeg x))) h2
  refine hk _ (CI_st hw f1 f2 ?_ hm) f1
  unfold rOK
  rw [hr]
  exact ⟨_, rfl, fun j => zrg _⟩
theorem c_astE {q len : Nat} {g : Nat → Int32} {i e lo hi : Int} (hw : CI ρ w) (hg : zix w q = some (.inl (1, len, .inl g))) (hB : zB lo hi g) (hr : rAr (ρ q) = some (1, len, lo, hi)) (hm : ρ q ≠ 23 ∧ ρ q ≠ 24) (he : lo ≤ e ∧ e ≤ hi) (hb : -2147483648 ≤ lo ∧ hi ≤ 2147483647) (h0 : 0 ≤ i) (h1 : i < len) (hl : len ≤ 60000) (hk : ∀ w1, CI ρ w1 → wfr q w w1 → zix w1 q = some (.inl (1, len, .inl (upd g i.toNat (Int32.ofInt e)))) → zB lo hi (upd g i.toNat (Int32.ofInt e)) → R (np, L, S, w1, k, n)) : zai w q (fun ti len g => zif (Nat.beq ti 1) (vp_in (Int32.ofInt i) len ∧ R (np, L, S, zst w q (.inl (ti, len, .inl (upd g (Int32.ofInt i).toNatClampNeg (Int32.ofInt e)))), k, n))) := by
  unfold zai
  rw [hg]
  refine ⟨zvin h0 h1 hl, ?_⟩
  have ec : (Int32.ofInt i).toNatClampNeg = i.toNat := zcl h0 (by omega)
  rw [ec]
  obtain ⟨f1, f2⟩ := wfr_st (c' := .inl (1, len, .inl (upd g i.toNat (Int32.ofInt e)))) hg
  have hB2 := zB_u (i := i.toNat) hB he.1 he.2 hb.1 hb.2
  refine hk _ (CI_st hw f1 f2 ?_ hm) f1 f2 hB2
  unfold rOK
  rw [hr]
  exact ⟨_, rfl, hB2⟩
theorem c_len {q ti len : Nat} {g : Nat → Int32} (h : zix w q = some (.inl (ti, len, .inl g))) (ht : Nat.ble ti 2 = true) (hk : R (np, L, .int (Int32.ofNat len) :: S, w, k, n)) : zai w q (fun ti len _ => zif (Nat.ble ti 2) (R (np, L, .int (Int32.ofNat len) :: S, w, k, n))) := by
  unfold zai
  rw [h]
  dsimp only
  rw [ht]
  exact hk
end CY
/-- Arrays.fill of ints -/
theorem c_fill {ρ : Nat → Nat} {w : zW} (d q len : Nat) (e lo hi : Int) (hw : CI ρ w) (hr : rAr (ρ q) = some (1, len, lo, hi)) (hm : ρ q ≠ 23 ∧ ρ q ≠ 24) (he : lo ≤ e ∧ e ≤ hi) (hb : -2147483648 ≤ lo ∧ hi ≤ 2147483647) (hl : len ≤ 60000) (Q : zQ) (h : ∀ w' : zW, CI ρ w' → wfr q w w' → (∃ g, zix w' q = some (.inl (1, len, .inl g)) ∧ ∀ j : Nat, j < len → (g j).toInt = e) → Q none w') : zCl zTab (d + 1) iJ7_fill_53178 [.ref q, .int (Int32.ofInt e)] w 0 0 Q := by
  refine zCl_i (M := kJ7_fill_53178) rfl (Nat.le_of_ble_eq_true rfl) fun R hR => ?_
  have loop : ∀ (N : Nat) (i : Int) (w1 : zW) (g : Nat → Int32), 0 ≤ i → i ≤ len → CI ρ w1 → wfr q w w1 → zix w1 q = some (.inl (1, len, .inl g)) → zB lo hi g → (∀ j : Nat, (j : Int) < i → (g j).toInt = e) → len - i < N → R (5, [some (.ref q), some (.int (Int32.ofInt e)), some (.int (Int32.ofInt i)), some (.int (Int32.ofInt len))], [], w1, 0, 0) := by
    intro N
    induction N with
    | zero => intros; omega
    | succ N ih =>
      intro i w1 g h0 h1 hw1 hf hg hB hc hN
      iterate 2 refine hR (?_ : R (_, _, _, _, _, _))
      refine hR (j_ge (by omega) (by omega) (fun hc1 => ?_) (fun hc1 => ?_))
      · exact hR (zret_i rfl (Nat.le_refl _) rfl (h _ hw1 hf ⟨g, hg, fun j hj => hc j (by omega)⟩))
      iterate 3 refine hR (?_ : R (_, _, _, _, _, _))
      refine hR (c_astE hw1 hg hB hr hm he hb h0 (by omega) hl fun w2 hw2 f2 hg2 hB2 => ?_)
      refine hR (t_inc ?_)
      refine hR (?_ : R (_, _, _, _, _, _))
      refine ih (i + 1) _ _ (by omega) (by omega) hw2 (wfr_tr hf f2) hg2 hB2 (fun j hj => ?_) (by omega)
      by_cases ej : j = i.toNat
      · subst ej; rw [pk_us, zti (by omega) (by omega)]
      · rw [pk_un ej]; exact hc j (by omega)
  obtain ⟨g, h2, h3⟩ := CI_ar hw hr
  iterate 3 refine hR (?_ : R (_, _, _, _, _, _))
  refine hR (c_len h2 rfl ?_)
  refine hR (?_ : R (_, _, _, _, _, _))
  exact loop (len + 1) 0 w g (by omega) (by omega) hw (wfr_rf q w) h2 h3 (fun j hj => by omega) (by omega)
/-- Arrays.fill of bytes -/
theorem c_fillb {ρ : Nat → Nat} {w : zW} (d q len : Nat) (e : Int) (hw : CI ρ w) (hr : rAr (ρ q) = some (0, len, -2147483648, 2147483647)) (hm : ρ q ≠ 23 ∧ ρ q ≠ 24) (hl : len ≤ 60000) (Q : zQ) (h : ∀ w' : zW, CI ρ w' → wfr q w w' → Q none w') : zCl zTab (d + 1) iJ7_fill_031fb [.ref q, .int (Int32.ofInt e)] w 0 0 Q := by
  refine zCl_i (M := kJ7_fill_031fb) rfl (Nat.le_of_ble_eq_true rfl) fun R hR => ?_
  have loop : ∀ (N : Nat) (i : Int) (w1 : zW), 0 ≤ i → i ≤ len → CI ρ w1 → wfr q w w1 → len - i < N → R (5, [some (.ref q), some (.int (Int32.ofInt e)), some (.int (Int32.ofInt i)), some (.int (Int32.ofInt len))], [], w1, 0, 0) := by
    intro N
    induction N with
    | zero => intros; omega
    | succ N ih =>
      intro i w1 h0 h1 hw1 hf hN
      iterate 2 refine hR (?_ : R (_, _, _, _, _, _))
      refine hR (j_ge (by omega) (by omega) (fun hc1 => ?_) (fun hc1 => ?_))
      · exact hR (zret_i rfl (Nat.le_refl _) rfl (h _ hw1 hf))
      iterate 3 refine hR (?_ : R (_, _, _, _, _, _))
      refine hR (c_bst hw1 hr hm h0 (by omega) hl fun w2 hw2 f2 => ?_)
      refine hR (t_inc ?_)
      refine hR (?_ : R (_, _, _, _, _, _))
      exact ih (i + 1) w2 (by omega) (by omega) hw2 (wfr_tr hf f2) (by omega)
  obtain ⟨g, h2, h3⟩ := CI_ar hw hr
  iterate 3 refine hR (?_ : R (_, _, _, _, _, _))
  refine hR (c_len h2 rfl ?_)
  refine hR (?_ : R (_, _, _, _, _, _))
  exact loop (len + 1) 0 w (by omega) (by omega) hw (wfr_rf q w) (by omega)
theorem c_isText (w : zW) (d : Nat) (a1 : Int) (hr0 : -2147483648 ≤ a1 ∧ a1 ≤ 2147483647) (Q : zQ) (h : ∀ (v : Int), ((v = 1 ∧ 0 ≤ a1 ∧ a1 ≤ 5460) ∨ (v = 0 ∧ (a1 < 0 ∨ 5460 < a1))) → Q (some (.int (Int32.ofInt v))) w) : zCl zTab (d + 1) iX11_isText [.int (Int32.ofInt a1)] w 0 0 Q := by
  refine zCl_i (M := kX11_isText) rfl (Nat.le_of_ble_eq_true rfl) fun R hR => ?_
  refine hR (?_ : R (_, _, _, _, _, _))
  refine hR (k_lt (by omega) (fun hc1 => ?_) (fun hc1 => ?_))
  · skip
    refine hR (?_ : R (_, _, _, _, _, _))
    exact hR (zret_i rfl (Nat.le_refl _) (zbo (by omega)) (h _ (by omega)))
  refine hR (?_ : R (_, _, _, _, _, _))
  refine hR (t_c 5461 (by decide) ?_)
  refine hR (j_ge (by omega) (by omega) (fun hc2 => ?_) (fun hc2 => ?_))
  · skip
    refine hR (?_ : R (_, _, _, _, _, _))
    exact hR (zret_i rfl (Nat.le_refl _) (zbo (by omega)) (h _ (by omega)))
  iterate 2 refine hR (?_ : R (_, _, _, _, _, _))
  exact hR (zret_i rfl (Nat.le_refl _) (zbo (by omega)) (h _ (by omega)))
theorem c_isWord (w : zW) (d : Nat) (a1 : Int) (hr0 : -2147483648 ≤ a1 ∧ a1 ≤ 2147483647) (Q : zQ) (h : ∀ (v : Int), ((v = 1 ∧ 0 ≤ a1 ∧ a1 ≤ 3) ∨ (v = 0 ∧ (a1 < 0 ∨ 3 < a1))) → Q (some (.int (Int32.ofInt v))) w) : zCl zTab (d + 1) iX11_isWord [.int (Int32.ofInt a1)] w 0 0 Q := by
  refine zCl_i (M := kX11_isWord) rfl (Nat.le_of_ble_eq_true rfl) fun R hR => ?_
  refine hR (?_ : R (_, _, _, _, _, _))
  refine hR (k_lt (by omega) (fun hc1 => ?_) (fun hc1 => ?_))
  · skip
    refine hR (?_ : R (_, _, _, _, _, _))
    exact hR (zret_i rfl (Nat.le_refl _) (zbo (by omega)) (h _ (by omega)))
  iterate 2 refine hR (?_ : R (_, _, _, _, _, _))
  refine hR (j_ge (by omega) (by omega) (fun hc2 => ?_) (fun hc2 => ?_))
  · skip
    refine hR (?_ : R (_, _, _, _, _, _))
    exact hR (zret_i rfl (Nat.le_refl _) (zbo (by omega)) (h _ (by omega)))
  iterate 2 refine hR (?_ : R (_, _, _, _, _, _))
  exact hR (zret_i rfl (Nat.le_refl _) (zbo (by omega)) (h _ (by omega)))
theorem c_isSpan (w : zW) (d : Nat) (a1 : Int) (hr0 : -2147483648 ≤ a1 ∧ a1 ≤ 2147483647) (Q : zQ) (h : ∀ (v : Int), ((v = 1 ∧ 0 ≤ a1 ∧ a1 ≤ 9) ∨ (v = 0 ∧ (a1 < 0 ∨ 9 < a1))) → Q (some (.int (Int32.ofInt v))) w) : zCl zTab (d + 1) iX11_isSpan [.int (Int32.ofInt a1)] w 0 0 Q := by
  refine zCl_i (M := kX11_isSpan) rfl (Nat.le_of_ble_eq_true rfl) fun R hR => ?_
  refine hR (?_ : R (_, _, _, _, _, _))
  refine hR (k_lt (by omega) (fun hc1 => ?_) (fun hc1 => ?_))
  · skip
    refine hR (?_ : R (_, _, _, _, _, _))
    exact hR (zret_i rfl (Nat.le_refl _) (zbo (by omega)) (h _ (by omega)))
  refine hR (?_ : R (_, _, _, _, _, _))
  refine hR (t_c 9 (by decide) ?_)
  refine hR (j_gt (by omega) (by omega) (fun hc2 => ?_) (fun hc2 => ?_))
  · skip
    refine hR (?_ : R (_, _, _, _, _, _))
    exact hR (zret_i rfl (Nat.le_refl _) (zbo (by omega)) (h _ (by omega)))
  iterate 2 refine hR (?_ : R (_, _, _, _, _, _))
  exact hR (zret_i rfl (Nat.le_refl _) (zbo (by omega)) (h _ (by omega)))
theorem c_isIn (w : zW) (d : Nat) (a1 a2 : Int)  (Q : zQ) (h : ∀ (v : Int), (v = 0 ∨ v = 1) → Q (some (.int (Int32.ofInt v))) w) : zCl zTab (d + 1) iX11_isIn [.int (Int32.ofInt a1), .int (Int32.ofInt a2)] w 0 0 Q := by
  refine zCl_i (M := kX11_isIn) rfl (Nat.le_of_ble_eq_true rfl) fun R hR => ?_
  iterate 2 refine hR (?_ : R (_, _, _, _, _, _))
  refine hR (t_o fun v1 rv1 => ?_)
  refine hR (?_ : R (_, _, _, _, _, _))
  obtain ⟨v2, lv2, uv2, qv2⟩ := zand_r (Int32.ofInt v1) (m := Int32.ofInt 1) 1 (by decide) (by decide)
  refine hR (t_c v2 qv2 ?_)
  refine hR (k_eq (by omega) (fun hc3 => ?_) (fun hc3 => ?_))
  · skip
    refine hR (?_ : R (_, _, _, _, _, _))
    exact hR (zret_i rfl (Nat.le_refl _) (zbo (by omega)) (h _ (by omega)))
  iterate 2 refine hR (?_ : R (_, _, _, _, _, _))
  exact hR (zret_i rfl (Nat.le_refl _) (zbo (by omega)) (h _ (by omega)))
theorem c_longer (w : zW) (d : Nat) (a1 a2 : Int)  (Q : zQ) (h : ∀ (v : Int), (v = 4 * a1 + 1 + a2) → Q (some (.int (Int32.ofInt v))) w) : zCl zTab (d + 1) iX11_longer [.int (Int32.ofInt a1), .int (Int32.ofInt a2)] w 0 0 Q := by
  refine zCl_i (M := kX11_longer) rfl (Nat.le_of_ble_eq_true rfl) fun R hR => ?_
  iterate 2 refine hR (?_ : R (_, _, _, _, _, _))
  refine hR (t_mul ?_)
  refine hR (?_ : R (_, _, _, _, _, _))
  refine hR (t_add ?_)
  refine hR (?_ : R (_, _, _, _, _, _))
  refine hR (t_add ?_)
  exact hR (zret_i rfl (Nat.le_refl _) trivial (h _ (by omega)))
theorem c_hasReader {ρ : Nat → Nat} {w : zW} (d : Nat) (b : Nat) (a1 : Int) (hw : CI ρ w) (hρb : ρ b = 20) (hr0 : -2147483648 ≤ a1 ∧ a1 ≤ 2147483647) (Q : zQ) (h : ∀ (v : Int), ((v = 1 ∧ 0 ≤ a1 ∧ a1 ≤ 4) ∨ v = 0) → Q (some (.int (Int32.ofInt v))) w) : zCl zTab (d + 1) iX0_hasReader [.ref b, .int (Int32.ofInt a1)] w 0 0 Q := by
  refine zCl_i (M := kX0_hasReader) rfl (Nat.le_of_ble_eq_true rfl) fun R hR => ?_
  have fr0 := wfR_rf [] ρ w
  refine hR (?_ : R (_, _, _, _, _, _))
  refine hR (k_lt (by omega) (fun hc1 => ?_) (fun hc1 => ?_))
  · skip
    refine hR (?_ : R (_, _, _, _, _, _))
    exact hR (zret_i rfl (Nat.le_refl _) (zbo (by omega)) (h _ (by omega)))
  iterate 2 refine hR (?_ : R (_, _, _, _, _, _))
  obtain ⟨x0_2, x1_2, x2_2, hO2, hk2_0, hk2_1, hk2_2, hk2_3, hk2_4, hk2_5, hk2_6⟩ := CI_o20 hw hρb
  refine hR (c_get hO2 rfl ?_)
  refine hR (j_ge (by omega) (by omega) (fun hc3 => ?_) (fun hc3 => ?_))
  · skip
    refine hR (?_ : R (_, _, _, _, _, _))
    exact hR (zret_i rfl (Nat.le_refl _) (zbo (by omega)) (h _ (by omega)))
  iterate 2 refine hR (?_ : R (_, _, _, _, _, _))
  exact hR (zret_i rfl (Nat.le_refl _) (zbo (by omega)) (h _ (by omega)))
theorem c_hasReaders {ρ : Nat → Nat} {w : zW} (d : Nat) (b : Nat) (a1 : Int) (hw : CI ρ w) (hρb : ρ b = 20) (hr0 : -2147483648 ≤ a1 ∧ a1 ≤ 2147483647) (Q : zQ) (h : ∀ (v : Int), ((v = 1 ∧ 0 ≤ a1 ∧ a1 ≤ 31) ∨ v = 0) → Q (some (.int (Int32.ofInt v))) w) : zCl zTab (d + 1) iX0_hasReaders [.ref b, .int (Int32.ofInt a1)] w 0 0 Q := by
  refine zCl_i (M := kX0_hasReaders) rfl (Nat.le_of_ble_eq_true rfl) fun R hR => ?_
  have fr0 := wfR_rf [] ρ w
  refine hR (?_ : R (_, _, _, _, _, _))
  refine hR (k_lt (by omega) (fun hc1 => ?_) (fun hc1 => ?_))
  · skip
    refine hR (?_ : R (_, _, _, _, _, _))
    exact hR (zret_i rfl (Nat.le_refl _) (zbo (by omega)) (h _ (by omega)))
  iterate 3 refine hR (?_ : R (_, _, _, _, _, _))
  obtain ⟨x0_2, x1_2, x2_2, hO2, hk2_0, hk2_1, hk2_2, hk2_3, hk2_4, hk2_5, hk2_6⟩ := CI_o20 hw hρb
  refine hR (c_get hO2 rfl ?_)
  obtain ⟨v3, lv3, uv3, qv3⟩ := zshl_r (e := x1_2) (by omega) (by omega)
  refine hR (t_c v3 qv3 ?_)
  refine hR (j_ge (by omega) (by omega) (fun hc4 => ?_) (fun hc4 => ?_))
  · skip
    refine hR (?_ : R (_, _, _, _, _, _))
    exact hR (zret_i rfl (Nat.le_refl _) (zbo (by omega)) (h _ (by omega)))
  iterate 2 refine hR (?_ : R (_, _, _, _, _, _))
  exact hR (zret_i rfl (Nat.le_refl _) (zbo (by omega)) (h _ (by omega)))
theorem c_tellsStep {ρ : Nat → Nat} {w : zW} (d : Nat) (b : Nat) (a1 a2 : Int) (hw : CI ρ w) (hρb : ρ b = 20) (hr0 : 0 ≤ a1 ∧ a1 ≤ 300000000) (hr1 : 0 ≤ a2 ∧ a2 ≤ 9) (Q : zQ) (h : ∀ (v : Int), Q (some (.int (Int32.ofInt v))) w) : zCl zTab (d + 2) iX0_tellsStep [.ref b, .int (Int32.ofInt a1), .int (Int32.ofInt a2)] w 0 0 Q := by
  refine zCl_i (M := kX0_tellsStep) rfl (Nat.le_of_ble_eq_true rfl) fun R hR => ?_
  have fr0 := wfR_rf [] ρ w
  iterate 2 refine hR (?_ : R (_, _, _, _, _, _))
  obtain ⟨x0_4, x1_4, x2_4, hO4, hk4_0, hk4_1, hk4_2, hk4_3, hk4_4, hk4_5, hk4_6⟩ := CI_o20 hw hρb
  refine hR (c_obj hO4 (zcall_i 0 0 (Nat.le_of_ble_eq_true rfl) (Nat.le_of_ble_eq_true rfl) (c_hasReader _ b a1 hw hρb (by omega) _ fun v1 hp3 => ?_)))
  refine (?_ : R (_, _, (.int (Int32.ofInt v1)) :: [], w, 0, 0))
  refine hR (k_eq (by omega) (fun hc5 => ?_) (fun hc5 => ?_))
  · skip
    refine hR (?_ : R (_, _, _, _, _, _))
    exact hR (zret_i rfl (Nat.le_refl _) trivial (h _))
  iterate 2 refine hR (?_ : R (_, _, _, _, _, _))
  refine hR (t_div (by omega) (by omega) (by omega) (by omega) ?_)
  refine hR (?_ : R (_, _, _, _, _, _))
  refine hR (c_get hO4 rfl ?_)
  refine hR (?_ : R (_, _, _, _, _, _))
  refine hR (c_ald hw (by rw [hk4_4]; rfl) (by omega) (by omega) (Nat.le_of_ble_eq_true rfl) fun v6 lv6 uv6 => ?_)
  refine hR (j_lt (by omega) (by omega) (fun hc7 => ?_) (fun hc7 => ?_))
  rotate_left
  · skip
    refine hR (?_ : R (_, _, _, _, _, _))
    exact hR (zret_i rfl (Nat.le_refl _) trivial (h _))
  iterate 2 refine hR (?_ : R (_, _, _, _, _, _))
  refine hR (t_mul ?_)
  iterate 2 refine hR (?_ : R (_, _, _, _, _, _))
  refine hR (t_div (by omega) (by omega) (by omega) (by omega) ?_)
  refine hR (t_add ?_)
  iterate 3 refine hR (?_ : R (_, _, _, _, _, _))
  refine hR (t_rem (by omega) (by omega) (by omega) (by omega) ?_)
  refine hR (k_ne (by omega) (fun hc8 => ?_) (fun hc8 => ?_))
  · skip
    refine hR (?_ : R (_, _, _, _, _, _))
    refine hR (c_get hO4 rfl ?_)
    refine hR (?_ : R (_, _, _, _, _, _))
    refine hR (c_ald hw (by rw [hk4_6]; rfl) (by omega) (by omega) (Nat.le_of_ble_eq_true rfl) fun v9 lv9 uv9 => ?_)
    exact hR (zret_i rfl (Nat.le_refl _) trivial (h _))
  refine hR (?_ : R (_, _, _, _, _, _))
  refine hR (c_get hO4 rfl ?_)
  refine hR (?_ : R (_, _, _, _, _, _))
  refine hR (c_ald hw (by rw [hk4_5]; rfl) (by omega) (by omega) (Nat.le_of_ble_eq_true rfl) fun v10 lv10 uv10 => ?_)
  refine hR (?_ : R (_, _, _, _, _, _))
  exact hR (zret_i rfl (Nat.le_refl _) trivial (h _))
theorem c_bookTells {ρ : Nat → Nat} {w : zW} (d : Nat) (b : Nat) (a1 : Int) (hw : CI ρ w) (hρb : ρ b = 20) (hr0 : -2147483648 ≤ a1 ∧ a1 ≤ 2147483647) (Q : zQ) (h : ∀ (v : Int), Q (some (.int (Int32.ofInt v))) w) : zCl zTab (d + 3) iX0_tells [.ref b, .int (Int32.ofInt a1)] w 0 0 Q := by
  refine zCl_i (M := kX0_tells) rfl (Nat.le_of_ble_eq_true rfl) fun R hR => ?_
  have fr0 := wfR_rf [] ρ w
  refine hR (?_ : R (_, _, _, _, _, _))
  refine hR (k_ne (by omega) (fun hc1 => ?_) (fun hc1 => ?_))
  rotate_left
  · skip
    refine hR (?_ : R (_, _, _, _, _, _))
    obtain ⟨x0_30, x1_30, x2_30, hO30, hk30_0, hk30_1, hk30_2, hk30_3, hk30_4, hk30_5, hk30_6⟩ := CI_o20 hw hρb
    refine hR (c_get hO30 rfl ?_)
    exact hR (zret_i rfl (Nat.le_refl _) trivial (h _))
  iterate 2 refine hR (?_ : R (_, _, _, _, _, _))
  refine hR (j_ne (by omega) (by omega) (fun hc2 => ?_) (fun hc2 => ?_))
  rotate_left
  · skip
    refine hR (?_ : R (_, _, _, _, _, _))
    obtain ⟨x0_29, x1_29, x2_29, hO29, hk29_0, hk29_1, hk29_2, hk29_3, hk29_4, hk29_5, hk29_6⟩ := CI_o20 hw hρb
    refine hR (c_get hO29 rfl ?_)
    exact hR (zret_i rfl (Nat.le_refl _) trivial (h _))
  refine hR (?_ : R (_, _, _, _, _, _))
  refine hR (t_c 10 (by decide) ?_)
  refine hR (j_lt (by omega) (by omega) (fun hc3 => ?_) (fun hc3 => ?_))
  · skip
    refine hR (?_ : R (_, _, _, _, _, _))
    refine hR (t_c 20 (by decide) ?_)
    refine hR (j_lt (by omega) (by omega) (fun hc4 => ?_) (fun hc4 => ?_))
    · skip
      refine hR (?_ : R (_, _, _, _, _, _))
      refine hR (t_c 30 (by decide) ?_)
      refine hR (j_ge (by omega) (by omega) (fun hc5 => ?_) (fun hc5 => ?_))
      rotate_left
      · skip
        iterate 2 refine hR (?_ : R (_, _, _, _, _, _))
        exact hR (zret_i rfl (Nat.le_refl _) trivial (h _))
      iterate 2 refine hR (?_ : R (_, _, _, _, _, _))
      refine hR (t_c 30 (by decide) ?_)
      refine hR (t_sub ?_)
      refine hR (t_c 10 (by decide) ?_)
      refine hR (t_div (by omega) (by omega) (by omega) (by omega) ?_)
      refine hR (?_ : R (_, _, _, _, _, _))
      refine hR (t_c 30 (by decide) ?_)
      refine hR (t_sub ?_)
      refine hR (t_c 10 (by decide) ?_)
      refine hR (t_rem (by omega) (by omega) (by omega) (by omega) ?_)
      obtain ⟨x0_8, x1_8, x2_8, hO8, hk8_0, hk8_1, hk8_2, hk8_3, hk8_4, hk8_5, hk8_6⟩ := CI_o20 hw hρb
      refine hR (c_obj hO8 (zcall_i 0 0 (Nat.le_of_ble_eq_true rfl) (Nat.le_of_ble_eq_true rfl) (c_tellsStep _ b ((a1 - 30) / 10) ((a1 - 30) % 10) hw hρb (by omega) (by omega) _ fun v6 => ?_)))
      refine (?_ : R (_, _, (.int (Int32.ofInt v6)) :: [], w, 0, 0))
      exact hR (zret_i rfl (Nat.le_refl _) trivial (h _))
    refine hR (?_ : R (_, _, _, _, _, _))
    refine hR (t_c 20 (by decide) ?_)
    refine hR (?_ : R (_, _, _, _, _, _))
    obtain ⟨x0_9, x1_9, x2_9, hO9, hk9_0, hk9_1, hk9_2, hk9_3, hk9_4, hk9_5, hk9_6⟩ := CI_o20 hw hρb
    refine hR (c_get hO9 rfl ?_)
    refine hR (t_add ?_)
    refine hR (j_ge (by omega) (by omega) (fun hc10 => ?_) (fun hc10 => ?_))
    rotate_left
    · skip
      refine hR (?_ : R (_, _, _, _, _, _))
      refine hR (c_get hO9 rfl ?_)
      refine hR (?_ : R (_, _, _, _, _, _))
      refine hR (t_c 20 (by decide) ?_)
      refine hR (t_sub ?_)
      refine hR (c_ald hw (by rw [hk9_4]; rfl) (by omega) (by omega) (Nat.le_of_ble_eq_true rfl) fun v14 lv14 uv14 => ?_)
      exact hR (zret_i rfl (Nat.le_refl _) trivial (h _))
    refine hR (?_ : R (_, _, _, _, _, _))
    refine hR (t_c 30 (by decide) ?_)
    refine hR (j_ge (by omega) (by omega) (fun hc11 => ?_) (fun hc11 => ?_))
    rotate_left
    · skip
      iterate 2 refine hR (?_ : R (_, _, _, _, _, _))
      exact hR (zret_i rfl (Nat.le_refl _) trivial (h _))
    iterate 2 refine hR (?_ : R (_, _, _, _, _, _))
    refine hR (t_c 30 (by decide) ?_)
    refine hR (t_sub ?_)
    refine hR (t_c 10 (by decide) ?_)
    refine hR (t_div (by omega) (by omega) (by omega) (by omega) ?_)
    refine hR (?_ : R (_, _, _, _, _, _))
    refine hR (t_c 30 (by decide) ?_)
    refine hR (t_sub ?_)
    refine hR (t_c 10 (by decide) ?_)
    refine hR (t_rem (by omega) (by omega) (by omega) (by omega) ?_)
    refine hR (c_obj hO9 (zcall_i 0 0 (Nat.le_of_ble_eq_true rfl) (Nat.le_of_ble_eq_true rfl) (c_tellsStep _ b ((a1 - 30) / 10) ((a1 - 30) % 10) hw hρb (by omega) (by omega) _ fun v12 => ?_)))
    refine (?_ : R (_, _, (.int (Int32.ofInt v12)) :: [], w, 0, 0))
    exact hR (zret_i rfl (Nat.le_refl _) trivial (h _))
  refine hR (?_ : R (_, _, _, _, _, _))
  refine hR (t_c 14 (by decide) ?_)
  refine hR (j_ge (by omega) (by omega) (fun hc15 => ?_) (fun hc15 => ?_))
  rotate_left
  · skip
    refine hR (?_ : R (_, _, _, _, _, _))
    obtain ⟨x0_27, x1_27, x2_27, hO27, hk27_0, hk27_1, hk27_2, hk27_3, hk27_4, hk27_5, hk27_6⟩ := CI_o20 hw hρb
    refine hR (c_get hO27 rfl ?_)
    refine hR (?_ : R (_, _, _, _, _, _))
    refine hR (t_c 10 (by decide) ?_)
    refine hR (t_sub ?_)
    refine hR (c_ald hw (by rw [hk27_3]; rfl) (by omega) (by omega) (Nat.le_of_ble_eq_true rfl) fun v28 lv28 uv28 => ?_)
    exact hR (zret_i rfl (Nat.le_refl _) trivial (h _))
  refine hR (?_ : R (_, _, _, _, _, _))
  refine hR (t_c 20 (by decide) ?_)
  refine hR (j_lt (by omega) (by omega) (fun hc16 => ?_) (fun hc16 => ?_))
  · skip
    refine hR (?_ : R (_, _, _, _, _, _))
    refine hR (t_c 30 (by decide) ?_)
    refine hR (j_ge (by omega) (by omega) (fun hc17 => ?_) (fun hc17 => ?_))
    rotate_left
    · skip
      iterate 2 refine hR (?_ : R (_, _, _, _, _, _))
      exact hR (zret_i rfl (Nat.le_refl _) trivial (h _))
    iterate 2 refine hR (?_ : R (_, _, _, _, _, _))
    refine hR (t_c 30 (by decide) ?_)
    refine hR (t_sub ?_)
    refine hR (t_c 10 (by decide) ?_)
    refine hR (t_div (by omega) (by omega) (by omega) (by omega) ?_)
    refine hR (?_ : R (_, _, _, _, _, _))
    refine hR (t_c 30 (by decide) ?_)
    refine hR (t_sub ?_)
    refine hR (t_c 10 (by decide) ?_)
    refine hR (t_rem (by omega) (by omega) (by omega) (by omega) ?_)
    obtain ⟨x0_20, x1_20, x2_20, hO20, hk20_0, hk20_1, hk20_2, hk20_3, hk20_4, hk20_5, hk20_6⟩ := CI_o20 hw hρb
    refine hR (c_obj hO20 (zcall_i 0 0 (Nat.le_of_ble_eq_true rfl) (Nat.le_of_ble_eq_true rfl) (c_tellsStep _ b ((a1 - 30) / 10) ((a1 - 30) % 10) hw hρb (by omega) (by omega) _ fun v18 => ?_)))
    refine (?_ : R (_, _, (.int (Int32.ofInt v18)) :: [], w, 0, 0))
    exact hR (zret_i rfl (Nat.le_refl _) trivial (h _))
  refine hR (?_ : R (_, _, _, _, _, _))
  refine hR (t_c 20 (by decide) ?_)
  refine hR (?_ : R (_, _, _, _, _, _))
  obtain ⟨x0_21, x1_21, x2_21, hO21, hk21_0, hk21_1, hk21_2, hk21_3, hk21_4, hk21_5, hk21_6⟩ := CI_o20 hw hρb
  refine hR (c_get hO21 rfl ?_)
  refine hR (t_add ?_)
  refine hR (j_ge (by omega) (by omega) (fun hc22 => ?_) (fun hc22 => ?_))
  rotate_left
  · skip
    refine hR (?_ : R (_, _, _, _, _, _))
    refine hR (c_get hO21 rfl ?_)
    refine hR (?_ : R (_, _, _, _, _, _))
    refine hR (t_c 20 (by decide) ?_)
    refine hR (t_sub ?_)
    refine hR (c_ald hw (by rw [hk21_4]; rfl) (by omega) (by omega) (Nat.le_of_ble_eq_true rfl) fun v26 lv26 uv26 => ?_)
    exact hR (zret_i rfl (Nat.le_refl _) trivial (h _))
  refine hR (?_ : R (_, _, _, _, _, _))
  refine hR (t_c 30 (by decide) ?_)
  refine hR (j_ge (by omega) (by omega) (fun hc23 => ?_) (fun hc23 => ?_))
  rotate_left
  · skip
    iterate 2 refine hR (?_ : R (_, _, _, _, _, _))
    exact hR (zret_i rfl (Nat.le_refl _) trivial (h _))
  iterate 2 refine hR (?_ : R (_, _, _, _, _, _))
  refine hR (t_c 30 (by decide) ?_)
  refine hR (t_sub ?_)
  refine hR (t_c 10 (by decide) ?_)
  refine hR (t_div (by omega) (by omega) (by omega) (by omega) ?_)
  refine hR (?_ : R (_, _, _, _, _, _))
  refine hR (t_c 30 (by decide) ?_)
  refine hR (t_sub ?_)
  refine hR (t_c 10 (by decide) ?_)
  refine hR (t_rem (by omega) (by omega) (by omega) (by omega) ?_)
  refine hR (c_obj hO21 (zcall_i 0 0 (Nat.le_of_ble_eq_true rfl) (Nat.le_of_ble_eq_true rfl) (c_tellsStep _ b ((a1 - 30) / 10) ((a1 - 30) % 10) hw hρb (by omega) (by omega) _ fun v24 => ?_)))
  refine (?_ : R (_, _, (.int (Int32.ofInt v24)) :: [], w, 0, 0))
  exact hR (zret_i rfl (Nat.le_refl _) trivial (h _))
theorem c_isInKinRing {ρ : Nat → Nat} {w : zW} (d : Nat) (b : Nat) (a1 : Int) (hw : CI ρ w) (hρb : ρ b = 20) (hr0 : 0 ≤ a1 ∧ a1 ≤ 3) (Q : zQ) (h : ∀ (v : Int), (v = 0 ∨ v = 1) → Q (some (.int (Int32.ofInt v))) w) : zCl zTab (d + 1) iX0_isInKinRing [.ref b, .int (Int32.ofInt a1)] w 0 0 Q := by
  refine zCl_i (M := kX0_isInKinRing) rfl (Nat.le_of_ble_eq_true rfl) fun R hR => ?_
  have fr0 := wfR_rf [] ρ w
  iterate 4 refine hR (?_ : R (_, _, _, _, _, _))
  have lp4 : ∀ (N : Nat) (at_ : Int) (i : Int), (0 ≤ at_ ∧ at_ ≤ 3) → (0 ≤ i ∧ i ≤ 4) → (4 - i < N) → R (4, [some (.ref b), some (.int (Int32.ofInt a1)), some (.int (Int32.ofInt at_)), some (.int (Int32.ofInt i))], [], w, 0, 0) := by
    intro N
    induction N with
    | zero => intros; omega
    | succ N ih4 =>
      intro at_ i hf0_4 hf1_4 hN4
      iterate 2 refine hR (?_ : R (_, _, _, _, _, _))
      refine hR (j_ge (by omega) (by omega) (fun hc1 => ?_) (fun hc1 => ?_))
      · skip
        refine hR (?_ : R (_, _, _, _, _, _))
        exact hR (zret_i rfl (Nat.le_refl _) (zbo (by omega)) (h _ (by omega)))
      refine hR (?_ : R (_, _, _, _, _, _))
      obtain ⟨x0_2, x1_2, x2_2, hO2, hk2_0, hk2_1, hk2_2, hk2_3, hk2_4, hk2_5, hk2_6⟩ := CI_o20 hw hρb
      refine hR (c_get hO2 rfl ?_)
      refine hR (?_ : R (_, _, _, _, _, _))
      refine hR (c_ald hw (by rw [hk2_3]; rfl) (by omega) (by omega) (Nat.le_of_ble_eq_true rfl) fun v3 lv3 uv3 => ?_)
      iterate 3 refine hR (?_ : R (_, _, _, _, _, _))
      refine hR (j_ne (by omega) (by omega) (fun hc4 => ?_) (fun hc4 => ?_))
      rotate_left
      · skip
        refine hR (?_ : R (_, _, _, _, _, _))
        exact hR (zret_i rfl (Nat.le_refl _) (zbo (by omega)) (h _ (by omega)))
      refine hR (t_inc ?_)
      refine hR (?_ : R (_, _, _, _, _, _))
      exact ih4 _ _ (by omega) (by omega) (by omega)
  exact lp4 400000000 _ _ (by omega) (by omega) (by omega)
theorem c_kinUntilRing {ρ : Nat → Nat} {w : zW} (d : Nat) (b : Nat) (a1 : Int) (hw : CI ρ w) (hρb : ρ b = 20) (hr0 : 0 ≤ a1 ∧ a1 ≤ 3) (Q : zQ) (h : ∀ (v : Int), Q (some (.int (Int32.ofInt v))) w) : zCl zTab (d + 2) iX0_kinUntilRing [.ref b, .int (Int32.ofInt a1)] w 0 0 Q := by
  refine zCl_i (M := kX0_kinUntilRing) rfl (Nat.le_of_ble_eq_true rfl) fun R hR => ?_
  have fr0 := wfR_rf [] ρ w
  iterate 4 refine hR (?_ : R (_, _, _, _, _, _))
  have lp4 : ∀ (N : Nat) (at_ : Int) (i : Int), (0 ≤ at_ ∧ at_ ≤ 3) → (0 ≤ i ∧ i ≤ 4) → (4 - i < N) → R (4, [some (.ref b), some (.int (Int32.ofInt a1)), some (.int (Int32.ofInt at_)), some (.int (Int32.ofInt i))], [], w, 0, 0) := by
    intro N
    induction N with
    | zero => intros; omega
    | succ N ih4 =>
      intro at_ i hf0_4 hf1_4 hN4
      iterate 2 refine hR (?_ : R (_, _, _, _, _, _))
      refine hR (j_ge (by omega) (by omega) (fun hc1 => ?_) (fun hc1 => ?_))
      · skip
        refine hR (?_ : R (_, _, _, _, _, _))
        exact hR (zret_i rfl (Nat.le_refl _) trivial (h _))
      iterate 2 refine hR (?_ : R (_, _, _, _, _, _))
      obtain ⟨x0_5, x1_5, x2_5, hO5, hk5_0, hk5_1, hk5_2, hk5_3, hk5_4, hk5_5, hk5_6⟩ := CI_o20 hw hρb
      refine hR (c_obj hO5 (zcall_i 0 0 (Nat.le_of_ble_eq_true rfl) (Nat.le_of_ble_eq_true rfl) (c_isInKinRing _ b at_ hw hρb (by omega) _ fun v2 hp4 => ?_)))
      refine (?_ : R (_, _, (.int (Int32.ofInt v2)) :: [], w, 0, 0))
      refine hR (k_eq (by omega) (fun hc6 => ?_) (fun hc6 => ?_))
      rotate_left
      · skip
        refine hR (?_ : R (_, _, _, _, _, _))
        exact hR (zret_i rfl (Nat.le_refl _) trivial (h _))
      refine hR (?_ : R (_, _, _, _, _, _))
      refine hR (c_get hO5 rfl ?_)
      refine hR (?_ : R (_, _, _, _, _, _))
      refine hR (c_ald hw (by rw [hk5_3]; rfl) (by omega) (by omega) (Nat.le_of_ble_eq_true rfl) fun v7 lv7 uv7 => ?_)
      refine hR (?_ : R (_, _, _, _, _, _))
      refine hR (t_inc ?_)
      refine hR (?_ : R (_, _, _, _, _, _))
      exact ih4 _ _ (by omega) (by omega) (by omega)
  exact lp4 400000000 _ _ (by omega) (by omega) (by omega)
theorem c_kinRing {ρ : Nat → Nat} {w : zW} (d : Nat) (b : Nat) (a1 : Int) (hw : CI ρ w) (hρb : ρ b = 20) (hr0 : 0 ≤ a1 ∧ a1 ≤ 3) (Q : zQ) (h : ∀ (v : Int), Q (some (.int (Int32.ofInt v))) w) : zCl zTab (d + 1) iX0_kinRing [.ref b, .int (Int32.ofInt a1)] w 0 0 Q := by
  refine zCl_i (M := kX0_kinRing) rfl (Nat.le_of_ble_eq_true rfl) fun R hR => ?_
  have fr0 := wfR_rf [] ρ w
  iterate 4 refine hR (?_ : R (_, _, _, _, _, _))
  have lp4 : ∀ (N : Nat) (at_ : Int) (i : Int), (0 ≤ at_ ∧ at_ ≤ 3) → (0 ≤ i ∧ i ≤ 4) → (4 - i < N) → R (4, [some (.ref b), some (.int (Int32.ofInt a1)), some (.int (Int32.ofInt at_)), some (.int (Int32.ofInt i)), none], [], w, 0, 0) := by
    intro N
    induction N with
    | zero => intros; omega
    | succ N ih4 =>
      intro at_ i hf0_4 hf1_4 hN4
      iterate 2 refine hR (?_ : R (_, _, _, _, _, _))
      refine hR (j_ge (by omega) (by omega) (fun hc1 => ?_) (fun hc1 => ?_))
      rotate_left
      · skip
        refine hR (?_ : R (_, _, _, _, _, _))
        obtain ⟨x0_6, x1_6, x2_6, hO6, hk6_0, hk6_1, hk6_2, hk6_3, hk6_4, hk6_5, hk6_6⟩ := CI_o20 hw hρb
        refine hR (c_get hO6 rfl ?_)
        refine hR (?_ : R (_, _, _, _, _, _))
        refine hR (c_ald hw (by rw [hk6_3]; rfl) (by omega) (by omega) (Nat.le_of_ble_eq_true rfl) fun v7 lv7 uv7 => ?_)
        refine hR (?_ : R (_, _, _, _, _, _))
        refine hR (t_inc ?_)
        refine hR (?_ : R (_, _, _, _, _, _))
        exact ih4 _ _ (by omega) (by omega) (by omega)
      iterate 4 refine hR (?_ : R (_, _, _, _, _, _))
      have lp27 : ∀ (N : Nat) (ar : Int) (n : Int), (0 ≤ ar ∧ ar ≤ 3) → (0 ≤ n ∧ n ≤ 3) → (4 - n < N) → R (27, [some (.ref b), some (.int (Int32.ofInt a1)), some (.int (Int32.ofInt ar)), some (.int (Int32.ofInt at_)), some (.int (Int32.ofInt n))], [], w, 0, 0) := by
        intro N
        induction N with
        | zero => intros; omega
        | succ N ih27 =>
          intro ar n hf0_27 hf1_27 hN27
          refine hR (?_ : R (_, _, _, _, _, _))
          obtain ⟨x0_2, x1_2, x2_2, hO2, hk2_0, hk2_1, hk2_2, hk2_3, hk2_4, hk2_5, hk2_6⟩ := CI_o20 hw hρb
          refine hR (c_get hO2 rfl ?_)
          refine hR (?_ : R (_, _, _, _, _, _))
          refine hR (c_ald hw (by rw [hk2_3]; rfl) (by omega) (by omega) (Nat.le_of_ble_eq_true rfl) fun v3 lv3 uv3 => ?_)
          refine hR (?_ : R (_, _, _, _, _, _))
          refine hR (t_inc ?_)
          iterate 2 refine hR (?_ : R (_, _, _, _, _, _))
          refine hR (j_eq (by omega) (by omega) (fun hc4 => ?_) (fun hc4 => ?_))
          · skip
            refine hR (?_ : R (_, _, _, _, _, _))
            exact hR (zret_i rfl (Nat.le_refl _) trivial (h _))
          iterate 2 refine hR (?_ : R (_, _, _, _, _, _))
          refine hR (j_lt (by omega) (by omega) (fun hc5 => ?_) (fun hc5 => ?_))
          · skip
            exact ih27 _ _ (by omega) (by omega) (by omega)
          refine hR (?_ : R (_, _, _, _, _, _))
          exact hR (zret_i rfl (Nat.le_refl _) trivial (h _))
      exact lp27 400000000 _ _ (by omega) (by omega) (by omega)
  exact lp4 400000000 _ _ (by omega) (by omega) (by omega)
theorem c_yearTells {ρ : Nat → Nat} {w : zW} (d : Nat) (p : Nat) (a1 a2 : Int) (hw : CI ρ w) (hρp : ρ p = 30) (hr0 : -2147483648 ≤ a1 ∧ a1 ≤ 2147483647) (hr1 : -2147483648 ≤ a2 ∧ a2 ≤ 2147483647) (Q : zQ) (h : ∀ (v : Int), Q (some (.int (Int32.ofInt v))) w) : zCl zTab (d + 1) iX10_tells [.ref p, .int (Int32.ofInt a1), .int (Int32.ofInt a2)] w 0 0 Q := by
  refine zCl_i (M := kX10_tells) rfl (Nat.le_of_ble_eq_true rfl) fun R hR => ?_
  have fr0 := wfR_rf [] ρ w
  iterate 2 refine hR (?_ : R (_, _, _, _, _, _))
  refine hR (j_ne (by omega) (by omega) (fun hc1 => ?_) (fun hc1 => ?_))
  · skip
    refine hR (?_ : R (_, _, _, _, _, _))
    refine hR (k_lt (by omega) (fun hc2 => ?_) (fun hc2 => ?_))
    · skip
      refine hR (t_c (-2) (by decide) ?_)
      exact hR (zret_i rfl (Nat.le_refl _) trivial (h _))
    iterate 2 refine hR (?_ : R (_, _, _, _, _, _))
    obtain ⟨x0_3, hO3, hk3_0, hk3_1, hk3_2, hk3_3⟩ := CI_o30 hw hρp
    refine hR (c_get hO3 rfl ?_)
    refine hR (j_lt (by omega) (by omega) (fun hc4 => ?_) (fun hc4 => ?_))
    rotate_left
    · skip
      refine hR (t_c (-2) (by decide) ?_)
      exact hR (zret_i rfl (Nat.le_refl _) trivial (h _))
    refine hR (?_ : R (_, _, _, _, _, _))
    refine hR (?_ : _ ∧ _)
    rw [zti (e := a2) (by omega) (by omega)]
    refine ⟨fun hs5 => ?_, fun hs5 => ?_⟩
    · skip
      refine hR (t_c (-2) (by decide) ?_)
      exact hR (zret_i rfl (Nat.le_refl _) trivial (h _))
    · skip
      have hs5d : a2 = 0 ∨ a2 = 1 ∨ a2 = 2 := by omega
      rcases hs5d with hs5e | hs5e | hs5e
      · refine ⟨26, by rw [hs5e]; rfl, (?_ : R (_, _, _, _, _, _))⟩
        refine hR (?_ : R (_, _, _, _, _, _))
        refine hR (c_get hO3 rfl ?_)
        refine hR (?_ : R (_, _, _, _, _, _))
        refine hR (c_ald hw (by rw [hk3_1]; rfl) (by omega) (by omega) (Nat.le_of_ble_eq_true rfl) fun v6 lv6 uv6 => ?_)
        exact hR (zret_i rfl (Nat.le_refl _) trivial (h _))
      · refine ⟨33, by rw [hs5e]; rfl, (?_ : R (_, _, _, _, _, _))⟩
        refine hR (?_ : R (_, _, _, _, _, _))
        refine hR (c_get hO3 rfl ?_)
        refine hR (?_ : R (_, _, _, _, _, _))
        refine hR (c_ald hw (by rw [hk3_2]; rfl) (by omega) (by omega) (Nat.le_of_ble_eq_true rfl) fun v7 lv7 uv7 => ?_)
        exact hR (zret_i rfl (Nat.le_refl _) trivial (h _))
      · refine ⟨40, by rw [hs5e]; rfl, (?_ : R (_, _, _, _, _, _))⟩
        refine hR (?_ : R (_, _, _, _, _, _))
        refine hR (c_get hO3 rfl ?_)
        refine hR (?_ : R (_, _, _, _, _, _))
        refine hR (c_ald hw (by rw [hk3_3]; rfl) (by omega) (by omega) (Nat.le_of_ble_eq_true rfl) fun v8 lv8 uv8 => ?_)
        exact hR (zret_i rfl (Nat.le_refl _) trivial (h _))
  refine hR (?_ : R (_, _, _, _, _, _))
  refine hR (k_ne (by omega) (fun hc9 => ?_) (fun hc9 => ?_))
  rotate_left
  · skip
    refine hR (?_ : R (_, _, _, _, _, _))
    obtain ⟨x0_17, hO17, hk17_0, hk17_1, hk17_2, hk17_3⟩ := CI_o30 hw hρp
    refine hR (c_get hO17 rfl ?_)
    exact hR (zret_i rfl (Nat.le_refl _) trivial (h _))
  refine hR (?_ : R (_, _, _, _, _, _))
  refine hR (k_lt (by omega) (fun hc10 => ?_) (fun hc10 => ?_))
  · skip
    refine hR (t_c (-2) (by decide) ?_)
    exact hR (zret_i rfl (Nat.le_refl _) trivial (h _))
  iterate 2 refine hR (?_ : R (_, _, _, _, _, _))
  obtain ⟨x0_11, hO11, hk11_0, hk11_1, hk11_2, hk11_3⟩ := CI_o30 hw hρp
  refine hR (c_get hO11 rfl ?_)
  refine hR (j_lt (by omega) (by omega) (fun hc12 => ?_) (fun hc12 => ?_))
  rotate_left
  · skip
    refine hR (t_c (-2) (by decide) ?_)
    exact hR (zret_i rfl (Nat.le_refl _) trivial (h _))
  refine hR (?_ : R (_, _, _, _, _, _))
  refine hR (?_ : _ ∧ _)
  rw [zti (e := a2) (by omega) (by omega)]
  refine ⟨fun hs13 => ?_, fun hs13 => ?_⟩
  · skip
    refine hR (t_c (-2) (by decide) ?_)
    exact hR (zret_i rfl (Nat.le_refl _) trivial (h _))
  · skip
    have hs13d : a2 = 0 ∨ a2 = 1 ∨ a2 = 2 := by omega
    rcases hs13d with hs13e | hs13e | hs13e
    · refine ⟨26, by rw [hs13e]; rfl, (?_ : R (_, _, _, _, _, _))⟩
      refine hR (?_ : R (_, _, _, _, _, _))
      refine hR (c_get hO11 rfl ?_)
      refine hR (?_ : R (_, _, _, _, _, _))
      refine hR (c_ald hw (by rw [hk11_1]; rfl) (by omega) (by omega) (Nat.le_of_ble_eq_true rfl) fun v14 lv14 uv14 => ?_)
      exact hR (zret_i rfl (Nat.le_refl _) trivial (h _))
    · refine ⟨33, by rw [hs13e]; rfl, (?_ : R (_, _, _, _, _, _))⟩
      refine hR (?_ : R (_, _, _, _, _, _))
      refine hR (c_get hO11 rfl ?_)
      refine hR (?_ : R (_, _, _, _, _, _))
      refine hR (c_ald hw (by rw [hk11_2]; rfl) (by omega) (by omega) (Nat.le_of_ble_eq_true rfl) fun v15 lv15 uv15 => ?_)
      exact hR (zret_i rfl (Nat.le_refl _) trivial (h _))
    · refine ⟨40, by rw [hs13e]; rfl, (?_ : R (_, _, _, _, _, _))⟩
      refine hR (?_ : R (_, _, _, _, _, _))
      refine hR (c_get hO11 rfl ?_)
      refine hR (?_ : R (_, _, _, _, _, _))
      refine hR (c_ald hw (by rw [hk11_3]; rfl) (by omega) (by omega) (Nat.le_of_ble_eq_true rfl) fun v16 lv16 uv16 => ?_)
      exact hR (zret_i rfl (Nat.le_refl _) trivial (h _))
theorem c_sightTells {ρ : Nat → Nat} {w : zW} (d : Nat) (p : Nat) (a1 a2 : Int) (hw : CI ρ w) (hρp : ρ p = 40) (hr0 : -2147483648 ≤ a1 ∧ a1 ≤ 2147483647) (hr1 : -2147483648 ≤ a2 ∧ a2 ≤ 2147483647) (Q : zQ) (h : ∀ (v : Int), Q (some (.int (Int32.ofInt v))) w) : zCl zTab (d + 1) iX6_tells [.ref p, .int (Int32.ofInt a1), .int (Int32.ofInt a2)] w 0 0 Q := by
  refine zCl_i (M := kX6_tells) rfl (Nat.le_of_ble_eq_true rfl) fun R hR => ?_
  have fr0 := wfR_rf [] ρ w
  iterate 2 refine hR (?_ : R (_, _, _, _, _, _))
  refine hR (j_ne (by omega) (by omega) (fun hc1 => ?_) (fun hc1 => ?_))
  · skip
    refine hR (?_ : R (_, _, _, _, _, _))
    refine hR (k_lt (by omega) (fun hc2 => ?_) (fun hc2 => ?_))
    · skip
      refine hR (t_c (-2) (by decide) ?_)
      exact hR (zret_i rfl (Nat.le_refl _) trivial (h _))
    iterate 2 refine hR (?_ : R (_, _, _, _, _, _))
    obtain ⟨x0_3, hO3, hk3_0, hk3_1, hk3_2⟩ := CI_o40 hw hρp
    refine hR (c_get hO3 rfl ?_)
    refine hR (j_lt (by omega) (by omega) (fun hc4 => ?_) (fun hc4 => ?_))
    rotate_left
    · skip
      refine hR (t_c (-2) (by decide) ?_)
      exact hR (zret_i rfl (Nat.le_refl _) trivial (h _))
    refine hR (?_ : R (_, _, _, _, _, _))
    have hl5 : a2 = 0 ∨ a2 = 1 ∨ (a2 ≠ 0 ∧ a2 ≠ 1) := by omega
    rcases hl5 with hl5 | hl5 | hl5
    · refine hR (t_pc (pc2 := 56) (by rw [zti (e := a2) (by omega) (by omega)]; show (((30 : Nat) : Int) + Op.lookupswitch.offset [(0, 26), (1, 33)] 40 a2).toNat = 56; simp only [Op.lookupswitch.offset_cons]; (repeat' split) <;> first | omega | rfl) ?_)
      refine hR (?_ : R (_, _, _, _, _, _))
      refine hR (c_get hO3 rfl ?_)
      refine hR (?_ : R (_, _, _, _, _, _))
      refine hR (c_ald hw (by rw [hk3_1]; rfl) (by omega) (by omega) (Nat.le_of_ble_eq_true rfl) fun v6 lv6 uv6 => ?_)
      exact hR (zret_i rfl (Nat.le_refl _) trivial (h _))
    · refine hR (t_pc (pc2 := 63) (by rw [zti (e := a2) (by omega) (by omega)]; show (((30 : Nat) : Int) + Op.lookupswitch.offset [(0, 26), (1, 33)] 40 a2).toNat = 63; simp only [Op.lookupswitch.offset_cons]; (repeat' split) <;> first | omega | rfl) ?_)
      refine hR (?_ : R (_, _, _, _, _, _))
      refine hR (c_get hO3 rfl ?_)
      refine hR (?_ : R (_, _, _, _, _, _))
      refine hR (c_ald hw (by rw [hk3_2]; rfl) (by omega) (by omega) (Nat.le_of_ble_eq_true rfl) fun v7 lv7 uv7 => ?_)
      exact hR (zret_i rfl (Nat.le_refl _) trivial (h _))
    · refine hR (t_pc (pc2 := 70) (by rw [zti (e := a2) (by omega) (by omega)]; show (((30 : Nat) : Int) + Op.lookupswitch.offset [(0, 26), (1, 33)] 40 a2).toNat = 70; simp only [Op.lookupswitch.offset_cons]; (repeat' split) <;> first | omega | rfl) ?_)
      refine hR (t_c (-2) (by decide) ?_)
      exact hR (zret_i rfl (Nat.le_refl _) trivial (h _))
  refine hR (?_ : R (_, _, _, _, _, _))
  refine hR (k_ne (by omega) (fun hc8 => ?_) (fun hc8 => ?_))
  rotate_left
  · skip
    refine hR (?_ : R (_, _, _, _, _, _))
    obtain ⟨x0_15, hO15, hk15_0, hk15_1, hk15_2⟩ := CI_o40 hw hρp
    refine hR (c_get hO15 rfl ?_)
    exact hR (zret_i rfl (Nat.le_refl _) trivial (h _))
  refine hR (?_ : R (_, _, _, _, _, _))
  refine hR (k_lt (by omega) (fun hc9 => ?_) (fun hc9 => ?_))
  · skip
    refine hR (t_c (-2) (by decide) ?_)
    exact hR (zret_i rfl (Nat.le_refl _) trivial (h _))
  iterate 2 refine hR (?_ : R (_, _, _, _, _, _))
  obtain ⟨x0_10, hO10, hk10_0, hk10_1, hk10_2⟩ := CI_o40 hw hρp
  refine hR (c_get hO10 rfl ?_)
  refine hR (j_lt (by omega) (by omega) (fun hc11 => ?_) (fun hc11 => ?_))
  rotate_left
  · skip
    refine hR (t_c (-2) (by decide) ?_)
    exact hR (zret_i rfl (Nat.le_refl _) trivial (h _))
  refine hR (?_ : R (_, _, _, _, _, _))
  have hl12 : a2 = 0 ∨ a2 = 1 ∨ (a2 ≠ 0 ∧ a2 ≠ 1) := by omega
  rcases hl12 with hl12 | hl12 | hl12
  · refine hR (t_pc (pc2 := 56) (by rw [zti (e := a2) (by omega) (by omega)]; show (((30 : Nat) : Int) + Op.lookupswitch.offset [(0, 26), (1, 33)] 40 a2).toNat = 56; simp only [Op.lookupswitch.offset_cons]; (repeat' split) <;> first | omega | rfl) ?_)
    refine hR (?_ : R (_, _, _, _, _, _))
    refine hR (c_get hO10 rfl ?_)
    refine hR (?_ : R (_, _, _, _, _, _))
    refine hR (c_ald hw (by rw [hk10_1]; rfl) (by omega) (by omega) (Nat.le_of_ble_eq_true rfl) fun v13 lv13 uv13 => ?_)
    exact hR (zret_i rfl (Nat.le_refl _) trivial (h _))
  · refine hR (t_pc (pc2 := 63) (by rw [zti (e := a2) (by omega) (by omega)]; show (((30 : Nat) : Int) + Op.lookupswitch.offset [(0, 26), (1, 33)] 40 a2).toNat = 63; simp only [Op.lookupswitch.offset_cons]; (repeat' split) <;> first | omega | rfl) ?_)
    refine hR (?_ : R (_, _, _, _, _, _))
    refine hR (c_get hO10 rfl ?_)
    refine hR (?_ : R (_, _, _, _, _, _))
    refine hR (c_ald hw (by rw [hk10_2]; rfl) (by omega) (by omega) (Nat.le_of_ble_eq_true rfl) fun v14 lv14 uv14 => ?_)
    exact hR (zret_i rfl (Nat.le_refl _) trivial (h _))
  · refine hR (t_pc (pc2 := 70) (by rw [zti (e := a2) (by omega) (by omega)]; show (((30 : Nat) : Int) + Op.lookupswitch.offset [(0, 26), (1, 33)] 40 a2).toNat = 70; simp only [Op.lookupswitch.offset_cons]; (repeat' split) <;> first | omega | rfl) ?_)
    refine hR (t_c (-2) (by decide) ?_)
    exact hR (zret_i rfl (Nat.le_refl _) trivial (h _))
/-! TEXTS AS BITS: a leading 1 and two bits for each WORD. -/
noncomputable def vB (l b : Nat) : Prop := l ≤ 6 ∧ b / 4 ^ l = 1
theorem v4p (l : Nat) : 0 < 4 ^ l := Nat.pos_of_ne_zero (by simp)
theorem v4v : (4 : Nat) ^ 0 = 1 ∧ (4 : Nat) ^ 1 = 4 ∧ (4 : Nat) ^ 2 = 16 ∧ (4 : Nat) ^ 3 = 64 ∧ (4 : Nat) ^ 4 = 256 ∧ (4 : Nat) ^ 5 = 1024 ∧ (4 : Nat) ^ 6 = 4096 ∧ (4 : Nat) ^ 7 = 16384 := by decide
theorem vB_lt {l b : Nat} (h : vB l b) : b < 8192 ∧ 1 ≤ b := by
  obtain ⟨h6, h⟩ := h
  obtain ⟨e0, e1, e2, e3, e4, e5, e6, _⟩ := v4v
  have hl : l = 0 ∨ l = 1 ∨ l = 2 ∨ l = 3 ∨ l = 4 ∨ l = 5 ∨ l = 6 := by omega
  rcases hl with rfl | rfl | rfl | rfl | rfl | rfl | rfl <;> simp only [e0, e1, e2, e3, e4, e5, e6] at h <;> omega
theorem n_sm : ∀ j, j < 16 → ((nI (2 * j) &&& 31).toBitVec.smod 32).toNat = 2 * j := by decide +kernel
theorem n_sr {B j : Nat} (hB : B < 2 ^ 31) (hj : j < 16) : nI B >>> (nI (2 * j) &&& 31) = nI (B / 4 ^ j) := by
  rw [pk_shrN hB _ (2 * j) (n_sm j hj), t_4]
theorem n_sl {v j : Nat} (hj : j < 16) (hv : v * 4 ^ j < 2 ^ 32) : nI v <<< (nI (2 * j) &&& 31) = nI (v * 4 ^ j) := by
  rw [pk_shlN _ (2 * j) (n_sm j hj) (by rw [t_4]; exact hv), t_4]
theorem n_a2 (j : Nat) : Int32.ofInt 2 * nI j = nI (2 * j) := by rw [nI2, pk_mul]
theorem n_a22 (j : Nat) : nI (2 * j) + Int32.ofInt 2 = nI (2 * (j + 1)) := by rw [nI2, nI_add]; congr 1
theorem n_xor (a b : Nat) : nI a ^^^ nI b = nI (a ^^^ b) := by
  apply Int32.toBitVec_inj.mp
  rw [Int32.toBitVec_xor]
  show BitVec.ofNat 32 a ^^^ BitVec.ofNat 32 b = BitVec.ofNat 32 (a ^^^ b)
  exact (BitVec.ofNat_xor ..).symm
theorem n_mask {B j : Nat} (hB : B < 2 ^ 31) (hj : j < 8) : nI B &&& (Int32.ofInt 1 <<< (nI (2 * j) &&& 31) - Int32.ofInt 1) = nI (B % 4 ^ j) := by
  have h4 : 4 ^ j ≤ 16384 := by
    have := Nat.pow_le_pow_right (n := 4) (by decide) (show j ≤ 7 by omega)
    have e : (4 : Nat) ^ 7 = 16384 := by decide
    omega
  have h0 := v4p j
  rw [nI1, n_sl (by omega) (by omega), Nat.one_mul, pk_sub h0, pk_andN (by omega) (2 * j), t_4]
  rw [t_4, pk_tn (by omega)]
noncomputable def fDr (b j : Nat) : Nat := b / 4 ^ (j + 1) * 4 ^ j ||| b % 4 ^ j
noncomputable def fDb (b j : Nat) : Nat := (b / 4 ^ j * 4 ||| b / 4 ^ j % 4) * 4 ^ j ||| b % 4 ^ j
noncomputable def fSw (b j : Nat) : Nat := b ^^^ (b / 4 ^ j ^^^ b / 4 ^ (j + 1)) % 4 * 4 ^ j ^^^ (b / 4 ^ j ^^^ b / 4 ^ (j + 1)) % 4 * 4 ^ (j + 1)
noncomputable def fTu (b : Nat) : Nat → Nat
  | 0 => 1
  | i + 1 => fTu b i * 4 ||| b / 4 ^ i % 4
noncomputable def fSh (b c w : Nat) : Nat → Nat
  | 0 => b
  | i + 1 => if b / 4 ^ i % 4 = w then fSh b c w i ^^^ c * 4 ^ i else fSh b c w i
theorem n_le {j : Nat} (h : j ≤ 7) : 4 ^ j ≤ 16384 := by
  have := Nat.pow_le_pow_right (n := 4) (by decide) h
  have e : (4 : Nat) ^ 7 = 16384 := by decide
  omega
theorem n_ml {v j : Nat} (hj : j ≤ 7) (hv : v < 65536) : v * 4 ^ j < 2 ^ 32 := by
  have h1 := n_le hj
  calc v * 4 ^ j ≤ v * 16384 := Nat.mul_le_mul_left _ h1
    _ < 2 ^ 32 := by omega
theorem n_dl {B j : Nat} : B / 4 ^ j ≤ B := Nat.div_le_self _ _
theorem b_dropped (w : zW) (d B j : Nat) (hB : B < 8192) (hj : j ≤ 6) (Q : zQ) (h : Q (some (.int (nI (fDr B j)))) w) : zCl zTab (d + 1) iX0_dropped [.int (nI B), .int (nI j)] w 0 0 Q := by
  refine zCl_i (M := kX0_dropped) rfl (Nat.le_of_ble_eq_true rfl) fun R hR => ?_
  iterate 23 refine hR (?_ : R (_, _, _, _, _, _))
  refine hR (zret_i rfl (Nat.le_refl _) trivial ?_)
  have h2 : ∀ z, z = nI (fDr B j) → Q (some (.int z)) w := fun z hz => by rw [hz]; exact h
  refine h2 _ ?_
  show ((nI B >>> ((Int32.ofInt 2 * nI j + Int32.ofInt 2) &&& 31)) <<< (Int32.ofInt 2 * nI j &&& 31)) ||| (nI B &&& (Int32.ofInt 1 <<< (Int32.ofInt 2 * nI j &&& 31) - Int32.ofInt 1)) = _
  rw [n_a2, n_a22, n_mask (by omega) (by omega), n_sr (by omega) (by omega), n_sl (by omega) (n_ml (by omega) (Nat.lt_of_le_of_lt n_dl (by omega))), dz_or]
  rfl
theorem b_doubled (w : zW) (d B j : Nat) (hB : B < 8192) (hj : j ≤ 6) (Q : zQ) (h : Q (some (.int (nI (fDb B j)))) w) : zCl zTab (d + 1) iX0_doubled [.int (nI B), .int (nI j)] w 0 0 Q := by
  refine zCl_i (M := kX0_doubled) rfl (Nat.le_of_ble_eq_true rfl) fun R hR => ?_
  iterate 29 refine hR (?_ : R (_, _, _, _, _, _))
  refine hR (zret_i rfl (Nat.le_refl _) trivial ?_)
  have h2 : ∀ z, z = nI (fDb B j) → Q (some (.int z)) w := fun z hz => by rw [hz]; exact h
  refine h2 _ ?_
  show ((nI B >>> (Int32.ofInt 2 * nI j &&& 31)) <<< (Int32.ofInt 2 &&& 31) ||| (nI B >>> (Int32.ofInt 2 * nI j &&& 31)) &&& Int32.ofInt 3) <<< (Int32.ofInt 2 * nI j &&& 31) ||| (nI B &&& (Int32.ofInt 1 <<< (Int32.ofInt 2 * nI j &&& 31) - Int32.ofInt 1)) = _
  have hd : B / 4 ^ j < 8192 := Nat.lt_of_le_of_lt n_dl (by omega)
  have hm : B / 4 ^ j % 4 < 2 ^ 15 := Nat.lt_trans (Nat.mod_lt _ (by decide)) (by decide)
  rw [n_a2, n_mask (by omega) (by omega), n_sr (by omega) (by omega), pk_andN (by omega) 2 (by decide), show Int32.ofInt 2 &&& 31 = nI (2 * 1) &&& 31 by decide, n_sl (j := 1) (by omega) (by omega), dz_or, n_sl (by omega) (n_ml (by omega) (Nat.lt_trans (Nat.or_lt_two_pow (n := 15) (by omega) (by omega)) (by decide))), dz_or]
  rfl
theorem b_swapped (w : zW) (d B j : Nat) (hB : B < 8192) (hj : j ≤ 6) (Q : zQ) (h : Q (some (.int (nI (fSw B j)))) w) : zCl zTab (d + 1) iX0_swapped [.int (nI B), .int (nI j)] w 0 0 Q := by
  refine zCl_i (M := kX0_swapped) rfl (Nat.le_of_ble_eq_true rfl) fun R hR => ?_
  iterate 31 refine hR (?_ : R (_, _, _, _, _, _))
  refine hR (zret_i rfl (Nat.le_refl _) trivial ?_)
  have h2 : ∀ z, z = nI (fSw B j) → Q (some (.int z)) w := fun z hz => by rw [hz]; exact h
  refine h2 _ ?_
  have hd : B / 4 ^ j < 8192 := Nat.lt_of_le_of_lt n_dl (by omega)
  have hd2 : B / 4 ^ (j + 1) < 8192 := Nat.lt_of_le_of_lt n_dl (by omega)
  have hx := Nat.xor_lt_two_pow (n := 13) (x := B / 4 ^ j) (y := B / 4 ^ (j + 1)) (by omega) (by omega)
  have ec : ((nI B >>> (Int32.ofInt 2 * nI j &&& 31)) ^^^ (nI B >>> ((Int32.ofInt 2 * nI j + Int32.ofInt 2) &&& 31))) &&& Int32.ofInt 3 = nI ((B / 4 ^ j ^^^ B / 4 ^ (j + 1)) % 4) := by
    rw [n_a2, n_a22, n_sr (by omega) (by omega), n_sr (by omega) (by omega), n_xor, pk_andN (by omega) 2 (by decide)]
  show (nI B ^^^ ((((nI B >>> (Int32.ofInt 2 * nI j &&& 31)) ^^^ (nI B >>> ((Int32.ofInt 2 * nI j + Int32.ofInt 2) &&& 31))) &&& Int32.ofInt 3) <<< (Int32.ofInt 2 * nI j &&& 31))) ^^^ ((((nI B >>> (Int32.ofInt 2 * nI j &&& 31)) ^^^ (nI B >>> ((Int32.ofInt 2 * nI j + Int32.ofInt 2) &&& 31))) &&& Int32.ofInt 3) <<< ((Int32.ofInt 2 * nI j + Int32.ofInt 2) &&& 31)) = _
  rw [ec, n_a2, n_a22]
  have hc : (B / 4 ^ j ^^^ B / 4 ^ (j + 1)) % 4 < 65536 := Nat.lt_trans (Nat.mod_lt _ (by decide)) (by decide)
  rw [n_sl (by omega) (n_ml (by omega) hc), n_sl (by omega) (n_ml (by omega) hc), n_xor, n_xor]
  rfl
theorem n_w {B i : Nat} (hB : B < 2 ^ 31) (hi : i < 16) : (nI B >>> (Int32.ofInt 2 * nI i &&& 31)) &&& Int32.ofInt 3 = nI (B / 4 ^ i % 4) := by
  rw [n_a2, n_sr hB hi, pk_andN (Nat.lt_of_le_of_lt n_dl (by omega)) 2 (by decide)]
theorem fTu_lt (b : Nat) : ∀ i, fTu b i < 2 ^ (2 * i + 1)
  | 0 => by show 1 < 2 ^ 1; decide
  | i + 1 => by
    have h1 := fTu_lt b i
    have h2 : b / 4 ^ i % 4 < 4 := Nat.mod_lt _ (by decide)
    have h3 : 2 ^ (2 * (i + 1) + 1) = 4 * 2 ^ (2 * i + 1) := by rw [show 2 * (i + 1) + 1 = (2 * i + 1) + 2 by omega, Nat.pow_add]; omega
    have h4 : 2 ^ (2 * i + 1) = 2 * 4 ^ i := by rw [Nat.pow_add, t_4]; omega
    have h5 := v4p i
    rw [fTu]
    exact Nat.or_lt_two_pow (by omega) (by omega)
theorem b_turned (w : zW) (d B l : Nat) (hB : B < 8192) (hl : l ≤ 6) (Q : zQ) (h : Q (some (.int (nI (fTu B l)))) w) : zCl zTab (d + 1) iX0_turned [.int (nI B), .int (nI l)] w 0 0 Q := by
  refine zCl_i (M := kX0_turned) rfl (Nat.le_of_ble_eq_true rfl) fun R hR => ?_
  have loop : ∀ (N i : Nat), i ≤ l → l - i < N → R (4, [some (.int (nI B)), some (.int (nI l)), some (.int (nI (fTu B i))), some (.int (nI i))], [], w, 0, 0) := by
    intro N
    induction N with
    | zero => intros; omega
    | succ N ih =>
      intro i h1 hN
      iterate 2 refine hR (?_ : R (_, _, _, _, _, _))
      refine hR (pk_le l i (fun z => ?_) (fun z => ?_) rfl rfl)
      · refine hR (?_ : R (_, _, _, _, _, _))
        have e : i = l := by omega
        subst e
        exact hR (zret_i rfl (Nat.le_refl _) trivial h)
      · iterate 14 refine hR (?_ : R (_, _, _, _, _, _))
        have ht := fTu_lt B i
        have h7 : 2 ^ (2 * i + 1) ≤ 8192 := by
          have := Nat.pow_le_pow_right (n := 2) (by decide) (show 2 * i + 1 ≤ 13 by omega)
          omega
        have e1 : (nI (fTu B i) <<< (Int32.ofInt 2 &&& 31) ||| (nI B >>> (Int32.ofInt 2 * nI i &&& 31)) &&& Int32.ofInt 3) = nI (fTu B (i + 1)) := by
          rw [n_w (by omega) (by omega), show Int32.ofInt 2 &&& 31 = nI (2 * 1) &&& 31 by decide, n_sl (j := 1) (by omega) (by omega), dz_or]
          rfl
        have e2 : nI i + Int32.ofInt 1 = nI (i + 1) := by rw [nI1, nI_add]
        have key := ih (i + 1) (by omega) (by omega)
        rw [← e1, ← e2] at key
        exact key
  iterate 4 refine hR (?_ : R (_, _, _, _, _, _))
  exact loop (l + 1) 0 (by omega) (by omega)
theorem b_lengthOfBits (w : zW) (d B l : Nat) (hv : vB l B) (Q : zQ) (h : Q (some (.int (nI l))) w) : zCl zTab (d + 1) iX11_lengthOfBits [.int (nI B)] w 0 0 Q := by
  have hB := (vB_lt hv).1
  obtain ⟨hl, hv⟩ := hv
  refine zCl_i (M := kX11_lengthOfBits) rfl (Nat.le_of_ble_eq_true rfl) fun R hR => ?_
  have hlo : 4 ^ l ≤ B := by
    by_cases hc : B < 4 ^ l
    · rw [Nat.div_eq_of_lt hc] at hv; omega
    · omega
  have hhi : B < 4 ^ l * 2 := by
    have h1 := Nat.div_add_mod B (4 ^ l)
    have h2 := Nat.mod_lt B (v4p l)
    rw [hv] at h1
    omega
  have loop : ∀ (N i : Nat), i ≤ l → l - i < N → R (2, [some (.int (nI B)), some (.int (nI i))], [], w, 0, 0) := by
    intro N
    induction N with
    | zero => intros; omega
    | succ N ih =>
      intro i h1 hN
      iterate 2 refine hR (?_ : R (_, _, _, _, _, _))
      refine hR (pk_le 6 i (fun z => ?_) (fun z => ?_) nI6 rfl)
      · refine hR (?_ : R (_, _, _, _, _, _))
        have e : i = l := by omega
        subst e
        exact hR (zret_i rfl (Nat.le_refl _) trivial h)
      · iterate 7 refine hR (?_ : R (_, _, _, _, _, _))
        have e1 : nI B >>> ((Int32.ofInt 2 * nI i + Int32.ofInt 2) &&& 31) = nI (B / 4 ^ (i + 1)) := by
          rw [n_a2, n_a22, n_sr (by omega) (by omega)]
        have hd : B / 4 ^ (i + 1) ≤ B := n_dl
        refine hR (pk_eq (B / 4 ^ (i + 1)) 0 (fun z => ?_) (fun z => ?_) e1 rfl)
        · refine hR (?_ : R (_, _, _, _, _, _))
          have e : i = l := by
            by_cases hc : i < l
            · have := Nat.pow_le_pow_right (n := 4) (by decide) (show i + 1 ≤ l by omega)
              have := Nat.div_pos (show 4 ^ (i + 1) ≤ B by omega) (v4p _)
              omega
            · omega
          subst e
          exact hR (zret_i rfl (Nat.le_refl _) trivial h)
        · iterate 2 refine hR (?_ : R (_, _, _, _, _, _))
          have e2 : nI i + Int32.ofInt 1 = nI (i + 1) := by rw [nI1, nI_add]
          have hc : i < l := by
            by_cases hc : i < l
            · exact hc
            · have ei : i = l := by omega
              subst ei
              exact absurd (Nat.div_eq_of_lt (show B < 4 ^ (i + 1) by rw [Nat.pow_succ]; omega)) z
          have key := ih (i + 1) (by omega) (by omega)
          rw [← e2] at key
          exact key
  iterate 2 refine hR (?_ : R (_, _, _, _, _, _))
  exact loop (l + 1) 0 (by omega) (by omega)
noncomputable def fNo (B l : Nat) : Nat := B - 4 ^ l + tSh l
theorem b_numberOfBits (w : zW) (d B l : Nat) (hv : vB l B) (Q : zQ) (h : Q (some (.int (nI (fNo B l)))) w) : zCl zTab (d + 2) iX11_numberOfBits [.int (nI B)] w 0 0 Q := by
  have hB := (vB_lt hv).1
  have hlo : 4 ^ l ≤ B := by
    by_cases hc : B < 4 ^ l
    · have := hv.2; rw [Nat.div_eq_of_lt hc] at this; omega
    · omega
  refine zCl_i (M := kX11_numberOfBits) rfl (Nat.le_of_ble_eq_true rfl) fun R hR => ?_
  iterate 3 refine hR (?_ : R (_, _, _, _, _, _))
  refine hR (zcall_i 0 0 (Nat.le_of_ble_eq_true rfl) (Nat.le_of_ble_eq_true rfl) (b_lengthOfBits _ _ B l hv _ ?_))
  iterate 10 refine hR (?_ : R (_, _, _, _, _, _))
  refine hR (And.intro (by decide) ?_)
  refine hR (?_ : R (_, _, _, _, _, _))
  refine hR (zret_i rfl (Nat.le_refl _) trivial ?_)
  have h2 : ∀ z, z = nI (fNo B l) → Q (some (.int z)) w := fun z hz => by rw [hz]; exact h
  refine h2 _ ?_
  show nI B - Int32.ofInt 1 <<< ((Int32.ofInt 2 * nI l) &&& 31) + (Int32.ofInt 1 <<< ((Int32.ofInt 2 * nI l) &&& 31) - Int32.ofInt 1) / Int32.ofInt 3 = _
  have h6 := hv.1
  rw [t_shl _ (by omega), t_dv _ (by omega), pk_sub hlo, nI_add]
  rfl
theorem fNo_lt {B l : Nat} (hv : vB l B) : fNo B l ≤ 5460 := by
  obtain ⟨h6, h⟩ := hv
  obtain ⟨e0, e1, e2, e3, e4, e5, e6, _⟩ := v4v
  obtain ⟨t0, t1, t2, t3, t4, t5, t6, _⟩ := tSh_v
  have hl : l = 0 ∨ l = 1 ∨ l = 2 ∨ l = 3 ∨ l = 4 ∨ l = 5 ∨ l = 6 := by omega
  unfold fNo
  rcases hl with rfl | rfl | rfl | rfl | rfl | rfl | rfl <;> simp only [e0, e1, e2, e3, e4, e5, e6, t0, t1, t2, t3, t4, t5, t6] at h ⊢ <;> omega
theorem vB_tB {t : Nat} (ht : t < 5461) : vB (tLen t) (tB t) := by
  obtain ⟨e0, e1, e2, e3, e4, e5, e6, _⟩ := v4v
  obtain ⟨t0, t1, t2, t3, t4, t5, t6, _⟩ := tSh_v
  refine ⟨tLen_le t, ?_⟩
  unfold tB
  rcases tLen_v t ht with ⟨h1, h⟩ | ⟨h1, h2, h⟩ | ⟨h1, h2, h⟩ | ⟨h1, h2, h⟩ | ⟨h1, h2, h⟩ | ⟨h1, h2, h⟩ | ⟨h1, h⟩ <;> rw [h] <;> simp only [e0, e1, e2, e3, e4, e5, e6, t0, t1, t2, t3, t4, t5, t6] <;> omega

theorem vB_xor {l b c : Nat} (h : vB l b) (hc : c < 4 ^ l) : vB l (b ^^^ c) := by
  obtain ⟨h6, h⟩ := h
  refine ⟨h6, ?_⟩
  rw [← t_4, ← Nat.shiftRight_eq_div_pow] at h ⊢
  rw [Nat.shiftRight_xor_distrib, h, Nat.shiftRight_eq_div_pow, t_4, Nat.div_eq_of_lt hc]
  rfl
theorem vB_or {l b c : Nat} (h : vB l b) (hc : c < 4 ^ l) : vB l (b ||| c) := by
  obtain ⟨h6, h⟩ := h
  refine ⟨h6, ?_⟩
  rw [← t_4, ← Nat.shiftRight_eq_div_pow] at h ⊢
  rw [Nat.shiftRight_or_distrib, h, Nat.shiftRight_eq_div_pow, t_4, Nat.div_eq_of_lt hc]
  rfl
theorem n_lt {c i l : Nat} (hc : c < 4) (hi : i < l) : c * 4 ^ i < 4 ^ l := by
  have h1 : 4 ^ (i + 1) ≤ 4 ^ l := Nat.pow_le_pow_right (by decide) hi
  rw [Nat.pow_succ] at h1
  have h2 : c * 4 ^ i ≤ 3 * 4 ^ i := Nat.mul_le_mul_right _ (by omega)
  have := v4p i
  omega
theorem vB_fSh {l b c w : Nat} (h : vB l b) (hc : c < 4) : ∀ i, i ≤ l → vB l (fSh b c w i)
  | 0, _ => h
  | i + 1, hi => by
    rw [fSh]
    split
    · exact vB_xor (vB_fSh h hc i (by omega)) (n_lt hc (by omega))
    · exact vB_fSh h hc i (by omega)
theorem vB_fTu {b : Nat} : ∀ i, i ≤ 6 → vB i (fTu b i)
  | 0, _ => by refine ⟨by omega, ?_⟩; show 1 / 1 = 1; rfl
  | i + 1, hi => by
    rw [fTu]
    have h1 := vB_fTu (b := b) i (by omega)
    refine vB_or ⟨hi, ?_⟩ (Nat.lt_of_lt_of_le (Nat.mod_lt _ (by decide)) (Nat.pow_le_pow_right (n := 4) (by decide) (show 1 ≤ i + 1 by omega)))
    rw [Nat.pow_succ, Nat.mul_div_mul_right _ _ (by decide)]
    exact h1.2
theorem vB_fSw {l b j : Nat} (h : vB l b) (hj : j + 1 < l) : vB l (fSw b j) := by
  have hm : (b / 4 ^ j ^^^ b / 4 ^ (j + 1)) % 4 < 4 := Nat.mod_lt _ (by decide)
  exact vB_xor (vB_xor h (n_lt hm (by omega))) (n_lt hm hj)
theorem n_sp {l j : Nat} (h : j ≤ l) : 4 ^ l = 4 ^ j * 4 ^ (l - j) := by
  rw [← Nat.pow_add]
  congr 1
  omega
theorem vB_fDr {l b j : Nat} (h : vB l b) (hj : j < l) : vB (l - 1) (fDr b j) := by
  obtain ⟨h6, h⟩ := h
  refine vB_or ⟨by omega, ?_⟩ (Nat.lt_of_lt_of_le (Nat.mod_lt _ (v4p j)) (Nat.pow_le_pow_right (by decide) (by omega)))
  rw [n_sp (show j ≤ l - 1 by omega), Nat.mul_comm (4 ^ j), Nat.mul_div_mul_right _ _ (v4p j), Nat.div_div_eq_div_mul, ← Nat.pow_add]
  rw [show j + 1 + (l - 1 - j) = l by omega]
  exact h
theorem vB_fDb {l b j : Nat} (h : vB l b) (hj : j < l) (hl : l < 6) : vB (l + 1) (fDb b j) := by
  obtain ⟨h6, h⟩ := h
  refine vB_or ⟨by omega, ?_⟩ (Nat.lt_of_lt_of_le (Nat.mod_lt _ (v4p j)) (Nat.pow_le_pow_right (by decide) (by omega)))
  rw [n_sp (show j ≤ l + 1 by omega), Nat.mul_comm (4 ^ j), Nat.mul_div_mul_right _ _ (v4p j)]
  have h2 : vB (l + 1 - j) (b / 4 ^ j * 4 ||| b / 4 ^ j % 4) := by
    refine vB_or ⟨by omega, ?_⟩ (Nat.lt_of_lt_of_le (Nat.mod_lt _ (by decide)) (Nat.pow_le_pow_right (n := 4) (by decide) (show 1 ≤ l + 1 - j by omega)))
    rw [show l + 1 - j = (l - j) + 1 by omega, Nat.pow_succ, Nat.mul_div_mul_right _ _ (by decide), Nat.div_div_eq_div_mul, ← Nat.pow_add, show j + (l - j) = l by omega]
    exact h
  exact h2.2
section CN
variable {R : zS → Prop} {np : Nat} {L : zL} {S : List Value} {w : zW} {k n : Nat}
theorem c_aldN {q len i : Nat} {g : Nat → Int32} {x : Int32} (h2 : zix w q = some (.inl (1, len, .inl g))) (h1 : i < len) (hl : len ≤ 60000) (hx : g i = x) (hk : R (np, L, .int x :: S, w, k, n)) : zai w q (fun ti len g => zif (Nat.beq ti 1) (vp_in (nI i) len ∧ R (np, L, .int (g (nI i).toNatClampNeg) :: S, w, k, n))) := by
  unfold zai
  rw [h2]
  refine ⟨pk_in i len h1 rfl (by omega), ?_⟩
  rw [pk_cl i rfl (by omega), hx]
  exact hk
end CN
/-- a told BOOK at q, as it stands -/
noncomputable def bkAt (w : zW) (q : Nat) (gk gs gi gn : Nat → Int32) : Prop := (∃ x0 x1 x2 : Int, zix w q = some (.inr (0, [.int (Int32.ofInt x0), .int (Int32.ofInt x1), .int (Int32.ofInt x2), .ref (q + 1), .ref (q + 2), .ref (q + 3), .ref (q + 4)]))) ∧ (zix w (q + 1) = some (.inl (1, 4, .inl gk))) ∧ (zix w (q + 2) = some (.inl (1, 5, .inl gs))) ∧ (zix w (q + 3) = some (.inl (1, 20, .inl gi))) ∧ (zix w (q + 4) = some (.inl (1, 20, .inl gn))) ∧ (zB 0 3 gk) ∧ (zB 0 4 gs) ∧ (zB 0 4 gi) ∧ (zB 0 6 gn) ∧ (∀ j, j < 20 → ((gi j).toInt = 0 → (gn j).toInt ≤ 3) ∧ (1 ≤ (gi j).toInt → (gi j).toInt ≤ 3 → 1 ≤ (gn j).toInt))
theorem bkAt.ob {w : zW} {q : Nat} {gk gs gi gn : Nat → Int32} (h : bkAt w q gk gs gi gn) : ∃ x0 x1 x2 : Int, zix w q = some (.inr (0, [.int (Int32.ofInt x0), .int (Int32.ofInt x1), .int (Int32.ofInt x2), .ref (q + 1), .ref (q + 2), .ref (q + 3), .ref (q + 4)])) := h.1
theorem bkAt.kin {w : zW} {q : Nat} {gk gs gi gn : Nat → Int32} (h : bkAt w q gk gs gi gn) : zix w (q + 1) = some (.inl (1, 4, .inl gk)) := h.2.1
theorem bkAt.steps {w : zW} {q : Nat} {gk gs gi gn : Nat → Int32} (h : bkAt w q gk gs gi gn) : zix w (q + 2) = some (.inl (1, 5, .inl gs)) := h.2.2.1
theorem bkAt.kinds {w : zW} {q : Nat} {gk gs gi gn : Nat → Int32} (h : bkAt w q gk gs gi gn) : zix w (q + 3) = some (.inl (1, 20, .inl gi)) := h.2.2.2.1
theorem bkAt.nums {w : zW} {q : Nat} {gk gs gi gn : Nat → Int32} (h : bkAt w q gk gs gi gn) : zix w (q + 4) = some (.inl (1, 20, .inl gn)) := h.2.2.2.2.1
theorem bkAt.bk {w : zW} {q : Nat} {gk gs gi gn : Nat → Int32} (h : bkAt w q gk gs gi gn) : zB 0 3 gk := h.2.2.2.2.2.1
theorem bkAt.bs {w : zW} {q : Nat} {gk gs gi gn : Nat → Int32} (h : bkAt w q gk gs gi gn) : zB 0 4 gs := h.2.2.2.2.2.2.1
theorem bkAt.bi {w : zW} {q : Nat} {gk gs gi gn : Nat → Int32} (h : bkAt w q gk gs gi gn) : zB 0 4 gi := h.2.2.2.2.2.2.2.1
theorem bkAt.bn {w : zW} {q : Nat} {gk gs gi gn : Nat → Int32} (h : bkAt w q gk gs gi gn) : zB 0 6 gn := h.2.2.2.2.2.2.2.2.1
theorem bkAt.rel {w : zW} {q : Nat} {gk gs gi gn : Nat → Int32} (h : bkAt w q gk gs gi gn) : ∀ j, j < 20 → ((gi j).toInt = 0 → (gn j).toInt ≤ 3) ∧ (1 ≤ (gi j).toInt → (gi j).toInt ≤ 3 → 1 ≤ (gn j).toInt) := h.2.2.2.2.2.2.2.2.2
theorem nI_g {lo hi : Int} {g : Nat → Int32} (h : zB lo hi g) (h0 : 0 ≤ lo) (j : Nat) : g j = nI (g j).toInt.toNat := by
  have h1 := (h j).1
  have e : ((g j).toInt.toNat : Int) = (g j).toInt := Int.toNat_of_nonneg (by omega)
  show g j = Int32.ofInt ((g j).toInt.toNat : Int)
  rw [e, zoi]
theorem bkAt_of {ρ : Nat → Nat} {w : zW} (hw : CI ρ w) {q : Nat} (hq : ρ q = 20) : ∃ gk gs gi gn, bkAt w q gk gs gi gn := by
  obtain ⟨x0, x1, x2, hO, _, _, _, r1, r2, r3, r4⟩ := CI_o20 hw hq
  obtain ⟨gk, k1, k2⟩ := CI_ar hw (q := q + 1) (by rw [r1]; rfl)
  obtain ⟨gs, s1, s2⟩ := CI_ar hw (q := q + 2) (by rw [r2]; rfl)
  obtain ⟨gi, i1, i2⟩ := CI_ar hw (q := q + 3) (by rw [r3]; rfl)
  obtain ⟨gn, n1, n2⟩ := CI_ar hw (q := q + 4) (by rw [r4]; rfl)
  obtain ⟨_, gk', gn', a1, a2, a3⟩ := hw.2.2 (q + 3) r3
  rw [i1] at a1
  rw [show q + 3 + 1 = q + 4 from rfl, n1] at a2
  cases a1
  cases a2
  exact ⟨gk, gs, _, _, ⟨x0, x1, x2, hO⟩, k1, s1, i1, n1, k2, s2, i2, n2, a3⟩
theorem b_shifted {w : zW} {q : Nat} {gk gs gi gn : Nat → Int32} (hb : bkAt w q gk gs gi gn) (d B l k : Nat) (hv : vB l B) (hk : k < 4) (Q : zQ) (h : Q (some (.int (nI (fSh B (k ^^^ (gk k).toInt.toNat) k l)))) w) : zCl zTab (d + 1) iX0_shifted [.ref q, .int (nI B), .int (nI l), .int (nI k)] w 0 0 Q := by
  obtain ⟨x0, x1, x2, hO⟩ := hb.ob
  have hg := nI_g hb.bk (by decide) k
  have hc4 : (gk k).toInt.toNat < 4 := by have := hb.bk k; omega
  generalize (gk k).toInt.toNat = c0 at hg hc4 h
  have hc : k ^^^ c0 < 4 := Nat.xor_lt_two_pow (n := 2) hk hc4
  have hl := hv.1
  have hB := (vB_lt hv).1
  refine zCl_i (M := kX0_shifted) rfl (Nat.le_of_ble_eq_true rfl) fun R hR => ?_
  have loop : ∀ (N i : Nat), i ≤ l → l - i < N → R (16, [some (.ref q), some (.int (nI B)), some (.int (nI l)), some (.int (nI k)), some (.int (nI k ^^^ nI c0)), some (.int (nI (fSh B (k ^^^ c0) k i))), some (.int (nI i))], [], w, 0, 0) := by
    intro N
    induction N with
    | zero => intros; omega
    | succ N ih =>
      intro i h1 hN
      iterate 2 refine hR (?_ : R (_, _, _, _, _, _))
      refine hR (pk_le l i (fun z => ?_) (fun z => ?_) rfl rfl)
      · refine hR (?_ : R (_, _, _, _, _, _))
        have e : i = l := by omega
        subst e
        exact hR (zret_i rfl (Nat.le_refl _) trivial h)
      · iterate 8 refine hR (?_ : R (_, _, _, _, _, _))
        have e2 : nI i + Int32.ofInt 1 = nI (i + 1) := by rw [nI1, nI_add]
        have key := ih (i + 1) (by omega) (by omega)
        have hm : B / 4 ^ i % 4 < 4 := Nat.mod_lt _ (by decide)
        refine hR (And.symm (pk_eq (B / 4 ^ i % 4) k (fun z2 => ?_) (fun z2 => ?_) (n_w (by omega) (by omega)) rfl))
        rotate_left
        · iterate 2 refine hR (?_ : R (_, _, _, _, _, _))
          have e1 : fSh B (k ^^^ c0) k (i + 1) = fSh B (k ^^^ c0) k i := by rw [fSh, if_neg z2]
          rw [← e2, e1] at key
          exact key
        · iterate 10 refine hR (?_ : R (_, _, _, _, _, _))
          have e1 : nI (fSh B (k ^^^ c0) k i) ^^^ ((nI k ^^^ nI c0) <<< (Int32.ofInt 2 * nI i &&& 31)) = nI (fSh B (k ^^^ c0) k (i + 1)) := by
            rw [n_xor k c0, n_a2, n_sl (by omega) (n_ml (by omega) (by omega)), n_xor, fSh, if_pos z2]
          rw [← e2, ← e1] at key
          exact key
  iterate 2 refine hR (?_ : R (_, _, _, _, _, _))
  refine hR (c_get hO rfl ?_)
  refine hR (?_ : R (_, _, _, _, _, _))
  refine hR (c_aldN hb.kin hk (by decide) hg ?_)
  iterate 6 refine hR (?_ : R (_, _, _, _, _, _))
  exact loop (l + 1) 0 (by omega) (by omega)
noncomputable def fOn (gk : Nat → Int32) (B l : Nat) (κ : Int) (k : Nat) : Nat :=
  if κ = 0 then fSh B (k ^^^ (gk k).toInt.toNat) k l
  else if κ = 1 then (if k ≤ l then fDr B (l - k) else B)
  else if κ = 2 then (if l < k ∨ 6 ≤ l then B else fDb B (l - k))
  else if κ = 3 then (if k < l then fSw B (l - k - 1) else B)
  else fTu B l
noncomputable def fOl (l : Nat) (κ : Int) (k : Nat) : Nat := if κ = 1 ∧ k ≤ l then l - 1 else if κ = 2 ∧ k ≤ l ∧ l < 6 then l + 1 else l
theorem vB_fOn {gk : Nat → Int32} (hk3 : zB 0 3 gk) {B l k : Nat} {κ : Int} (hv : vB l B) (h0 : κ = 0 → k ≤ 3) (h1 : 1 ≤ κ → κ ≤ 3 → 1 ≤ k) : vB (fOl l κ k) (fOn gk B l κ k) := by
  have hl := hv.1
  unfold fOl fOn
  by_cases c0 : κ = 0
  · rw [if_neg (by omega), if_neg (by omega), if_pos c0]
    refine vB_fSh hv (Nat.xor_lt_two_pow (n := 2) ?_ ?_) l (Nat.le_refl _)
    · have := h0 c0; omega
    · have := hk3 k; omega
  rw [if_neg c0]
  by_cases c1 : κ = 1
  · rw [if_pos c1]
    have := h1 (by omega) (by omega)
    by_cases c : k ≤ l
    · rw [if_pos ⟨c1, c⟩, if_pos c]
      exact vB_fDr hv (by omega)
    · rw [if_neg (by omega), if_neg (by omega), if_neg c]
      exact hv
  rw [if_neg (fun z => c1 z.1), if_neg c1]
  by_cases c2 : κ = 2
  · rw [if_pos c2]
    have := h1 (by omega) (by omega)
    by_cases c : k ≤ l ∧ l < 6
    · rw [if_pos ⟨c2, c⟩, if_neg (by omega)]
      exact vB_fDb hv (by omega) c.2
    · rw [if_neg (by omega), if_pos (by omega)]
      exact hv
  rw [if_neg (fun z => c2 z.1), if_neg c2]
  by_cases c3 : κ = 3
  · rw [if_pos c3]
    have := h1 (by omega) (by omega)
    split
    · exact vB_fSw hv (by omega)
    · exact hv
  · rw [if_neg c3]
    exact vB_fTu l hl
theorem b_stepOn {w : zW} {q : Nat} {gk gs gi gn : Nat → Int32} (hb : bkAt w q gk gs gi gn) (d B l k : Nat) (κ : Int) (hκ : 0 ≤ κ ∧ κ ≤ 4) (hv : vB l B) (hk : k ≤ 6) (hk0 : κ = 0 → k ≤ 3) (hk1 : 1 ≤ κ → κ ≤ 3 → 1 ≤ k) (Q : zQ) (h : Q (some (.int (nI (fOn gk B l κ k)))) w) : zCl zTab (d + 2) iX0_stepOn [.ref q, .int (nI B), .int (Int32.ofInt κ), .int (nI k)] w 0 0 Q := by
  obtain ⟨x0, x1, x2, hO⟩ := hb.ob
  have hl := hv.1
  have hB := (vB_lt hv).1
  have h2 : ∀ z, z = nI (fOn gk B l κ k) → Q (some (.int z)) w := fun z hz => by rw [hz]; exact h
  refine zCl_i (M := kX0_stepOn) rfl (Nat.le_of_ble_eq_true rfl) fun R hR => ?_
  refine hR (?_ : R (_, _, _, _, _, _))
  refine hR (zcall_i 0 0 (Nat.le_of_ble_eq_true rfl) (Nat.le_of_ble_eq_true rfl) (b_lengthOfBits _ _ B l hv _ ?_))
  iterate 2 refine hR (?_ : R (_, _, _, _, _, _))
  refine hR (?_ : _ ∧ _)
  rw [zti (e := κ) (by omega) (by omega)]
  refine ⟨fun hs => ?_, fun hs => ?_⟩
  · have e4 : κ = 4 := by omega
    iterate 2 refine hR (?_ : R (_, _, _, _, _, _))
    refine hR (zcall_i 0 0 (Nat.le_of_ble_eq_true rfl) (Nat.le_of_ble_eq_true rfl) (b_turned _ _ B l hB hl _ ?_))
    refine hR (zret_i rfl (Nat.le_refl _) trivial (h2 _ ?_))
    unfold fOn
    rw [if_neg (by omega), if_neg (by omega), if_neg (by omega), if_neg (by omega)]
  · have hd : κ = 0 ∨ κ = 1 ∨ κ = 2 ∨ κ = 3 := by omega
    rcases hd with e | e | e | e
    · refine ⟨29, by rw [e]; rfl, (?_ : R (_, _, _, _, _, _))⟩
      iterate 4 refine hR (?_ : R (_, _, _, _, _, _))
      refine hR (c_obj hO (zcall_i 0 0 (Nat.le_of_ble_eq_true rfl) (Nat.le_of_ble_eq_true rfl) (b_shifted hb _ B l k hv (by have := hk0 e; omega) _ ?_)))
      refine hR (zret_i rfl (Nat.le_refl _) trivial (h2 _ ?_))
      unfold fOn
      rw [if_pos e]
    · refine ⟨38, by rw [e]; rfl, (?_ : R (_, _, _, _, _, _))⟩
      have := hk1 (by omega) (by omega)
      iterate 2 refine hR (?_ : R (_, _, _, _, _, _))
      refine hR (pk_le k l (fun z => ?_) (fun z => ?_) rfl rfl)
      · iterate 4 refine hR (?_ : R (_, _, _, _, _, _))
        have es : nI l - nI k = nI (l - k) := pk_sub z
        refine hR ?_
        rw [es]
        refine zcall_i 0 0 (Nat.le_of_ble_eq_true rfl) (Nat.le_of_ble_eq_true rfl) (b_dropped _ _ B (l - k) hB (by omega) _ ?_)
        refine hR (zret_i rfl (Nat.le_refl _) trivial (h2 _ ?_))
        unfold fOn
        rw [if_neg (by omega), if_pos e, if_pos z]
      · iterate 2 refine hR (?_ : R (_, _, _, _, _, _))
        refine hR (zret_i rfl (Nat.le_refl _) trivial (h2 _ ?_))
        unfold fOn
        rw [if_neg (by omega), if_pos e, if_neg (by omega)]
    · refine ⟨57, by rw [e]; rfl, (?_ : R (_, _, _, _, _, _))⟩
      have := hk1 (by omega) (by omega)
      iterate 2 refine hR (?_ : R (_, _, _, _, _, _))
      have stay : l < k ∨ 6 ≤ l → R (77, [some (.ref q), some (.int (nI B)), some (.int (Int32.ofInt κ)), some (.int (nI k)), some (.int (nI l))], [], w, 0, 0) := by
        intro z
        iterate 2 refine hR (?_ : R (_, _, _, _, _, _))
        refine hR (zret_i rfl (Nat.le_refl _) trivial (h2 _ ?_))
        unfold fOn
        rw [if_neg (by omega), if_neg (by omega), if_pos e, if_pos z]
      refine hR (pk_lt l k (fun z => stay (.inl z)) (fun z => ?_) rfl rfl)
      iterate 2 refine hR (?_ : R (_, _, _, _, _, _))
      refine hR (pk_lt l 6 (fun z2 => ?_) (fun z2 => stay (.inr z2)) rfl nI6)
      iterate 4 refine hR (?_ : R (_, _, _, _, _, _))
      have es : nI l - nI k = nI (l - k) := pk_sub z
      refine hR ?_
      rw [es]
      refine zcall_i 0 0 (Nat.le_of_ble_eq_true rfl) (Nat.le_of_ble_eq_true rfl) (b_doubled _ _ B (l - k) hB (by omega) _ ?_)
      refine hR (zret_i rfl (Nat.le_refl _) trivial (h2 _ ?_))
      unfold fOn
      rw [if_neg (by omega), if_neg (by omega), if_pos e, if_neg (by omega)]
    · refine ⟨83, by rw [e]; rfl, (?_ : R (_, _, _, _, _, _))⟩
      have := hk1 (by omega) (by omega)
      iterate 2 refine hR (?_ : R (_, _, _, _, _, _))
      refine hR (pk_lt k l (fun z => ?_) (fun z => ?_) rfl rfl)
      · iterate 6 refine hR (?_ : R (_, _, _, _, _, _))
        have es : nI l - nI k - Int32.ofInt 1 = nI (l - k - 1) := by rw [nI1, pk_sub (by omega), pk_sub (by omega)]
        refine hR ?_
        rw [es]
        refine zcall_i 0 0 (Nat.le_of_ble_eq_true rfl) (Nat.le_of_ble_eq_true rfl) (b_swapped _ _ B (l - k - 1) hB (by omega) _ ?_)
        refine hR (zret_i rfl (Nat.le_refl _) trivial (h2 _ ?_))
        unfold fOn
        rw [if_neg (by omega), if_neg (by omega), if_neg (by omega), if_pos e, if_pos z]
      · iterate 2 refine hR (?_ : R (_, _, _, _, _, _))
        refine hR (zret_i rfl (Nat.le_refl _) trivial (h2 _ ?_))
        unfold fOn
        rw [if_neg (by omega), if_neg (by omega), if_neg (by omega), if_pos e, if_neg (by omega)]
/-- the bits and the length behind i steps of a reader's -/
noncomputable def fRd (gk gi gn : Nat → Int32) (r : Nat) (B l : Nat) : Nat → Nat × Nat
  | 0 => (B, l)
  | i + 1 => (fOn gk (fRd gk gi gn r B l i).1 (fRd gk gi gn r B l i).2 (gi (r * 4 + i)).toInt (gn (r * 4 + i)).toInt.toNat, fOl (fRd gk gi gn r B l i).2 (gi (r * 4 + i)).toInt (gn (r * 4 + i)).toInt.toNat)
theorem vB_fRd {w : zW} {q : Nat} {gk gs gi gn : Nat → Int32} (hb : bkAt w q gk gs gi gn) {r B l : Nat} (hr : r < 5) (hv : vB l B) : ∀ i, i ≤ 4 → vB (fRd gk gi gn r B l i).2 (fRd gk gi gn r B l i).1
  | 0, _ => hv
  | i + 1, hi => by
    have hq := hb.rel (r * 4 + i) (by omega)
    have hn := hb.bn (r * 4 + i)
    exact vB_fOn hb.bk (vB_fRd hb hr hv i (by omega)) (fun z => by have := hq.1 z; omega) (fun z1 z2 => by have := hq.2 z1 z2; omega)
noncomputable def fBy (gk gs gi gn : Nat → Int32) (r t : Nat) : Nat := fNo (fRd gk gi gn r (tB t) (tLen t) (gs r).toInt.toNat).1 (fRd gk gi gn r (tB t) (tLen t) (gs r).toInt.toNat).2
theorem fBy_lt {w : zW} {q : Nat} {gk gs gi gn : Nat → Int32} (hb : bkAt w q gk gs gi gn) {r t : Nat} (hr : r < 5) (ht : t < 5461) : fBy gk gs gi gn r t ≤ 5460 := by
  refine fNo_lt (vB_fRd hb hr (vB_tB ht) _ ?_)
  have := hb.bs r
  omega
theorem b_readBy {w : zW} {q : Nat} {gk gs gi gn : Nat → Int32} (hb : bkAt w q gk gs gi gn) (d r t : Nat) (hr : r < 5) (ht : t < 5461) (Q : zQ) (h : Q (some (.int (nI (fBy gk gs gi gn r t)))) w) : zCl zTab (d + 3) iX0_readBy [.ref q, .int (nI r), .int (nI t)] w 0 0 Q := by
  obtain ⟨x0, x1, x2, hO⟩ := hb.ob
  have hs := hb.bs r
  have eS := nI_g hb.bs (by decide) r
  unfold fBy at h
  generalize hn : (gs r).toInt.toNat = n at h eS
  have hn4 : n ≤ 4 := by omega
  have hv0 := vB_tB ht
  refine zCl_i (M := kX0_readBy) rfl (Nat.le_of_ble_eq_true rfl) fun R hR => ?_
  have loop : ∀ (N i : Nat) (o : Option Value), zc2 o = false → i ≤ n → n - i < N → R (8, [some (.ref q), some (.int (nI r)), some (.int (nI t)), some (.int (nI (fRd gk gi gn r (tB t) (tLen t) i).1)), some (.int (nI i)), o], [], w, 0, 0) := by
    intro N
    induction N with
    | zero => intros; omega
    | succ N ih =>
      intro i o ho h1 hN
      have hvi := vB_fRd hb hr hv0 i (by omega)
      iterate 2 refine hR (?_ : R (_, _, _, _, _, _))
      refine hR (c_get hO rfl ?_)
      refine hR (?_ : R (_, _, _, _, _, _))
      refine hR (c_aldN hb.steps (by omega) (by decide) eS ?_)
      refine hR (pk_le n i (fun z => ?_) (fun z => ?_) rfl rfl)
      · refine hR (?_ : R (_, _, _, _, _, _))
        have e : i = n := by omega
        subst e
        refine hR (zcall_i 0 0 (Nat.le_of_ble_eq_true rfl) (Nat.le_of_ble_eq_true rfl) (b_numberOfBits _ _ _ _ hvi _ ?_))
        exact hR (zret_i rfl (Nat.le_refl _) trivial h)
      · have ej : nI r * Int32.ofInt 4 + nI i = nI (r * 4 + i) := by rw [nI4, pk_mul, nI_add]
        have key : ∀ y : Int32, y = nI (r * 4 + i) → R (27, [some (.ref q), some (.int (nI r)), some (.int (nI t)), some (.int (nI (fRd gk gi gn r (tB t) (tLen t) i).1)), some (.int (nI i)), some (.int y)], [], w, 0, 0) := by
          intro y hy
          subst hy
          have hrel := hb.rel (r * 4 + i) (by omega)
          have hi4 := hb.bi (r * 4 + i)
          have hn6 := hb.bn (r * 4 + i)
          iterate 3 refine hR (?_ : R (_, _, _, _, _, _))
          refine hR (c_get hO rfl ?_)
          refine hR (?_ : R (_, _, _, _, _, _))
          refine hR (c_aldN hb.kinds (by omega) (by decide) (zoi (gi (r * 4 + i))).symm ?_)
          refine hR (?_ : R (_, _, _, _, _, _))
          refine hR (c_get hO rfl ?_)
          refine hR (?_ : R (_, _, _, _, _, _))
          refine hR (c_aldN hb.nums (by omega) (by decide) (nI_g hb.bn (by decide) (r * 4 + i)) ?_)
          refine hR (c_obj hO (zcall_i 0 0 (Nat.le_of_ble_eq_true rfl) (Nat.le_of_ble_eq_true rfl) (b_stepOn hb _ _ _ (gn (r * 4 + i)).toInt.toNat (gi (r * 4 + i)).toInt hi4 hvi (by omega) (fun z => by have := hrel.1 z; omega) (fun z1 z2 => by have := hrel.2 z1 z2; omega) _ ?_)))
          have k2 := ih (i + 1) (some (.int (nI (r * 4 + i)))) rfl (by omega) (by omega)
          have e2 : nI i + Int32.ofInt 1 = nI (i + 1) := by rw [nI1, nI_add]
          rw [← e2] at k2
          iterate 3 refine hR (?_ : R (_, _, _, _, _, _))
          exact k2
        have k3 := key _ ej
        iterate 6 refine hR (?_ : R (_, _, _, _, _, _))
        exact k3
  refine hR (?_ : R (_, _, _, _, _, _))
  refine hR (zcall_i 0 0 (Nat.le_of_ble_eq_true rfl) (Nat.le_of_ble_eq_true rfl) (r_bitsOf _ _ t rfl ht _ _ ?_))
  iterate 3 refine hR (?_ : R (_, _, _, _, _, _))
  exact loop (n + 1) 0 none rfl (by omega) (by omega)
theorem c_readBy {ρ : Nat → Nat} {w : zW} (d b : Nat) (a1 a2 : Int) (hw : CI ρ w) (hρb : ρ b = 20) (hr0 : 0 ≤ a1 ∧ a1 ≤ 4) (hr1 : 0 ≤ a2 ∧ a2 ≤ 5460) (Q : zQ) (h : ∀ (v : Int), (0 ≤ v ∧ v ≤ 5460) → Q (some (.int (Int32.ofInt v))) w) : zCl zTab (d + 3) iX0_readBy [.ref b, .int (Int32.ofInt a1), .int (Int32.ofInt a2)] w 0 0 Q := by
  obtain ⟨gk, gs, gi, gn, hb⟩ := bkAt_of hw hρb
  obtain ⟨r, rfl⟩ := Int.eq_ofNat_of_zero_le hr0.1
  obtain ⟨t, rfl⟩ := Int.eq_ofNat_of_zero_le hr1.1
  have hl := fBy_lt hb (r := r) (t := t) (by omega) (by omega)
  exact b_readBy hb d r t (by omega) (by omega) Q (h (fBy gk gs gi gn r t : Nat) ⟨by omega, by omega⟩)
theorem c_lengthOf (w : zW) (d : Nat) (a1 : Int) (hr0 : 0 ≤ a1 ∧ a1 ≤ 5460) (Q : zQ) (h : ∀ (v : Int), (v = (tLen a1.toNat : Int) ∧ 0 ≤ v ∧ v ≤ 6) → Q (some (.int (Int32.ofInt v))) w) : zCl zTab (d + 1) iX11_lengthOf [.int (Int32.ofInt a1)] w 0 0 Q := by
  obtain ⟨t, rfl⟩ := Int.eq_ofNat_of_zero_le hr0.1
  have hl := tLen_le t
  exact r_lengthOf d _ t rfl (by omega) w Q (h (tLen t : Nat) ⟨rfl, by omega, by omega⟩)
theorem c_bitsOf (w : zW) (d : Nat) (a1 : Int) (hr0 : 0 ≤ a1 ∧ a1 ≤ 5460) (Q : zQ) (h : ∀ (v : Int), (v = (tB a1.toNat : Int) ∧ 0 ≤ v ∧ v ≤ 8191) → Q (some (.int (Int32.ofInt v))) w) : zCl zTab (d + 2) iX11_bitsOf [.int (Int32.ofInt a1)] w 0 0 Q := by
  obtain ⟨t, rfl⟩ := Int.eq_ofNat_of_zero_le hr0.1
  have hl := tSh_le t (by omega)
  exact r_bitsOf d _ t rfl (by omega) w Q (h (tB t : Nat) ⟨rfl, by omega, by omega⟩)
theorem c_wordOfBits (w : zW) (d : Nat) (a1 a2 : Int) (hr0 : 0 ≤ a1 ∧ a1 ≤ 2147483647) (hr1 : 0 ≤ a2 ∧ a2 ≤ 6) (Q : zQ) (h : ∀ (v : Int), (0 ≤ v ∧ v ≤ 3) → Q (some (.int (Int32.ofInt v))) w) : zCl zTab (d + 1) iX11_wordOfBits [.int (Int32.ofInt a1), .int (Int32.ofInt a2)] w 0 0 Q := by
  obtain ⟨t, rfl⟩ := Int.eq_ofNat_of_zero_le hr0.1
  obtain ⟨j, rfl⟩ := Int.eq_ofNat_of_zero_le hr1.1
  have hm : t / 4 ^ j % 4 < 4 := Nat.mod_lt _ (by decide)
  exact r_wordOfBits d _ _ t j rfl (by omega) rfl (by omega) w Q (h (t / 4 ^ j % 4 : Nat) ⟨by omega, by omega⟩)
theorem c_wordAt (w : zW) (d : Nat) (a1 a2 : Int) (hr0 : 0 ≤ a1 ∧ a1 ≤ 5460) (hr1 : 0 ≤ a2 ∧ a2 < (tLen a1.toNat : Int)) (Q : zQ) (h : ∀ (v : Int), (0 ≤ v ∧ v ≤ 3) → Q (some (.int (Int32.ofInt v))) w) : zCl zTab (d + 3) iX11_wordAt [.int (Int32.ofInt a1), .int (Int32.ofInt a2)] w 0 0 Q := by
  obtain ⟨t, rfl⟩ := Int.eq_ofNat_of_zero_le hr0.1
  obtain ⟨j, rfl⟩ := Int.eq_ofNat_of_zero_le hr1.1
  have hm : tW t j < 4 := Nat.mod_lt _ (by decide)
  exact r_wordAt d _ _ t j rfl (by omega) rfl (by have := hr1.2; simpa using this) w Q (h (tW t j : Nat) ⟨by omega, by omega⟩)
theorem c_driftOf (w : zW) (d : Nat) (a1 a2 : Int) (hr0 : 0 ≤ a1 ∧ a1 ≤ 5460) (hr1 : 0 ≤ a2 ∧ a2 ≤ 5460) (Q : zQ) (h : ∀ (v : Int), (-2147483648 ≤ v ∧ v ≤ 2147483647) → Q (some (.int (Int32.ofInt v))) w) : zCl zTab (d + 3) iX11_driftOf [.int (Int32.ofInt a1), .int (Int32.ofInt a2)] w 0 0 Q := by
  obtain ⟨t, rfl⟩ := Int.eq_ofNat_of_zero_le hr0.1
  obtain ⟨j, rfl⟩ := Int.eq_ofNat_of_zero_le hr1.1
  refine r_driftOf d _ _ t j rfl (by omega) rfl (by omega) w Q ?_
  have := h (nI (eD (ue t) (ue j) (tLen t) (tLen j))).toInt (zrg _)
  rw [zoi] at this
  exact this
/-- the object's first field is not null -/
noncomputable def nn (w : zW) (p : Nat) : Prop := ∀ ci fs, zix w p = some (.inr (ci, .null :: fs)) → False
theorem nn_some {w : zW} {p ci : Nat} {y : Option Nat} {fs : List Value} (h : nn w p) (hO : zix w p = some (.inr (ci, va_rf y :: fs))) : ∃ z, y = some z := by
  cases y with
  | none => exact (h _ _ hO).elim
  | some z => exact ⟨z, rfl⟩
theorem nn_of {w : zW} {p ci z : Nat} {fs : List Value} (hO : zix w p = some (.inr (ci, .ref z :: fs))) : nn w p := fun _ _ h => by rw [hO] at h; cases h
theorem nn_eq {w w1 : zW} {p : Nat} (e : zix w1 p = zix w p) (h : nn w p) : nn w1 p := fun ci fs h2 => h ci fs (by rw [← e]; exact h2)
theorem c_after {ρ : Nat → Nat} {w : zW} (d p : Nat) (a1 a2 : Int) (hw : CI ρ w) (hρp : ρ p = 50) (hr0 : 0 ≤ a1 ∧ a1 ≤ 4) (hr1 : 0 ≤ a2 ∧ a2 ≤ 5460) (Q : zQ) (h : ∀ (v : Int) (w' : zW), CI ρ w' → wfR [51] ρ w w' → (0 ≤ v ∧ v ≤ 5460) → Q (some (.int (Int32.ofInt v))) w') : zCl zTab (d + 4) iX4_after [.ref p, .int (Int32.ofInt a1), .int (Int32.ofInt a2)] w 0 0 Q := by
  obtain ⟨b, z2, z3, hO, hρb, hk1, _, _, _⟩ := CI_o50 hw hρp
  obtain ⟨g, hg, hB⟩ := CI_ar hw (q := p + 1) (by rw [hk1]; rfl)
  obtain ⟨x0, x1, x2, hOb, _⟩ := CI_o20 hw hρb
  refine zCl_i (M := kX4_after) rfl (Nat.le_of_ble_eq_true rfl) fun R hR => ?_
  have tail : ∀ (w1 : zW) (g1 : Nat → Int32), CI ρ w1 → wfR [51] ρ w w1 → zix w1 (p + 1) = some (.inl (1, 27305, .inl g1)) → (0 ≤ (g1 (a1 * 5461 + a2).toNat).toInt ∧ (g1 (a1 * 5461 + a2).toNat).toInt ≤ 5460) → R (33, [some (.ref p), some (.int (Int32.ofInt a1)), some (.int (Int32.ofInt a2)), some (.int (Int32.ofInt (a1 * 5461 + a2)))], [], w1, 0, 0) := by
    intro w1 g1 hw1 f1 hg1 hb
    have hO1 := (f1.2 p (by rw [hρp]; decide)).trans hO
    refine hR (?_ : R (_, _, _, _, _, _))
    refine hR (c_get hO1 rfl ?_)
    refine hR (?_ : R (_, _, _, _, _, _))
    refine hR (c_aldE hg1 (by omega) (by omega) (by omega) fun v e hv => ?_)
    exact hR (zret_i rfl (Nat.le_refl _) trivial (h _ _ hw1 f1 (by rw [e]; exact hb)))
  refine hR (?_ : R (_, _, _, _, _, _))
  refine hR (t_c 5461 (by decide) ?_)
  refine hR (t_mul ?_)
  refine hR (?_ : R (_, _, _, _, _, _))
  refine hR (t_add ?_)
  iterate 2 refine hR (?_ : R (_, _, _, _, _, _))
  refine hR (c_get hO rfl ?_)
  refine hR (?_ : R (_, _, _, _, _, _))
  refine hR (c_aldE hg (by omega) (by omega) (by omega) fun v e hv => ?_)
  refine hR (?_ : R (_, _, _, _, _, _))
  have hBv := hB (a1 * 5461 + a2).toNat
  refine hR (j_ne (by omega) (by omega) (fun hc => ?_) (fun hc => ?_))
  · exact tail w g hw (wfR_rf _ _ _) hg (by omega)
  · refine hR (?_ : R (_, _, _, _, _, _))
    refine hR (c_get hO rfl ?_)
    iterate 2 refine hR (?_ : R (_, _, _, _, _, _))
    refine hR (c_get hO rfl ?_)
    iterate 2 refine hR (?_ : R (_, _, _, _, _, _))
    refine hR (c_obj hOb (zcall_i 0 0 (Nat.le_of_ble_eq_true rfl) (Nat.le_of_ble_eq_true rfl) (c_readBy _ b a1 a2 hw hρb hr0 hr1 _ fun v2 hv2 => ?_)))
    refine (?_ : R (_, _, .int (Int32.ofInt v2) :: .int (Int32.ofInt (a1 * 5461 + a2)) :: .ref (p + 1) :: [], w, 0, 0))
    refine hR (c_astE hw hg hB (by rw [hk1]; rfl) ⟨by rw [hk1]; decide, by rw [hk1]; decide⟩ (by omega) (by omega) (by omega) (by omega) (by omega) fun w1 hw1 f1 hg1 hB1 => ?_)
    refine tail w1 _ hw1 (wfR_st (wfR_rf _ _ _) f1 (by rw [hk1]; decide)) hg1 ?_
    rw [pk_us, zti (by omega) (by omega)]
    exact hv2
theorem c_timesOf (w : zW) (d : Nat) (a1 a2 : Int) (hr0 : -2147483648 ≤ a1 ∧ a1 ≤ 2147483647) (hr1 : 0 ≤ a2 ∧ a2 ≤ 5460) (Q : zQ) (h : ∀ (v : Int), (-2147483648 ≤ v ∧ v ≤ 2147483647) → Q (some (.int (Int32.ofInt v))) w) : zCl zTab (d + 3) iX11_timesOf [.int (Int32.ofInt a1), .int (Int32.ofInt a2)] w 0 0 Q := by
  refine zCl_i (M := kX11_timesOf) rfl (Nat.le_of_ble_eq_true rfl) fun R hR => ?_
  refine hR (?_ : R (_, _, _, _, _, _))
  refine hR (zcall_i 0 0 (Nat.le_of_ble_eq_true rfl) (Nat.le_of_ble_eq_true rfl) (c_bitsOf _ _ a2 (by omega) _ fun v1 hp3 => ?_))
  refine (?_ : R (_, _, (.int (Int32.ofInt v1)) :: [], w, 0, 0))
  iterate 2 refine hR (?_ : R (_, _, _, _, _, _))
  refine hR (zcall_i 0 0 (Nat.le_of_ble_eq_true rfl) (Nat.le_of_ble_eq_true rfl) (c_lengthOf _ _ a2 (by omega) _ fun v4 hp6 => ?_))
  refine (?_ : R (_, _, (.int (Int32.ofInt v4)) :: [], w, 0, 0))
  iterate 5 refine hR (?_ : R (_, _, _, _, _, _))
  have lp16 : ∀ (N : Nat) (t : Int) (i : Int), (0 ≤ t ∧ t ≤ 6) → (0 ≤ i ∧ i ≤ 6) → (t ≤ i) → (7 - i < N) → R (16, [some (.int (Int32.ofInt a1)), some (.int (Int32.ofInt a2)), some (.int (Int32.ofInt v1)), some (.int (Int32.ofInt v4)), some (.int (Int32.ofInt t)), some (.int (Int32.ofInt i))], [], w, 0, 0) := by
    intro N
    induction N with
    | zero => intros; omega
    | succ N ih16 =>
      intro t i hf0_16 hf1_16 hp0_16 hN16
      iterate 2 refine hR (?_ : R (_, _, _, _, _, _))
      refine hR (j_ge (by omega) (by omega) (fun hc7 => ?_) (fun hc7 => ?_))
      · skip
        refine hR (?_ : R (_, _, _, _, _, _))
        exact hR (zret_i rfl (Nat.le_refl _) trivial (h _ (by omega)))
      iterate 2 refine hR (?_ : R (_, _, _, _, _, _))
      refine hR (zcall_i 0 0 (Nat.le_of_ble_eq_true rfl) (Nat.le_of_ble_eq_true rfl) (c_wordOfBits _ _ v1 i (by omega) (by omega) _ fun v8 hp10 => ?_))
      refine (?_ : R (_, _, (.int (Int32.ofInt v8)) :: [], w, 0, 0))
      refine hR (?_ : R (_, _, _, _, _, _))
      refine hR (j_ne (by omega) (by omega) (fun hc11 => ?_) (fun hc11 => ?_))
      · skip
        refine hR (t_inc ?_)
        refine hR (?_ : R (_, _, _, _, _, _))
        exact ih16 _ _ (by omega) (by omega) (by omega) (by omega)
      refine hR (t_inc ?_)
      refine hR (t_inc ?_)
      refine hR (?_ : R (_, _, _, _, _, _))
      exact ih16 _ _ (by omega) (by omega) (by omega) (by omega)
  exact lp16 400000000 _ _ (by omega) (by omega) (by omega) (by omega)
theorem c_isLeftOf (w : zW) (d : Nat) (a1 a2 : Int) (hr0 : 0 ≤ a1 ∧ a1 ≤ 5460) (hr1 : 0 ≤ a2 ∧ a2 ≤ 5460) (Q : zQ) (h : ∀ (v : Int), (v = 0 ∨ v = 1) → Q (some (.int (Int32.ofInt v))) w) : zCl zTab (d + 4) iX11_isLeftOf [.int (Int32.ofInt a1), .int (Int32.ofInt a2)] w 0 0 Q := by
  refine zCl_i (M := kX11_isLeftOf) rfl (Nat.le_of_ble_eq_true rfl) fun R hR => ?_
  refine hR (?_ : R (_, _, _, _, _, _))
  refine hR (zcall_i 0 0 (Nat.le_of_ble_eq_true rfl) (Nat.le_of_ble_eq_true rfl) (c_lengthOf _ _ a1 (by omega) _ fun v1 hp3 => ?_))
  refine (?_ : R (_, _, (.int (Int32.ofInt v1)) :: [], w, 0, 0))
  iterate 2 refine hR (?_ : R (_, _, _, _, _, _))
  refine hR (zcall_i 0 0 (Nat.le_of_ble_eq_true rfl) (Nat.le_of_ble_eq_true rfl) (c_lengthOf _ _ a2 (by omega) _ fun v4 hp6 => ?_))
  refine (?_ : R (_, _, (.int (Int32.ofInt v4)) :: [], w, 0, 0))
  iterate 5 refine hR (?_ : R (_, _, _, _, _, _))
  have lp16 : ∀ (N : Nat) (t : Int) (i : Int), (0 ≤ t ∧ t ≤ 6) → (0 ≤ i ∧ i ≤ 6) → (t ≤ (tLen a1.toNat : Int)) → (7 - i < N) → R (16, [some (.int (Int32.ofInt a1)), some (.int (Int32.ofInt a2)), some (.int (Int32.ofInt v1)), some (.int (Int32.ofInt v4)), some (.int (Int32.ofInt t)), some (.int (Int32.ofInt i))], [], w, 0, 0) := by
    intro N
    induction N with
    | zero => intros; omega
    | succ N ih16 =>
      intro t i hf0_16 hf1_16 hp0_16 hN16
      iterate 2 refine hR (?_ : R (_, _, _, _, _, _))
      refine hR (j_ge (by omega) (by omega) (fun hc7 => ?_) (fun hc7 => ?_))
      · skip
        iterate 2 refine hR (?_ : R (_, _, _, _, _, _))
        refine hR (j_ne (by omega) (by omega) (fun hc8 => ?_) (fun hc8 => ?_))
        · skip
          refine hR (?_ : R (_, _, _, _, _, _))
          exact hR (zret_i rfl (Nat.le_refl _) (zbo (by omega)) (h _ (by omega)))
        iterate 2 refine hR (?_ : R (_, _, _, _, _, _))
        exact hR (zret_i rfl (Nat.le_refl _) (zbo (by omega)) (h _ (by omega)))
      iterate 2 refine hR (?_ : R (_, _, _, _, _, _))
      refine hR (j_ge (by omega) (by omega) (fun hc9 => ?_) (fun hc9 => ?_))
      · skip
        iterate 2 refine hR (?_ : R (_, _, _, _, _, _))
        refine hR (j_ne (by omega) (by omega) (fun hc10 => ?_) (fun hc10 => ?_))
        · skip
          refine hR (?_ : R (_, _, _, _, _, _))
          exact hR (zret_i rfl (Nat.le_refl _) (zbo (by omega)) (h _ (by omega)))
        iterate 2 refine hR (?_ : R (_, _, _, _, _, _))
        exact hR (zret_i rfl (Nat.le_refl _) (zbo (by omega)) (h _ (by omega)))
      iterate 2 refine hR (?_ : R (_, _, _, _, _, _))
      refine hR (zcall_i 0 0 (Nat.le_of_ble_eq_true rfl) (Nat.le_of_ble_eq_true rfl) (c_wordAt _ _ a2 i (by omega) (by omega) _ fun v11 hp13 => ?_))
      refine (?_ : R (_, _, (.int (Int32.ofInt v11)) :: [], w, 0, 0))
      iterate 2 refine hR (?_ : R (_, _, _, _, _, _))
      refine hR (zcall_i 0 0 (Nat.le_of_ble_eq_true rfl) (Nat.le_of_ble_eq_true rfl) (c_wordAt _ _ a1 t (by omega) (by omega) _ fun v14 hp16 => ?_))
      refine (?_ : R (_, _, (.int (Int32.ofInt v14)) :: (.int (Int32.ofInt v11)) :: [], w, 0, 0))
      refine hR (j_ne (by omega) (by omega) (fun hc17 => ?_) (fun hc17 => ?_))
      · skip
        refine hR (t_inc ?_)
        refine hR (?_ : R (_, _, _, _, _, _))
        exact ih16 _ _ (by omega) (by omega) (by omega) (by omega)
      refine hR (t_inc ?_)
      refine hR (t_inc ?_)
      refine hR (?_ : R (_, _, _, _, _, _))
      exact ih16 _ _ (by omega) (by omega) (by omega) (by omega)
  exact lp16 400000000 _ _ (by omega) (by omega) (by omega) (by omega)
theorem c_mostShared (w : zW) (d : Nat) (a1 a2 : Int) (hr0 : 0 ≤ a1 ∧ a1 ≤ 5460) (hr1 : 0 ≤ a2 ∧ a2 ≤ 5460) (Q : zQ) (h : ∀ (v : Int), (0 ≤ v ∧ v ≤ 5460) → Q (some (.int (Int32.ofInt v))) w) : zCl zTab (d + 5) iX11_mostShared [.int (Int32.ofInt a1), .int (Int32.ofInt a2)] w 0 0 Q := by
  refine zCl_i (M := kX11_mostShared) rfl (Nat.le_of_ble_eq_true rfl) fun R hR => ?_
  refine hR (?_ : R (_, _, _, _, _, _))
  refine hR (zcall_i 0 0 (Nat.le_of_ble_eq_true rfl) (Nat.le_of_ble_eq_true rfl) (c_lengthOf _ _ a1 (by omega) _ fun v1 hp3 => ?_))
  refine (?_ : R (_, _, (.int (Int32.ofInt v1)) :: [], w, 0, 0))
  iterate 5 refine hR (?_ : R (_, _, _, _, _, _))
  have lp10 : ∀ (N : Nat) (be : Int) (kp : Int) (o5_10 : Option Value) (o6_10 : Option Value), (zc2 o5_10 = false) → (zc2 o6_10 = false) → (0 ≤ be ∧ be ≤ 5460) → (0 ≤ kp ∧ kp ≤ 64) → (65 - kp < N) → R (10, [some (.int (Int32.ofInt a1)), some (.int (Int32.ofInt a2)), some (.int (Int32.ofInt v1)), some (.int (Int32.ofInt be)), some (.int (Int32.ofInt kp)), o5_10, o6_10], [], w, 0, 0) := by
    intro N
    induction N with
    | zero => intros; omega
    | succ N ih10 =>
      intro be kp o5_10 o6_10 hzo5_10 hzo6_10 hf0_10 hf1_10 hN10
      iterate 3 refine hR (?_ : R (_, _, _, _, _, _))
      obtain ⟨v4, lv4, uv4, qv4⟩ := zshl_r6 (e := v1) (by omega) (by omega)
      refine hR (t_c v4 qv4 ?_)
      refine hR (j_ge (by omega) (by omega) (fun hc5 => ?_) (fun hc5 => ?_))
      · skip
        refine hR (?_ : R (_, _, _, _, _, _))
        exact hR (zret_i rfl (Nat.le_refl _) trivial (h _ (by omega)))
      iterate 4 refine hR (?_ : R (_, _, _, _, _, _))
      have lp24 : ∀ (N : Nat) (lf : Int) (k : Int), (0 ≤ lf ∧ lf ≤ 5460) → (0 ≤ k ∧ k ≤ 6) → ((k = 0 ∧ lf = 0) ∨ (k = 1 ∧ lf ≤ 4) ∨ (k = 2 ∧ lf ≤ 20) ∨ (k = 3 ∧ lf ≤ 84) ∨ (k = 4 ∧ lf ≤ 340) ∨ (k = 5 ∧ lf ≤ 1364) ∨ (k = 6 ∧ lf ≤ 5460)) → (7 - k < N) → R (24, [some (.int (Int32.ofInt a1)), some (.int (Int32.ofInt a2)), some (.int (Int32.ofInt v1)), some (.int (Int32.ofInt be)), some (.int (Int32.ofInt kp)), some (.int (Int32.ofInt lf)), some (.int (Int32.ofInt k))], [], w, 0, 0) := by
        intro N
        induction N with
        | zero => intros; omega
        | succ N ih24 =>
          intro lf k hf0_24 hf1_24 hp0_24 hN24
          iterate 2 refine hR (?_ : R (_, _, _, _, _, _))
          refine hR (j_ge (by omega) (by omega) (fun hc6 => ?_) (fun hc6 => ?_))
          rotate_left
          · skip
            iterate 2 refine hR (?_ : R (_, _, _, _, _, _))
            refine hR (zcall_i 0 0 (Nat.le_of_ble_eq_true rfl) (Nat.le_of_ble_eq_true rfl) (c_isIn _ _ kp k _ fun v24 hp26 => ?_))
            refine (?_ : R (_, _, (.int (Int32.ofInt v24)) :: [], w, 0, 0))
            refine hR (k_eq (by omega) (fun hc27 => ?_) (fun hc27 => ?_))
            · skip
              refine hR (t_inc ?_)
              refine hR (?_ : R (_, _, _, _, _, _))
              exact ih24 _ _ (by omega) (by omega) (by omega) (by omega)
            iterate 3 refine hR (?_ : R (_, _, _, _, _, _))
            refine hR (zcall_i 0 0 (Nat.le_of_ble_eq_true rfl) (Nat.le_of_ble_eq_true rfl) (c_wordAt _ _ a1 k (by omega) (by omega) _ fun v28 hp30 => ?_))
            refine (?_ : R (_, _, (.int (Int32.ofInt v28)) :: (.int (Int32.ofInt lf)) :: [], w, 0, 0))
            refine hR (zcall_i 0 0 (Nat.le_of_ble_eq_true rfl) (Nat.le_of_ble_eq_true rfl) (c_longer _ _ lf v28 _ fun v31 hp33 => ?_))
            refine (?_ : R (_, _, (.int (Int32.ofInt v31)) :: [], w, 0, 0))
            refine hR (?_ : R (_, _, _, _, _, _))
            refine hR (t_inc ?_)
            refine hR (?_ : R (_, _, _, _, _, _))
            exact ih24 _ _ (by omega) (by omega) (by omega) (by omega)
          refine hR (?_ : R (_, _, _, _, _, _))
          refine hR (zcall_i 0 0 (Nat.le_of_ble_eq_true rfl) (Nat.le_of_ble_eq_true rfl) (c_lengthOf _ _ lf (by omega) _ fun v7 hp9 => ?_))
          refine (?_ : R (_, _, (.int (Int32.ofInt v7)) :: [], w, 0, 0))
          refine hR (?_ : R (_, _, _, _, _, _))
          refine hR (zcall_i 0 0 (Nat.le_of_ble_eq_true rfl) (Nat.le_of_ble_eq_true rfl) (c_lengthOf _ _ be (by omega) _ fun v10 hp12 => ?_))
          refine (?_ : R (_, _, (.int (Int32.ofInt v10)) :: (.int (Int32.ofInt v7)) :: [], w, 0, 0))
          refine hR (t_sub ?_)
          iterate 2 refine hR (?_ : R (_, _, _, _, _, _))
          refine hR (k_gt (by omega) (fun hc13 => ?_) (fun hc13 => ?_))
          · skip
            iterate 2 refine hR (?_ : R (_, _, _, _, _, _))
            refine hR (zcall_i 0 0 (Nat.le_of_ble_eq_true rfl) (Nat.le_of_ble_eq_true rfl) (c_isLeftOf _ _ lf a2 (by omega) (by omega) _ fun v14 hp16 => ?_))
            refine (?_ : R (_, _, (.int (Int32.ofInt v14)) :: [], w, 0, 0))
            refine hR (k_eq (by omega) (fun hc17 => ?_) (fun hc17 => ?_))
            · skip
              refine hR (t_inc ?_)
              refine hR (?_ : R (_, _, _, _, _, _))
              exact ih10 _ _ _ _ (by rfl) (by rfl) (by omega) (by omega) (by omega)
            iterate 2 refine hR (?_ : R (_, _, _, _, _, _))
            refine hR (t_inc ?_)
            refine hR (?_ : R (_, _, _, _, _, _))
            exact ih10 _ _ _ _ (by rfl) (by rfl) (by omega) (by omega) (by omega)
          refine hR (?_ : R (_, _, _, _, _, _))
          refine hR (k_ne (by omega) (fun hc18 => ?_) (fun hc18 => ?_))
          · skip
            refine hR (t_inc ?_)
            refine hR (?_ : R (_, _, _, _, _, _))
            exact ih10 _ _ _ _ (by rfl) (by rfl) (by omega) (by omega) (by omega)
          iterate 2 refine hR (?_ : R (_, _, _, _, _, _))
          refine hR (j_ge (by omega) (by omega) (fun hc19 => ?_) (fun hc19 => ?_))
          · skip
            refine hR (t_inc ?_)
            refine hR (?_ : R (_, _, _, _, _, _))
            exact ih10 _ _ _ _ (by rfl) (by rfl) (by omega) (by omega) (by omega)
          iterate 2 refine hR (?_ : R (_, _, _, _, _, _))
          refine hR (zcall_i 0 0 (Nat.le_of_ble_eq_true rfl) (Nat.le_of_ble_eq_true rfl) (c_isLeftOf _ _ lf a2 (by omega) (by omega) _ fun v20 hp22 => ?_))
          refine (?_ : R (_, _, (.int (Int32.ofInt v20)) :: [], w, 0, 0))
          refine hR (k_eq (by omega) (fun hc23 => ?_) (fun hc23 => ?_))
          · skip
            refine hR (t_inc ?_)
            refine hR (?_ : R (_, _, _, _, _, _))
            exact ih10 _ _ _ _ (by rfl) (by rfl) (by omega) (by omega) (by omega)
          iterate 2 refine hR (?_ : R (_, _, _, _, _, _))
          refine hR (t_inc ?_)
          refine hR (?_ : R (_, _, _, _, _, _))
          exact ih10 _ _ _ _ (by rfl) (by rfl) (by omega) (by omega) (by omega)
      exact lp24 400000000 _ _ (by omega) (by omega) (by omega) (by omega)
  exact lp10 400000000 _ _ _ _ (by rfl) (by rfl) (by omega) (by omega) (by omega)
theorem c_takeUp {ρ : Nat → Nat} {w : zW} (d : Nat) (p b : Nat) (hw : CI ρ w) (hρp : ρ p = 50) (hρb : ρ b = 20) (Q : zQ) (h : ∀ (w' : zW), CI ρ w' → wfR [50, 51] ρ w w' → Q (none) w') : zCl zTab (d + 2) iX4_takeUp [.ref p, .ref b] w 0 0 Q := by
  refine zCl_i (M := kX4_takeUp) rfl (Nat.le_of_ble_eq_true rfl) fun R hR => ?_
  have fr0 := wfR_rf [50, 51] ρ w
  refine hR (?_ : R (_, _, _, _, _, _))
  obtain ⟨z0_1, z2_1, z3_1, hO1, hk1_0, hk1_1, hk1_2, hk1_3, hk1_4⟩ := CI_o50 hw hρp
  refine hR (c_get hO1 rfl ?_)
  refine hR (?_ : R (_, _, _, _, _, _))
  refine hR (j_any ?_ ?_)
  · skip
    exact hR (zret_i rfl (Nat.le_refl _) rfl (h _ hw fr0))
  iterate 2 refine hR (?_ : R (_, _, _, _, _, _))
  refine hR (c_put hO1 rfl rfl fun w2 f2 hO2 => ?_)
  have hw2 := CI_w50 hw hρp f2 hO2 ⟨hρb, hk1_1, hk1_2, hk1_3, (by first | assumption | exact Ne.symm (by assumption))⟩
  have fr3 := wfR_st fr0 f2 (by rw [hρp]; decide)
  refine hR (?_ : R (_, _, _, _, _, _))
  refine hR (c_get hO2 rfl ?_)
  refine hR (?_ : R (_, _, _, _, _, _))
  refine hR (zcall_i 0 0 (Nat.le_of_ble_eq_true rfl) (Nat.le_of_ble_eq_true rfl) (c_fill _ (p + 1) 27305 ((-1)) (-1) 5460 hw2 (by rw [hk1_1]; rfl) ⟨by rw [hk1_1]; decide, by rw [hk1_1]; decide⟩ (by omega) (by omega) (by omega) _ fun w4 hw4 f4 hg4 => ?_))
  refine (?_ : R (_, _, [], w4, 0, 0))
  have fr5 := wfR_st fr3 f4 (by rw [hk1_1]; decide)
  have hO6 := (f4.2 p (rne hρp hk1_1 (by decide))).trans hO2
  exact hR (zret_i rfl (Nat.le_refl _) rfl (h _ hw4 fr5))
theorem c_all {ρ : Nat → Nat} {w : zW} (d : Nat) (p : Nat) (hw : CI ρ w) (hρp : ρ p = 50) (Q : zQ) (h : ∀ (v : Int), (0 ≤ v ∧ v ≤ 31) → Q (some (.int (Int32.ofInt v))) w) : zCl zTab (d + 1) iX4_all [.ref p] w 0 0 Q := by
  refine zCl_i (M := kX4_all) rfl (Nat.le_of_ble_eq_true rfl) fun R hR => ?_
  have fr0 := wfR_rf [] ρ w
  iterate 2 refine hR (?_ : R (_, _, _, _, _, _))
  obtain ⟨z0_1, z2_1, z3_1, hO1, hk1_0, hk1_1, hk1_2, hk1_3, hk1_4⟩ := CI_o50 hw hρp
  refine hR (c_get hO1 rfl ?_)
  obtain ⟨x0_2, x1_2, x2_2, hO2, hk2_0, hk2_1, hk2_2, hk2_3, hk2_4, hk2_5, hk2_6⟩ := CI_o20 hw hk1_0
  refine hR (c_get hO2 rfl ?_)
  obtain ⟨v3, lv3, uv3, qv3⟩ := zshl_r (e := x1_2) (by omega) (by omega)
  refine hR (t_c v3 qv3 ?_)
  refine hR (?_ : R (_, _, _, _, _, _))
  refine hR (t_sub ?_)
  exact hR (zret_i rfl (Nat.le_refl _) trivial (h _ (by omega)))
theorem c_isChanged {ρ : Nat → Nat} {w : zW} (d : Nat) (p : Nat) (a1 a2 : Int) (hw : CI ρ w) (hρp : ρ p = 50) (hr0 : 0 ≤ a1 ∧ a1 ≤ 5460) (hr1 : -2147483648 ≤ a2 ∧ a2 ≤ 2147483647) (Q : zQ) (h : ∀ (v : Int) (w' : zW), CI ρ w' → wfR [51] ρ w w' → (v = 0 ∨ v = 1) → Q (some (.int (Int32.ofInt v))) w') : zCl zTab (d + 5) iX4_isChanged [.ref p, .int (Int32.ofInt a1), .int (Int32.ofInt a2)] w 0 0 Q := by
  refine zCl_i (M := kX4_isChanged) rfl (Nat.le_of_ble_eq_true rfl) fun R hR => ?_
  have fr0 := wfR_rf [51] ρ w
  iterate 2 refine hR (?_ : R (_, _, _, _, _, _))
  have lp2 : ∀ (N : Nat) (r : Int) (w_2 : zW), (CI ρ w_2) → (wfR [51] ρ w w_2) → (0 ≤ r ∧ r ≤ 5) → (6 - r < N) → R (2, [some (.ref p), some (.int (Int32.ofInt a1)), some (.int (Int32.ofInt a2)), some (.int (Int32.ofInt r))], [], w_2, 0, 0) := by
    intro N
    induction N with
    | zero => intros; omega
    | succ N ih2 =>
      intro r w_2 hw_2 fr_2 hf0_2 hN2
      iterate 2 refine hR (?_ : R (_, _, _, _, _, _))
      obtain ⟨z0_1, z2_1, z3_1, hO1, hk1_0, hk1_1, hk1_2, hk1_3, hk1_4⟩ := CI_o50 hw_2 hρp
      refine hR (c_get hO1 rfl ?_)
      obtain ⟨x0_2, x1_2, x2_2, hO2, hk2_0, hk2_1, hk2_2, hk2_3, hk2_4, hk2_5, hk2_6⟩ := CI_o20 hw_2 hk1_0
      refine hR (c_get hO2 rfl ?_)
      refine hR (j_ge (by omega) (by omega) (fun hc3 => ?_) (fun hc3 => ?_))
      · skip
        refine hR (?_ : R (_, _, _, _, _, _))
        exact hR (zret_i rfl (Nat.le_refl _) (zbo (by omega)) (h _ _ hw_2 fr_2 (by omega)))
      iterate 2 refine hR (?_ : R (_, _, _, _, _, _))
      refine hR (zcall_i 0 0 (Nat.le_of_ble_eq_true rfl) (Nat.le_of_ble_eq_true rfl) (c_isIn _ _ a2 r _ fun v4 hp6 => ?_))
      refine (?_ : R (_, _, (.int (Int32.ofInt v4)) :: [], w_2, 0, 0))
      refine hR (k_eq (by omega) (fun hc7 => ?_) (fun hc7 => ?_))
      · skip
        refine hR (t_inc ?_)
        refine hR (?_ : R (_, _, _, _, _, _))
        exact ih2 _ _ hw_2 fr_2 (by omega) (by omega)
      iterate 3 refine hR (?_ : R (_, _, _, _, _, _))
      refine hR (c_obj hO1 (zcall_i 0 0 (Nat.le_of_ble_eq_true rfl) (Nat.le_of_ble_eq_true rfl) (c_after _ p r a1 hw_2 hρp (by omega) (by omega) _ fun v8 w9 hw9 g9 hp10 => ?_)))
      have fr11 := wfR_tr fr_2 g9 (by decide)
      have hO12 := (g9.2 p (by rw [hρp]; decide)).trans hO1
      have hO13 := (g9.2 z0_1 (by rw [hk1_0]; decide)).trans hO2
      refine (?_ : R (_, _, (.int (Int32.ofInt v8)) :: [], w9, 0, 0))
      refine hR (?_ : R (_, _, _, _, _, _))
      refine hR (j_eq (by omega) (by omega) (fun hc14 => ?_) (fun hc14 => ?_))
      rotate_left
      · skip
        refine hR (?_ : R (_, _, _, _, _, _))
        exact hR (zret_i rfl (Nat.le_refl _) (zbo (by omega)) (h _ _ hw9 fr11 (by omega)))
      refine hR (t_inc ?_)
      refine hR (?_ : R (_, _, _, _, _, _))
      exact ih2 _ _ hw9 fr11 (by omega) (by omega)
  exact lp2 400000000 _ _ hw fr0 (by omega) (by omega)
theorem c_unchangedBy {ρ : Nat → Nat} {w : zW} (d : Nat) (p : Nat) (a1 : Int) (hw : CI ρ w) (hρp : ρ p = 50) (hr0 : -2147483648 ≤ a1 ∧ a1 ≤ 2147483647) (Q : zQ) (h : ∀ (v : Int) (w' : zW), CI ρ w' → wfR [51] ρ w w' → Q (some (.int (Int32.ofInt v))) w') : zCl zTab (d + 6) iX4_unchangedBy [.ref p, .int (Int32.ofInt a1)] w 0 0 Q := by
  refine zCl_i (M := kX4_unchangedBy) rfl (Nat.le_of_ble_eq_true rfl) fun R hR => ?_
  have fr0 := wfR_rf [51] ρ w
  iterate 4 refine hR (?_ : R (_, _, _, _, _, _))
  have lp4 : ∀ (N : Nat) (n : Int) (t : Int) (w_4 : zW), (CI ρ w_4) → (wfR [51] ρ w w_4) → (0 ≤ n ∧ n ≤ 5461) → (0 ≤ t ∧ t ≤ 5461) → (n ≤ t) → (5462 - t < N) → R (4, [some (.ref p), some (.int (Int32.ofInt a1)), some (.int (Int32.ofInt n)), some (.int (Int32.ofInt t))], [], w_4, 0, 0) := by
    intro N
    induction N with
    | zero => intros; omega
    | succ N ih4 =>
      intro n t w_4 hw_4 fr_4 hf0_4 hf1_4 hp0_4 hN4
      refine hR (?_ : R (_, _, _, _, _, _))
      refine hR (t_c 5461 (by decide) ?_)
      refine hR (j_ge (by omega) (by omega) (fun hc1 => ?_) (fun hc1 => ?_))
      · skip
        refine hR (?_ : R (_, _, _, _, _, _))
        exact hR (zret_i rfl (Nat.le_refl _) trivial (h _ _ hw_4 fr_4))
      iterate 3 refine hR (?_ : R (_, _, _, _, _, _))
      obtain ⟨z0_5, z2_5, z3_5, hO5, hk5_0, hk5_1, hk5_2, hk5_3, hk5_4⟩ := CI_o50 hw_4 hρp
      refine hR (c_obj hO5 (zcall_i 0 0 (Nat.le_of_ble_eq_true rfl) (Nat.le_of_ble_eq_true rfl) (c_isChanged _ p t a1 hw_4 hρp (by omega) (by omega) _ fun v2 w3 hw3 g3 hp4 => ?_)))
      have fr6 := wfR_tr fr_4 g3 (by decide)
      have hO7 := (g3.2 p (by rw [hρp]; decide)).trans hO5
      refine (?_ : R (_, _, (.int (Int32.ofInt v2)) :: [], w3, 0, 0))
      refine hR (k_ne (by omega) (fun hc8 => ?_) (fun hc8 => ?_))
      · skip
        refine hR (t_inc ?_)
        refine hR (?_ : R (_, _, _, _, _, _))
        exact ih4 _ _ _ hw3 fr6 (by omega) (by omega) (by omega) (by omega)
      refine hR (t_inc ?_)
      refine hR (t_inc ?_)
      refine hR (?_ : R (_, _, _, _, _, _))
      exact ih4 _ _ _ hw3 fr6 (by omega) (by omega) (by omega) (by omega)
  exact lp4 400000000 _ _ _ hw fr0 (by omega) (by omega) (by omega) (by omega)
theorem c_alikeEitherWay {ρ : Nat → Nat} {w : zW} (d : Nat) (p : Nat) (a1 a2 : Int) (hw : CI ρ w) (hρp : ρ p = 50) (hr0 : 0 ≤ a1 ∧ a1 ≤ 4) (hr1 : 0 ≤ a2 ∧ a2 ≤ 4) (Q : zQ) (h : ∀ (v : Int) (w' : zW), CI ρ w' → wfR [51] ρ w w' → Q (some (.int (Int32.ofInt v))) w') : zCl zTab (d + 5) iX4_alikeEitherWay [.ref p, .int (Int32.ofInt a1), .int (Int32.ofInt a2)] w 0 0 Q := by
  refine zCl_i (M := kX4_alikeEitherWay) rfl (Nat.le_of_ble_eq_true rfl) fun R hR => ?_
  have fr0 := wfR_rf [51] ρ w
  iterate 4 refine hR (?_ : R (_, _, _, _, _, _))
  have lp5 : ∀ (N : Nat) (n : Int) (t : Int) (w_5 : zW), (CI ρ w_5) → (wfR [51] ρ w w_5) → (0 ≤ n ∧ n ≤ 5461) → (0 ≤ t ∧ t ≤ 5461) → (n ≤ t) → (5462 - t < N) → R (5, [some (.ref p), some (.int (Int32.ofInt a1)), some (.int (Int32.ofInt a2)), some (.int (Int32.ofInt n)), some (.int (Int32.ofInt t))], [], w_5, 0, 0) := by
    intro N
    induction N with
    | zero => intros; omega
    | succ N ih5 =>
      intro n t w_5 hw_5 fr_5 hf0_5 hf1_5 hp0_5 hN5
      refine hR (?_ : R (_, _, _, _, _, _))
      refine hR (t_c 5461 (by decide) ?_)
      refine hR (j_ge (by omega) (by omega) (fun hc1 => ?_) (fun hc1 => ?_))
      · skip
        refine hR (?_ : R (_, _, _, _, _, _))
        exact hR (zret_i rfl (Nat.le_refl _) trivial (h _ _ hw_5 fr_5))
      iterate 5 refine hR (?_ : R (_, _, _, _, _, _))
      obtain ⟨z0_5, z2_5, z3_5, hO5, hk5_0, hk5_1, hk5_2, hk5_3, hk5_4⟩ := CI_o50 hw_5 hρp
      refine hR (c_obj hO5 (zcall_i 0 0 (Nat.le_of_ble_eq_true rfl) (Nat.le_of_ble_eq_true rfl) (c_after _ p a1 t hw_5 hρp (by omega) (by omega) _ fun v2 w3 hw3 g3 hp4 => ?_)))
      have fr6 := wfR_tr fr_5 g3 (by decide)
      have hO7 := (g3.2 p (by rw [hρp]; decide)).trans hO5
      refine (?_ : R (_, _, (.int (Int32.ofInt v2)) :: (.int (Int32.ofInt a2)) :: (.ref p) :: [], w3, 0, 0))
      refine hR (c_obj hO7 (zcall_i 0 0 (Nat.le_of_ble_eq_true rfl) (Nat.le_of_ble_eq_true rfl) (c_after _ p a2 v2 hw3 hρp (by omega) (by omega) _ fun v8 w9 hw9 g9 hp10 => ?_)))
      have fr11 := wfR_tr fr6 g9 (by decide)
      have hO12 := (g9.2 p (by rw [hρp]; decide)).trans hO7
      refine (?_ : R (_, _, (.int (Int32.ofInt v8)) :: [], w9, 0, 0))
      iterate 5 refine hR (?_ : R (_, _, _, _, _, _))
      refine hR (c_obj hO12 (zcall_i 0 0 (Nat.le_of_ble_eq_true rfl) (Nat.le_of_ble_eq_true rfl) (c_after _ p a2 t hw9 hρp (by omega) (by omega) _ fun v13 w14 hw14 g14 hp15 => ?_)))
      have fr16 := wfR_tr fr11 g14 (by decide)
      have hO17 := (g14.2 p (by rw [hρp]; decide)).trans hO12
      refine (?_ : R (_, _, (.int (Int32.ofInt v13)) :: (.int (Int32.ofInt a1)) :: (.ref p) :: (.int (Int32.ofInt v8)) :: [], w14, 0, 0))
      refine hR (c_obj hO17 (zcall_i 0 0 (Nat.le_of_ble_eq_true rfl) (Nat.le_of_ble_eq_true rfl) (c_after _ p a1 v13 hw14 hρp (by omega) (by omega) _ fun v18 w19 hw19 g19 hp20 => ?_)))
      have fr21 := wfR_tr fr16 g19 (by decide)
      have hO22 := (g19.2 p (by rw [hρp]; decide)).trans hO17
      refine (?_ : R (_, _, (.int (Int32.ofInt v18)) :: (.int (Int32.ofInt v8)) :: [], w19, 0, 0))
      refine hR (j_ne (by omega) (by omega) (fun hc23 => ?_) (fun hc23 => ?_))
      · skip
        refine hR (t_inc ?_)
        refine hR (?_ : R (_, _, _, _, _, _))
        exact ih5 _ _ _ hw19 fr21 (by omega) (by omega) (by omega) (by omega)
      refine hR (t_inc ?_)
      refine hR (t_inc ?_)
      refine hR (?_ : R (_, _, _, _, _, _))
      exact ih5 _ _ _ hw19 fr21 (by omega) (by omega) (by omega) (by omega)
  exact lp5 400000000 _ _ _ hw fr0 (by omega) (by omega) (by omega) (by omega)
theorem c_comesToMarked {ρ : Nat → Nat} {w : zW} (d : Nat) (p : Nat) (a1 : Int) (hw : CI ρ w) (hρp : ρ p = 50) (hr0 : 0 ≤ a1 ∧ a1 ≤ 5460) (Q : zQ) (h : ∀ (v : Int) (w' : zW), CI ρ w' → wfR [51] ρ w w' → (v = 0 ∨ v = 1) → Q (some (.int (Int32.ofInt v))) w') : zCl zTab (d + 5) iX4_comesToMarked [.ref p, .int (Int32.ofInt a1)] w 0 0 Q := by
  refine zCl_i (M := kX4_comesToMarked) rfl (Nat.le_of_ble_eq_true rfl) fun R hR => ?_
  have fr0 := wfR_rf [51] ρ w
  iterate 2 refine hR (?_ : R (_, _, _, _, _, _))
  have lp2 : ∀ (N : Nat) (r : Int) (w_2 : zW), (CI ρ w_2) → (wfR [51] ρ w w_2) → (0 ≤ r ∧ r ≤ 5) → (6 - r < N) → R (2, [some (.ref p), some (.int (Int32.ofInt a1)), some (.int (Int32.ofInt r))], [], w_2, 0, 0) := by
    intro N
    induction N with
    | zero => intros; omega
    | succ N ih2 =>
      intro r w_2 hw_2 fr_2 hf0_2 hN2
      iterate 2 refine hR (?_ : R (_, _, _, _, _, _))
      obtain ⟨z0_1, z2_1, z3_1, hO1, hk1_0, hk1_1, hk1_2, hk1_3, hk1_4⟩ := CI_o50 hw_2 hρp
      refine hR (c_get hO1 rfl ?_)
      obtain ⟨x0_2, x1_2, x2_2, hO2, hk2_0, hk2_1, hk2_2, hk2_3, hk2_4, hk2_5, hk2_6⟩ := CI_o20 hw_2 hk1_0
      refine hR (c_get hO2 rfl ?_)
      refine hR (j_ge (by omega) (by omega) (fun hc3 => ?_) (fun hc3 => ?_))
      · skip
        refine hR (?_ : R (_, _, _, _, _, _))
        exact hR (zret_i rfl (Nat.le_refl _) (zbo (by omega)) (h _ _ hw_2 fr_2 (by omega)))
      refine hR (?_ : R (_, _, _, _, _, _))
      refine hR (c_get hO1 rfl ?_)
      iterate 3 refine hR (?_ : R (_, _, _, _, _, _))
      refine hR (c_obj hO1 (zcall_i 0 0 (Nat.le_of_ble_eq_true rfl) (Nat.le_of_ble_eq_true rfl) (c_after _ p r a1 hw_2 hρp (by omega) (by omega) _ fun v4 w5 hw5 g5 hp6 => ?_)))
      have fr7 := wfR_tr fr_2 g5 (by decide)
      have hO8 := (g5.2 p (by rw [hρp]; decide)).trans hO1
      have hO9 := (g5.2 z0_1 (by rw [hk1_0]; decide)).trans hO2
      refine (?_ : R (_, _, (.int (Int32.ofInt v4)) :: (.ref z2_1) :: [], w5, 0, 0))
      refine hR (c_bld hw5 (by rw [hk1_2]; rfl) (by omega) (by omega) (Nat.le_of_ble_eq_true rfl) fun v10 rv10 => ?_)
      refine hR (j_any ?_ ?_)
      rotate_left
      · skip
        refine hR (?_ : R (_, _, _, _, _, _))
        exact hR (zret_i rfl (Nat.le_refl _) (zbo (by omega)) (h _ _ hw5 fr7 (by omega)))
      refine hR (t_inc ?_)
      refine hR (?_ : R (_, _, _, _, _, _))
      exact ih2 _ _ hw5 fr7 (by omega) (by omega)
  exact lp2 400000000 _ _ hw fr0 (by omega) (by omega)
theorem c_goBack {ρ : Nat → Nat} {w : zW} (d : Nat) (p : Nat) (a1 a2 : Int) (hw : CI ρ w) (hρp : ρ p = 50) (hr0 : 0 ≤ a1 ∧ a1 ≤ 5460) (hr1 : 0 ≤ a2 ∧ a2 ≤ 9) (Q : zQ) (h : ∀ (w' : zW), CI ρ w' → wfR [50, 51, 52] ρ w w' → Q (none) w') : zCl zTab (d + 6) iX4_goBack [.ref p, .int (Int32.ofInt a1), .int (Int32.ofInt a2)] w 0 0 Q := by
  refine zCl_i (M := kX4_goBack) rfl (Nat.le_of_ble_eq_true rfl) fun R hR => ?_
  have fr0 := wfR_rf [50, 51, 52] ρ w
  refine hR (?_ : R (_, _, _, _, _, _))
  obtain ⟨z0_1, z2_1, z3_1, hO1, hk1_0, hk1_1, hk1_2, hk1_3, hk1_4⟩ := CI_o50 hw hρp
  refine hR (c_get hO1 rfl ?_)
  refine hR (?_ : R (_, _, _, _, _, _))
  refine hR (zcall_i 0 0 (Nat.le_of_ble_eq_true rfl) (Nat.le_of_ble_eq_true rfl) (c_fillb _ z2_1 5461 0 hw (by rw [hk1_2]; rfl) ⟨by rw [hk1_2]; decide, by rw [hk1_2]; decide⟩ (by omega) _ fun w2 hw2 f2 => ?_))
  refine (?_ : R (_, _, [], w2, 0, 0))
  have fr3 := wfR_st fr0 f2 (by rw [hk1_2]; decide)
  have hO4 := (f2.2 p (rne hρp hk1_2 (by decide))).trans hO1
  refine hR (?_ : R (_, _, _, _, _, _))
  refine hR (c_get hO4 rfl ?_)
  iterate 2 refine hR (?_ : R (_, _, _, _, _, _))
  refine hR (c_bst hw2 (by rw [hk1_2]; rfl) ⟨by rw [hk1_2]; decide, by rw [hk1_2]; decide⟩ (by omega) (by omega) (Nat.le_of_ble_eq_true rfl) fun w5 hw5 f5 => ?_)
  have fr6 := wfR_st fr3 f5 (by rw [hk1_2]; decide)
  have hO7 := (f5.2 p (rne hρp hk1_2 (by decide))).trans hO4
  iterate 2 refine hR (?_ : R (_, _, _, _, _, _))
  have lp17 : ∀ (N : Nat) (i : Int) (o4_17 : Option Value) (w_17 : zW), (zc2 o4_17 = false) → (CI ρ w_17) → (wfR [50, 51, 52] ρ w w_17) → (0 ≤ i ∧ i ≤ 9) → (10 - i < N) → R (17, [some (.ref p), some (.int (Int32.ofInt a1)), some (.int (Int32.ofInt a2)), some (.int (Int32.ofInt i)), o4_17], [], w_17, 0, 0) := by
    intro N
    induction N with
    | zero => intros; omega
    | succ N ih17 =>
      intro i o4_17 w_17 hzo4_17 hw_17 fr_17 hf0_17 hN17
      iterate 2 refine hR (?_ : R (_, _, _, _, _, _))
      refine hR (j_ge (by omega) (by omega) (fun hc8 => ?_) (fun hc8 => ?_))
      · skip
        exact hR (zret_i rfl (Nat.le_refl _) rfl (h _ hw_17 fr_17))
      iterate 2 refine hR (?_ : R (_, _, _, _, _, _))
      have lp25 : ∀ (N : Nat) (t : Int) (w_25 : zW), (CI ρ w_25) → (wfR [50, 51, 52] ρ w w_25) → (0 ≤ t ∧ t ≤ 5461) → (5462 - t < N) → R (25, [some (.ref p), some (.int (Int32.ofInt a1)), some (.int (Int32.ofInt a2)), some (.int (Int32.ofInt i)), some (.int (Int32.ofInt t))], [], w_25, 0, 0) := by
        intro N
        induction N with
        | zero => intros; omega
        | succ N ih25 =>
          intro t w_25 hw_25 fr_25 hf0_25 hN25
          refine hR (?_ : R (_, _, _, _, _, _))
          refine hR (t_c 5461 (by decide) ?_)
          refine hR (j_ge (by omega) (by omega) (fun hc9 => ?_) (fun hc9 => ?_))
          · skip
            refine hR (?_ : R (_, _, _, _, _, _))
            obtain ⟨z0_10, z2_10, z3_10, hO10, hk10_0, hk10_1, hk10_2, hk10_3, hk10_4⟩ := CI_o50 hw_25 hρp
            refine hR (c_get hO10 rfl ?_)
            iterate 3 refine hR (?_ : R (_, _, _, _, _, _))
            refine hR (c_get hO10 rfl ?_)
            refine hR (c_put hO10 rfl rfl fun w11 f11 hO11 => ?_)
            have fr12 := wfR_st fr_25 f11 (by rw [hρp]; decide)
            iterate 2 refine hR (?_ : R (_, _, _, _, _, _))
            refine hR (c_put hO11 rfl rfl fun w13 f13 hO13 => ?_)
            have hw13 := CI_w50 hw_25 hρp (wfr_tr f11 f13) hO13 ⟨hk10_0, hk10_1, hk10_3, hk10_2, (by first | assumption | exact Ne.symm (by assumption))⟩
            have fr14 := wfR_st fr12 f13 (by rw [hρp]; decide)
            refine hR (t_inc ?_)
            refine hR (?_ : R (_, _, _, _, _, _))
            exact ih17 _ _ _ (by rfl) hw13 fr14 (by omega) (by omega)
          refine hR (?_ : R (_, _, _, _, _, _))
          obtain ⟨z0_15, z2_15, z3_15, hO15, hk15_0, hk15_1, hk15_2, hk15_3, hk15_4⟩ := CI_o50 hw_25 hρp
          refine hR (c_get hO15 rfl ?_)
          iterate 3 refine hR (?_ : R (_, _, _, _, _, _))
          refine hR (c_obj hO15 (zcall_i 0 0 (Nat.le_of_ble_eq_true rfl) (Nat.le_of_ble_eq_true rfl) (c_comesToMarked _ p t hw_25 hρp (by omega) _ fun v16 w17 hw17 g17 hp18 => ?_)))
          have fr19 := wfR_tr fr_25 g17 (by decide)
          have hO20 := (g17.2 p (by rw [hρp]; decide)).trans hO15
          refine (?_ : R (_, _, (.int (Int32.ofInt v16)) :: (.int (Int32.ofInt t)) :: (.ref z3_15) :: [], w17, 0, 0))
          refine hR (k_eq (by omega) (fun hc21 => ?_) (fun hc21 => ?_))
          · skip
            refine hR (?_ : R (_, _, _, _, _, _))
            refine hR (c_bst hw17 (by rw [hk15_3]; rfl) ⟨by rw [hk15_3]; decide, by rw [hk15_3]; decide⟩ (by omega) (by omega) (Nat.le_of_ble_eq_true rfl) fun w22 hw22 f22 => ?_)
            have fr23 := wfR_st fr19 f22 (by rw [hk15_3]; decide)
            have hO24 := (f22.2 p (rne hρp hk15_3 (by decide))).trans hO20
            refine hR (t_inc ?_)
            refine hR (?_ : R (_, _, _, _, _, _))
            exact ih25 _ _ hw22 fr23 (by omega) (by omega)
          iterate 2 refine hR (?_ : R (_, _, _, _, _, _))
          refine hR (c_bst hw17 (by rw [hk15_3]; rfl) ⟨by rw [hk15_3]; decide, by rw [hk15_3]; decide⟩ (by omega) (by omega) (Nat.le_of_ble_eq_true rfl) fun w25 hw25 f25 => ?_)
          have fr26 := wfR_st fr19 f25 (by rw [hk15_3]; decide)
          have hO27 := (f25.2 p (rne hρp hk15_3 (by decide))).trans hO20
          refine hR (t_inc ?_)
          refine hR (?_ : R (_, _, _, _, _, _))
          exact ih25 _ _ hw25 fr26 (by omega) (by omega)
      exact lp25 400000000 _ _ hw_17 fr_17 (by omega) (by omega)
  exact lp17 400000000 _ _ _ (by rfl) hw5 fr6 (by omega) (by omega)
theorem c_markUnmade {ρ : Nat → Nat} {w : zW} (d : Nat) (p : Nat) (hw : CI ρ w) (hρp : ρ p = 50) (Q : zQ) (h : ∀ (w' : zW), CI ρ w' → wfR [51, 52] ρ w w' → Q (none) w') : zCl zTab (d + 5) iX4_markUnmade [.ref p] w 0 0 Q := by
  refine zCl_i (M := kX4_markUnmade) rfl (Nat.le_of_ble_eq_true rfl) fun R hR => ?_
  have fr0 := wfR_rf [51, 52] ρ w
  refine hR (?_ : R (_, _, _, _, _, _))
  obtain ⟨z0_1, z2_1, z3_1, hO1, hk1_0, hk1_1, hk1_2, hk1_3, hk1_4⟩ := CI_o50 hw hρp
  refine hR (c_get hO1 rfl ?_)
  refine hR (?_ : R (_, _, _, _, _, _))
  refine hR (zcall_i 0 0 (Nat.le_of_ble_eq_true rfl) (Nat.le_of_ble_eq_true rfl) (c_fillb _ z2_1 5461 1 hw (by rw [hk1_2]; rfl) ⟨by rw [hk1_2]; decide, by rw [hk1_2]; decide⟩ (by omega) _ fun w2 hw2 f2 => ?_))
  refine (?_ : R (_, _, [], w2, 0, 0))
  have fr3 := wfR_st fr0 f2 (by rw [hk1_2]; decide)
  have hO4 := (f2.2 p (rne hρp hk1_2 (by decide))).trans hO1
  iterate 2 refine hR (?_ : R (_, _, _, _, _, _))
  have lp10 : ∀ (N : Nat) (r : Int) (o2_10 : Option Value) (w_10 : zW), (zc2 o2_10 = false) → (CI ρ w_10) → (wfR [51, 52] ρ w w_10) → (zix w_10 p = some (.inr (3, [.ref z0_1, .ref (p + 1), .ref z2_1, .ref z3_1]))) → (0 ≤ r ∧ r ≤ 5) → (6 - r < N) → R (10, [some (.ref p), some (.int (Int32.ofInt r)), o2_10], [], w_10, 0, 0) := by
    intro N
    induction N with
    | zero => intros; omega
    | succ N ih10 =>
      intro r o2_10 w_10 hzo2_10 hw_10 fr_10 hOp_10 hf0_10 hN10
      iterate 2 refine hR (?_ : R (_, _, _, _, _, _))
      refine hR (c_get hOp_10 rfl ?_)
      obtain ⟨x0_5, x1_5, x2_5, hO5, hk5_0, hk5_1, hk5_2, hk5_3, hk5_4, hk5_5, hk5_6⟩ := CI_o20 hw_10 hk1_0
      refine hR (c_get hO5 rfl ?_)
      refine hR (j_ge (by omega) (by omega) (fun hc6 => ?_) (fun hc6 => ?_))
      · skip
        exact hR (zret_i rfl (Nat.le_refl _) rfl (h _ hw_10 fr_10))
      iterate 2 refine hR (?_ : R (_, _, _, _, _, _))
      have lp23 : ∀ (N : Nat) (t : Int) (w_23 : zW), (CI ρ w_23) → (wfR [51, 52] ρ w w_23) → (zix w_23 p = some (.inr (3, [.ref z0_1, .ref (p + 1), .ref z2_1, .ref z3_1]))) → (zix w_23 z0_1 = some (.inr (0, [.int (Int32.ofInt x0_5), .int (Int32.ofInt x1_5), .int (Int32.ofInt x2_5), .ref (z0_1 + 1), .ref (z0_1 + 2), .ref (z0_1 + 3), .ref (z0_1 + 4)]))) → (0 ≤ t ∧ t ≤ 5461) → (5462 - t < N) → R (23, [some (.ref p), some (.int (Int32.ofInt r)), some (.int (Int32.ofInt t))], [], w_23, 0, 0) := by
        intro N
        induction N with
        | zero => intros; omega
        | succ N ih23 =>
          intro t w_23 hw_23 fr_23 hOp_23 hOz0_1_23 hf0_23 hN23
          refine hR (?_ : R (_, _, _, _, _, _))
          refine hR (t_c 5461 (by decide) ?_)
          refine hR (j_ge (by omega) (by omega) (fun hc7 => ?_) (fun hc7 => ?_))
          · skip
            refine hR (t_inc ?_)
            refine hR (?_ : R (_, _, _, _, _, _))
            exact ih10 _ _ _ (by rfl) hw_23 fr_23 hOp_23 (by omega) (by omega)
          refine hR (?_ : R (_, _, _, _, _, _))
          refine hR (c_get hOp_23 rfl ?_)
          iterate 3 refine hR (?_ : R (_, _, _, _, _, _))
          refine hR (c_obj hOp_23 (zcall_i 0 0 (Nat.le_of_ble_eq_true rfl) (Nat.le_of_ble_eq_true rfl) (c_after _ p r t hw_23 hρp (by omega) (by omega) _ fun v8 w9 hw9 g9 hp10 => ?_)))
          have fr11 := wfR_tr fr_23 g9 (by decide)
          have hO12 := (g9.2 p (by rw [hρp]; decide)).trans hOp_23
          have hO13 := (g9.2 z0_1 (by rw [hk1_0]; decide)).trans hOz0_1_23
          refine (?_ : R (_, _, (.int (Int32.ofInt v8)) :: (.ref z2_1) :: [], w9, 0, 0))
          refine hR (?_ : R (_, _, _, _, _, _))
          refine hR (c_bst hw9 (by rw [hk1_2]; rfl) ⟨by rw [hk1_2]; decide, by rw [hk1_2]; decide⟩ (by omega) (by omega) (Nat.le_of_ble_eq_true rfl) fun w14 hw14 f14 => ?_)
          have fr15 := wfR_st fr11 f14 (by rw [hk1_2]; decide)
          have hO16 := (f14.2 p (rne hρp hk1_2 (by decide))).trans hO12
          have hO17 := (f14.2 z0_1 (rne hk1_0 hk1_2 (by decide))).trans hO13
          refine hR (t_inc ?_)
          refine hR (?_ : R (_, _, _, _, _, _))
          exact ih23 _ _ hw14 fr15 hO16 hO17 (by omega) (by omega)
      exact lp23 400000000 _ _ hw_10 fr_10 hOp_10 hO5 (by omega) (by omega)
  exact lp10 400000000 _ _ _ (by rfl) hw2 fr3 hO4 (by omega) (by omega)
theorem c_marked {ρ : Nat → Nat} {w : zW} (d : Nat) (p : Nat) (hw : CI ρ w) (hρp : ρ p = 50) (Q : zQ) (h : ∀ (v : Int), Q (some (.int (Int32.ofInt v))) w) : zCl zTab (d + 1) iX4_marked [.ref p] w 0 0 Q := by
  refine zCl_i (M := kX4_marked) rfl (Nat.le_of_ble_eq_true rfl) fun R hR => ?_
  have fr0 := wfR_rf [] ρ w
  iterate 4 refine hR (?_ : R (_, _, _, _, _, _))
  have lp4 : ∀ (N : Nat) (n : Int) (t : Int), (0 ≤ t ∧ t ≤ 5461) → (5462 - t < N) → R (4, [some (.ref p), some (.int (Int32.ofInt n)), some (.int (Int32.ofInt t))], [], w, 0, 0) := by
    intro N
    induction N with
    | zero => intros; omega
    | succ N ih4 =>
      intro n t hf0_4 hN4
      refine hR (?_ : R (_, _, _, _, _, _))
      refine hR (t_c 5461 (by decide) ?_)
      refine hR (j_ge (by omega) (by omega) (fun hc1 => ?_) (fun hc1 => ?_))
      · skip
        refine hR (?_ : R (_, _, _, _, _, _))
        exact hR (zret_i rfl (Nat.le_refl _) trivial (h _))
      iterate 2 refine hR (?_ : R (_, _, _, _, _, _))
      obtain ⟨z0_2, z2_2, z3_2, hO2, hk2_0, hk2_1, hk2_2, hk2_3, hk2_4⟩ := CI_o50 hw hρp
      refine hR (c_get hO2 rfl ?_)
      refine hR (?_ : R (_, _, _, _, _, _))
      refine hR (c_bld hw (by rw [hk2_2]; rfl) (by omega) (by omega) (Nat.le_of_ble_eq_true rfl) fun v3 rv3 => ?_)
      refine hR (t_add ?_)
      refine hR (?_ : R (_, _, _, _, _, _))
      refine hR (t_inc ?_)
      refine hR (?_ : R (_, _, _, _, _, _))
      exact ih4 _ _ (by omega) (by omega)
  exact lp4 400000000 _ _ (by omega) (by omega)
theorem c_leastMarked {ρ : Nat → Nat} {w : zW} (d : Nat) (p : Nat) (hw : CI ρ w) (hρp : ρ p = 50) (Q : zQ) (h : ∀ (v : Int), Q (some (.int (Int32.ofInt v))) w) : zCl zTab (d + 1) iX4_leastMarked [.ref p] w 0 0 Q := by
  refine zCl_i (M := kX4_leastMarked) rfl (Nat.le_of_ble_eq_true rfl) fun R hR => ?_
  have fr0 := wfR_rf [] ρ w
  iterate 2 refine hR (?_ : R (_, _, _, _, _, _))
  have lp2 : ∀ (N : Nat) (t : Int), (0 ≤ t ∧ t ≤ 5461) → (5462 - t < N) → R (2, [some (.ref p), some (.int (Int32.ofInt t))], [], w, 0, 0) := by
    intro N
    induction N with
    | zero => intros; omega
    | succ N ih2 =>
      intro t hf0_2 hN2
      refine hR (?_ : R (_, _, _, _, _, _))
      refine hR (t_c 5461 (by decide) ?_)
      refine hR (j_ge (by omega) (by omega) (fun hc1 => ?_) (fun hc1 => ?_))
      · skip
        refine hR (?_ : R (_, _, _, _, _, _))
        exact hR (zret_i rfl (Nat.le_refl _) trivial (h _))
      refine hR (?_ : R (_, _, _, _, _, _))
      obtain ⟨z0_2, z2_2, z3_2, hO2, hk2_0, hk2_1, hk2_2, hk2_3, hk2_4⟩ := CI_o50 hw hρp
      refine hR (c_get hO2 rfl ?_)
      refine hR (?_ : R (_, _, _, _, _, _))
      refine hR (c_bld hw (by rw [hk2_2]; rfl) (by omega) (by omega) (Nat.le_of_ble_eq_true rfl) fun v3 rv3 => ?_)
      refine hR (j_any ?_ ?_)
      rotate_left
      · skip
        refine hR (?_ : R (_, _, _, _, _, _))
        exact hR (zret_i rfl (Nat.le_refl _) trivial (h _))
      refine hR (t_inc ?_)
      refine hR (?_ : R (_, _, _, _, _, _))
      exact ih2 _ (by omega) (by omega)
  exact lp2 400000000 _ (by omega) (by omega)
