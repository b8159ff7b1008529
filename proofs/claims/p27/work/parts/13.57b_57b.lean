/-! THE TELLER, exactly. -/
noncomputable def wfM (K : Nat → Prop) (w w' : zW) : Prop := w'.length = w.length ∧ ∀ j, K j → zix w' j = zix w j
theorem wfM_rf (K : Nat → Prop) (w : zW) : wfM K w w := ⟨rfl, fun _ _ => rfl⟩
theorem wfM_st {K : Nat → Prop} {w w1 w2 : zW} {q : Nat} (h : wfM K w w1) (hf : wfr q w1 w2) (hq : ∀ j, K j → j ≠ q) : wfM K w w2 :=
  ⟨hf.1.trans h.1, fun j hj => (hf.2 j (hq j hj)).trans (h.2 j hj)⟩
theorem wfM_tr {K K' : Nat → Prop} {w w1 w2 : zW} (h : wfM K w w1) (h2 : wfM K' w1 w2) (hk : ∀ j, K j → K' j) : wfM K w w2 :=
  ⟨h2.1.trans h.1, fun j hj => (h2.2 j (hk j hj)).trans (h.2 j hj)⟩
section XZ
variable {R : zS → Prop} {np : Nat} {L : zL} {S : List Value} {w : zW} {k n : Nat}
theorem x_bld {q len : Nat} {i : Int} {g : Nat → Int32} (h2 : zix w q = some (.inl (0, len, .inl g))) (h0 : 0 ≤ i) (h1 : i < len) (hl : len ≤ 60000) (hk : ∀ v : Int, v = (g i.toNat).toInt → (-2147483648 ≤ v ∧ v ≤ 2147483647) → R (np, L, .int (Int32.ofInt v) :: S, w, k, n)) : zai w q (fun ti len g => zif (Nat.beq ti 0 || Nat.beq ti 2) (vp_in (Int32.ofInt i) len ∧ R (np, L, .int (g (Int32.ofInt i).toNatClampNeg) :: S, w, k, n))) := by
  unfold zai
  rw [h2]
  exact t_ldE h0 h1 hl hk
theorem x_ast {q len : Nat} {i : Int} {x : Int32} {g : Nat → Int32} (h2 : zix w q = some (.inl (1, len, .inl g))) (h0 : 0 ≤ i) (h1 : i < len) (hl : len ≤ 60000) (hk : ∀ w1, wfr q w w1 → zix w1 q = some (.inl (1, len, .inl (upd g i.toNat x))) → R (np, L, S, w1, k, n)) : zai w q (fun ti len g => zif (Nat.beq ti 1) (vp_in (Int32.ofInt i) len ∧ R (np, L, S, zst w q (.inl (ti, len, .inl (upd g (Int32.ofInt i).toNatClampNeg x))), k, n))) := by
  unfold zai
  rw [h2]
  refine ⟨zvin h0 h1 hl, ?_⟩
  have ec : (Int32.ofInt i).toNatClampNeg = i.toNat := zcl h0 (by omega)
  rw [ec]
  obtain ⟨f1, f2⟩ := wfr_st (c' := .inl (1, len, .inl (upd g i.toNat x))) h2
  exact hk _ f1 f2
end XZ
theorem bl_s {g : Nat → Int32} {n a : Int} (h0 : 0 ≤ a) (h1 : a < n) (h : tBy g a = 10 ∨ tBy g a = 32) : tRun cBl g n (a + 1) = tRun cBl g n a := tRun_s h0 h1 (decide_eq_true h)
theorem bl_e {g : Nat → Int32} {n a : Int} (h0 : 0 ≤ a) (h : n ≤ a ∨ ¬ (tBy g a = 10 ∨ tBy g a = 32)) : tRun cBl g n a = a := by
  rcases h with h | h
  · exact tRun_n h0 h
  · exact tRun_f h0 (decide_eq_false h)
theorem ltr_s {g : Nat → Int32} {n a : Int} (h0 : 0 ≤ a) (h1 : a < n) (h : 97 ≤ tBy g a ∧ tBy g a ≤ 122) : tRun cLt g n (a + 1) = tRun cLt g n a := tRun_s h0 h1 (decide_eq_true h)
theorem ltr_e {g : Nat → Int32} {n a : Int} (h0 : 0 ≤ a) (h : n ≤ a ∨ ¬ (97 ≤ tBy g a ∧ tBy g a ≤ 122)) : tRun cLt g n a = a := by
  rcases h with h | h
  · exact tRun_n h0 h
  · exact tRun_f h0 (decide_eq_false h)
theorem dg_s {g : Nat → Int32} {n a : Int} (h0 : 0 ≤ a) (h1 : a < n) (h : 48 ≤ tBy g a ∧ tBy g a ≤ 57) : tRun cDg g n (a + 1) = tRun cDg g n a := tRun_s h0 h1 (decide_eq_true h)
theorem dg_e {g : Nat → Int32} {n a : Int} (h0 : 0 ≤ a) (h : n ≤ a ∨ ¬ (48 ≤ tBy g a ∧ tBy g a ≤ 57)) : tRun cDg g n a = a := by
  rcases h with h | h
  · exact tRun_n h0 h
  · exact tRun_f h0 (decide_eq_false h)
/-- the token behind a -/
noncomputable def ADV (g : Nat → Int32) (l a s k e x : Int) : Prop := s = tS g l a ∧ k = tK g l a ∧ e = tE g l a ∧ (k = 2 → x = tV g l a)
theorem adv_0 {g : Nat → Int32} {l a s x : Int} (hs : tRun cBl g l a = s) (h : l ≤ s) : ADV g l a s 0 s x := by
  have e := kOf_0 (g := g) h
  subst hs
  exact ⟨rfl, e.1.symm, e.2.symm, fun q => absurd q (by decide)⟩
theorem adv_1 {g : Nat → Int32} {l a s e x : Int} (hs : tRun cBl g l a = s) (h : s < l) (h1 : 97 ≤ tBy g s ∧ tBy g s ≤ 122) (he : tRun cLt g l s = e) : ADV g l a s 1 e x := by
  have z := kOf_1 (g := g) (n := l) (s := s) (by omega) h1
  subst hs he
  exact ⟨rfl, z.1.symm, z.2.symm, fun q => absurd q (by decide)⟩
theorem adv_2 {g : Nat → Int32} {l a s k e x : Int} (hs : tRun cBl g l a = s) (h : s < l) (h1 : ¬ (97 ≤ tBy g s ∧ tBy g s ≤ 122)) (h2 : 48 ≤ tBy g s ∧ tBy g s ≤ 57) (he : tRun cDg g l s = e) (hk : (e ≤ s + 2 ∧ k = 2) ∨ (s + 2 < e ∧ k = 4)) (hx : (e = s + 1 ∧ x = tBy g s - 48) ∨ (s + 2 ≤ e ∧ x = (tBy g s - 48) * 10 + (tBy g (s + 1) - 48))) : ADV g l a s k e x := by
  have z := kOf_2 (g := g) (n := l) (s := s) (by omega) h1 h2
  have z2 : tE g l a = e := by rw [← he, ← z.2, ← hs]; rfl
  have z3 : tK g l a = k := by
    show kOf g l (tRun cBl g l a) = k
    rw [hs, z.1, he]
    split <;> omega
  refine ⟨hs.symm, z3.symm, z2.symm, fun q => ?_⟩
  show x = vOf g (tRun cBl g l a) (tE g l a)
  rw [hs, z2]
  unfold vOf
  split <;> omega
theorem adv_3 {g : Nat → Int32} {l a s k x : Int} (hs : tRun cBl g l a = s) (h : s < l) (h1 : ¬ (97 ≤ tBy g s ∧ tBy g s ≤ 122)) (h2 : ¬ (48 ≤ tBy g s ∧ tBy g s ≤ 57)) (hk : (tBy g s = 59 ∧ k = 3) ∨ (tBy g s ≠ 59 ∧ k = 4)) : ADV g l a s k (s + 1) x := by
  have z := kOf_3 (g := g) (n := l) (s := s) (by omega) h1 h2
  have z3 : tK g l a = k := by
    show kOf g l (tRun cBl g l a) = k
    rw [hs, z.1]
    split <;> omega
  refine ⟨hs.symm, z3.symm, ?_, fun q => by omega⟩
  rw [← z.2, ← hs]
  rfl
/-- the word at hand is the j-th -/
noncomputable def AHR (g : Nat → Int32) (s a : Int) (j : Nat) : Prop := a - s = slen j ∧ ∀ i : Int, 0 ≤ i → i < slen j → tBy g (s + i) = (chv (j + 100) i).toInt
theorem fW_r {f c wh s : Int} (h : (-2147483648 ≤ f ∧ f ≤ 2147483647) ∧ (-2147483648 ≤ c ∧ c ≤ 2147483647) ∧ (-2147483648 ≤ wh ∧ wh ≤ 2147483647) ∧ (-2147483648 ≤ s ∧ s ≤ 2147483647)) : (-2147483648 ≤ fW f c wh s ∧ fW f c wh s ≤ 2147483647) ∧ (-2147483648 ≤ fC f c wh s ∧ fC f c wh s ≤ 2147483647) := by
  unfold fW fC
  split <;> omega
noncomputable def wI (f c lo hi x s : Int) : Int := if lo ≤ x ∧ x ≤ hi then f else fW f c 2 s
noncomputable def wJ (f c lo hi x s : Int) : Int := if lo ≤ x ∧ x ≤ hi then c else fC f c 2 s
theorem wI_r {f c lo hi x s : Int} (h : (-2147483648 ≤ f ∧ f ≤ 2147483647) ∧ (-2147483648 ≤ c ∧ c ≤ 2147483647) ∧ (-2147483648 ≤ s ∧ s ≤ 2147483647)) : (-2147483648 ≤ wI f c lo hi x s ∧ wI f c lo hi x s ≤ 2147483647) ∧ (-2147483648 ≤ wJ f c lo hi x s ∧ wJ f c lo hi x s ≤ 2147483647) := by
  have := fW_r (f := f) (c := c) (wh := 2) (s := s) (by omega)
  unfold wI wJ
  split <;> omega
theorem x_isLetter (w : zW) (d : Nat) (p t : Nat) (a1 : Int) (l a k s x f c : Int) (g : Nat → Int32) (hK0 : zix w p = some (.inr (6, [.ref t, .int (Int32.ofInt l), .int (Int32.ofInt a), .int (Int32.ofInt k), .int (Int32.ofInt s), .int (Int32.ofInt x), .int (Int32.ofInt f), .int (Int32.ofInt c)]))) (hK1 : zix w t = some (.inl (0, 600, .inl g))) (hr0 : 0 ≤ a1 ∧ a1 ≤ 599) (Q : zQ) (h : ∀ (v : Int), ((v = 1 ∧ 97 ≤ tBy g a1 ∧ tBy g a1 ≤ 122) ∨ (v = 0 ∧ (tBy g a1 < 97 ∨ 122 < tBy g a1))) → Q (some (.int (Int32.ofInt v))) w) : zCl zTab (d + 1) iX7_isLetter [.ref p, .int (Int32.ofInt a1)] w 0 0 Q := by
  refine zCl_i (M := kX7_isLetter) rfl (Nat.le_of_ble_eq_true rfl) fun R hR => ?_
  refine hR (?_ : R (_, _, _, _, _, _))
  refine hR (c_get hK0 rfl ?_)
  refine hR (?_ : R (_, _, _, _, _, _))
  refine hR (x_bld hK1 (by omega) (by omega) (Nat.le_of_ble_eq_true rfl) fun v1 ev1 rv1 => ?_)
  replace ev1 : v1 = tBy g a1 := ev1
  subst ev1
  refine hR (t_c 97 (by decide) ?_)
  refine hR (j_lt (by omega) (by omega) (fun hc2 => ?_) (fun hc2 => ?_))
  · skip
    refine hR (?_ : R (_, _, _, _, _, _))
    exact hR (zret_i rfl (Nat.le_refl _) (zbo (by omega)) (h _ (by omega)))
  refine hR (?_ : R (_, _, _, _, _, _))
  refine hR (c_get hK0 rfl ?_)
  refine hR (?_ : R (_, _, _, _, _, _))
  refine hR (x_bld hK1 (by omega) (by omega) (Nat.le_of_ble_eq_true rfl) fun v3 ev3 rv3 => ?_)
  replace ev3 : v3 = tBy g a1 := ev3
  subst ev3
  refine hR (t_c 122 (by decide) ?_)
  refine hR (j_gt (by omega) (by omega) (fun hc4 => ?_) (fun hc4 => ?_))
  · skip
    refine hR (?_ : R (_, _, _, _, _, _))
    exact hR (zret_i rfl (Nat.le_refl _) (zbo (by omega)) (h _ (by omega)))
  iterate 2 refine hR (?_ : R (_, _, _, _, _, _))
  exact hR (zret_i rfl (Nat.le_refl _) (zbo (by omega)) (h _ (by omega)))
theorem x_isDigit (w : zW) (d : Nat) (p t : Nat) (a1 : Int) (l a k s x f c : Int) (g : Nat → Int32) (hK0 : zix w p = some (.inr (6, [.ref t, .int (Int32.ofInt l), .int (Int32.ofInt a), .int (Int32.ofInt k), .int (Int32.ofInt s), .int (Int32.ofInt x), .int (Int32.ofInt f), .int (Int32.ofInt c)]))) (hK1 : zix w t = some (.inl (0, 600, .inl g))) (hr0 : 0 ≤ a1 ∧ a1 ≤ 599) (Q : zQ) (h : ∀ (v : Int), ((v = 1 ∧ 48 ≤ tBy g a1 ∧ tBy g a1 ≤ 57) ∨ (v = 0 ∧ (tBy g a1 < 48 ∨ 57 < tBy g a1))) → Q (some (.int (Int32.ofInt v))) w) : zCl zTab (d + 1) iX7_isDigit [.ref p, .int (Int32.ofInt a1)] w 0 0 Q := by
  refine zCl_i (M := kX7_isDigit) rfl (Nat.le_of_ble_eq_true rfl) fun R hR => ?_
  refine hR (?_ : R (_, _, _, _, _, _))
  refine hR (c_get hK0 rfl ?_)
  refine hR (?_ : R (_, _, _, _, _, _))
  refine hR (x_bld hK1 (by omega) (by omega) (Nat.le_of_ble_eq_true rfl) fun v1 ev1 rv1 => ?_)
  replace ev1 : v1 = tBy g a1 := ev1
  subst ev1
  refine hR (t_c 48 (by decide) ?_)
  refine hR (j_lt (by omega) (by omega) (fun hc2 => ?_) (fun hc2 => ?_))
  · skip
    refine hR (?_ : R (_, _, _, _, _, _))
    exact hR (zret_i rfl (Nat.le_refl _) (zbo (by omega)) (h _ (by omega)))
  refine hR (?_ : R (_, _, _, _, _, _))
  refine hR (c_get hK0 rfl ?_)
  refine hR (?_ : R (_, _, _, _, _, _))
  refine hR (x_bld hK1 (by omega) (by omega) (Nat.le_of_ble_eq_true rfl) fun v3 ev3 rv3 => ?_)
  replace ev3 : v3 = tBy g a1 := ev3
  subst ev3
  refine hR (t_c 57 (by decide) ?_)
  refine hR (j_gt (by omega) (by omega) (fun hc4 => ?_) (fun hc4 => ?_))
  · skip
    refine hR (?_ : R (_, _, _, _, _, _))
    exact hR (zret_i rfl (Nat.le_refl _) (zbo (by omega)) (h _ (by omega)))
  iterate 2 refine hR (?_ : R (_, _, _, _, _, _))
  exact hR (zret_i rfl (Nat.le_refl _) (zbo (by omega)) (h _ (by omega)))
theorem x_advanceDigits (w : zW) (d : Nat) (p t : Nat) (l a k s x f c : Int) (g : Nat → Int32) (hK0 : zix w p = some (.inr (6, [.ref t, .int (Int32.ofInt l), .int (Int32.ofInt a), .int (Int32.ofInt k), .int (Int32.ofInt s), .int (Int32.ofInt x), .int (Int32.ofInt f), .int (Int32.ofInt c)]))) (hK1 : zix w t = some (.inl (0, 600, .inl g))) (hr0 : p ≠ t) (hr1 : a = s ∧ 0 ≤ s ∧ s < l ∧ l ≤ 600) (hr2 : 48 ≤ tBy g s ∧ tBy g s ≤ 57) (Q : zQ) (h : ∀ (a' k' x' : Int) (w' : zW), wfM (fun j => j ≠ p) w w' → zix w' p = some (.inr (6, [.ref t, .int (Int32.ofInt l), .int (Int32.ofInt a'), .int (Int32.ofInt k'), .int (Int32.ofInt s), .int (Int32.ofInt x'), .int (Int32.ofInt f), .int (Int32.ofInt c)])) → (tRun cDg g l s = a') → ((a' ≤ s + 2 ∧ k' = 2) ∨ (s + 2 < a' ∧ k' = 4)) → ((a' = s + 1 ∧ x' = tBy g s - 48) ∨ (s + 2 ≤ a' ∧ x' = (tBy g s - 48) * 10 + (tBy g (s + 1) - 48))) → Q (none) w') : zCl zTab (d + 2) iX7_advanceDigits [.ref p] w 0 0 Q := by
  refine zCl_i (M := kX7_advanceDigits) rfl (Nat.le_of_ble_eq_true rfl) fun R hR => ?_
  have fr0 : wfM (fun j => j ≠ p) w w := wfM_rf _ w
  have nX0 : FX (∀ j : Nat, (j ≠ p) → j ≠ p) := fun j hj => by omega
  have nX1 : FX (t ≠ p) := (show t ≠ p by omega)
  iterate 2 refine hR (?_ : R (_, _, _, _, _, _))
  refine hR (c_put hK0 rfl rfl fun w1 ff1 hC1 => ?_)
  have fr2 := wfM_st fr0 ff1 nX0
  have hC3 := (ff1.2 t nX1).trans hK1
  replace hC1 : zix w1 p = some (.inr (6, [.ref t, .int (Int32.ofInt l), .int (Int32.ofInt a), .int (Int32.ofInt k), .int (Int32.ofInt s), .int (Int32.ofInt 0), .int (Int32.ofInt f), .int (Int32.ofInt c)])) := hC1
  have lp5 : ∀ (N : Nat) (at3 vd : Int) (w_5 : zW), (wfM (fun j => j ≠ p) w w_5) → (zix w_5 p = some (.inr (6, [.ref t, .int (Int32.ofInt l), .int (Int32.ofInt at3), .int (Int32.ofInt k), .int (Int32.ofInt s), .int (Int32.ofInt vd), .int (Int32.ofInt f), .int (Int32.ofInt c)]))) → (zix w_5 t = some (.inl (0, 600, .inl g))) → (tRun cDg g l at3 = tRun cDg g l s) → (s ≤ at3 ∧ at3 ≤ l) → ((at3 = s ∧ vd = 0) ∨ (at3 = s + 1 ∧ vd = tBy g s - 48 ∧ 0 ≤ vd ∧ vd ≤ 9) ∨ (s + 2 ≤ at3 ∧ vd = (tBy g s - 48) * 10 + (tBy g (s + 1) - 48) ∧ 0 ≤ vd ∧ vd ≤ 99)) → (601 - at3 < N) → R (5, [some (.ref p)], [], w_5, 0, 0) := by
    intro N
    induction N with
    | zero => intros; omega
    | succ N ih5 =>
      intro at3 vd w_5 fr_5 hCp_5 hCt_5 hp0_5 hp1_5 hp2_5 hN5
      have hy1 : at3 = s → tBy g at3 = tBy g s := fun e => by rw [e]
      have hy2 : at3 = s + 1 → tBy g at3 = tBy g (s + 1) := fun e => by rw [e]
      refine hR (?_ : R (_, _, _, _, _, _))
      refine hR (c_get hCp_5 rfl ?_)
      refine hR (?_ : R (_, _, _, _, _, _))
      refine hR (c_get hCp_5 rfl ?_)
      refine hR (j_ge (by omega) (by omega) (fun hc4 => ?_) (fun hc4 => ?_))
      · skip
        iterate 2 refine hR (?_ : R (_, _, _, _, _, _))
        refine hR (c_get hCp_5 rfl ?_)
        refine hR (?_ : R (_, _, _, _, _, _))
        refine hR (c_get hCp_5 rfl ?_)
        refine hR (t_sub ?_)
        refine hR (?_ : R (_, _, _, _, _, _))
        refine hR (j_gt (by omega) (by omega) (fun hc5 => ?_) (fun hc5 => ?_))
        · skip
          refine hR (?_ : R (_, _, _, _, _, _))
          refine hR (c_put hCp_5 rfl rfl fun w6 ff6 hC6 => ?_)
          have fr7 := wfM_st fr_5 ff6 nX0
          have hC8 := (ff6.2 t nX1).trans hCt_5
          replace hC6 : zix w6 p = some (.inr (6, [.ref t, .int (Int32.ofInt l), .int (Int32.ofInt at3), .int (Int32.ofInt 4), .int (Int32.ofInt s), .int (Int32.ofInt vd), .int (Int32.ofInt f), .int (Int32.ofInt c)])) := hC6
          exact hR (zret_i rfl (Nat.le_refl _) rfl (h _ _ _ _ fr7 hC6 (by have := dg_e (g := g) (n := l) (a := at3) (by omega) (by omega); omega) (by omega) (by omega)))
        iterate 2 refine hR (?_ : R (_, _, _, _, _, _))
        refine hR (c_put hCp_5 rfl rfl fun w9 ff9 hC9 => ?_)
        have fr10 := wfM_st fr_5 ff9 nX0
        have hC11 := (ff9.2 t nX1).trans hCt_5
        replace hC9 : zix w9 p = some (.inr (6, [.ref t, .int (Int32.ofInt l), .int (Int32.ofInt at3), .int (Int32.ofInt 2), .int (Int32.ofInt s), .int (Int32.ofInt vd), .int (Int32.ofInt f), .int (Int32.ofInt c)])) := hC9
        exact hR (zret_i rfl (Nat.le_refl _) rfl (h _ _ _ _ fr10 hC9 (by have := dg_e (g := g) (n := l) (a := at3) (by omega) (by omega); omega) (by omega) (by omega)))
      iterate 2 refine hR (?_ : R (_, _, _, _, _, _))
      refine hR (c_get hCp_5 rfl ?_)
      refine hR (c_obj hCp_5 (zcall_i 0 0 (Nat.le_of_ble_eq_true rfl) (Nat.le_of_ble_eq_true rfl) (x_isDigit _ _ _ _ _ _ _ _ _ _ _ _ _ hCp_5 hCt_5 (by omega) _ fun v12 hp13 => ?_)))
      refine (?_ : R (_, _, .int (Int32.ofInt v12) :: [], w_5, 0, 0))
      refine hR (k_eq (by omega) (fun hc14 => ?_) (fun hc14 => ?_))
      · skip
        iterate 2 refine hR (?_ : R (_, _, _, _, _, _))
        refine hR (c_get hCp_5 rfl ?_)
        refine hR (?_ : R (_, _, _, _, _, _))
        refine hR (c_get hCp_5 rfl ?_)
        refine hR (t_sub ?_)
        refine hR (?_ : R (_, _, _, _, _, _))
        refine hR (j_gt (by omega) (by omega) (fun hc15 => ?_) (fun hc15 => ?_))
        · skip
          refine hR (?_ : R (_, _, _, _, _, _))
          refine hR (c_put hCp_5 rfl rfl fun w16 ff16 hC16 => ?_)
          have fr17 := wfM_st fr_5 ff16 nX0
          have hC18 := (ff16.2 t nX1).trans hCt_5
          replace hC16 : zix w16 p = some (.inr (6, [.ref t, .int (Int32.ofInt l), .int (Int32.ofInt at3), .int (Int32.ofInt 4), .int (Int32.ofInt s), .int (Int32.ofInt vd), .int (Int32.ofInt f), .int (Int32.ofInt c)])) := hC16
          exact hR (zret_i rfl (Nat.le_refl _) rfl (h _ _ _ _ fr17 hC16 (by have := dg_e (g := g) (n := l) (a := at3) (by omega) (by omega); omega) (by omega) (by omega)))
        iterate 2 refine hR (?_ : R (_, _, _, _, _, _))
        refine hR (c_put hCp_5 rfl rfl fun w19 ff19 hC19 => ?_)
        have fr20 := wfM_st fr_5 ff19 nX0
        have hC21 := (ff19.2 t nX1).trans hCt_5
        replace hC19 : zix w19 p = some (.inr (6, [.ref t, .int (Int32.ofInt l), .int (Int32.ofInt at3), .int (Int32.ofInt 2), .int (Int32.ofInt s), .int (Int32.ofInt vd), .int (Int32.ofInt f), .int (Int32.ofInt c)])) := hC19
        exact hR (zret_i rfl (Nat.le_refl _) rfl (h _ _ _ _ fr20 hC19 (by have := dg_e (g := g) (n := l) (a := at3) (by omega) (by omega); omega) (by omega) (by omega)))
      refine hR (?_ : R (_, _, _, _, _, _))
      refine hR (c_get hCp_5 rfl ?_)
      refine hR (?_ : R (_, _, _, _, _, _))
      refine hR (c_get hCp_5 rfl ?_)
      refine hR (t_sub ?_)
      refine hR (?_ : R (_, _, _, _, _, _))
      refine hR (j_ge (by omega) (by omega) (fun hc22 => ?_) (fun hc22 => ?_))
      · skip
        iterate 2 refine hR (?_ : R (_, _, _, _, _, _))
        refine hR (c_get hCp_5 rfl ?_)
        refine hR (?_ : R (_, _, _, _, _, _))
        refine hR (t_add ?_)
        refine hR (c_put hCp_5 rfl rfl fun w23 ff23 hC23 => ?_)
        have fr24 := wfM_st fr_5 ff23 nX0
        have hC25 := (ff23.2 t nX1).trans hCt_5
        replace hC23 : zix w23 p = some (.inr (6, [.ref t, .int (Int32.ofInt l), .int (Int32.ofInt (at3 + 1)), .int (Int32.ofInt k), .int (Int32.ofInt s), .int (Int32.ofInt vd), .int (Int32.ofInt f), .int (Int32.ofInt c)])) := hC23
        refine hR (?_ : R (_, _, _, _, _, _))
        exact ih5 _ _ _ fr24 hC23 hC25 ((dg_s (by omega) (by omega) (by omega)).trans hp0_5) (by omega) (by omega) (by omega)
      iterate 2 refine hR (?_ : R (_, _, _, _, _, _))
      refine hR (c_get hCp_5 rfl ?_)
      refine hR (t_c 10 (by decide) ?_)
      refine hR (t_mul ?_)
      refine hR (?_ : R (_, _, _, _, _, _))
      refine hR (c_get hCp_5 rfl ?_)
      refine hR (?_ : R (_, _, _, _, _, _))
      refine hR (c_get hCp_5 rfl ?_)
      refine hR (x_bld hCt_5 (by omega) (by omega) (Nat.le_of_ble_eq_true rfl) fun v26 ev26 rv26 => ?_)
      replace ev26 : v26 = tBy g at3 := ev26
      subst ev26
      refine hR (t_c 48 (by decide) ?_)
      refine hR (t_sub ?_)
      refine hR (t_add ?_)
      refine hR (c_put hCp_5 rfl rfl fun w27 ff27 hC27 => ?_)
      have fr28 := wfM_st fr_5 ff27 nX0
      have hC29 := (ff27.2 t nX1).trans hCt_5
      replace hC27 : zix w27 p = some (.inr (6, [.ref t, .int (Int32.ofInt l), .int (Int32.ofInt at3), .int (Int32.ofInt k), .int (Int32.ofInt s), .int (Int32.ofInt ((vd * 10) + ((tBy g at3) - 48))), .int (Int32.ofInt f), .int (Int32.ofInt c)])) := hC27
      iterate 2 refine hR (?_ : R (_, _, _, _, _, _))
      refine hR (c_get hC27 rfl ?_)
      refine hR (?_ : R (_, _, _, _, _, _))
      refine hR (t_add ?_)
      refine hR (c_put hC27 rfl rfl fun w30 ff30 hC30 => ?_)
      have fr31 := wfM_st fr28 ff30 nX0
      have hC32 := (ff30.2 t nX1).trans hC29
      replace hC30 : zix w30 p = some (.inr (6, [.ref t, .int (Int32.ofInt l), .int (Int32.ofInt (at3 + 1)), .int (Int32.ofInt k), .int (Int32.ofInt s), .int (Int32.ofInt ((vd * 10) + ((tBy g at3) - 48))), .int (Int32.ofInt f), .int (Int32.ofInt c)])) := hC30
      refine hR (?_ : R (_, _, _, _, _, _))
      exact ih5 _ _ _ fr31 hC30 hC32 ((dg_s (by omega) (by omega) (by omega)).trans hp0_5) (by omega) (by omega) (by omega)
  exact lp5 400000000 _ _ _ fr2 hC1 hC3 (by rw [hr1.1]) (by omega) (by omega) (by omega)
theorem x_advance (w : zW) (d : Nat) (p t : Nat) (l a k s x f c : Int) (g : Nat → Int32) (hK0 : zix w p = some (.inr (6, [.ref t, .int (Int32.ofInt l), .int (Int32.ofInt a), .int (Int32.ofInt k), .int (Int32.ofInt s), .int (Int32.ofInt x), .int (Int32.ofInt f), .int (Int32.ofInt c)]))) (hK1 : zix w t = some (.inl (0, 600, .inl g))) (hr0 : p ≠ t) (hr1 : 0 ≤ a ∧ a ≤ l ∧ l ≤ 600) (Q : zQ) (h : ∀ (a' k' s' x' : Int) (w' : zW), wfM (fun j => j ≠ p) w w' → zix w' p = some (.inr (6, [.ref t, .int (Int32.ofInt l), .int (Int32.ofInt a'), .int (Int32.ofInt k'), .int (Int32.ofInt s'), .int (Int32.ofInt x'), .int (Int32.ofInt f), .int (Int32.ofInt c)])) → (ADV g l a s' k' a' x') → Q (none) w') : zCl zTab (d + 3) iX7_advance [.ref p] w 0 0 Q := by
  refine zCl_i (M := kX7_advance) rfl (Nat.le_of_ble_eq_true rfl) fun R hR => ?_
  have fr0 : wfM (fun j => j ≠ p) w w := wfM_rf _ w
  have nX0 : FX (∀ j : Nat, (j ≠ p) → j ≠ p) := fun j hj => by omega
  have nX1 : FX (t ≠ p) := (show t ≠ p by omega)
  have nX2 : FX (p ≠ t) := (show p ≠ t by omega)
  have nX3 : FX (∀ j : Nat, (j ≠ p) → (j ≠ p)) := fun j hj => by omega
  have lp0 : ∀ (N : Nat) (at1 : Int) (w_0 : zW), (wfM (fun j => j ≠ p) w w_0) → (zix w_0 p = some (.inr (6, [.ref t, .int (Int32.ofInt l), .int (Int32.ofInt at1), .int (Int32.ofInt k), .int (Int32.ofInt s), .int (Int32.ofInt x), .int (Int32.ofInt f), .int (Int32.ofInt c)]))) → (zix w_0 t = some (.inl (0, 600, .inl g))) → (tRun cBl g l at1 = tRun cBl g l a) → (0 ≤ at1 ∧ at1 ≤ l) → (601 - at1 < N) → R (0, [some (.ref p)], [], w_0, 0, 0) := by
    intro N
    induction N with
    | zero => intros; omega
    | succ N ih0 =>
      intro at1 w_0 fr_0 hCp_0 hCt_0 hp0_0 hp1_0 hN0
      refine hR (?_ : R (_, _, _, _, _, _))
      refine hR (c_get hCp_0 rfl ?_)
      refine hR (?_ : R (_, _, _, _, _, _))
      refine hR (c_get hCp_0 rfl ?_)
      refine hR (j_ge (by omega) (by omega) (fun hc1 => ?_) (fun hc1 => ?_))
      · skip
        iterate 2 refine hR (?_ : R (_, _, _, _, _, _))
        refine hR (c_get hCp_0 rfl ?_)
        refine hR (c_put hCp_0 rfl rfl fun w2 ff2 hC2 => ?_)
        have fr3 := wfM_st fr_0 ff2 nX0
        have hC4 := (ff2.2 t nX1).trans hCt_0
        replace hC2 : zix w2 p = some (.inr (6, [.ref t, .int (Int32.ofInt l), .int (Int32.ofInt at1), .int (Int32.ofInt k), .int (Int32.ofInt at1), .int (Int32.ofInt x), .int (Int32.ofInt f), .int (Int32.ofInt c)])) := hC2
        refine hR (?_ : R (_, _, _, _, _, _))
        refine hR (c_get hC2 rfl ?_)
        refine hR (?_ : R (_, _, _, _, _, _))
        refine hR (c_get hC2 rfl ?_)
        refine hR (j_lt (by omega) (by omega) (fun hc => by omega) (fun _ => ?_))
        iterate 2 refine hR (?_ : R (_, _, _, _, _, _))
        refine hR (c_put hC2 rfl rfl fun w5 ff5 hC5 => ?_)
        have fr6 := wfM_st fr3 ff5 nX0
        have hC7 := (ff5.2 t nX1).trans hC4
        replace hC5 : zix w5 p = some (.inr (6, [.ref t, .int (Int32.ofInt l), .int (Int32.ofInt at1), .int (Int32.ofInt 0), .int (Int32.ofInt at1), .int (Int32.ofInt x), .int (Int32.ofInt f), .int (Int32.ofInt c)])) := hC5
        refine hR (?_ : R (_, _, _, _, _, _))
        exact hR (zret_i rfl (Nat.le_refl _) rfl (h _ _ _ _ _ fr6 hC5 (adv_0 (((bl_e (g := g) (n := l) (a := at1) (by omega) (by omega)).symm.trans hp0_0).symm) (by omega))))
      refine hR (?_ : R (_, _, _, _, _, _))
      refine hR (c_get hCp_0 rfl ?_)
      refine hR (?_ : R (_, _, _, _, _, _))
      refine hR (c_get hCp_0 rfl ?_)
      refine hR (x_bld hCt_0 (by omega) (by omega) (Nat.le_of_ble_eq_true rfl) fun v8 ev8 rv8 => ?_)
      replace ev8 : v8 = tBy g at1 := ev8
      subst ev8
      refine hR (t_c 10 (by decide) ?_)
      refine hR (j_eq (by omega) (by omega) (fun hc9 => ?_) (fun hc9 => ?_))
      · skip
        iterate 2 refine hR (?_ : R (_, _, _, _, _, _))
        refine hR (c_get hCp_0 rfl ?_)
        refine hR (?_ : R (_, _, _, _, _, _))
        refine hR (t_add ?_)
        refine hR (c_put hCp_0 rfl rfl fun w10 ff10 hC10 => ?_)
        have fr11 := wfM_st fr_0 ff10 nX0
        have hC12 := (ff10.2 t nX1).trans hCt_0
        replace hC10 : zix w10 p = some (.inr (6, [.ref t, .int (Int32.ofInt l), .int (Int32.ofInt (at1 + 1)), .int (Int32.ofInt k), .int (Int32.ofInt s), .int (Int32.ofInt x), .int (Int32.ofInt f), .int (Int32.ofInt c)])) := hC10
        refine hR (?_ : R (_, _, _, _, _, _))
        exact ih0 _ _ fr11 hC10 hC12 ((bl_s (by omega) (by omega) (by omega)).trans hp0_0) (by omega) (by omega)
      refine hR (?_ : R (_, _, _, _, _, _))
      refine hR (c_get hCp_0 rfl ?_)
      refine hR (?_ : R (_, _, _, _, _, _))
      refine hR (c_get hCp_0 rfl ?_)
      refine hR (x_bld hCt_0 (by omega) (by omega) (Nat.le_of_ble_eq_true rfl) fun v13 ev13 rv13 => ?_)
      replace ev13 : v13 = tBy g at1 := ev13
      subst ev13
      refine hR (t_c 32 (by decide) ?_)
      refine hR (j_ne (by omega) (by omega) (fun hc14 => ?_) (fun hc14 => ?_))
      rotate_left
      · skip
        iterate 2 refine hR (?_ : R (_, _, _, _, _, _))
        refine hR (c_get hCp_0 rfl ?_)
        refine hR (?_ : R (_, _, _, _, _, _))
        refine hR (t_add ?_)
        refine hR (c_put hCp_0 rfl rfl fun w59 ff59 hC59 => ?_)
        have fr60 := wfM_st fr_0 ff59 nX0
        have hC61 := (ff59.2 t nX1).trans hCt_0
        replace hC59 : zix w59 p = some (.inr (6, [.ref t, .int (Int32.ofInt l), .int (Int32.ofInt (at1 + 1)), .int (Int32.ofInt k), .int (Int32.ofInt s), .int (Int32.ofInt x), .int (Int32.ofInt f), .int (Int32.ofInt c)])) := hC59
        refine hR (?_ : R (_, _, _, _, _, _))
        exact ih0 _ _ fr60 hC59 hC61 ((bl_s (by omega) (by omega) (by omega)).trans hp0_0) (by omega) (by omega)
      iterate 2 refine hR (?_ : R (_, _, _, _, _, _))
      refine hR (c_get hCp_0 rfl ?_)
      refine hR (c_put hCp_0 rfl rfl fun w15 ff15 hC15 => ?_)
      have fr16 := wfM_st fr_0 ff15 nX0
      have hC17 := (ff15.2 t nX1).trans hCt_0
      replace hC15 : zix w15 p = some (.inr (6, [.ref t, .int (Int32.ofInt l), .int (Int32.ofInt at1), .int (Int32.ofInt k), .int (Int32.ofInt at1), .int (Int32.ofInt x), .int (Int32.ofInt f), .int (Int32.ofInt c)])) := hC15
      refine hR (?_ : R (_, _, _, _, _, _))
      refine hR (c_get hC15 rfl ?_)
      refine hR (?_ : R (_, _, _, _, _, _))
      refine hR (c_get hC15 rfl ?_)
      refine hR (j_lt (by omega) (by omega) (fun _ => ?_) (fun hc => by omega))
      iterate 2 refine hR (?_ : R (_, _, _, _, _, _))
      refine hR (c_get hC15 rfl ?_)
      refine hR (c_obj hC15 (zcall_i 0 0 (Nat.le_of_ble_eq_true rfl) (Nat.le_of_ble_eq_true rfl) (x_isLetter _ _ _ _ _ _ _ _ _ _ _ _ _ hC15 hC17 (by omega) _ fun v18 hp19 => ?_)))
      refine (?_ : R (_, _, .int (Int32.ofInt v18) :: [], w15, 0, 0))
      refine hR (k_eq (by omega) (fun hc20 => ?_) (fun hc20 => ?_))
      rotate_left
      · skip
        iterate 2 refine hR (?_ : R (_, _, _, _, _, _))
        refine hR (c_put hC15 rfl rfl fun w49 ff49 hC49 => ?_)
        have fr50 := wfM_st fr16 ff49 nX0
        have hC51 := (ff49.2 t nX1).trans hC17
        replace hC49 : zix w49 p = some (.inr (6, [.ref t, .int (Int32.ofInt l), .int (Int32.ofInt at1), .int (Int32.ofInt 1), .int (Int32.ofInt at1), .int (Int32.ofInt x), .int (Int32.ofInt f), .int (Int32.ofInt c)])) := hC49
        have lp95 : ∀ (N : Nat) (at2 : Int) (w_95 : zW), (wfM (fun j => j ≠ p) w w_95) → (zix w_95 p = some (.inr (6, [.ref t, .int (Int32.ofInt l), .int (Int32.ofInt at2), .int (Int32.ofInt 1), .int (Int32.ofInt at1), .int (Int32.ofInt x), .int (Int32.ofInt f), .int (Int32.ofInt c)]))) → (zix w_95 t = some (.inl (0, 600, .inl g))) → (tRun cLt g l at2 = tRun cLt g l at1) → (at1 ≤ at2 ∧ at2 ≤ l) → (601 - at2 < N) → R (95, [some (.ref p)], [], w_95, 0, 0) := by
          intro N
          induction N with
          | zero => intros; omega
          | succ N ih95 =>
            intro at2 w_95 fr_95 hCp_95 hCt_95 hp0_95 hp1_95 hN95
            refine hR (?_ : R (_, _, _, _, _, _))
            refine hR (c_get hCp_95 rfl ?_)
            refine hR (?_ : R (_, _, _, _, _, _))
            refine hR (c_get hCp_95 rfl ?_)
            refine hR (j_ge (by omega) (by omega) (fun hc52 => ?_) (fun hc52 => ?_))
            · skip
              exact hR (zret_i rfl (Nat.le_refl _) rfl (h _ _ _ _ _ fr_95 hCp_95 (adv_1 (((bl_e (g := g) (n := l) (a := at1) (by omega) (by omega)).symm.trans hp0_0).symm) (by omega) (by omega) ((ltr_e (g := g) (n := l) (a := at2) (by omega) (by omega)).symm.trans hp0_95).symm)))
            iterate 2 refine hR (?_ : R (_, _, _, _, _, _))
            refine hR (c_get hCp_95 rfl ?_)
            refine hR (c_obj hCp_95 (zcall_i 0 0 (Nat.le_of_ble_eq_true rfl) (Nat.le_of_ble_eq_true rfl) (x_isLetter _ _ _ _ _ _ _ _ _ _ _ _ _ hCp_95 hCt_95 (by omega) _ fun v53 hp54 => ?_)))
            refine (?_ : R (_, _, .int (Int32.ofInt v53) :: [], w_95, 0, 0))
            refine hR (k_eq (by omega) (fun hc55 => ?_) (fun hc55 => ?_))
            · skip
              exact hR (zret_i rfl (Nat.le_refl _) rfl (h _ _ _ _ _ fr_95 hCp_95 (adv_1 (((bl_e (g := g) (n := l) (a := at1) (by omega) (by omega)).symm.trans hp0_0).symm) (by omega) (by omega) ((ltr_e (g := g) (n := l) (a := at2) (by omega) (by omega)).symm.trans hp0_95).symm)))
            iterate 2 refine hR (?_ : R (_, _, _, _, _, _))
            refine hR (c_get hCp_95 rfl ?_)
            refine hR (?_ : R (_, _, _, _, _, _))
            refine hR (t_add ?_)
            refine hR (c_put hCp_95 rfl rfl fun w56 ff56 hC56 => ?_)
            have fr57 := wfM_st fr_95 ff56 nX0
            have hC58 := (ff56.2 t nX1).trans hCt_95
            replace hC56 : zix w56 p = some (.inr (6, [.ref t, .int (Int32.ofInt l), .int (Int32.ofInt (at2 + 1)), .int (Int32.ofInt 1), .int (Int32.ofInt at1), .int (Int32.ofInt x), .int (Int32.ofInt f), .int (Int32.ofInt c)])) := hC56
            refine hR (?_ : R (_, _, _, _, _, _))
            exact ih95 _ _ fr57 hC56 hC58 ((ltr_s (by omega) (by omega) (by omega)).trans hp0_95) (by omega) (by omega)
        exact lp95 400000000 _ _ fr50 hC49 hC51 rfl (by omega) (by omega)
      iterate 2 refine hR (?_ : R (_, _, _, _, _, _))
      refine hR (c_get hC15 rfl ?_)
      refine hR (c_obj hC15 (zcall_i 0 0 (Nat.le_of_ble_eq_true rfl) (Nat.le_of_ble_eq_true rfl) (x_isDigit _ _ _ _ _ _ _ _ _ _ _ _ _ hC15 hC17 (by omega) _ fun v21 hp22 => ?_)))
      refine (?_ : R (_, _, .int (Int32.ofInt v21) :: [], w15, 0, 0))
      refine hR (k_eq (by omega) (fun hc23 => ?_) (fun hc23 => ?_))
      rotate_left
      · skip
        refine hR (?_ : R (_, _, _, _, _, _))
        refine hR (c_obj hC15 (zcall_i 0 0 (Nat.le_of_ble_eq_true rfl) (Nat.le_of_ble_eq_true rfl) (x_advanceDigits _ _ _ _ _ _ _ _ _ _ _ _ hC15 hC17 (show p ≠ t from nX2) (by omega) (by omega) _ fun a'_38 k'_39 x'_40 w41 gg42 hC43 hp44 hp45 hp46 => ?_)))
        have fr47 := wfM_tr fr16 gg42 nX3
        have hC48 := (gg42.2 t nX1).trans hC17
        refine (?_ : R (_, _, [], w41, 0, 0))
        refine hR (?_ : R (_, _, _, _, _, _))
        exact hR (zret_i rfl (Nat.le_refl _) rfl (h _ _ _ _ _ fr47 hC43 (adv_2 (((bl_e (g := g) (n := l) (a := at1) (by omega) (by omega)).symm.trans hp0_0).symm) (by omega) (by omega) (by omega) hp44 hp45 hp46)))
      iterate 2 refine hR (?_ : R (_, _, _, _, _, _))
      refine hR (c_get hC15 rfl ?_)
      refine hR (?_ : R (_, _, _, _, _, _))
      refine hR (c_get hC15 rfl ?_)
      refine hR (x_bld hC17 (by omega) (by omega) (Nat.le_of_ble_eq_true rfl) fun v24 ev24 rv24 => ?_)
      replace ev24 : v24 = tBy g at1 := ev24
      subst ev24
      refine hR (t_c 59 (by decide) ?_)
      refine hR (j_ne (by omega) (by omega) (fun hc25 => ?_) (fun hc25 => ?_))
      · skip
        refine hR (?_ : R (_, _, _, _, _, _))
        refine hR (c_put hC15 rfl rfl fun w26 ff26 hC26 => ?_)
        have fr27 := wfM_st fr16 ff26 nX0
        have hC28 := (ff26.2 t nX1).trans hC17
        replace hC26 : zix w26 p = some (.inr (6, [.ref t, .int (Int32.ofInt l), .int (Int32.ofInt at1), .int (Int32.ofInt 4), .int (Int32.ofInt at1), .int (Int32.ofInt x), .int (Int32.ofInt f), .int (Int32.ofInt c)])) := hC26
        iterate 2 refine hR (?_ : R (_, _, _, _, _, _))
        refine hR (c_get hC26 rfl ?_)
        refine hR (?_ : R (_, _, _, _, _, _))
        refine hR (t_add ?_)
        refine hR (c_put hC26 rfl rfl fun w29 ff29 hC29 => ?_)
        have fr30 := wfM_st fr27 ff29 nX0
        have hC31 := (ff29.2 t nX1).trans hC28
        replace hC29 : zix w29 p = some (.inr (6, [.ref t, .int (Int32.ofInt l), .int (Int32.ofInt (at1 + 1)), .int (Int32.ofInt 4), .int (Int32.ofInt at1), .int (Int32.ofInt x), .int (Int32.ofInt f), .int (Int32.ofInt c)])) := hC29
        exact hR (zret_i rfl (Nat.le_refl _) rfl (h _ _ _ _ _ fr30 hC29 (adv_3 (((bl_e (g := g) (n := l) (a := at1) (by omega) (by omega)).symm.trans hp0_0).symm) (by omega) (by omega) (by omega) (by omega))))
      iterate 2 refine hR (?_ : R (_, _, _, _, _, _))
      refine hR (c_put hC15 rfl rfl fun w32 ff32 hC32 => ?_)
      have fr33 := wfM_st fr16 ff32 nX0
      have hC34 := (ff32.2 t nX1).trans hC17
      replace hC32 : zix w32 p = some (.inr (6, [.ref t, .int (Int32.ofInt l), .int (Int32.ofInt at1), .int (Int32.ofInt 3), .int (Int32.ofInt at1), .int (Int32.ofInt x), .int (Int32.ofInt f), .int (Int32.ofInt c)])) := hC32
      iterate 2 refine hR (?_ : R (_, _, _, _, _, _))
      refine hR (c_get hC32 rfl ?_)
      refine hR (?_ : R (_, _, _, _, _, _))
      refine hR (t_add ?_)
      refine hR (c_put hC32 rfl rfl fun w35 ff35 hC35 => ?_)
      have fr36 := wfM_st fr33 ff35 nX0
      have hC37 := (ff35.2 t nX1).trans hC34
      replace hC35 : zix w35 p = some (.inr (6, [.ref t, .int (Int32.ofInt l), .int (Int32.ofInt (at1 + 1)), .int (Int32.ofInt 3), .int (Int32.ofInt at1), .int (Int32.ofInt x), .int (Int32.ofInt f), .int (Int32.ofInt c)])) := hC35
      exact hR (zret_i rfl (Nat.le_refl _) rfl (h _ _ _ _ _ fr36 hC35 (adv_3 (((bl_e (g := g) (n := l) (a := at1) (by omega) (by omega)).symm.trans hp0_0).symm) (by omega) (by omega) (by omega) (by omega))))
  exact lp0 400000000 _ _ fr0 hK0 hK1 rfl (by omega) (by omega)
theorem x_isAtHand (w : zW) (d : Nat) (p t j0 : Nat) (l a k s x f c : Int) (g : Nat → Int32) (hK0 : zix w p = some (.inr (6, [.ref t, .int (Int32.ofInt l), .int (Int32.ofInt a), .int (Int32.ofInt k), .int (Int32.ofInt s), .int (Int32.ofInt x), .int (Int32.ofInt f), .int (Int32.ofInt c)]))) (hK1 : zix w t = some (.inl (0, 600, .inl g))) (hr0 : zstr j0 = true) (hr1 : 0 ≤ s ∧ s ≤ a ∧ a ≤ l ∧ l ≤ 600) (Q : zQ) (h : ∀ (v : Int), ((v = 1 ∧ AHR g s a j0) ∨ (v = 0 ∧ ¬ AHR g s a j0)) → Q (some (.int (Int32.ofInt v))) w) : zCl zTab (d + 5) iX7_isAtHand [.ref p, .retAddr j0] w 0 0 Q := by
  refine zCl_i (M := kX7_isAtHand) rfl (Nat.le_of_ble_eq_true rfl) fun R hR => ?_
  refine hR (?_ : R (_, _, _, _, _, _))
  refine hR (c_get hK0 rfl ?_)
  refine hR (?_ : R (_, _, _, _, _, _))
  refine hR (c_get hK0 rfl ?_)
  refine hR (t_sub ?_)
  refine hR (?_ : R (_, _, _, _, _, _))
  refine hR (zif_i (by rw [hr0]; rfl) (zcall_i 0 0 (Nat.le_of_ble_eq_true rfl) (Nat.le_of_ble_eq_true rfl) (c_slen _ _ j0 hr0 _ fun v1 hp2 hhp2 => ?_)))
  refine (?_ : R (_, _, .int (Int32.ofInt v1) :: .int (Int32.ofInt (a - s)) :: [], w, 0, 0))
  refine hR (j_eq (by omega) (by omega) (fun hc3 => ?_) (fun hc3 => ?_))
  rotate_left
  · skip
    refine hR (?_ : R (_, _, _, _, _, _))
    exact hR (zret_i rfl (Nat.le_refl _) (zbo (by omega)) (h _ (Or.inr ⟨rfl, fun hx => by have := hx.1; omega⟩)))
  iterate 2 refine hR (?_ : R (_, _, _, _, _, _))
  have lp20 : ∀ (N : Nat) (i : Int), (0 ≤ i ∧ i ≤ 7) → (∀ i2 : Int, 0 ≤ i2 → i2 < i → tBy g (s + i2) = (chv (j0 + 100) i2).toInt) → (8 - i < N) → R (20, [some (.ref p), some (.retAddr j0), some (.int (Int32.ofInt i))], [], w, 0, 0) := by
    intro N
    induction N with
    | zero => intros; omega
    | succ N ih20 =>
      intro i hf0_20 hp0_20 hN20
      iterate 2 refine hR (?_ : R (_, _, _, _, _, _))
      refine hR (zif_i (by rw [hr0]; rfl) (zcall_i 0 0 (Nat.le_of_ble_eq_true rfl) (Nat.le_of_ble_eq_true rfl) (c_slen _ _ j0 hr0 _ fun v4 hp5 hhp5 => ?_)))
      refine (?_ : R (_, _, .int (Int32.ofInt v4) :: .int (Int32.ofInt i) :: [], w, 0, 0))
      refine hR (j_ge (by omega) (by omega) (fun hc6 => ?_) (fun hc6 => ?_))
      · skip
        refine hR (?_ : R (_, _, _, _, _, _))
        exact hR (zret_i rfl (Nat.le_refl _) (zbo (by omega)) (h _ (Or.inl ⟨rfl, by omega, fun i h0 h1 => hp0_20 i h0 (by omega)⟩)))
      refine hR (?_ : R (_, _, _, _, _, _))
      refine hR (c_get hK0 rfl ?_)
      refine hR (?_ : R (_, _, _, _, _, _))
      refine hR (c_get hK0 rfl ?_)
      refine hR (?_ : R (_, _, _, _, _, _))
      refine hR (t_add ?_)
      refine hR (x_bld hK1 (by omega) (by omega) (Nat.le_of_ble_eq_true rfl) fun v7 ev7 rv7 => ?_)
      replace ev7 : v7 = tBy g (s + i) := ev7
      subst ev7
      iterate 2 refine hR (?_ : R (_, _, _, _, _, _))
      refine hR (zif_i (by rw [hr0]; rfl) (zcall_i 0 0 (Nat.le_of_ble_eq_true rfl) (Nat.le_of_ble_eq_true rfl) (c_charAt _ _ j0 i hr0 (by omega) _ fun v8 hp9 hhp9 => ?_)))
      refine (?_ : R (_, _, .int (Int32.ofInt v8) :: .int (Int32.ofInt (tBy g (s + i))) :: [], w, 0, 0))
      refine hR (j_eq (by omega) (by omega) (fun hc10 => ?_) (fun hc10 => ?_))
      rotate_left
      · skip
        refine hR (?_ : R (_, _, _, _, _, _))
        exact hR (zret_i rfl (Nat.le_refl _) (zbo (by omega)) (h _ (Or.inr ⟨rfl, fun hx => by have hz := hx.2 i (by omega) (by omega); omega⟩)))
      refine hR (t_inc ?_)
      refine hR (?_ : R (_, _, _, _, _, _))
      exact ih20 _ (by omega) (fun i2 h0 h1 => by rcases Int.lt_or_le i2 i with hq | hq; (· exact hp0_20 i2 h0 hq); have e : i2 = i := (by omega); subst e; omega) (by omega)
  exact lp20 400000000 _ (by omega) (fun i h0 h1 => by omega) (by omega)
theorem x_faultHere (w : zW) (d : Nat) (p t : Nat) (a1 : Int) (l a k s x f c : Int) (hK0 : zix w p = some (.inr (6, [.ref t, .int (Int32.ofInt l), .int (Int32.ofInt a), .int (Int32.ofInt k), .int (Int32.ofInt s), .int (Int32.ofInt x), .int (Int32.ofInt f), .int (Int32.ofInt c)]))) (hr0 : (-2147483648 ≤ s ∧ s ≤ 2147483647) ∧ (-2147483648 ≤ f ∧ f ≤ 2147483647) ∧ (-2147483648 ≤ c ∧ c ≤ 2147483647) ∧ (-2147483648 ≤ a1 ∧ a1 ≤ 2147483647)) (Q : zQ) (h : ∀ (f' c' : Int) (w' : zW), wfM (fun j => j ≠ p) w w' → zix w' p = some (.inr (6, [.ref t, .int (Int32.ofInt l), .int (Int32.ofInt a), .int (Int32.ofInt k), .int (Int32.ofInt s), .int (Int32.ofInt x), .int (Int32.ofInt f'), .int (Int32.ofInt c')])) → (f' = fW f c a1 s ∧ c' = fC f c a1 s) → Q (none) w') : zCl zTab (d + 1) iX7_faultHere [.ref p, .int (Int32.ofInt a1)] w 0 0 Q := by
  refine zCl_i (M := kX7_faultHere) rfl (Nat.le_of_ble_eq_true rfl) fun R hR => ?_
  have fr0 : wfM (fun j => j ≠ p) w w := wfM_rf _ w
  have nX0 : FX (∀ j : Nat, (j ≠ p) → j ≠ p) := fun j hj => by omega
  refine hR (?_ : R (_, _, _, _, _, _))
  refine hR (c_get hK0 rfl ?_)
  refine hR (k_eq (by omega) (fun hc1 => ?_) (fun hc1 => ?_))
  · skip
    iterate 2 refine hR (?_ : R (_, _, _, _, _, _))
    refine hR (c_put hK0 rfl rfl fun w2 ff2 hC2 => ?_)
    have fr3 := wfM_st fr0 ff2 nX0
    replace hC2 : zix w2 p = some (.inr (6, [.ref t, .int (Int32.ofInt l), .int (Int32.ofInt a), .int (Int32.ofInt k), .int (Int32.ofInt s), .int (Int32.ofInt x), .int (Int32.ofInt a1), .int (Int32.ofInt c)])) := hC2
    iterate 2 refine hR (?_ : R (_, _, _, _, _, _))
    refine hR (c_get hC2 rfl ?_)
    refine hR (c_put hC2 rfl rfl fun w4 ff4 hC4 => ?_)
    have fr5 := wfM_st fr3 ff4 nX0
    replace hC4 : zix w4 p = some (.inr (6, [.ref t, .int (Int32.ofInt l), .int (Int32.ofInt a), .int (Int32.ofInt k), .int (Int32.ofInt s), .int (Int32.ofInt x), .int (Int32.ofInt a1), .int (Int32.ofInt s)])) := hC4
    exact hR (zret_i rfl (Nat.le_refl _) rfl (h _ _ _ fr5 hC4 ⟨(fW_y (by omega)).1.symm, (fW_y (by omega)).2.symm⟩))
  refine hR (?_ : R (_, _, _, _, _, _))
  refine hR (c_get hK0 rfl ?_)
  refine hR (?_ : R (_, _, _, _, _, _))
  refine hR (c_get hK0 rfl ?_)
  refine hR (j_lt (by omega) (by omega) (fun hc6 => ?_) (fun hc6 => ?_))
  · skip
    iterate 2 refine hR (?_ : R (_, _, _, _, _, _))
    refine hR (c_put hK0 rfl rfl fun w7 ff7 hC7 => ?_)
    have fr8 := wfM_st fr0 ff7 nX0
    replace hC7 : zix w7 p = some (.inr (6, [.ref t, .int (Int32.ofInt l), .int (Int32.ofInt a), .int (Int32.ofInt k), .int (Int32.ofInt s), .int (Int32.ofInt x), .int (Int32.ofInt a1), .int (Int32.ofInt c)])) := hC7
    iterate 2 refine hR (?_ : R (_, _, _, _, _, _))
    refine hR (c_get hC7 rfl ?_)
    refine hR (c_put hC7 rfl rfl fun w9 ff9 hC9 => ?_)
    have fr10 := wfM_st fr8 ff9 nX0
    replace hC9 : zix w9 p = some (.inr (6, [.ref t, .int (Int32.ofInt l), .int (Int32.ofInt a), .int (Int32.ofInt k), .int (Int32.ofInt s), .int (Int32.ofInt x), .int (Int32.ofInt a1), .int (Int32.ofInt s)])) := hC9
    exact hR (zret_i rfl (Nat.le_refl _) rfl (h _ _ _ fr10 hC9 ⟨(fW_y (by omega)).1.symm, (fW_y (by omega)).2.symm⟩))
  refine hR (?_ : R (_, _, _, _, _, _))
  refine hR (c_get hK0 rfl ?_)
  refine hR (?_ : R (_, _, _, _, _, _))
  refine hR (c_get hK0 rfl ?_)
  refine hR (j_ne (by omega) (by omega) (fun hc11 => ?_) (fun hc11 => ?_))
  · skip
    exact hR (zret_i rfl (Nat.le_refl _) rfl (h _ _ _ fr0 hK0 ⟨(fW_n (by omega)).1.symm, (fW_n (by omega)).2.symm⟩))
  iterate 2 refine hR (?_ : R (_, _, _, _, _, _))
  refine hR (c_get hK0 rfl ?_)
  refine hR (j_ge (by omega) (by omega) (fun hc12 => ?_) (fun hc12 => ?_))
  · skip
    exact hR (zret_i rfl (Nat.le_refl _) rfl (h _ _ _ fr0 hK0 ⟨(fW_n (by omega)).1.symm, (fW_n (by omega)).2.symm⟩))
  iterate 2 refine hR (?_ : R (_, _, _, _, _, _))
  refine hR (c_put hK0 rfl rfl fun w13 ff13 hC13 => ?_)
  have fr14 := wfM_st fr0 ff13 nX0
  replace hC13 : zix w13 p = some (.inr (6, [.ref t, .int (Int32.ofInt l), .int (Int32.ofInt a), .int (Int32.ofInt k), .int (Int32.ofInt s), .int (Int32.ofInt x), .int (Int32.ofInt a1), .int (Int32.ofInt c)])) := hC13
  iterate 2 refine hR (?_ : R (_, _, _, _, _, _))
  refine hR (c_get hC13 rfl ?_)
  refine hR (c_put hC13 rfl rfl fun w15 ff15 hC15 => ?_)
  have fr16 := wfM_st fr14 ff15 nX0
  replace hC15 : zix w15 p = some (.inr (6, [.ref t, .int (Int32.ofInt l), .int (Int32.ofInt a), .int (Int32.ofInt k), .int (Int32.ofInt s), .int (Int32.ofInt x), .int (Int32.ofInt a1), .int (Int32.ofInt s)])) := hC15
  exact hR (zret_i rfl (Nat.le_refl _) rfl (h _ _ _ fr16 hC15 ⟨(fW_y (by omega)).1.symm, (fW_y (by omega)).2.symm⟩))
theorem x_isWithin (w : zW) (d : Nat) (p t : Nat) (a1 a2 : Int) (l a k s x f c : Int) (hK0 : zix w p = some (.inr (6, [.ref t, .int (Int32.ofInt l), .int (Int32.ofInt a), .int (Int32.ofInt k), .int (Int32.ofInt s), .int (Int32.ofInt x), .int (Int32.ofInt f), .int (Int32.ofInt c)]))) (hr0 : (-2147483648 ≤ s ∧ s ≤ 2147483647) ∧ (-2147483648 ≤ f ∧ f ≤ 2147483647) ∧ (-2147483648 ≤ c ∧ c ≤ 2147483647) ∧ (-2147483648 ≤ x ∧ x ≤ 2147483647) ∧ (-2147483648 ≤ a1 ∧ a1 ≤ 2147483647) ∧ (-2147483648 ≤ a2 ∧ a2 ≤ 2147483647)) (Q : zQ) (h : ∀ (v : Int) (f' c' : Int) (w' : zW), wfM (fun j => j ≠ p) w w' → zix w' p = some (.inr (6, [.ref t, .int (Int32.ofInt l), .int (Int32.ofInt a), .int (Int32.ofInt k), .int (Int32.ofInt s), .int (Int32.ofInt x), .int (Int32.ofInt f'), .int (Int32.ofInt c')])) → ((v = 1 ∧ a1 ≤ x ∧ x ≤ a2) ∨ (v = 0 ∧ (x < a1 ∨ a2 < x))) → (f' = wI f c a1 a2 x s ∧ c' = wJ f c a1 a2 x s) → Q (some (.int (Int32.ofInt v))) w') : zCl zTab (d + 2) iX7_isWithin [.ref p, .int (Int32.ofInt a1), .int (Int32.ofInt a2)] w 0 0 Q := by
  refine zCl_i (M := kX7_isWithin) rfl (Nat.le_of_ble_eq_true rfl) fun R hR => ?_
  have fr0 : wfM (fun j => j ≠ p) w w := wfM_rf _ w
  have nX0 : FX (∀ j : Nat, (j ≠ p) → (j ≠ p)) := fun j hj => by omega
  refine hR (?_ : R (_, _, _, _, _, _))
  refine hR (c_get hK0 rfl ?_)
  refine hR (?_ : R (_, _, _, _, _, _))
  refine hR (j_lt (by omega) (by omega) (fun hc1 => ?_) (fun hc1 => ?_))
  · skip
    iterate 2 refine hR (?_ : R (_, _, _, _, _, _))
    refine hR (c_obj hK0 (zcall_i 0 0 (Nat.le_of_ble_eq_true rfl) (Nat.le_of_ble_eq_true rfl) (x_faultHere _ _ _ _ _ _ _ _ _ _ _ _ hK0 (by omega) _ fun f'_2 c'_3 w4 gg5 hC6 hp7 => ?_)))
    have fr8 := wfM_tr fr0 gg5 nX0
    obtain ⟨rfl, rfl⟩ := hp7
    have hq9 := @fW_r f c 2 s (by omega)
    refine (?_ : R (_, _, [], w4, 0, 0))
    refine hR (?_ : R (_, _, _, _, _, _))
    exact hR (zret_i rfl (Nat.le_refl _) (zbo (by omega)) (h _ _ _ _ fr8 hC6 (by omega) ⟨(if_neg (by omega)).symm, (if_neg (by omega)).symm⟩))
  refine hR (?_ : R (_, _, _, _, _, _))
  refine hR (c_get hK0 rfl ?_)
  refine hR (?_ : R (_, _, _, _, _, _))
  refine hR (j_le (by omega) (by omega) (fun hc10 => ?_) (fun hc10 => ?_))
  · skip
    refine hR (?_ : R (_, _, _, _, _, _))
    exact hR (zret_i rfl (Nat.le_refl _) (zbo (by omega)) (h _ _ _ _ fr0 hK0 (by omega) ⟨(if_pos (by omega)).symm, (if_pos (by omega)).symm⟩))
  iterate 2 refine hR (?_ : R (_, _, _, _, _, _))
  refine hR (c_obj hK0 (zcall_i 0 0 (Nat.le_of_ble_eq_true rfl) (Nat.le_of_ble_eq_true rfl) (x_faultHere _ _ _ _ _ _ _ _ _ _ _ _ hK0 (by omega) _ fun f'_11 c'_12 w13 gg14 hC15 hp16 => ?_)))
  have fr17 := wfM_tr fr0 gg14 nX0
  obtain ⟨rfl, rfl⟩ := hp16
  have hq18 := @fW_r f c 2 s (by omega)
  refine (?_ : R (_, _, [], w13, 0, 0))
  refine hR (?_ : R (_, _, _, _, _, _))
  exact hR (zret_i rfl (Nat.le_refl _) (zbo (by omega)) (h _ _ _ _ fr17 hC15 (by omega) ⟨(if_neg (by omega)).symm, (if_neg (by omega)).symm⟩))
