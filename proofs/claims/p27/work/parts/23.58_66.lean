/-! THE WORLD GROWS: other roles for the same cells, and cells behind the last one. -/
theorem ap_ix {w l : zW} {j : Nat} : zix (w ++ l) (w.length + j) = zix l j := by
  rw [zix_eq, zix_eq, List.getElem?_append_right (by omega)]
  congr 1
  omega
theorem ap_lt {w l : zW} {q : Nat} (h : q < w.length) : zix (w ++ l) q = zix w q := by
  rw [zix_eq, zix_eq, List.getElem?_append_left h]
theorem ap_st {w l : zW} {j : Nat} {c : va_E} : zst (w ++ l) (w.length + j) c = w ++ zst l j c := by
  rw [zst_eq, zst_eq, List.set_append_right _ _ (by omega)]
  congr 2
  omega
noncomputable def rls (r : Nat) : List Nat := match r with
  | 1 => [2, 8, 9, 10, 13, 14, 70, 80]
  | 2 => [3, 4, 5, 6, 7]
  | 9 => [3]
  | 10 => [11, 12, 20]
  | 19 => [21, 22, 25, 26]
  | 20 => [21, 22, 23, 24]
  | 30 => [31, 32, 33]
  | 40 => [41, 42]
  | 49 => [20, 51, 52]
  | 50 => [20, 51, 52]
  | 60 => [61, 62, 63, 64]
  | 70 => [50, 71, 72, 73, 74, 75, 76]
  | 80 => [81, 82, 83, 84, 85, 86, 87, 88, 89, 90]
  | _ => []
theorem rOb_m1 {ρ σ : Nat → Nat} {q : Nat} {c : va_E} (hm : ∀ x r, r ∈ rls 1 → ρ x = r → σ x = r) (h : rOb ρ 1 q c) : rOb σ 1 q c := by
  obtain ⟨y6, y7, e, f0, f1, f2, f3, f4, f5, f6, f7⟩ := h
  exact ⟨y6, y7, e, hm _ _ (by decide) f0, hm _ _ (by decide) f1, hm _ _ (by decide) f2, hm _ _ (by decide) f3, hm _ _ (by decide) f4, hm _ _ (by decide) f5, fun z hz => hm _ _ (by decide) (f6 z hz), fun z hz => hm _ _ (by decide) (f7 z hz)⟩
theorem rOb_m2 {ρ σ : Nat → Nat} {q : Nat} {c : va_E} (hm : ∀ x r, r ∈ rls 2 → ρ x = r → σ x = r) (h : rOb ρ 2 q c) : rOb σ 2 q c := by
  obtain ⟨x1, x2, x3, e, f0, f1, f2, f3, f4, f5, f6, f7⟩ := h
  exact ⟨x1, x2, x3, e, hm _ _ (by decide) f0, f1, f2, f3, hm _ _ (by decide) f4, hm _ _ (by decide) f5, hm _ _ (by decide) f6, hm _ _ (by decide) f7⟩
theorem rOb_m9 {ρ σ : Nat → Nat} {q : Nat} {c : va_E} (hm : ∀ x r, r ∈ rls 9 → ρ x = r → σ x = r) (h : rOb ρ 9 q c) : rOb σ 9 q c := by
  obtain ⟨y0, x1, x2, x3, x4, x5, x6, x7, e, f0, f1, f2, f3, f4, f5, f6, f7⟩ := h
  exact ⟨y0, x1, x2, x3, x4, x5, x6, x7, e, fun z hz => hm _ _ (by decide) (f0 z hz), f1, f2, f3, f4, f5, f6, f7⟩
theorem rOb_m10 {ρ σ : Nat → Nat} {q : Nat} {c : va_E} (hm : ∀ x r, r ∈ rls 10 → ρ x = r → σ x = r) (h : rOb ρ 10 q c) : rOb σ 10 q c := by
  obtain ⟨y0, x1, x2, x3, x4, e, f0, f1, f2, f3, f4, f5, f6⟩ := h
  exact ⟨y0, x1, x2, x3, x4, e, fun z hz => hm _ _ (by decide) (f0 z hz), f1, f2, f3, f4, hm _ _ (by decide) f5, hm _ _ (by decide) f6⟩
theorem rOb_m19 {ρ σ : Nat → Nat} {q : Nat} {c : va_E} (hm : ∀ x r, r ∈ rls 19 → ρ x = r → σ x = r) (h : rOb ρ 19 q c) : rOb σ 19 q c := by
  obtain ⟨x0, x1, x2, e, f0, f1, f2, f3, f4, f5, f6⟩ := h
  exact ⟨x0, x1, x2, e, f0, f1, f2, hm _ _ (by decide) f3, hm _ _ (by decide) f4, hm _ _ (by decide) f5, hm _ _ (by decide) f6⟩
theorem rOb_m20 {ρ σ : Nat → Nat} {q : Nat} {c : va_E} (hm : ∀ x r, r ∈ rls 20 → ρ x = r → σ x = r) (h : rOb ρ 20 q c) : rOb σ 20 q c := by
  obtain ⟨x0, x1, x2, e, f0, f1, f2, f3, f4, f5, f6⟩ := h
  exact ⟨x0, x1, x2, e, f0, f1, f2, hm _ _ (by decide) f3, hm _ _ (by decide) f4, hm _ _ (by decide) f5, hm _ _ (by decide) f6⟩
theorem rOb_m30 {ρ σ : Nat → Nat} {q : Nat} {c : va_E} (hm : ∀ x r, r ∈ rls 30 → ρ x = r → σ x = r) (h : rOb ρ 30 q c) : rOb σ 30 q c := by
  obtain ⟨x0, e, f0, f1, f2, f3⟩ := h
  exact ⟨x0, e, f0, hm _ _ (by decide) f1, hm _ _ (by decide) f2, hm _ _ (by decide) f3⟩
theorem rOb_m40 {ρ σ : Nat → Nat} {q : Nat} {c : va_E} (hm : ∀ x r, r ∈ rls 40 → ρ x = r → σ x = r) (h : rOb ρ 40 q c) : rOb σ 40 q c := by
  obtain ⟨x0, e, f0, f1, f2⟩ := h
  exact ⟨x0, e, f0, hm _ _ (by decide) f1, hm _ _ (by decide) f2⟩
theorem rOb_m49 {ρ σ : Nat → Nat} {q : Nat} {c : va_E} (hm : ∀ x r, r ∈ rls 49 → ρ x = r → σ x = r) (h : rOb ρ 49 q c) : rOb σ 49 q c := by
  obtain ⟨y0, z2, z3, e, f0, f1, f2, f3, f4⟩ := h
  exact ⟨y0, z2, z3, e, fun z hz => hm _ _ (by decide) (f0 z hz), hm _ _ (by decide) f1, hm _ _ (by decide) f2, hm _ _ (by decide) f3, f4⟩
theorem rOb_m50 {ρ σ : Nat → Nat} {q : Nat} {c : va_E} (hm : ∀ x r, r ∈ rls 50 → ρ x = r → σ x = r) (h : rOb ρ 50 q c) : rOb σ 50 q c := by
  obtain ⟨z0, z2, z3, e, f0, f1, f2, f3, f4⟩ := h
  exact ⟨z0, z2, z3, e, hm _ _ (by decide) f0, hm _ _ (by decide) f1, hm _ _ (by decide) f2, hm _ _ (by decide) f3, f4⟩
theorem rOb_m60 {ρ σ : Nat → Nat} {q : Nat} {c : va_E} (hm : ∀ x r, r ∈ rls 60 → ρ x = r → σ x = r) (h : rOb ρ 60 q c) : rOb σ 60 q c := by
  obtain ⟨x0, e, f0, f1, f2, f3, f4⟩ := h
  exact ⟨x0, e, f0, hm _ _ (by decide) f1, hm _ _ (by decide) f2, hm _ _ (by decide) f3, hm _ _ (by decide) f4⟩
theorem rOb_m70 {ρ σ : Nat → Nat} {q : Nat} {c : va_E} (hm : ∀ x r, r ∈ rls 70 → ρ x = r → σ x = r) (h : rOb ρ 70 q c) : rOb σ 70 q c := by
  obtain ⟨y0, x1, x2, x3, e, f0, f1, f2, f3, f4, f5, f6, f7, f8, f9⟩ := h
  exact ⟨y0, x1, x2, x3, e, fun z hz => hm _ _ (by decide) (f0 z hz), f1, f2, f3, hm _ _ (by decide) f4, hm _ _ (by decide) f5, hm _ _ (by decide) f6, hm _ _ (by decide) f7, hm _ _ (by decide) f8, hm _ _ (by decide) f9⟩
theorem rOb_m80 {ρ σ : Nat → Nat} {q : Nat} {c : va_E} (hm : ∀ x r, r ∈ rls 80 → ρ x = r → σ x = r) (h : rOb ρ 80 q c) : rOb σ 80 q c := by
  obtain ⟨x1, x2, x3, x4, x5, e, f0, f1, f2, f3, f4, f5, f6, f7, f8, f9, f10, f11, f12, f13, f14⟩ := h
  exact ⟨x1, x2, x3, x4, x5, e, hm _ _ (by decide) f0, f1, f2, f3, f4, f5, hm _ _ (by decide) f6, hm _ _ (by decide) f7, hm _ _ (by decide) f8, hm _ _ (by decide) f9, hm _ _ (by decide) f10, hm _ _ (by decide) f11, hm _ _ (by decide) f12, hm _ _ (by decide) f13, hm _ _ (by decide) f14⟩
theorem rOb_d {ρ : Nat → Nat} {r q : Nat} {c : va_E} (h : r ≠ 1 ∧ r ≠ 2 ∧ r ≠ 9 ∧ r ≠ 10 ∧ r ≠ 19 ∧ r ≠ 20 ∧ r ≠ 30 ∧ r ≠ 40 ∧ r ≠ 49 ∧ r ≠ 50 ∧ r ≠ 60 ∧ r ≠ 70 ∧ r ≠ 80) : rOb ρ r q c := by
  unfold rOb
  split <;> first | trivial | omega
theorem rOb_map {ρ σ : Nat → Nat} {r q : Nat} {c : va_E} (hm : ∀ x r1, r1 ∈ rls r → ρ x = r1 → σ x = r1) (h : rOb ρ r q c) : rOb σ r q c := by
  by_cases e1 : r = 1
  · subst e1; exact rOb_m1 hm h
  by_cases e2 : r = 2
  · subst e2; exact rOb_m2 hm h
  by_cases e9 : r = 9
  · subst e9; exact rOb_m9 hm h
  by_cases e10 : r = 10
  · subst e10; exact rOb_m10 hm h
  by_cases e19 : r = 19
  · subst e19; exact rOb_m19 hm h
  by_cases e20 : r = 20
  · subst e20; exact rOb_m20 hm h
  by_cases e30 : r = 30
  · subst e30; exact rOb_m30 hm h
  by_cases e40 : r = 40
  · subst e40; exact rOb_m40 hm h
  by_cases e49 : r = 49
  · subst e49; exact rOb_m49 hm h
  by_cases e50 : r = 50
  · subst e50; exact rOb_m50 hm h
  by_cases e60 : r = 60
  · subst e60; exact rOb_m60 hm h
  by_cases e70 : r = 70
  · subst e70; exact rOb_m70 hm h
  by_cases e80 : r = 80
  · subst e80; exact rOb_m80 hm h
  exact rOb_d ⟨e1, e2, e9, e10, e19, e20, e30, e40, e49, e50, e60, e70, e80⟩
theorem lgd_ge {l : List Nat} {i : Nat} (h : l.length ≤ i) : l.getD i 0 = 0 := by
  rw [List.getD_eq_getElem?_getD, List.getElem?_eq_none h]; rfl
theorem lgd_lt {l : List Nat} {i : Nat} (h : i < l.length) : l.getD i 0 = l[i] := by
  rw [List.getD_eq_getElem?_getD, List.getElem?_eq_getElem h]; rfl
theorem rls_0 {r r1 : Nat} (h : r1 ∈ rls r) : r1 ≠ 0 := by
  intro e
  subst e
  unfold rls at h
  split at h <;> revert h <;> decide
theorem rRf_0 {r ti len re : Nat} (h : rRf r = some (ti, len, re)) : re ≠ 0 := by
  intro e
  subst e
  unfold rRf at h
  split at h <;> revert h <;> simp
/-- a cell is as its role says, whatever else the roles say -/
theorem rOK_map {ρ σ : Nat → Nat} {q : Nat} {c : va_E} (hq : σ q = ρ q) (hm : ∀ x r, (r ∈ rls (ρ q) ∨ ∃ ti len, rRf (ρ q) = some (ti, len, r)) → ρ x = r → σ x = r) (h : rOK ρ q c) : rOK σ q c := by
  unfold rOK at h ⊢
  rw [hq]
  revert h
  cases rAr (ρ q) with
  | some v => exact fun h => h
  | none =>
    cases hr : rRf (ρ q) with
    | some v =>
      obtain ⟨ti, len, re⟩ := v
      rintro ⟨g, e, h⟩
      exact ⟨g, e, fun j x hx => hm x re (Or.inr ⟨ti, len, hr⟩) (h j x hx)⟩
    | none => exact fun h => rOb_map (fun x r1 h1 => hm x r1 (Or.inl h1)) h
noncomputable def exr (ρ : Nat → Nat) (n : Nat) (rs : List Nat) : Nat → Nat := fun q => if q < n then ρ q else rs.getD (q - n) 0
theorem exr_lt {ρ : Nat → Nat} {n q : Nat} {rs : List Nat} (h : q < n) : exr ρ n rs q = ρ q := if_pos h
theorem exr_ge {ρ : Nat → Nat} {n : Nat} (j : Nat) {rs : List Nat} : exr ρ n rs (n + j) = rs.getD j 0 := by
  unfold exr
  rw [if_neg (by omega), show n + j - n = j by omega]
theorem exr_ni {ρ : Nat → Nat} {n r : Nat} {rs : List Nat} (h : r ∉ rs) (h0 : r ≠ 0) : ∀ q, n ≤ q → exr ρ n rs q ≠ r := by
  intro q hq e
  obtain ⟨j, rfl⟩ : ∃ j, q = n + j := ⟨q - n, by omega⟩
  rw [exr_ge] at e
  by_cases hj : j < rs.length
  · rw [lgd_lt hj] at e
    exact h (e ▸ List.getElem_mem hj)
  · rw [lgd_ge (by omega)] at e
    exact h0 e.symm
theorem CI_app {ρ : Nat → Nat} {w : zW} (hw : CI ρ w) (cs : zW) (rs : List Nat) (hl : rs.length = cs.length) (hc : ∀ j c, zix cs j = some c → rOK (exr ρ w.length rs) (w.length + j) c) (h23 : ∀ r ∈ rs, r ≠ 23) : CI (exr ρ w.length rs) (w ++ cs) := by
  refine ⟨fun q hq => ?_, fun q hq => ?_, fun q hq => ?_⟩
  · by_cases h : q < w.length
    · obtain ⟨c, h1, h2⟩ := hw.1 q h
      refine ⟨c, (ap_lt h).trans h1, rOK_map (exr_lt h) (fun x r hr e => ?_) h2⟩
      have h0 : ρ x ≠ 0 := by
        rw [e]
        rcases hr with hr | ⟨ti, len, hr⟩
        · exact rls_0 hr
        · exact rRf_0 hr
      exact (exr_lt (CI_lt hw h0)).trans e
    · obtain ⟨j, rfl⟩ : ∃ j, q = w.length + j := ⟨q - w.length, by omega⟩
      rw [List.length_append] at hq
      have hj : j < cs.length := by omega
      have e : zix cs j = some cs[j] := by rw [zix_eq]; exact List.getElem?_eq_getElem hj
      exact ⟨_, ap_ix.trans e, hc j _ e⟩
  · rw [List.length_append] at hq
    obtain ⟨j, rfl⟩ : ∃ j, q = w.length + j := ⟨q - w.length, by omega⟩
    rw [exr_ge]
    exact lgd_ge (by omega)
  · by_cases h : q < w.length
    · rw [exr_lt h] at hq
      obtain ⟨h1, gk, gn, h2, h3, h4⟩ := hw.2.2 q hq
      have hlt : q + 1 < w.length := CI_lt hw (by rw [h1]; decide)
      exact ⟨(exr_lt hlt).trans h1, gk, gn, (ap_lt h).trans h2, (ap_lt hlt).trans h3, h4⟩
    · obtain ⟨j, rfl⟩ : ∃ j, q = w.length + j := ⟨q - w.length, by omega⟩
      rw [exr_ge] at hq
      exfalso
      by_cases hj : j < rs.length
      · rw [lgd_lt hj] at hq
        exact h23 _ (List.getElem_mem hj) hq
      · rw [lgd_ge (by omega)] at hq
        cases hq
/-- the world has grown: the old cells and their roles stay -/
noncomputable def GRO (ρ : Nat → Nat) (w : zW) (σ : Nat → Nat) (w' : zW) : Prop := w.length ≤ w'.length ∧ ∀ q, q < w.length → σ q = ρ q ∧ zix w' q = zix w q
theorem GRO_app {ρ : Nat → Nat} {w cs : zW} {rs : List Nat} : GRO ρ w (exr ρ w.length rs) (w ++ cs) := ⟨by rw [List.length_append]; omega, fun q hq => ⟨exr_lt hq, ap_lt hq⟩⟩
theorem GRO_wfr {ρ σ : Nat → Nat} {w w1 w2 : zW} {q : Nat} (h : GRO ρ w σ w1) (f : wfr q w1 w2) (hq : w.length ≤ q) : GRO ρ w σ w2 := ⟨by rw [f.1]; exact h.1, fun j hj => ⟨(h.2 j hj).1, (f.2 j (by omega)).trans (h.2 j hj).2⟩⟩
section AP
variable {R : zS → Prop} {np : Nat} {L : zL} {S : List Value} {w cells : zW} {k n : Nat}
theorem t_pa {j ci b : Nat} {fs : List Value} {v : Value} {ty : FieldType} (h : zix cells j = some (.inr (ci, fs))) (ht : zfit ty v = true) (hb : Nat.blt b fs.length = true) (hk : R (np, L, S, w ++ zst cells j (.inr (ci, zst fs b v)), k, n)) : zob (w ++ cells) (w.length + j) ci (fun fs => zif (zfit ty v) (zif (Nat.blt b fs.length) (R (np, L, S, zst (w ++ cells) (w.length + j) (.inr (ci, zst fs b v)), k, n)))) := by
  unfold zob
  rw [ap_ix, h]
  dsimp only
  rw [show Nat.beq ci ci = true from Nat.beq_refl ci]
  show zif (zfit ty v) _
  rw [ht]
  show zif (Nat.blt b fs.length) _
  rw [hb, ap_st]
  exact hk
theorem t_ga {j ci b : Nat} {fs : List Value} {v : Value} (h : zix cells j = some (.inr (ci, fs))) (hv : zix fs b = some v) (hk : R (np, L, v :: S, w ++ cells, k, n)) : zob (w ++ cells) (w.length + j) ci (fun fs => zfld fs b fun v => R (np, L, v :: S, w ++ cells, k, n)) := c_get (ap_ix.trans h) hv hk
theorem t_na {c : va_E} (hk : R (np, L, .ref (w.length + cells.length) :: S, w ++ (cells ++ [c]), k, n)) : R (np, L, .ref (w ++ cells).length :: S, (w ++ cells) ++ [c], k, n) := by
  rw [List.append_assoc, List.length_append]
  exact hk
theorem t_sa {j len : Nat} {g : Nat → Int32} {i x : Int32} (h : zix cells j = some (.inl (1, len, .inl g))) (hi : vp_in i len) (hk : R (np, L, S, w ++ zst cells j (.inl (1, len, .inl (upd g i.toNatClampNeg x))), k, n)) : zai (w ++ cells) (w.length + j) (fun ti len g => zif (Nat.beq ti 1) (vp_in i len ∧ R (np, L, S, zst (w ++ cells) (w.length + j) (.inl (ti, len, .inl (upd g i.toNatClampNeg x))), k, n))) := by
  unfold zai
  rw [ap_ix, h]
  show vp_in i len ∧ _
  rw [ap_st]
  exact ⟨hi, hk⟩
end AP
theorem c_linesInit (w : zW) (d q : Nat) (Q : zQ) (h : Q none w) : zCl zTab (d + 2) iX3_init [.ref q] w 0 0 Q := by
  refine zCl_i (M := kX3_init) rfl (Nat.le_of_ble_eq_true rfl) fun R hR => ?_
  iterate 2 refine hR (?_ : R (_, _, _, _, _, _))
  exact hR (zret_i rfl (Nat.le_refl _) rfl h)
noncomputable def LE (w : zW) (p : Nat) (l : Int) : Prop := ∃ (x : Value) (fs : List Value), zix w p = some (.inr (7, x :: .int (Int32.ofInt l) :: fs)) ∧ 0 ≤ l ∧ l ≤ 600
theorem wk_new {w w1 : zW} (f1 : wfr (w.length + 2) (w ++ [.inr (8, [.int (Int32.ofInt 0), .ref (w.length + 1), .ref (w.length + 2), .ref (w.length + 3), .ref (w.length + 4)]), .inl (1, 5461, .inl fun _ => 0), .inl (1, 5461, .inl fun _ => 0), .inl (1, 5461, .inl fun _ => 0), .inl (1, 5461, .inl fun _ => 0)]) w1) (hg : ∃ g, zix w1 (w.length + 2) = some (.inl (1, 5461, .inl g)) ∧ ∀ j : Nat, j < 5461 → (g j).toInt = -1) : WK w1 w.length := by
  obtain ⟨g, h1, h2⟩ := hg
  refine ⟨0, _, g, _, ⟨by omega, (f1.2 w.length (by omega)).trans (ap_ix (j := 0)), h1⟩, (f1.2 (w.length + 1) (by omega)).trans (ap_ix (j := 1)), (f1.2 (w.length + 3) (by omega)).trans (ap_ix (j := 3)), ?_, ?_, ?_⟩
  · intro t ht h; exact absurd (h2 t ht) h
  · intro t ht h; rw [h2 t ht] at h; omega
  · intro t ht; rw [h2 t ht]; omega
theorem n_Book {ρ : Nat → Nat} {w : zW} (hw : CI ρ w) (d : Nat) (Q : zQ) (h : ∀ (σ : Nat → Nat) (w' : zW), CI σ w' → GRO ρ w σ w' → w'.length = w.length + 5 → σ w.length = 19 → (∀ q, w.length ≤ q → σ q ≠ 60) → REL w' (w.length + 3) → Q none w') : zCl zTab (d + 3) iX0_init [.ref w.length] (w ++ [.inr (0, zdf 0)]) 4 49 Q := by
  refine zCl_i (M := kX0_init) rfl (Nat.le_of_ble_eq_true rfl) fun R hR => ?_
  refine (?_ : R (_, _, _, w ++ [.inr (0, [.int 0, .int 0, .int 0, .null, .null, .null, .null])], 0, 0))
  refine hR (?_ : R (_, _, _, _, _, _))
  refine hR (zcall_i 0 0 (Nat.le_of_ble_eq_true rfl) (Nat.le_of_ble_eq_true rfl) (c_linesInit _ _ _ _ ?_))
  refine (?_ : R (_, _, [], w ++ [.inr (0, [.int 0, .int 0, .int 0, .null, .null, .null, .null])], 0, 0))
  refine hR (?_ : R (_, _, _, _, _, _))
  refine hR (?_ : R (_, _, _, _, _, _))
  refine hR (t_pa (j := 0) rfl rfl rfl ?_)
  refine (?_ : R (_, _, [], w ++ [.inr (0, [.int (Int32.ofInt 0), .int 0, .int 0, .null, .null, .null, .null])], 0, 0))
  refine hR (?_ : R (_, _, _, _, _, _))
  refine hR (?_ : R (_, _, _, _, _, _))
  refine hR (t_pa (j := 0) rfl rfl rfl ?_)
  refine (?_ : R (_, _, [], w ++ [.inr (0, [.int (Int32.ofInt 0), .int (Int32.ofInt 0), .int 0, .null, .null, .null, .null])], 0, 0))
  refine hR (?_ : R (_, _, _, _, _, _))
  refine hR (?_ : R (_, _, _, _, _, _))
  refine hR (t_pa (j := 0) rfl rfl rfl ?_)
  refine (?_ : R (_, _, [], w ++ [.inr (0, [.int (Int32.ofInt 0), .int (Int32.ofInt 0), .int (Int32.ofInt (-1)), .null, .null, .null, .null])], 0, 0))
  refine hR (?_ : R (_, _, _, _, _, _))
  refine hR (?_ : R (_, _, _, _, _, _))
  refine hR (t_na ?_)
  refine (?_ : R (_, _, .ref (w.length + 1) :: .ref w.length :: [], w ++ [.inr (0, [.int (Int32.ofInt 0), .int (Int32.ofInt 0), .int (Int32.ofInt (-1)), .null, .null, .null, .null]), .inl (1, 4, .inl fun _ => 0)], 1, 4))
  refine hR (?_ : R (_, _, _, _, _, _))
  refine hR (?_ : R (_, _, _, _, _, _))
  refine hR (?_ : R (_, _, _, _, _, _))
  refine hR (t_sa (j := 1) rfl (zvin (by omega) (by omega) (by omega)) ?_)
  refine (?_ : R (_, _, .ref (w.length + 1) :: .ref w.length :: [], w ++ [.inr (0, [.int (Int32.ofInt 0), .int (Int32.ofInt 0), .int (Int32.ofInt (-1)), .null, .null, .null, .null]), .inl (1, 4, .inl (upd (fun _ => 0) 0 (Int32.ofInt 0)))], 1, 4))
  refine hR (?_ : R (_, _, _, _, _, _))
  refine hR (?_ : R (_, _, _, _, _, _))
  refine hR (?_ : R (_, _, _, _, _, _))
  refine hR (t_sa (j := 1) rfl (zvin (by omega) (by omega) (by omega)) ?_)
  refine (?_ : R (_, _, .ref (w.length + 1) :: .ref w.length :: [], w ++ [.inr (0, [.int (Int32.ofInt 0), .int (Int32.ofInt 0), .int (Int32.ofInt (-1)), .null, .null, .null, .null]), .inl (1, 4, .inl (upd (upd (fun _ => 0) 0 (Int32.ofInt 0)) 1 (Int32.ofInt 1)))], 1, 4))
  refine hR (?_ : R (_, _, _, _, _, _))
  refine hR (?_ : R (_, _, _, _, _, _))
  refine hR (?_ : R (_, _, _, _, _, _))
  refine hR (t_sa (j := 1) rfl (zvin (by omega) (by omega) (by omega)) ?_)
  refine (?_ : R (_, _, .ref (w.length + 1) :: .ref w.length :: [], w ++ [.inr (0, [.int (Int32.ofInt 0), .int (Int32.ofInt 0), .int (Int32.ofInt (-1)), .null, .null, .null, .null]), .inl (1, 4, .inl (upd (upd (upd (fun _ => 0) 0 (Int32.ofInt 0)) 1 (Int32.ofInt 1)) 2 (Int32.ofInt 2)))], 1, 4))
  refine hR (?_ : R (_, _, _, _, _, _))
  refine hR (?_ : R (_, _, _, _, _, _))
  refine hR (?_ : R (_, _, _, _, _, _))
  refine hR (t_sa (j := 1) rfl (zvin (by omega) (by omega) (by omega)) ?_)
  refine (?_ : R (_, _, .ref (w.length + 1) :: .ref w.length :: [], w ++ [.inr (0, [.int (Int32.ofInt 0), .int (Int32.ofInt 0), .int (Int32.ofInt (-1)), .null, .null, .null, .null]), .inl (1, 4, .inl (upd (upd (upd (upd (fun _ => 0) 0 (Int32.ofInt 0)) 1 (Int32.ofInt 1)) 2 (Int32.ofInt 2)) 3 (Int32.ofInt 3)))], 1, 4))
  refine hR (t_pa (j := 0) rfl rfl rfl ?_)
  refine (?_ : R (_, _, [], w ++ [.inr (0, [.int (Int32.ofInt 0), .int (Int32.ofInt 0), .int (Int32.ofInt (-1)), .ref (w.length + 1), .null, .null, .null]), .inl (1, 4, .inl (upd (upd (upd (upd (fun _ => 0) 0 (Int32.ofInt 0)) 1 (Int32.ofInt 1)) 2 (Int32.ofInt 2)) 3 (Int32.ofInt 3)))], 1, 4))
  refine hR (?_ : R (_, _, _, _, _, _))
  refine hR (?_ : R (_, _, _, _, _, _))
  refine hR (t_na ?_)
  refine (?_ : R (_, _, .ref (w.length + 2) :: .ref w.length :: [], w ++ [.inr (0, [.int (Int32.ofInt 0), .int (Int32.ofInt 0), .int (Int32.ofInt (-1)), .ref (w.length + 1), .null, .null, .null]), .inl (1, 4, .inl (upd (upd (upd (upd (fun _ => 0) 0 (Int32.ofInt 0)) 1 (Int32.ofInt 1)) 2 (Int32.ofInt 2)) 3 (Int32.ofInt 3))), .inl (1, 5, .inl fun _ => 0)], 2, 9))
  refine hR (t_pa (j := 0) rfl rfl rfl ?_)
  refine (?_ : R (_, _, [], w ++ [.inr (0, [.int (Int32.ofInt 0), .int (Int32.ofInt 0), .int (Int32.ofInt (-1)), .ref (w.length + 1), .ref (w.length + 2), .null, .null]), .inl (1, 4, .inl (upd (upd (upd (upd (fun _ => 0) 0 (Int32.ofInt 0)) 1 (Int32.ofInt 1)) 2 (Int32.ofInt 2)) 3 (Int32.ofInt 3))), .inl (1, 5, .inl fun _ => 0)], 2, 9))
  refine hR (?_ : R (_, _, _, _, _, _))
  refine hR (t_c 20 (by decide) ?_)
  refine hR (t_na ?_)
  refine (?_ : R (_, _, .ref (w.length + 3) :: .ref w.length :: [], w ++ [.inr (0, [.int (Int32.ofInt 0), .int (Int32.ofInt 0), .int (Int32.ofInt (-1)), .ref (w.length + 1), .ref (w.length + 2), .null, .null]), .inl (1, 4, .inl (upd (upd (upd (upd (fun _ => 0) 0 (Int32.ofInt 0)) 1 (Int32.ofInt 1)) 2 (Int32.ofInt 2)) 3 (Int32.ofInt 3))), .inl (1, 5, .inl fun _ => 0), .inl (1, 20, .inl fun _ => 0)], 3, 29))
  refine hR (t_pa (j := 0) rfl rfl rfl ?_)
  refine (?_ : R (_, _, [], w ++ [.inr (0, [.int (Int32.ofInt 0), .int (Int32.ofInt 0), .int (Int32.ofInt (-1)), .ref (w.length + 1), .ref (w.length + 2), .ref (w.length + 3), .null]), .inl (1, 4, .inl (upd (upd (upd (upd (fun _ => 0) 0 (Int32.ofInt 0)) 1 (Int32.ofInt 1)) 2 (Int32.ofInt 2)) 3 (Int32.ofInt 3))), .inl (1, 5, .inl fun _ => 0), .inl (1, 20, .inl fun _ => 0)], 3, 29))
  refine hR (?_ : R (_, _, _, _, _, _))
  refine hR (t_c 20 (by decide) ?_)
  refine hR (t_na ?_)
  refine (?_ : R (_, _, .ref (w.length + 4) :: .ref w.length :: [], w ++ [.inr (0, [.int (Int32.ofInt 0), .int (Int32.ofInt 0), .int (Int32.ofInt (-1)), .ref (w.length + 1), .ref (w.length + 2), .ref (w.length + 3), .null]), .inl (1, 4, .inl (upd (upd (upd (upd (fun _ => 0) 0 (Int32.ofInt 0)) 1 (Int32.ofInt 1)) 2 (Int32.ofInt 2)) 3 (Int32.ofInt 3))), .inl (1, 5, .inl fun _ => 0), .inl (1, 20, .inl fun _ => 0), .inl (1, 20, .inl fun _ => 0)], 4, 49))
  refine hR (t_pa (j := 0) rfl rfl rfl ?_)
  refine (?_ : R (_, _, [], w ++ [.inr (0, [.int (Int32.ofInt 0), .int (Int32.ofInt 0), .int (Int32.ofInt (-1)), .ref (w.length + 1), .ref (w.length + 2), .ref (w.length + 3), .ref (w.length + 4)]), .inl (1, 4, .inl (upd (upd (upd (upd (fun _ => 0) 0 (Int32.ofInt 0)) 1 (Int32.ofInt 1)) 2 (Int32.ofInt 2)) 3 (Int32.ofInt 3))), .inl (1, 5, .inl fun _ => 0), .inl (1, 20, .inl fun _ => 0), .inl (1, 20, .inl fun _ => 0)], 4, 49))
  have hci : CI (exr ρ w.length [19, 21, 22, 25, 26]) (w ++ [.inr (0, [.int (Int32.ofInt 0), .int (Int32.ofInt 0), .int (Int32.ofInt (-1)), .ref (w.length + 1), .ref (w.length + 2), .ref (w.length + 3), .ref (w.length + 4)]), .inl (1, 4, .inl (upd (upd (upd (upd (fun _ => 0) 0 (Int32.ofInt 0)) 1 (Int32.ofInt 1)) 2 (Int32.ofInt 2)) 3 (Int32.ofInt 3))), .inl (1, 5, .inl fun _ => 0), .inl (1, 20, .inl fun _ => 0), .inl (1, 20, .inl fun _ => 0)]) := by
    refine CI_app hw _ _ rfl (fun j c hj => ?_) (by decide)
    have hjl : j < 5 := by
      rw [zix_eq] at hj
      exact (List.getElem?_eq_some_iff.mp hj).1
    have hrs : j = 0 ∨ j = 1 ∨ j = 2 ∨ j = 3 ∨ j = 4 := by omega
    rcases hrs with rfl | rfl | rfl | rfl | rfl
    · cases hj
      unfold rOK
      rw [show exr ρ w.length [19, 21, 22, 25, 26] (w.length + 0) = 19 from exr_ge 0]
      exact ⟨0, 0, (-1), rfl, ⟨by decide, by decide⟩, ⟨by decide, by decide⟩, ⟨by decide, by decide⟩, exr_ge 1, exr_ge 2, exr_ge 3, exr_ge 4⟩
    · cases hj
      unfold rOK
      rw [show exr ρ w.length [19, 21, 22, 25, 26] (w.length + 1) = 21 from exr_ge 1]
      exact ⟨_, rfl, zB_u (zB_u (zB_u (zB_u (fun j => by show _ ∧ _; decide) (by omega) (by omega) (by omega) (by omega)) (by omega) (by omega) (by omega) (by omega)) (by omega) (by omega) (by omega) (by omega)) (by omega) (by omega) (by omega) (by omega)⟩
    · cases hj
      unfold rOK
      rw [show exr ρ w.length [19, 21, 22, 25, 26] (w.length + 2) = 22 from exr_ge 2]
      exact ⟨_, rfl, fun j => by show _ ∧ _; decide⟩
    · cases hj
      unfold rOK
      rw [show exr ρ w.length [19, 21, 22, 25, 26] (w.length + 3) = 25 from exr_ge 3]
      exact ⟨_, rfl, fun j => by show _ ∧ _; decide⟩
    · cases hj
      unfold rOK
      rw [show exr ρ w.length [19, 21, 22, 25, 26] (w.length + 4) = 26 from exr_ge 4]
      exact ⟨_, rfl, fun j => by show _ ∧ _; decide⟩
  exact hR (zret_i rfl (Nat.le_refl _) rfl (h _ _ hci GRO_app (by rw [List.length_append]; rfl) (exr_ge 0) (exr_ni (by decide) (by decide)) ⟨_, _, ap_ix (j := 3), ap_ix (j := 4), fun j _ => by unfold rel; dsimp only; decide⟩))
theorem n_Year {ρ : Nat → Nat} {w : zW} (hw : CI ρ w) (d : Nat) (Q : zQ) (h : ∀ (σ : Nat → Nat) (w' : zW), CI σ w' → GRO ρ w σ w' → w'.length = w.length + 4 → σ w.length = 30 → (∀ q, w.length ≤ q → σ q ≠ 60) → Q none w') : zCl zTab (d + 3) iX10_init [.ref w.length] (w ++ [.inr (9, zdf 9)]) 3 120 Q := by
  refine zCl_i (M := kX10_init) rfl (Nat.le_of_ble_eq_true rfl) fun R hR => ?_
  refine (?_ : R (_, _, _, w ++ [.inr (9, [.int 0, .null, .null, .null])], 0, 0))
  refine hR (?_ : R (_, _, _, _, _, _))
  refine hR (zcall_i 0 0 (Nat.le_of_ble_eq_true rfl) (Nat.le_of_ble_eq_true rfl) (c_linesInit _ _ _ _ ?_))
  refine (?_ : R (_, _, [], w ++ [.inr (9, [.int 0, .null, .null, .null])], 0, 0))
  refine hR (?_ : R (_, _, _, _, _, _))
  refine hR (?_ : R (_, _, _, _, _, _))
  refine hR (t_pa (j := 0) rfl rfl rfl ?_)
  refine (?_ : R (_, _, [], w ++ [.inr (9, [.int (Int32.ofInt 0), .null, .null, .null])], 0, 0))
  refine hR (?_ : R (_, _, _, _, _, _))
  refine hR (t_c 40 (by decide) ?_)
  refine hR (t_na ?_)
  refine (?_ : R (_, _, .ref (w.length + 1) :: .ref w.length :: [], w ++ [.inr (9, [.int (Int32.ofInt 0), .null, .null, .null]), .inl (1, 40, .inl fun _ => 0)], 1, 40))
  refine hR (t_pa (j := 0) rfl rfl rfl ?_)
  refine (?_ : R (_, _, [], w ++ [.inr (9, [.int (Int32.ofInt 0), .ref (w.length + 1), .null, .null]), .inl (1, 40, .inl fun _ => 0)], 1, 40))
  refine hR (?_ : R (_, _, _, _, _, _))
  refine hR (t_c 40 (by decide) ?_)
  refine hR (t_na ?_)
  refine (?_ : R (_, _, .ref (w.length + 2) :: .ref w.length :: [], w ++ [.inr (9, [.int (Int32.ofInt 0), .ref (w.length + 1), .null, .null]), .inl (1, 40, .inl fun _ => 0), .inl (1, 40, .inl fun _ => 0)], 2, 80))
  refine hR (t_pa (j := 0) rfl rfl rfl ?_)
  refine (?_ : R (_, _, [], w ++ [.inr (9, [.int (Int32.ofInt 0), .ref (w.length + 1), .ref (w.length + 2), .null]), .inl (1, 40, .inl fun _ => 0), .inl (1, 40, .inl fun _ => 0)], 2, 80))
  refine hR (?_ : R (_, _, _, _, _, _))
  refine hR (t_c 40 (by decide) ?_)
  refine hR (t_na ?_)
  refine (?_ : R (_, _, .ref (w.length + 3) :: .ref w.length :: [], w ++ [.inr (9, [.int (Int32.ofInt 0), .ref (w.length + 1), .ref (w.length + 2), .null]), .inl (1, 40, .inl fun _ => 0), .inl (1, 40, .inl fun _ => 0), .inl (1, 40, .inl fun _ => 0)], 3, 120))
  refine hR (t_pa (j := 0) rfl rfl rfl ?_)
  refine (?_ : R (_, _, [], w ++ [.inr (9, [.int (Int32.ofInt 0), .ref (w.length + 1), .ref (w.length + 2), .ref (w.length + 3)]), .inl (1, 40, .inl fun _ => 0), .inl (1, 40, .inl fun _ => 0), .inl (1, 40, .inl fun _ => 0)], 3, 120))
  have hci : CI (exr ρ w.length [30, 31, 32, 33]) (w ++ [.inr (9, [.int (Int32.ofInt 0), .ref (w.length + 1), .ref (w.length + 2), .ref (w.length + 3)]), .inl (1, 40, .inl fun _ => 0), .inl (1, 40, .inl fun _ => 0), .inl (1, 40, .inl fun _ => 0)]) := by
    refine CI_app hw _ _ rfl (fun j c hj => ?_) (by decide)
    have hjl : j < 4 := by
      rw [zix_eq] at hj
      exact (List.getElem?_eq_some_iff.mp hj).1
    have hrs : j = 0 ∨ j = 1 ∨ j = 2 ∨ j = 3 := by omega
    rcases hrs with rfl | rfl | rfl | rfl
    · cases hj
      unfold rOK
      rw [show exr ρ w.length [30, 31, 32, 33] (w.length + 0) = 30 from exr_ge 0]
      exact ⟨0, rfl, ⟨by decide, by decide⟩, exr_ge 1, exr_ge 2, exr_ge 3⟩
    · cases hj
      unfold rOK
      rw [show exr ρ w.length [30, 31, 32, 33] (w.length + 1) = 31 from exr_ge 1]
      exact ⟨_, rfl, fun j => by show _ ∧ _; decide⟩
    · cases hj
      unfold rOK
      rw [show exr ρ w.length [30, 31, 32, 33] (w.length + 2) = 32 from exr_ge 2]
      exact ⟨_, rfl, fun j => by show _ ∧ _; decide⟩
    · cases hj
      unfold rOK
      rw [show exr ρ w.length [30, 31, 32, 33] (w.length + 3) = 33 from exr_ge 3]
      exact ⟨_, rfl, fun j => by show _ ∧ _; decide⟩
  exact hR (zret_i rfl (Nat.le_refl _) rfl (h _ _ hci GRO_app (by rw [List.length_append]; rfl) (exr_ge 0) (exr_ni (by decide) (by decide))))
theorem n_Sight {ρ : Nat → Nat} {w : zW} (hw : CI ρ w) (d : Nat) (Q : zQ) (h : ∀ (σ : Nat → Nat) (w' : zW), CI σ w' → GRO ρ w σ w' → w'.length = w.length + 3 → σ w.length = 40 → (∀ q, w.length ≤ q → σ q ≠ 60) → Q none w') : zCl zTab (d + 3) iX6_init [.ref w.length] (w ++ [.inr (5, zdf 5)]) 2 12 Q := by
  refine zCl_i (M := kX6_init) rfl (Nat.le_of_ble_eq_true rfl) fun R hR => ?_
  refine (?_ : R (_, _, _, w ++ [.inr (5, [.int 0, .null, .null])], 0, 0))
  refine hR (?_ : R (_, _, _, _, _, _))
  refine hR (zcall_i 0 0 (Nat.le_of_ble_eq_true rfl) (Nat.le_of_ble_eq_true rfl) (c_linesInit _ _ _ _ ?_))
  refine (?_ : R (_, _, [], w ++ [.inr (5, [.int 0, .null, .null])], 0, 0))
  refine hR (?_ : R (_, _, _, _, _, _))
  refine hR (?_ : R (_, _, _, _, _, _))
  refine hR (t_pa (j := 0) rfl rfl rfl ?_)
  refine (?_ : R (_, _, [], w ++ [.inr (5, [.int (Int32.ofInt 0), .null, .null])], 0, 0))
  refine hR (?_ : R (_, _, _, _, _, _))
  refine hR (t_c 6 (by decide) ?_)
  refine hR (t_na ?_)
  refine (?_ : R (_, _, .ref (w.length + 1) :: .ref w.length :: [], w ++ [.inr (5, [.int (Int32.ofInt 0), .null, .null]), .inl (1, 6, .inl fun _ => 0)], 1, 6))
  refine hR (t_pa (j := 0) rfl rfl rfl ?_)
  refine (?_ : R (_, _, [], w ++ [.inr (5, [.int (Int32.ofInt 0), .ref (w.length + 1), .null]), .inl (1, 6, .inl fun _ => 0)], 1, 6))
  refine hR (?_ : R (_, _, _, _, _, _))
  refine hR (t_c 6 (by decide) ?_)
  refine hR (t_na ?_)
  refine (?_ : R (_, _, .ref (w.length + 2) :: .ref w.length :: [], w ++ [.inr (5, [.int (Int32.ofInt 0), .ref (w.length + 1), .null]), .inl (1, 6, .inl fun _ => 0), .inl (1, 6, .inl fun _ => 0)], 2, 12))
  refine hR (t_pa (j := 0) rfl rfl rfl ?_)
  refine (?_ : R (_, _, [], w ++ [.inr (5, [.int (Int32.ofInt 0), .ref (w.length + 1), .ref (w.length + 2)]), .inl (1, 6, .inl fun _ => 0), .inl (1, 6, .inl fun _ => 0)], 2, 12))
  have hci : CI (exr ρ w.length [40, 41, 42]) (w ++ [.inr (5, [.int (Int32.ofInt 0), .ref (w.length + 1), .ref (w.length + 2)]), .inl (1, 6, .inl fun _ => 0), .inl (1, 6, .inl fun _ => 0)]) := by
    refine CI_app hw _ _ rfl (fun j c hj => ?_) (by decide)
    have hjl : j < 3 := by
      rw [zix_eq] at hj
      exact (List.getElem?_eq_some_iff.mp hj).1
    have hrs : j = 0 ∨ j = 1 ∨ j = 2 := by omega
    rcases hrs with rfl | rfl | rfl
    · cases hj
      unfold rOK
      rw [show exr ρ w.length [40, 41, 42] (w.length + 0) = 40 from exr_ge 0]
      exact ⟨0, rfl, ⟨by decide, by decide⟩, exr_ge 1, exr_ge 2⟩
    · cases hj
      unfold rOK
      rw [show exr ρ w.length [40, 41, 42] (w.length + 1) = 41 from exr_ge 1]
      exact ⟨_, rfl, fun j => by show _ ∧ _; decide⟩
    · cases hj
      unfold rOK
      rw [show exr ρ w.length [40, 41, 42] (w.length + 2) = 42 from exr_ge 2]
      exact ⟨_, rfl, fun j => by show _ ∧ _; decide⟩
  exact hR (zret_i rfl (Nat.le_refl _) rfl (h _ _ hci GRO_app (by rw [List.length_append]; rfl) (exr_ge 0) (exr_ni (by decide) (by decide))))
theorem n_Readings {ρ : Nat → Nat} {w : zW} (hw : CI ρ w) (d : Nat) (Q : zQ) (h : ∀ (σ : Nat → Nat) (w' : zW), CI σ w' → GRO ρ w σ w' → w'.length = w.length + 4 → σ w.length = 49 → (∀ q, w.length ≤ q → σ q ≠ 60) → Q none w') : zCl zTab (d + 2) iX4_init [.ref w.length] (w ++ [.inr (3, zdf 3)]) 3 38227 Q := by
  refine zCl_i (M := kX4_init) rfl (Nat.le_of_ble_eq_true rfl) fun R hR => ?_
  refine (?_ : R (_, _, _, w ++ [.inr (3, [.null, .null, .null, .null])], 0, 0))
  refine hR (?_ : R (_, _, _, _, _, _))
  refine hR (?_ : R (_, _, _, _, _, _))
  refine hR (?_ : R (_, _, _, _, _, _))
  refine hR (?_ : R (_, _, _, _, _, _))
  refine hR (t_pa (j := 0) rfl rfl rfl ?_)
  refine (?_ : R (_, _, [], w ++ [.inr (3, [.null, .null, .null, .null])], 0, 0))
  refine hR (?_ : R (_, _, _, _, _, _))
  refine hR (t_c 27305 (by decide) ?_)
  refine hR (t_na ?_)
  refine (?_ : R (_, _, .ref (w.length + 1) :: .ref w.length :: [], w ++ [.inr (3, [.null, .null, .null, .null]), .inl (1, 27305, .inl fun _ => 0)], 1, 27305))
  refine hR (t_pa (j := 0) rfl rfl rfl ?_)
  refine (?_ : R (_, _, [], w ++ [.inr (3, [.null, .ref (w.length + 1), .null, .null]), .inl (1, 27305, .inl fun _ => 0)], 1, 27305))
  refine hR (?_ : R (_, _, _, _, _, _))
  refine hR (t_c 5461 (by decide) ?_)
  refine hR (t_na ?_)
  refine (?_ : R (_, _, .ref (w.length + 2) :: .ref w.length :: [], w ++ [.inr (3, [.null, .ref (w.length + 1), .null, .null]), .inl (1, 27305, .inl fun _ => 0), .inl (0, 5461, .inl fun _ => 0)], 2, 32766))
  refine hR (t_pa (j := 0) rfl rfl rfl ?_)
  refine (?_ : R (_, _, [], w ++ [.inr (3, [.null, .ref (w.length + 1), .ref (w.length + 2), .null]), .inl (1, 27305, .inl fun _ => 0), .inl (0, 5461, .inl fun _ => 0)], 2, 32766))
  refine hR (?_ : R (_, _, _, _, _, _))
  refine hR (t_c 5461 (by decide) ?_)
  refine hR (t_na ?_)
  refine (?_ : R (_, _, .ref (w.length + 3) :: .ref w.length :: [], w ++ [.inr (3, [.null, .ref (w.length + 1), .ref (w.length + 2), .null]), .inl (1, 27305, .inl fun _ => 0), .inl (0, 5461, .inl fun _ => 0), .inl (0, 5461, .inl fun _ => 0)], 3, 38227))
  refine hR (t_pa (j := 0) rfl rfl rfl ?_)
  refine (?_ : R (_, _, [], w ++ [.inr (3, [.null, .ref (w.length + 1), .ref (w.length + 2), .ref (w.length + 3)]), .inl (1, 27305, .inl fun _ => 0), .inl (0, 5461, .inl fun _ => 0), .inl (0, 5461, .inl fun _ => 0)], 3, 38227))
  have hci : CI (exr ρ w.length [49, 51, 52, 52]) (w ++ [.inr (3, [.null, .ref (w.length + 1), .ref (w.length + 2), .ref (w.length + 3)]), .inl (1, 27305, .inl fun _ => 0), .inl (0, 5461, .inl fun _ => 0), .inl (0, 5461, .inl fun _ => 0)]) := by
    refine CI_app hw _ _ rfl (fun j c hj => ?_) (by decide)
    have hjl : j < 4 := by
      rw [zix_eq] at hj
      exact (List.getElem?_eq_some_iff.mp hj).1
    have hrs : j = 0 ∨ j = 1 ∨ j = 2 ∨ j = 3 := by omega
    rcases hrs with rfl | rfl | rfl | rfl
    · cases hj
      unfold rOK
      rw [show exr ρ w.length [49, 51, 52, 52] (w.length + 0) = 49 from exr_ge 0]
      exact ⟨none, w.length + 2, w.length + 3, rfl, (fun z hz => by cases hz), exr_ge 1, exr_ge 2, exr_ge 3, by omega⟩
    · cases hj
      unfold rOK
      rw [show exr ρ w.length [49, 51, 52, 52] (w.length + 1) = 51 from exr_ge 1]
      exact ⟨_, rfl, fun j => by show _ ∧ _; decide⟩
    · cases hj
      unfold rOK
      rw [show exr ρ w.length [49, 51, 52, 52] (w.length + 2) = 52 from exr_ge 2]
      exact ⟨_, rfl, fun j => by show _ ∧ _; decide⟩
    · cases hj
      unfold rOK
      rw [show exr ρ w.length [49, 51, 52, 52] (w.length + 3) = 52 from exr_ge 3]
      exact ⟨_, rfl, fun j => by show _ ∧ _; decide⟩
  exact hR (zret_i rfl (Nat.le_refl _) rfl (h _ _ hci GRO_app (by rw [List.length_append]; rfl) (exr_ge 0) (exr_ni (by decide) (by decide))))
theorem n_Told {ρ : Nat → Nat} {w : zW} (hw : CI ρ w) (d : Nat) (Q : zQ) (h : ∀ (σ : Nat → Nat) (w' : zW), CI σ w' → GRO ρ w σ w' → w'.length = w.length + 6 → σ w.length = 2 → (∀ q, w.length ≤ q → σ q ≠ 60) → LE w' w.length 0 → Q none w') : zCl zTab (d + 2) iX8_init [.ref w.length] (w ++ [.inr (7, zdf 7)]) 5 609 Q := by
  refine zCl_i (M := kX8_init) rfl (Nat.le_of_ble_eq_true rfl) fun R hR => ?_
  refine (?_ : R (_, _, _, w ++ [.inr (7, [.null, .int 0, .int 0, .int 0, .null, .null, .null, .null])], 0, 0))
  refine hR (?_ : R (_, _, _, _, _, _))
  refine hR (?_ : R (_, _, _, _, _, _))
  refine hR (?_ : R (_, _, _, _, _, _))
  refine hR (t_c 600 (by decide) ?_)
  refine hR (t_na ?_)
  refine (?_ : R (_, _, .ref (w.length + 1) :: .ref w.length :: [], w ++ [.inr (7, [.null, .int 0, .int 0, .int 0, .null, .null, .null, .null]), .inl (0, 600, .inl fun _ => 0)], 1, 600))
  refine hR (t_pa (j := 0) rfl rfl rfl ?_)
  refine (?_ : R (_, _, [], w ++ [.inr (7, [.ref (w.length + 1), .int 0, .int 0, .int 0, .null, .null, .null, .null]), .inl (0, 600, .inl fun _ => 0)], 1, 600))
  refine hR (?_ : R (_, _, _, _, _, _))
  refine hR (?_ : R (_, _, _, _, _, _))
  refine hR (t_pa (j := 0) rfl rfl rfl ?_)
  refine (?_ : R (_, _, [], w ++ [.inr (7, [.ref (w.length + 1), .int (Int32.ofInt 0), .int 0, .int 0, .null, .null, .null, .null]), .inl (0, 600, .inl fun _ => 0)], 1, 600))
  refine hR (?_ : R (_, _, _, _, _, _))
  refine hR (?_ : R (_, _, _, _, _, _))
  refine hR (t_pa (j := 0) rfl rfl rfl ?_)
  refine (?_ : R (_, _, [], w ++ [.inr (7, [.ref (w.length + 1), .int (Int32.ofInt 0), .int (Int32.ofInt 0), .int 0, .null, .null, .null, .null]), .inl (0, 600, .inl fun _ => 0)], 1, 600))
  refine hR (?_ : R (_, _, _, _, _, _))
  refine hR (?_ : R (_, _, _, _, _, _))
  refine hR (t_pa (j := 0) rfl rfl rfl ?_)
  refine (?_ : R (_, _, [], w ++ [.inr (7, [.ref (w.length + 1), .int (Int32.ofInt 0), .int (Int32.ofInt 0), .int (Int32.ofInt (-1)), .null, .null, .null, .null]), .inl (0, 600, .inl fun _ => 0)], 1, 600))
  refine hR (?_ : R (_, _, _, _, _, _))
  refine hR (?_ : R (_, _, _, _, _, _))
  refine hR (t_na ?_)
  refine (?_ : R (_, _, .ref (w.length + 2) :: .ref w.length :: [], w ++ [.inr (7, [.ref (w.length + 1), .int (Int32.ofInt 0), .int (Int32.ofInt 0), .int (Int32.ofInt (-1)), .null, .null, .null, .null]), .inl (0, 600, .inl fun _ => 0), .inl (1, 3, .inl fun _ => 0)], 2, 603))
  refine hR (t_pa (j := 0) rfl rfl rfl ?_)
  refine (?_ : R (_, _, [], w ++ [.inr (7, [.ref (w.length + 1), .int (Int32.ofInt 0), .int (Int32.ofInt 0), .int (Int32.ofInt (-1)), .ref (w.length + 2), .null, .null, .null]), .inl (0, 600, .inl fun _ => 0), .inl (1, 3, .inl fun _ => 0)], 2, 603))
  refine hR (?_ : R (_, _, _, _, _, _))
  refine hR (?_ : R (_, _, _, _, _, _))
  refine hR (t_na ?_)
  refine (?_ : R (_, _, .ref (w.length + 3) :: .ref w.length :: [], w ++ [.inr (7, [.ref (w.length + 1), .int (Int32.ofInt 0), .int (Int32.ofInt 0), .int (Int32.ofInt (-1)), .ref (w.length + 2), .null, .null, .null]), .inl (0, 600, .inl fun _ => 0), .inl (1, 3, .inl fun _ => 0), .inl (3, 2, .inr (.inr (.inr (.inr fun _ => none))))], 3, 605))
  refine hR (t_pa (j := 0) rfl rfl rfl ?_)
  refine (?_ : R (_, _, [], w ++ [.inr (7, [.ref (w.length + 1), .int (Int32.ofInt 0), .int (Int32.ofInt 0), .int (Int32.ofInt (-1)), .ref (w.length + 2), .ref (w.length + 3), .null, .null]), .inl (0, 600, .inl fun _ => 0), .inl (1, 3, .inl fun _ => 0), .inl (3, 2, .inr (.inr (.inr (.inr fun _ => none))))], 3, 605))
  refine hR (?_ : R (_, _, _, _, _, _))
  refine hR (?_ : R (_, _, _, _, _, _))
  refine hR (t_na ?_)
  refine (?_ : R (_, _, .ref (w.length + 4) :: .ref w.length :: [], w ++ [.inr (7, [.ref (w.length + 1), .int (Int32.ofInt 0), .int (Int32.ofInt 0), .int (Int32.ofInt (-1)), .ref (w.length + 2), .ref (w.length + 3), .null, .null]), .inl (0, 600, .inl fun _ => 0), .inl (1, 3, .inl fun _ => 0), .inl (3, 2, .inr (.inr (.inr (.inr fun _ => none)))), .inl (4, 2, .inr (.inr (.inr (.inr fun _ => none))))], 4, 607))
  refine hR (t_pa (j := 0) rfl rfl rfl ?_)
  refine (?_ : R (_, _, [], w ++ [.inr (7, [.ref (w.length + 1), .int (Int32.ofInt 0), .int (Int32.ofInt 0), .int (Int32.ofInt (-1)), .ref (w.length + 2), .ref (w.length + 3), .ref (w.length + 4), .null]), .inl (0, 600, .inl fun _ => 0), .inl (1, 3, .inl fun _ => 0), .inl (3, 2, .inr (.inr (.inr (.inr fun _ => none)))), .inl (4, 2, .inr (.inr (.inr (.inr fun _ => none))))], 4, 607))
  refine hR (?_ : R (_, _, _, _, _, _))
  refine hR (?_ : R (_, _, _, _, _, _))
  refine hR (t_na ?_)
  refine (?_ : R (_, _, .ref (w.length + 5) :: .ref w.length :: [], w ++ [.inr (7, [.ref (w.length + 1), .int (Int32.ofInt 0), .int (Int32.ofInt 0), .int (Int32.ofInt (-1)), .ref (w.length + 2), .ref (w.length + 3), .ref (w.length + 4), .null]), .inl (0, 600, .inl fun _ => 0), .inl (1, 3, .inl fun _ => 0), .inl (3, 2, .inr (.inr (.inr (.inr fun _ => none)))), .inl (4, 2, .inr (.inr (.inr (.inr fun _ => none)))), .inl (5, 2, .inr (.inr (.inr (.inr fun _ => none))))], 5, 609))
  refine hR (t_pa (j := 0) rfl rfl rfl ?_)
  refine (?_ : R (_, _, [], w ++ [.inr (7, [.ref (w.length + 1), .int (Int32.ofInt 0), .int (Int32.ofInt 0), .int (Int32.ofInt (-1)), .ref (w.length + 2), .ref (w.length + 3), .ref (w.length + 4), .ref (w.length + 5)]), .inl (0, 600, .inl fun _ => 0), .inl (1, 3, .inl fun _ => 0), .inl (3, 2, .inr (.inr (.inr (.inr fun _ => none)))), .inl (4, 2, .inr (.inr (.inr (.inr fun _ => none)))), .inl (5, 2, .inr (.inr (.inr (.inr fun _ => none))))], 5, 609))
  have hci : CI (exr ρ w.length [2, 3, 4, 5, 6, 7]) (w ++ [.inr (7, [.ref (w.length + 1), .int (Int32.ofInt 0), .int (Int32.ofInt 0), .int (Int32.ofInt (-1)), .ref (w.length + 2), .ref (w.length + 3), .ref (w.length + 4), .ref (w.length + 5)]), .inl (0, 600, .inl fun _ => 0), .inl (1, 3, .inl fun _ => 0), .inl (3, 2, .inr (.inr (.inr (.inr fun _ => none)))), .inl (4, 2, .inr (.inr (.inr (.inr fun _ => none)))), .inl (5, 2, .inr (.inr (.inr (.inr fun _ => none))))]) := by
    refine CI_app hw _ _ rfl (fun j c hj => ?_) (by decide)
    have hjl : j < 6 := by
      rw [zix_eq] at hj
      exact (List.getElem?_eq_some_iff.mp hj).1
    have hrs : j = 0 ∨ j = 1 ∨ j = 2 ∨ j = 3 ∨ j = 4 ∨ j = 5 := by omega
    rcases hrs with rfl | rfl | rfl | rfl | rfl | rfl
    · cases hj
      unfold rOK
      rw [show exr ρ w.length [2, 3, 4, 5, 6, 7] (w.length + 0) = 2 from exr_ge 0]
      exact ⟨0, 0, (-1), rfl, exr_ge 1, ⟨by decide, by decide⟩, ⟨by decide, by decide⟩, ⟨by decide, by decide⟩, exr_ge 2, exr_ge 3, exr_ge 4, exr_ge 5⟩
    · cases hj
      unfold rOK
      rw [show exr ρ w.length [2, 3, 4, 5, 6, 7] (w.length + 1) = 3 from exr_ge 1]
      exact ⟨_, rfl, fun j => by show _ ∧ _; decide⟩
    · cases hj
      unfold rOK
      rw [show exr ρ w.length [2, 3, 4, 5, 6, 7] (w.length + 2) = 4 from exr_ge 2]
      exact ⟨_, rfl, fun j => by show _ ∧ _; decide⟩
    · cases hj
      unfold rOK
      rw [show exr ρ w.length [2, 3, 4, 5, 6, 7] (w.length + 3) = 5 from exr_ge 3]
      exact ⟨_, rfl, fun j x hx => by cases hx⟩
    · cases hj
      unfold rOK
      rw [show exr ρ w.length [2, 3, 4, 5, 6, 7] (w.length + 4) = 6 from exr_ge 4]
      exact ⟨_, rfl, fun j x hx => by cases hx⟩
    · cases hj
      unfold rOK
      rw [show exr ρ w.length [2, 3, 4, 5, 6, 7] (w.length + 5) = 7 from exr_ge 5]
      exact ⟨_, rfl, fun j x hx => by cases hx⟩
  exact hR (zret_i rfl (Nat.le_refl _) rfl (h _ _ hci GRO_app (by rw [List.length_append]; rfl) (exr_ge 0) (exr_ni (by decide) (by decide)) ⟨_, _, ap_ix (j := 0), by decide, by decide⟩))
theorem n_Walk {ρ : Nat → Nat} {w : zW} (hw : CI ρ w) (d : Nat) (Q : zQ) (h : ∀ (σ : Nat → Nat) (w' : zW), CI σ w' → GRO ρ w σ w' → w'.length = w.length + 5 → σ w.length = 60 → WK w' w.length → Q none w') : zCl zTab (d + 2) iX9_init [.ref w.length] (w ++ [.inr (8, zdf 8)]) 4 21844 Q := by
  refine zCl_i (M := kX9_init) rfl (Nat.le_of_ble_eq_true rfl) fun R hR => ?_
  refine (?_ : R (_, _, _, w ++ [.inr (8, [.int 0, .null, .null, .null, .null])], 0, 0))
  refine hR (?_ : R (_, _, _, _, _, _))
  refine hR (?_ : R (_, _, _, _, _, _))
  refine hR (?_ : R (_, _, _, _, _, _))
  refine hR (?_ : R (_, _, _, _, _, _))
  refine hR (t_pa (j := 0) rfl rfl rfl ?_)
  refine (?_ : R (_, _, [], w ++ [.inr (8, [.int (Int32.ofInt 0), .null, .null, .null, .null])], 0, 0))
  refine hR (?_ : R (_, _, _, _, _, _))
  refine hR (t_c 5461 (by decide) ?_)
  refine hR (t_na ?_)
  refine (?_ : R (_, _, .ref (w.length + 1) :: .ref w.length :: [], w ++ [.inr (8, [.int (Int32.ofInt 0), .null, .null, .null, .null]), .inl (1, 5461, .inl fun _ => 0)], 1, 5461))
  refine hR (t_pa (j := 0) rfl rfl rfl ?_)
  refine (?_ : R (_, _, [], w ++ [.inr (8, [.int (Int32.ofInt 0), .ref (w.length + 1), .null, .null, .null]), .inl (1, 5461, .inl fun _ => 0)], 1, 5461))
  refine hR (?_ : R (_, _, _, _, _, _))
  refine hR (t_c 5461 (by decide) ?_)
  refine hR (t_na ?_)
  refine (?_ : R (_, _, .ref (w.length + 2) :: .ref w.length :: [], w ++ [.inr (8, [.int (Int32.ofInt 0), .ref (w.length + 1), .null, .null, .null]), .inl (1, 5461, .inl fun _ => 0), .inl (1, 5461, .inl fun _ => 0)], 2, 10922))
  refine hR (t_pa (j := 0) rfl rfl rfl ?_)
  refine (?_ : R (_, _, [], w ++ [.inr (8, [.int (Int32.ofInt 0), .ref (w.length + 1), .ref (w.length + 2), .null, .null]), .inl (1, 5461, .inl fun _ => 0), .inl (1, 5461, .inl fun _ => 0)], 2, 10922))
  refine hR (?_ : R (_, _, _, _, _, _))
  refine hR (t_c 5461 (by decide) ?_)
  refine hR (t_na ?_)
  refine (?_ : R (_, _, .ref (w.length + 3) :: .ref w.length :: [], w ++ [.inr (8, [.int (Int32.ofInt 0), .ref (w.length + 1), .ref (w.length + 2), .null, .null]), .inl (1, 5461, .inl fun _ => 0), .inl (1, 5461, .inl fun _ => 0), .inl (1, 5461, .inl fun _ => 0)], 3, 16383))
  refine hR (t_pa (j := 0) rfl rfl rfl ?_)
  refine (?_ : R (_, _, [], w ++ [.inr (8, [.int (Int32.ofInt 0), .ref (w.length + 1), .ref (w.length + 2), .ref (w.length + 3), .null]), .inl (1, 5461, .inl fun _ => 0), .inl (1, 5461, .inl fun _ => 0), .inl (1, 5461, .inl fun _ => 0)], 3, 16383))
  refine hR (?_ : R (_, _, _, _, _, _))
  refine hR (t_c 5461 (by decide) ?_)
  refine hR (t_na ?_)
  refine (?_ : R (_, _, .ref (w.length + 4) :: .ref w.length :: [], w ++ [.inr (8, [.int (Int32.ofInt 0), .ref (w.length + 1), .ref (w.length + 2), .ref (w.length + 3), .null]), .inl (1, 5461, .inl fun _ => 0), .inl (1, 5461, .inl fun _ => 0), .inl (1, 5461, .inl fun _ => 0), .inl (1, 5461, .inl fun _ => 0)], 4, 21844))
  refine hR (t_pa (j := 0) rfl rfl rfl ?_)
  refine (?_ : R (_, _, [], w ++ [.inr (8, [.int (Int32.ofInt 0), .ref (w.length + 1), .ref (w.length + 2), .ref (w.length + 3), .ref (w.length + 4)]), .inl (1, 5461, .inl fun _ => 0), .inl (1, 5461, .inl fun _ => 0), .inl (1, 5461, .inl fun _ => 0), .inl (1, 5461, .inl fun _ => 0)], 4, 21844))
  refine hR (?_ : R (_, _, _, _, _, _))
  refine hR (t_ga (j := 0) rfl rfl ?_)
  refine hR (?_ : R (_, _, _, _, _, _))
  have hci : CI (exr ρ w.length [60, 61, 62, 63, 64]) (w ++ [.inr (8, [.int (Int32.ofInt 0), .ref (w.length + 1), .ref (w.length + 2), .ref (w.length + 3), .ref (w.length + 4)]), .inl (1, 5461, .inl fun _ => 0), .inl (1, 5461, .inl fun _ => 0), .inl (1, 5461, .inl fun _ => 0), .inl (1, 5461, .inl fun _ => 0)]) := by
    refine CI_app hw _ _ rfl (fun j c hj => ?_) (by decide)
    have hjl : j < 5 := by
      rw [zix_eq] at hj
      exact (List.getElem?_eq_some_iff.mp hj).1
    have hrs : j = 0 ∨ j = 1 ∨ j = 2 ∨ j = 3 ∨ j = 4 := by omega
    rcases hrs with rfl | rfl | rfl | rfl | rfl
    · cases hj
      unfold rOK
      rw [show exr ρ w.length [60, 61, 62, 63, 64] (w.length + 0) = 60 from exr_ge 0]
      exact ⟨0, rfl, ⟨by decide, by decide⟩, exr_ge 1, exr_ge 2, exr_ge 3, exr_ge 4⟩
    · cases hj
      unfold rOK
      rw [show exr ρ w.length [60, 61, 62, 63, 64] (w.length + 1) = 61 from exr_ge 1]
      exact ⟨_, rfl, fun j => by show _ ∧ _; decide⟩
    · cases hj
      unfold rOK
      rw [show exr ρ w.length [60, 61, 62, 63, 64] (w.length + 2) = 62 from exr_ge 2]
      exact ⟨_, rfl, fun j => by show _ ∧ _; decide⟩
    · cases hj
      unfold rOK
      rw [show exr ρ w.length [60, 61, 62, 63, 64] (w.length + 3) = 63 from exr_ge 3]
      exact ⟨_, rfl, fun j => by show _ ∧ _; decide⟩
    · cases hj
      unfold rOK
      rw [show exr ρ w.length [60, 61, 62, 63, 64] (w.length + 4) = 64 from exr_ge 4]
      exact ⟨_, rfl, fun j => by show _ ∧ _; decide⟩
  have hr : exr ρ w.length [60, 61, 62, 63, 64] (w.length + 2) = 62 := exr_ge 2
  refine hR (zcall_i 0 0 (Nat.le_of_ble_eq_true rfl) (Nat.le_of_ble_eq_true rfl) (c_fill _ _ 5461 (-1) (-2147483648) 2147483647 hci (by rw [hr]; rfl) ⟨by rw [hr]; decide, by rw [hr]; decide⟩ (by omega) (by omega) (by omega) _ fun w1 hw1 f1 hg1 => ?_))
  refine (?_ : R (_, _, [], w1, 4, 21844))
  exact hR (zret_i rfl (Nat.le_refl _) rfl (h _ _ hw1 (GRO_wfr GRO_app f1 (by omega)) (by rw [f1.1, List.length_append]; rfl) (exr_ge 0) (wk_new f1 hg1)))
theorem n_Levels {ρ : Nat → Nat} {w : zW} (hw : CI ρ w) (d : Nat) (Q : zQ) (h : ∀ (σ : Nat → Nat) (w' : zW), CI σ w' → GRO ρ w σ w' → w'.length = w.length + 7 → σ w.length = 70 → (∀ q, w.length ≤ q → σ q ≠ 60) → Q none w') : zCl zTab (d + 2) iX2_init [.ref w.length] (w ++ [.inr (2, zdf 2)]) 6 82732 Q := by
  refine zCl_i (M := kX2_init) rfl (Nat.le_of_ble_eq_true rfl) fun R hR => ?_
  refine (?_ : R (_, _, _, w ++ [.inr (2, [.null, .int 0, .int 0, .int 0, .null, .null, .null, .null, .null, .null])], 0, 0))
  refine hR (?_ : R (_, _, _, _, _, _))
  refine hR (?_ : R (_, _, _, _, _, _))
  refine hR (?_ : R (_, _, _, _, _, _))
  refine hR (?_ : R (_, _, _, _, _, _))
  refine hR (t_pa (j := 0) rfl rfl rfl ?_)
  refine (?_ : R (_, _, [], w ++ [.inr (2, [.null, .int 0, .int 0, .int 0, .null, .null, .null, .null, .null, .null])], 0, 0))
  refine hR (?_ : R (_, _, _, _, _, _))
  refine hR (?_ : R (_, _, _, _, _, _))
  refine hR (t_pa (j := 0) rfl rfl rfl ?_)
  refine (?_ : R (_, _, [], w ++ [.inr (2, [.null, .int (Int32.ofInt 0), .int 0, .int 0, .null, .null, .null, .null, .null, .null])], 0, 0))
  refine hR (?_ : R (_, _, _, _, _, _))
  refine hR (?_ : R (_, _, _, _, _, _))
  refine hR (t_pa (j := 0) rfl rfl rfl ?_)
  refine (?_ : R (_, _, [], w ++ [.inr (2, [.null, .int (Int32.ofInt 0), .int (Int32.ofInt 0), .int 0, .null, .null, .null, .null, .null, .null])], 0, 0))
  refine hR (?_ : R (_, _, _, _, _, _))
  refine hR (?_ : R (_, _, _, _, _, _))
  refine hR (t_pa (j := 0) rfl rfl rfl ?_)
  refine (?_ : R (_, _, [], w ++ [.inr (2, [.null, .int (Int32.ofInt 0), .int (Int32.ofInt 0), .int (Int32.ofInt 0), .null, .null, .null, .null, .null, .null])], 0, 0))
  refine hR (?_ : R (_, _, _, _, _, _))
  refine hR (t_c 11 (by decide) ?_)
  refine hR (t_na ?_)
  refine (?_ : R (_, _, .ref (w.length + 1) :: .ref w.length :: [], w ++ [.inr (2, [.null, .int (Int32.ofInt 0), .int (Int32.ofInt 0), .int (Int32.ofInt 0), .null, .null, .null, .null, .null, .null]), .inl (1, 11, .inl fun _ => 0)], 1, 11))
  refine hR (t_pa (j := 0) rfl rfl rfl ?_)
  refine (?_ : R (_, _, [], w ++ [.inr (2, [.null, .int (Int32.ofInt 0), .int (Int32.ofInt 0), .int (Int32.ofInt 0), .ref (w.length + 1), .null, .null, .null, .null, .null]), .inl (1, 11, .inl fun _ => 0)], 1, 11))
  refine hR (?_ : R (_, _, _, _, _, _))
  refine hR (t_c 10 (by decide) ?_)
  refine hR (t_na ?_)
  refine (?_ : R (_, _, .ref (w.length + 2) :: .ref w.length :: [], w ++ [.inr (2, [.null, .int (Int32.ofInt 0), .int (Int32.ofInt 0), .int (Int32.ofInt 0), .ref (w.length + 1), .null, .null, .null, .null, .null]), .inl (1, 11, .inl fun _ => 0), .inl (1, 10, .inl fun _ => 0)], 2, 21))
  refine hR (t_pa (j := 0) rfl rfl rfl ?_)
  refine (?_ : R (_, _, [], w ++ [.inr (2, [.null, .int (Int32.ofInt 0), .int (Int32.ofInt 0), .int (Int32.ofInt 0), .ref (w.length + 1), .ref (w.length + 2), .null, .null, .null, .null]), .inl (1, 11, .inl fun _ => 0), .inl (1, 10, .inl fun _ => 0)], 2, 21))
  refine hR (?_ : R (_, _, _, _, _, _))
  refine hR (t_c 25750 (by decide) ?_)
  refine hR (t_na ?_)
  refine (?_ : R (_, _, .ref (w.length + 3) :: .ref w.length :: [], w ++ [.inr (2, [.null, .int (Int32.ofInt 0), .int (Int32.ofInt 0), .int (Int32.ofInt 0), .ref (w.length + 1), .ref (w.length + 2), .null, .null, .null, .null]), .inl (1, 11, .inl fun _ => 0), .inl (1, 10, .inl fun _ => 0), .inl (1, 25750, .inl fun _ => 0)], 3, 25771))
  refine hR (t_pa (j := 0) rfl rfl rfl ?_)
  refine (?_ : R (_, _, [], w ++ [.inr (2, [.null, .int (Int32.ofInt 0), .int (Int32.ofInt 0), .int (Int32.ofInt 0), .ref (w.length + 1), .ref (w.length + 2), .ref (w.length + 3), .null, .null, .null]), .inl (1, 11, .inl fun _ => 0), .inl (1, 10, .inl fun _ => 0), .inl (1, 25750, .inl fun _ => 0)], 3, 25771))
  refine hR (?_ : R (_, _, _, _, _, _))
  refine hR (t_c 25750 (by decide) ?_)
  refine hR (t_na ?_)
  refine (?_ : R (_, _, .ref (w.length + 4) :: .ref w.length :: [], w ++ [.inr (2, [.null, .int (Int32.ofInt 0), .int (Int32.ofInt 0), .int (Int32.ofInt 0), .ref (w.length + 1), .ref (w.length + 2), .ref (w.length + 3), .null, .null, .null]), .inl (1, 11, .inl fun _ => 0), .inl (1, 10, .inl fun _ => 0), .inl (1, 25750, .inl fun _ => 0), .inl (1, 25750, .inl fun _ => 0)], 4, 51521))
  refine hR (t_pa (j := 0) rfl rfl rfl ?_)
  refine (?_ : R (_, _, [], w ++ [.inr (2, [.null, .int (Int32.ofInt 0), .int (Int32.ofInt 0), .int (Int32.ofInt 0), .ref (w.length + 1), .ref (w.length + 2), .ref (w.length + 3), .ref (w.length + 4), .null, .null]), .inl (1, 11, .inl fun _ => 0), .inl (1, 10, .inl fun _ => 0), .inl (1, 25750, .inl fun _ => 0), .inl (1, 25750, .inl fun _ => 0)], 4, 51521))
  refine hR (?_ : R (_, _, _, _, _, _))
  refine hR (t_c 25750 (by decide) ?_)
  refine hR (t_na ?_)
  refine (?_ : R (_, _, .ref (w.length + 5) :: .ref w.length :: [], w ++ [.inr (2, [.null, .int (Int32.ofInt 0), .int (Int32.ofInt 0), .int (Int32.ofInt 0), .ref (w.length + 1), .ref (w.length + 2), .ref (w.length + 3), .ref (w.length + 4), .null, .null]), .inl (1, 11, .inl fun _ => 0), .inl (1, 10, .inl fun _ => 0), .inl (1, 25750, .inl fun _ => 0), .inl (1, 25750, .inl fun _ => 0), .inl (1, 25750, .inl fun _ => 0)], 5, 77271))
  refine hR (t_pa (j := 0) rfl rfl rfl ?_)
  refine (?_ : R (_, _, [], w ++ [.inr (2, [.null, .int (Int32.ofInt 0), .int (Int32.ofInt 0), .int (Int32.ofInt 0), .ref (w.length + 1), .ref (w.length + 2), .ref (w.length + 3), .ref (w.length + 4), .ref (w.length + 5), .null]), .inl (1, 11, .inl fun _ => 0), .inl (1, 10, .inl fun _ => 0), .inl (1, 25750, .inl fun _ => 0), .inl (1, 25750, .inl fun _ => 0), .inl (1, 25750, .inl fun _ => 0)], 5, 77271))
  refine hR (?_ : R (_, _, _, _, _, _))
  refine hR (t_c 5461 (by decide) ?_)
  refine hR (t_na ?_)
  refine (?_ : R (_, _, .ref (w.length + 6) :: .ref w.length :: [], w ++ [.inr (2, [.null, .int (Int32.ofInt 0), .int (Int32.ofInt 0), .int (Int32.ofInt 0), .ref (w.length + 1), .ref (w.length + 2), .ref (w.length + 3), .ref (w.length + 4), .ref (w.length + 5), .null]), .inl (1, 11, .inl fun _ => 0), .inl (1, 10, .inl fun _ => 0), .inl (1, 25750, .inl fun _ => 0), .inl (1, 25750, .inl fun _ => 0), .inl (1, 25750, .inl fun _ => 0), .inl (1, 5461, .inl fun _ => 0)], 6, 82732))
  refine hR (t_pa (j := 0) rfl rfl rfl ?_)
  refine (?_ : R (_, _, [], w ++ [.inr (2, [.null, .int (Int32.ofInt 0), .int (Int32.ofInt 0), .int (Int32.ofInt 0), .ref (w.length + 1), .ref (w.length + 2), .ref (w.length + 3), .ref (w.length + 4), .ref (w.length + 5), .ref (w.length + 6)]), .inl (1, 11, .inl fun _ => 0), .inl (1, 10, .inl fun _ => 0), .inl (1, 25750, .inl fun _ => 0), .inl (1, 25750, .inl fun _ => 0), .inl (1, 25750, .inl fun _ => 0), .inl (1, 5461, .inl fun _ => 0)], 6, 82732))
  refine hR (?_ : R (_, _, _, _, _, _))
  refine hR (t_ga (j := 0) rfl rfl ?_)
  refine hR (?_ : R (_, _, _, _, _, _))
  have hci : CI (exr ρ w.length [70, 71, 72, 73, 74, 75, 76]) (w ++ [.inr (2, [.null, .int (Int32.ofInt 0), .int (Int32.ofInt 0), .int (Int32.ofInt 0), .ref (w.length + 1), .ref (w.length + 2), .ref (w.length + 3), .ref (w.length + 4), .ref (w.length + 5), .ref (w.length + 6)]), .inl (1, 11, .inl fun _ => 0), .inl (1, 10, .inl fun _ => 0), .inl (1, 25750, .inl fun _ => 0), .inl (1, 25750, .inl fun _ => 0), .inl (1, 25750, .inl fun _ => 0), .inl (1, 5461, .inl fun _ => 0)]) := by
    refine CI_app hw _ _ rfl (fun j c hj => ?_) (by decide)
    have hjl : j < 7 := by
      rw [zix_eq] at hj
      exact (List.getElem?_eq_some_iff.mp hj).1
    have hrs : j = 0 ∨ j = 1 ∨ j = 2 ∨ j = 3 ∨ j = 4 ∨ j = 5 ∨ j = 6 := by omega
    rcases hrs with rfl | rfl | rfl | rfl | rfl | rfl | rfl
    · cases hj
      unfold rOK
      rw [show exr ρ w.length [70, 71, 72, 73, 74, 75, 76] (w.length + 0) = 70 from exr_ge 0]
      exact ⟨none, 0, 0, 0, rfl, (fun z hz => by cases hz), ⟨by decide, by decide⟩, ⟨by decide, by decide⟩, ⟨by decide, by decide⟩, exr_ge 1, exr_ge 2, exr_ge 3, exr_ge 4, exr_ge 5, exr_ge 6⟩
    · cases hj
      unfold rOK
      rw [show exr ρ w.length [70, 71, 72, 73, 74, 75, 76] (w.length + 1) = 71 from exr_ge 1]
      exact ⟨_, rfl, fun j => by show _ ∧ _; decide⟩
    · cases hj
      unfold rOK
      rw [show exr ρ w.length [70, 71, 72, 73, 74, 75, 76] (w.length + 2) = 72 from exr_ge 2]
      exact ⟨_, rfl, fun j => by show _ ∧ _; decide⟩
    · cases hj
      unfold rOK
      rw [show exr ρ w.length [70, 71, 72, 73, 74, 75, 76] (w.length + 3) = 73 from exr_ge 3]
      exact ⟨_, rfl, fun j => by show _ ∧ _; decide⟩
    · cases hj
      unfold rOK
      rw [show exr ρ w.length [70, 71, 72, 73, 74, 75, 76] (w.length + 4) = 74 from exr_ge 4]
      exact ⟨_, rfl, fun j => by show _ ∧ _; decide⟩
    · cases hj
      unfold rOK
      rw [show exr ρ w.length [70, 71, 72, 73, 74, 75, 76] (w.length + 5) = 75 from exr_ge 5]
      exact ⟨_, rfl, fun j => by show _ ∧ _; decide⟩
    · cases hj
      unfold rOK
      rw [show exr ρ w.length [70, 71, 72, 73, 74, 75, 76] (w.length + 6) = 76 from exr_ge 6]
      exact ⟨_, rfl, fun j => by show _ ∧ _; decide⟩
  have hr : exr ρ w.length [70, 71, 72, 73, 74, 75, 76] (w.length + 6) = 76 := exr_ge 6
  refine hR (zcall_i 0 0 (Nat.le_of_ble_eq_true rfl) (Nat.le_of_ble_eq_true rfl) (c_fill _ _ 5461 (-1) (-1) 25749 hci (by rw [hr]; rfl) ⟨by rw [hr]; decide, by rw [hr]; decide⟩ (by omega) (by omega) (by omega) _ fun w1 hw1 f1 hg1 => ?_))
  refine (?_ : R (_, _, [], w1, 6, 82732))
  exact hR (zret_i rfl (Nat.le_refl _) rfl (h _ _ hw1 (GRO_wfr GRO_app f1 (by omega)) (by rw [f1.1, List.length_append]; rfl) (exr_ge 0) (exr_ni (by decide) (by decide))))
theorem n_Rings {ρ : Nat → Nat} {w : zW} (hw : CI ρ w) (d : Nat) (Q : zQ) (h : ∀ (σ : Nat → Nat) (w' : zW), CI σ w' → GRO ρ w σ w' → w'.length = w.length + 11 → σ w.length = 80 → (∀ q, w.length ≤ q → σ q ≠ 60) → Q none w') : zCl zTab (d + 2) iX5_init [.ref w.length] (w ++ [.inr (4, zdf 4)]) 10 49155 Q := by
  refine zCl_i (M := kX5_init) rfl (Nat.le_of_ble_eq_true rfl) fun R hR => ?_
  refine (?_ : R (_, _, _, w ++ [.inr (4, [.null, .int 0, .int 0, .int 0, .int 0, .int 0, .null, .null, .null, .null, .null, .null, .null, .null, .null])], 0, 0))
  refine hR (?_ : R (_, _, _, _, _, _))
  refine hR (?_ : R (_, _, _, _, _, _))
  refine hR (?_ : R (_, _, _, _, _, _))
  refine hR (t_c 6 (by decide) ?_)
  refine hR (t_na ?_)
  refine (?_ : R (_, _, .ref (w.length + 1) :: .ref w.length :: [], w ++ [.inr (4, [.null, .int 0, .int 0, .int 0, .int 0, .int 0, .null, .null, .null, .null, .null, .null, .null, .null, .null]), .inl (1, 6, .inl fun _ => 0)], 1, 6))
  refine hR (t_pa (j := 0) rfl rfl rfl ?_)
  refine (?_ : R (_, _, [], w ++ [.inr (4, [.ref (w.length + 1), .int 0, .int 0, .int 0, .int 0, .int 0, .null, .null, .null, .null, .null, .null, .null, .null, .null]), .inl (1, 6, .inl fun _ => 0)], 1, 6))
  refine hR (?_ : R (_, _, _, _, _, _))
  refine hR (?_ : R (_, _, _, _, _, _))
  refine hR (t_pa (j := 0) rfl rfl rfl ?_)
  refine (?_ : R (_, _, [], w ++ [.inr (4, [.ref (w.length + 1), .int (Int32.ofInt 0), .int 0, .int 0, .int 0, .int 0, .null, .null, .null, .null, .null, .null, .null, .null, .null]), .inl (1, 6, .inl fun _ => 0)], 1, 6))
  refine hR (?_ : R (_, _, _, _, _, _))
  refine hR (?_ : R (_, _, _, _, _, _))
  refine hR (t_pa (j := 0) rfl rfl rfl ?_)
  refine (?_ : R (_, _, [], w ++ [.inr (4, [.ref (w.length + 1), .int (Int32.ofInt 0), .int (Int32.ofInt 0), .int 0, .int 0, .int 0, .null, .null, .null, .null, .null, .null, .null, .null, .null]), .inl (1, 6, .inl fun _ => 0)], 1, 6))
  refine hR (?_ : R (_, _, _, _, _, _))
  refine hR (?_ : R (_, _, _, _, _, _))
  refine hR (t_pa (j := 0) rfl rfl rfl ?_)
  refine (?_ : R (_, _, [], w ++ [.inr (4, [.ref (w.length + 1), .int (Int32.ofInt 0), .int (Int32.ofInt 0), .int (Int32.ofInt 0), .int 0, .int 0, .null, .null, .null, .null, .null, .null, .null, .null, .null]), .inl (1, 6, .inl fun _ => 0)], 1, 6))
  refine hR (?_ : R (_, _, _, _, _, _))
  refine hR (?_ : R (_, _, _, _, _, _))
  refine hR (t_pa (j := 0) rfl rfl rfl ?_)
  refine (?_ : R (_, _, [], w ++ [.inr (4, [.ref (w.length + 1), .int (Int32.ofInt 0), .int (Int32.ofInt 0), .int (Int32.ofInt 0), .int (Int32.ofInt 0), .int 0, .null, .null, .null, .null, .null, .null, .null, .null, .null]), .inl (1, 6, .inl fun _ => 0)], 1, 6))
  refine hR (?_ : R (_, _, _, _, _, _))
  refine hR (?_ : R (_, _, _, _, _, _))
  refine hR (t_pa (j := 0) rfl rfl rfl ?_)
  refine (?_ : R (_, _, [], w ++ [.inr (4, [.ref (w.length + 1), .int (Int32.ofInt 0), .int (Int32.ofInt 0), .int (Int32.ofInt 0), .int (Int32.ofInt 0), .int (Int32.ofInt 0), .null, .null, .null, .null, .null, .null, .null, .null, .null]), .inl (1, 6, .inl fun _ => 0)], 1, 6))
  refine hR (?_ : R (_, _, _, _, _, _))
  refine hR (t_c 5461 (by decide) ?_)
  refine hR (t_na ?_)
  refine (?_ : R (_, _, .ref (w.length + 2) :: .ref w.length :: [], w ++ [.inr (4, [.ref (w.length + 1), .int (Int32.ofInt 0), .int (Int32.ofInt 0), .int (Int32.ofInt 0), .int (Int32.ofInt 0), .int (Int32.ofInt 0), .null, .null, .null, .null, .null, .null, .null, .null, .null]), .inl (1, 6, .inl fun _ => 0), .inl (1, 5461, .inl fun _ => 0)], 2, 5467))
  refine hR (t_pa (j := 0) rfl rfl rfl ?_)
  refine (?_ : R (_, _, [], w ++ [.inr (4, [.ref (w.length + 1), .int (Int32.ofInt 0), .int (Int32.ofInt 0), .int (Int32.ofInt 0), .int (Int32.ofInt 0), .int (Int32.ofInt 0), .ref (w.length + 2), .null, .null, .null, .null, .null, .null, .null, .null]), .inl (1, 6, .inl fun _ => 0), .inl (1, 5461, .inl fun _ => 0)], 2, 5467))
  refine hR (?_ : R (_, _, _, _, _, _))
  refine hR (t_c 5461 (by decide) ?_)
  refine hR (t_na ?_)
  refine (?_ : R (_, _, .ref (w.length + 3) :: .ref w.length :: [], w ++ [.inr (4, [.ref (w.length + 1), .int (Int32.ofInt 0), .int (Int32.ofInt 0), .int (Int32.ofInt 0), .int (Int32.ofInt 0), .int (Int32.ofInt 0), .ref (w.length + 2), .null, .null, .null, .null, .null, .null, .null, .null]), .inl (1, 6, .inl fun _ => 0), .inl (1, 5461, .inl fun _ => 0), .inl (1, 5461, .inl fun _ => 0)], 3, 10928))
  refine hR (t_pa (j := 0) rfl rfl rfl ?_)
  refine (?_ : R (_, _, [], w ++ [.inr (4, [.ref (w.length + 1), .int (Int32.ofInt 0), .int (Int32.ofInt 0), .int (Int32.ofInt 0), .int (Int32.ofInt 0), .int (Int32.ofInt 0), .ref (w.length + 2), .ref (w.length + 3), .null, .null, .null, .null, .null, .null, .null]), .inl (1, 6, .inl fun _ => 0), .inl (1, 5461, .inl fun _ => 0), .inl (1, 5461, .inl fun _ => 0)], 3, 10928))
  refine hR (?_ : R (_, _, _, _, _, _))
  refine hR (t_c 5461 (by decide) ?_)
  refine hR (t_na ?_)
  refine (?_ : R (_, _, .ref (w.length + 4) :: .ref w.length :: [], w ++ [.inr (4, [.ref (w.length + 1), .int (Int32.ofInt 0), .int (Int32.ofInt 0), .int (Int32.ofInt 0), .int (Int32.ofInt 0), .int (Int32.ofInt 0), .ref (w.length + 2), .ref (w.length + 3), .null, .null, .null, .null, .null, .null, .null]), .inl (1, 6, .inl fun _ => 0), .inl (1, 5461, .inl fun _ => 0), .inl (1, 5461, .inl fun _ => 0), .inl (1, 5461, .inl fun _ => 0)], 4, 16389))
  refine hR (t_pa (j := 0) rfl rfl rfl ?_)
  refine (?_ : R (_, _, [], w ++ [.inr (4, [.ref (w.length + 1), .int (Int32.ofInt 0), .int (Int32.ofInt 0), .int (Int32.ofInt 0), .int (Int32.ofInt 0), .int (Int32.ofInt 0), .ref (w.length + 2), .ref (w.length + 3), .ref (w.length + 4), .null, .null, .null, .null, .null, .null]), .inl (1, 6, .inl fun _ => 0), .inl (1, 5461, .inl fun _ => 0), .inl (1, 5461, .inl fun _ => 0), .inl (1, 5461, .inl fun _ => 0)], 4, 16389))
  refine hR (?_ : R (_, _, _, _, _, _))
  refine hR (t_c 5461 (by decide) ?_)
  refine hR (t_na ?_)
  refine (?_ : R (_, _, .ref (w.length + 5) :: .ref w.length :: [], w ++ [.inr (4, [.ref (w.length + 1), .int (Int32.ofInt 0), .int (Int32.ofInt 0), .int (Int32.ofInt 0), .int (Int32.ofInt 0), .int (Int32.ofInt 0), .ref (w.length + 2), .ref (w.length + 3), .ref (w.length + 4), .null, .null, .null, .null, .null, .null]), .inl (1, 6, .inl fun _ => 0), .inl (1, 5461, .inl fun _ => 0), .inl (1, 5461, .inl fun _ => 0), .inl (1, 5461, .inl fun _ => 0), .inl (1, 5461, .inl fun _ => 0)], 5, 21850))
  refine hR (t_pa (j := 0) rfl rfl rfl ?_)
  refine (?_ : R (_, _, [], w ++ [.inr (4, [.ref (w.length + 1), .int (Int32.ofInt 0), .int (Int32.ofInt 0), .int (Int32.ofInt 0), .int (Int32.ofInt 0), .int (Int32.ofInt 0), .ref (w.length + 2), .ref (w.length + 3), .ref (w.length + 4), .ref (w.length + 5), .null, .null, .null, .null, .null]), .inl (1, 6, .inl fun _ => 0), .inl (1, 5461, .inl fun _ => 0), .inl (1, 5461, .inl fun _ => 0), .inl (1, 5461, .inl fun _ => 0), .inl (1, 5461, .inl fun _ => 0)], 5, 21850))
  refine hR (?_ : R (_, _, _, _, _, _))
  refine hR (t_c 5461 (by decide) ?_)
  refine hR (t_na ?_)
  refine (?_ : R (_, _, .ref (w.length + 6) :: .ref w.length :: [], w ++ [.inr (4, [.ref (w.length + 1), .int (Int32.ofInt 0), .int (Int32.ofInt 0), .int (Int32.ofInt 0), .int (Int32.ofInt 0), .int (Int32.ofInt 0), .ref (w.length + 2), .ref (w.length + 3), .ref (w.length + 4), .ref (w.length + 5), .null, .null, .null, .null, .null]), .inl (1, 6, .inl fun _ => 0), .inl (1, 5461, .inl fun _ => 0), .inl (1, 5461, .inl fun _ => 0), .inl (1, 5461, .inl fun _ => 0), .inl (1, 5461, .inl fun _ => 0), .inl (1, 5461, .inl fun _ => 0)], 6, 27311))
  refine hR (t_pa (j := 0) rfl rfl rfl ?_)
  refine (?_ : R (_, _, [], w ++ [.inr (4, [.ref (w.length + 1), .int (Int32.ofInt 0), .int (Int32.ofInt 0), .int (Int32.ofInt 0), .int (Int32.ofInt 0), .int (Int32.ofInt 0), .ref (w.length + 2), .ref (w.length + 3), .ref (w.length + 4), .ref (w.length + 5), .ref (w.length + 6), .null, .null, .null, .null]), .inl (1, 6, .inl fun _ => 0), .inl (1, 5461, .inl fun _ => 0), .inl (1, 5461, .inl fun _ => 0), .inl (1, 5461, .inl fun _ => 0), .inl (1, 5461, .inl fun _ => 0), .inl (1, 5461, .inl fun _ => 0)], 6, 27311))
  refine hR (?_ : R (_, _, _, _, _, _))
  refine hR (t_c 5461 (by decide) ?_)
  refine hR (t_na ?_)
  refine (?_ : R (_, _, .ref (w.length + 7) :: .ref w.length :: [], w ++ [.inr (4, [.ref (w.length + 1), .int (Int32.ofInt 0), .int (Int32.ofInt 0), .int (Int32.ofInt 0), .int (Int32.ofInt 0), .int (Int32.ofInt 0), .ref (w.length + 2), .ref (w.length + 3), .ref (w.length + 4), .ref (w.length + 5), .ref (w.length + 6), .null, .null, .null, .null]), .inl (1, 6, .inl fun _ => 0), .inl (1, 5461, .inl fun _ => 0), .inl (1, 5461, .inl fun _ => 0), .inl (1, 5461, .inl fun _ => 0), .inl (1, 5461, .inl fun _ => 0), .inl (1, 5461, .inl fun _ => 0), .inl (1, 5461, .inl fun _ => 0)], 7, 32772))
  refine hR (t_pa (j := 0) rfl rfl rfl ?_)
  refine (?_ : R (_, _, [], w ++ [.inr (4, [.ref (w.length + 1), .int (Int32.ofInt 0), .int (Int32.ofInt 0), .int (Int32.ofInt 0), .int (Int32.ofInt 0), .int (Int32.ofInt 0), .ref (w.length + 2), .ref (w.length + 3), .ref (w.length + 4), .ref (w.length + 5), .ref (w.length + 6), .ref (w.length + 7), .null, .null, .null]), .inl (1, 6, .inl fun _ => 0), .inl (1, 5461, .inl fun _ => 0), .inl (1, 5461, .inl fun _ => 0), .inl (1, 5461, .inl fun _ => 0), .inl (1, 5461, .inl fun _ => 0), .inl (1, 5461, .inl fun _ => 0), .inl (1, 5461, .inl fun _ => 0)], 7, 32772))
  refine hR (?_ : R (_, _, _, _, _, _))
  refine hR (t_c 5461 (by decide) ?_)
  refine hR (t_na ?_)
  refine (?_ : R (_, _, .ref (w.length + 8) :: .ref w.length :: [], w ++ [.inr (4, [.ref (w.length + 1), .int (Int32.ofInt 0), .int (Int32.ofInt 0), .int (Int32.ofInt 0), .int (Int32.ofInt 0), .int (Int32.ofInt 0), .ref (w.length + 2), .ref (w.length + 3), .ref (w.length + 4), .ref (w.length + 5), .ref (w.length + 6), .ref (w.length + 7), .null, .null, .null]), .inl (1, 6, .inl fun _ => 0), .inl (1, 5461, .inl fun _ => 0), .inl (1, 5461, .inl fun _ => 0), .inl (1, 5461, .inl fun _ => 0), .inl (1, 5461, .inl fun _ => 0), .inl (1, 5461, .inl fun _ => 0), .inl (1, 5461, .inl fun _ => 0), .inl (1, 5461, .inl fun _ => 0)], 8, 38233))
  refine hR (t_pa (j := 0) rfl rfl rfl ?_)
  refine (?_ : R (_, _, [], w ++ [.inr (4, [.ref (w.length + 1), .int (Int32.ofInt 0), .int (Int32.ofInt 0), .int (Int32.ofInt 0), .int (Int32.ofInt 0), .int (Int32.ofInt 0), .ref (w.length + 2), .ref (w.length + 3), .ref (w.length + 4), .ref (w.length + 5), .ref (w.length + 6), .ref (w.length + 7), .ref (w.length + 8), .null, .null]), .inl (1, 6, .inl fun _ => 0), .inl (1, 5461, .inl fun _ => 0), .inl (1, 5461, .inl fun _ => 0), .inl (1, 5461, .inl fun _ => 0), .inl (1, 5461, .inl fun _ => 0), .inl (1, 5461, .inl fun _ => 0), .inl (1, 5461, .inl fun _ => 0), .inl (1, 5461, .inl fun _ => 0)], 8, 38233))
  refine hR (?_ : R (_, _, _, _, _, _))
  refine hR (t_c 5461 (by decide) ?_)
  refine hR (t_na ?_)
  refine (?_ : R (_, _, .ref (w.length + 9) :: .ref w.length :: [], w ++ [.inr (4, [.ref (w.length + 1), .int (Int32.ofInt 0), .int (Int32.ofInt 0), .int (Int32.ofInt 0), .int (Int32.ofInt 0), .int (Int32.ofInt 0), .ref (w.length + 2), .ref (w.length + 3), .ref (w.length + 4), .ref (w.length + 5), .ref (w.length + 6), .ref (w.length + 7), .ref (w.length + 8), .null, .null]), .inl (1, 6, .inl fun _ => 0), .inl (1, 5461, .inl fun _ => 0), .inl (1, 5461, .inl fun _ => 0), .inl (1, 5461, .inl fun _ => 0), .inl (1, 5461, .inl fun _ => 0), .inl (1, 5461, .inl fun _ => 0), .inl (1, 5461, .inl fun _ => 0), .inl (1, 5461, .inl fun _ => 0), .inl (1, 5461, .inl fun _ => 0)], 9, 43694))
  refine hR (t_pa (j := 0) rfl rfl rfl ?_)
  refine (?_ : R (_, _, [], w ++ [.inr (4, [.ref (w.length + 1), .int (Int32.ofInt 0), .int (Int32.ofInt 0), .int (Int32.ofInt 0), .int (Int32.ofInt 0), .int (Int32.ofInt 0), .ref (w.length + 2), .ref (w.length + 3), .ref (w.length + 4), .ref (w.length + 5), .ref (w.length + 6), .ref (w.length + 7), .ref (w.length + 8), .ref (w.length + 9), .null]), .inl (1, 6, .inl fun _ => 0), .inl (1, 5461, .inl fun _ => 0), .inl (1, 5461, .inl fun _ => 0), .inl (1, 5461, .inl fun _ => 0), .inl (1, 5461, .inl fun _ => 0), .inl (1, 5461, .inl fun _ => 0), .inl (1, 5461, .inl fun _ => 0), .inl (1, 5461, .inl fun _ => 0), .inl (1, 5461, .inl fun _ => 0)], 9, 43694))
  refine hR (?_ : R (_, _, _, _, _, _))
  refine hR (t_c 5461 (by decide) ?_)
  refine hR (t_na ?_)
  refine (?_ : R (_, _, .ref (w.length + 10) :: .ref w.length :: [], w ++ [.inr (4, [.ref (w.length + 1), .int (Int32.ofInt 0), .int (Int32.ofInt 0), .int (Int32.ofInt 0), .int (Int32.ofInt 0), .int (Int32.ofInt 0), .ref (w.length + 2), .ref (w.length + 3), .ref (w.length + 4), .ref (w.length + 5), .ref (w.length + 6), .ref (w.length + 7), .ref (w.length + 8), .ref (w.length + 9), .null]), .inl (1, 6, .inl fun _ => 0), .inl (1, 5461, .inl fun _ => 0), .inl (1, 5461, .inl fun _ => 0), .inl (1, 5461, .inl fun _ => 0), .inl (1, 5461, .inl fun _ => 0), .inl (1, 5461, .inl fun _ => 0), .inl (1, 5461, .inl fun _ => 0), .inl (1, 5461, .inl fun _ => 0), .inl (1, 5461, .inl fun _ => 0), .inl (1, 5461, .inl fun _ => 0)], 10, 49155))
  refine hR (t_pa (j := 0) rfl rfl rfl ?_)
  refine (?_ : R (_, _, [], w ++ [.inr (4, [.ref (w.length + 1), .int (Int32.ofInt 0), .int (Int32.ofInt 0), .int (Int32.ofInt 0), .int (Int32.ofInt 0), .int (Int32.ofInt 0), .ref (w.length + 2), .ref (w.length + 3), .ref (w.length + 4), .ref (w.length + 5), .ref (w.length + 6), .ref (w.length + 7), .ref (w.length + 8), .ref (w.length + 9), .ref (w.length + 10)]), .inl (1, 6, .inl fun _ => 0), .inl (1, 5461, .inl fun _ => 0), .inl (1, 5461, .inl fun _ => 0), .inl (1, 5461, .inl fun _ => 0), .inl (1, 5461, .inl fun _ => 0), .inl (1, 5461, .inl fun _ => 0), .inl (1, 5461, .inl fun _ => 0), .inl (1, 5461, .inl fun _ => 0), .inl (1, 5461, .inl fun _ => 0), .inl (1, 5461, .inl fun _ => 0)], 10, 49155))
  have hci : CI (exr ρ w.length [80, 81, 82, 83, 84, 85, 86, 87, 88, 89, 90]) (w ++ [.inr (4, [.ref (w.length + 1), .int (Int32.ofInt 0), .int (Int32.ofInt 0), .int (Int32.ofInt 0), .int (Int32.ofInt 0), .int (Int32.ofInt 0), .ref (w.length + 2), .ref (w.length + 3), .ref (w.length + 4), .ref (w.length + 5), .ref (w.length + 6), .ref (w.length + 7), .ref (w.length + 8), .ref (w.length + 9), .ref (w.length + 10)]), .inl (1, 6, .inl fun _ => 0), .inl (1, 5461, .inl fun _ => 0), .inl (1, 5461, .inl fun _ => 0), .inl (1, 5461, .inl fun _ => 0), .inl (1, 5461, .inl fun _ => 0), .inl (1, 5461, .inl fun _ => 0), .inl (1, 5461, .inl fun _ => 0), .inl (1, 5461, .inl fun _ => 0), .inl (1, 5461, .inl fun _ => 0), .inl (1, 5461, .inl fun _ => 0)]) := by
    refine CI_app hw _ _ rfl (fun j c hj => ?_) (by decide)
    have hjl : j < 11 := by
      rw [zix_eq] at hj
      exact (List.getElem?_eq_some_iff.mp hj).1
    have hrs : j = 0 ∨ j = 1 ∨ j = 2 ∨ j = 3 ∨ j = 4 ∨ j = 5 ∨ j = 6 ∨ j = 7 ∨ j = 8 ∨ j = 9 ∨ j = 10 := by omega
    rcases hrs with rfl | rfl | rfl | rfl | rfl | rfl | rfl | rfl | rfl | rfl | rfl
    · cases hj
      unfold rOK
      rw [show exr ρ w.length [80, 81, 82, 83, 84, 85, 86, 87, 88, 89, 90] (w.length + 0) = 80 from exr_ge 0]
      exact ⟨0, 0, 0, 0, 0, rfl, exr_ge 1, ⟨by decide, by decide⟩, ⟨by decide, by decide⟩, ⟨by decide, by decide⟩, ⟨by decide, by decide⟩, ⟨by decide, by decide⟩, exr_ge 2, exr_ge 3, exr_ge 4, exr_ge 5, exr_ge 6, exr_ge 7, exr_ge 8, exr_ge 9, exr_ge 10⟩
    · cases hj
      unfold rOK
      rw [show exr ρ w.length [80, 81, 82, 83, 84, 85, 86, 87, 88, 89, 90] (w.length + 1) = 81 from exr_ge 1]
      exact ⟨_, rfl, fun j => by show _ ∧ _; decide⟩
    · cases hj
      unfold rOK
      rw [show exr ρ w.length [80, 81, 82, 83, 84, 85, 86, 87, 88, 89, 90] (w.length + 2) = 82 from exr_ge 2]
      exact ⟨_, rfl, fun j => by show _ ∧ _; decide⟩
    · cases hj
      unfold rOK
      rw [show exr ρ w.length [80, 81, 82, 83, 84, 85, 86, 87, 88, 89, 90] (w.length + 3) = 83 from exr_ge 3]
      exact ⟨_, rfl, fun j => by show _ ∧ _; decide⟩
    · cases hj
      unfold rOK
      rw [show exr ρ w.length [80, 81, 82, 83, 84, 85, 86, 87, 88, 89, 90] (w.length + 4) = 84 from exr_ge 4]
      exact ⟨_, rfl, fun j => by show _ ∧ _; decide⟩
    · cases hj
      unfold rOK
      rw [show exr ρ w.length [80, 81, 82, 83, 84, 85, 86, 87, 88, 89, 90] (w.length + 5) = 85 from exr_ge 5]
      exact ⟨_, rfl, fun j => by show _ ∧ _; decide⟩
    · cases hj
      unfold rOK
      rw [show exr ρ w.length [80, 81, 82, 83, 84, 85, 86, 87, 88, 89, 90] (w.length + 6) = 86 from exr_ge 6]
      exact ⟨_, rfl, fun j => by show _ ∧ _; decide⟩
    · cases hj
      unfold rOK
      rw [show exr ρ w.length [80, 81, 82, 83, 84, 85, 86, 87, 88, 89, 90] (w.length + 7) = 87 from exr_ge 7]
      exact ⟨_, rfl, fun j => by show _ ∧ _; decide⟩
    · cases hj
      unfold rOK
      rw [show exr ρ w.length [80, 81, 82, 83, 84, 85, 86, 87, 88, 89, 90] (w.length + 8) = 88 from exr_ge 8]
      exact ⟨_, rfl, fun j => by show _ ∧ _; decide⟩
    · cases hj
      unfold rOK
      rw [show exr ρ w.length [80, 81, 82, 83, 84, 85, 86, 87, 88, 89, 90] (w.length + 9) = 89 from exr_ge 9]
      exact ⟨_, rfl, fun j => by show _ ∧ _; decide⟩
    · cases hj
      unfold rOK
      rw [show exr ρ w.length [80, 81, 82, 83, 84, 85, 86, 87, 88, 89, 90] (w.length + 10) = 90 from exr_ge 10]
      exact ⟨_, rfl, fun j => by show _ ∧ _; decide⟩
  exact hR (zret_i rfl (Nat.le_refl _) rfl (h _ _ hci GRO_app (by rw [List.length_append]; rfl) (exr_ge 0) (exr_ni (by decide) (by decide))))
/-! A CALL UNDER A MASK: what no cell in view refers to stays as it is. -/
noncomputable def MSK (ρ σ : Nat → Nat) : Prop := (∀ x, σ x = ρ x ∨ σ x = 0) ∧ ∀ q, ρ q = 23 → σ q = 23
theorem CI_un {ρ σ : Nat → Nat} {w w' : zW} {rs : List Nat} (hm : MSK ρ σ) (hw : CI ρ w) (h2 : CI σ w') (hf : wfR rs σ w w') (h0 : 0 ∉ rs) : CI ρ w' := by
  refine ⟨fun q hq => ?_, fun q hq => hw.2.1 q (by rw [← hf.1]; exact hq), fun q hq => ?_⟩
  · by_cases e : σ q = ρ q
    · obtain ⟨c, h1, h3⟩ := h2.1 q hq
      refine ⟨c, h1, rOK_map e.symm (fun x r hr ex => ?_) h3⟩
      have hne : σ x ≠ 0 := by
        rw [ex]
        rcases hr with hr | ⟨ti, len, hr⟩
        · exact rls_0 hr
        · exact rRf_0 hr
      rcases hm.1 x with h | h
      · rw [← h]; exact ex
      · exact absurd h hne
    · have e0 : σ q = 0 := (hm.1 q).resolve_left e
      obtain ⟨c, h1, h3⟩ := hw.1 q (by rw [← hf.1]; exact hq)
      exact ⟨c, (hf.2 q (by rw [e0]; exact h0)).trans h1, h3⟩
  · obtain ⟨h1, gk, gn, h3, h4, h5⟩ := h2.2.2 q (hm.2 q hq)
    refine ⟨?_, gk, gn, h3, h4, h5⟩
    rcases hm.1 (q + 1) with h | h
    · rw [← h]; exact h1
    · rw [h1] at h; cases h
theorem wfR_un {ρ σ : Nat → Nat} {w w' : zW} {rs : List Nat} (hm : MSK ρ σ) (hf : wfR rs σ w w') (h0 : 0 ∉ rs) : wfR rs ρ w w' := by
  refine ⟨hf.1, fun q hq => hf.2 q ?_⟩
  rcases hm.1 q with h | h
  · rw [h]; exact hq
  · rw [h]; exact h0
/-- all walks but one -/
noncomputable def mkW (ρ : Nat → Nat) (p : Nat) : Nat → Nat := fun x => if ρ x = 1 ∨ ρ x = 14 ∨ ((60 ≤ ρ x ∧ ρ x ≤ 64) ∧ ¬ (p ≤ x ∧ x ≤ p + 4)) then 0 else ρ x
theorem mkW_k {ρ : Nat → Nat} {p x : Nat} (h : ¬ (ρ x = 1 ∨ ρ x = 14 ∨ ((60 ≤ ρ x ∧ ρ x ≤ 64) ∧ ¬ (p ≤ x ∧ x ≤ p + 4)))) : mkW ρ p x = ρ x := if_neg h
theorem mkW_m (ρ : Nat → Nat) (p : Nat) : MSK ρ (mkW ρ p) := by
  refine ⟨fun x => ?_, fun q hq => (mkW_k (by omega)).trans hq⟩
  unfold mkW
  split
  · exact Or.inr rfl
  · exact Or.inl rfl
theorem rls_w {r0 r : Nat} (h : r ∈ rls r0) (h1 : r0 ≠ 1) (h2 : r0 ≠ 60) : r ≠ 1 ∧ r ≠ 14 ∧ ¬ (60 ≤ r ∧ r ≤ 64) := by
  unfold rls at h
  split at h
  case h_1 => exact absurd rfl h1
  all_goals first | (exact absurd rfl h2) | (simp only [List.mem_cons, List.not_mem_nil, or_false] at h; omega) | (cases h)
theorem rRf_w {r0 r ti len : Nat} (h : rRf r0 = some (ti, len, r)) (h1 : r0 ≠ 14) : r ≠ 1 ∧ r ≠ 14 ∧ ¬ (60 ≤ r ∧ r ≤ 64) := by
  unfold rRf at h
  split at h
  all_goals first | (exact absurd rfl h1) | (simp only [Option.some.injEq, Prod.mk.injEq] at h; omega) | (cases h)
theorem CI_mkW {ρ : Nat → Nat} {w : zW} {p : Nat} (hw : CI ρ w) (hp : ρ p = 60) : CI (mkW ρ p) w := by
  obtain ⟨x0, hO, hx0, f1, f2, f3, f4⟩ := CI_o60 hw hp
  have kp : ∀ j, j ≤ 4 → ρ (p + j) = 60 + j → mkW ρ p (p + j) = 60 + j := fun j hj e => (mkW_k (by omega)).trans e
  refine ⟨fun q hq => ?_, fun q hq => ?_, fun q hq => ?_⟩
  · obtain ⟨c, h1, h2⟩ := hw.1 q hq
    refine ⟨c, h1, ?_⟩
    by_cases e : ρ q = 1 ∨ ρ q = 14 ∨ ((60 ≤ ρ q ∧ ρ q ≤ 64) ∧ ¬ (p ≤ q ∧ q ≤ p + 4))
    · unfold rOK
      rw [show mkW ρ p q = 0 from if_pos e]
      trivial
    · by_cases e6 : ρ q = 60
      · have hqp : q = p := by
          have : q = p ∨ q = p + 1 ∨ q = p + 2 ∨ q = p + 3 ∨ q = p + 4 := by omega
          rcases this with h | rfl | rfl | rfl | rfl
          · exact h
          all_goals omega
        subst hqp
        have e1 : c = .inr (8, [.int (Int32.ofInt x0), .ref (q + 1), .ref (q + 2), .ref (q + 3), .ref (q + 4)]) := by
          have := h1.symm.trans hO
          exact Option.some.inj this
        subst e1
        unfold rOK
        rw [show mkW ρ q q = 60 from kp 0 (by omega) hp]
        exact ⟨x0, rfl, hx0, kp 1 (by omega) f1, kp 2 (by omega) f2, kp 3 (by omega) f3, kp 4 (by omega) f4⟩
      · refine rOK_map (mkW_k e) (fun x r hr ex => ?_) h2
        have hr' : r ≠ 1 ∧ r ≠ 14 ∧ ¬ (60 ≤ r ∧ r ≤ 64) := by
          rcases hr with hr | ⟨ti, len, hr⟩
          · exact rls_w hr (by omega) e6
          · exact rRf_w hr (by omega)
        exact (mkW_k (by rw [ex]; omega)).trans ex
  · have := hw.2.1 q hq
    exact (mkW_k (by omega)).trans this
  · have hq' : ρ q = 23 := by
      rcases (mkW_m ρ p).1 q with h | h
      · rw [← h]; exact hq
      · rw [hq] at h; cases h
    obtain ⟨h1, h2⟩ := hw.2.2 q hq'
    exact ⟨(mkW_k (by omega)).trans h1, h2⟩
/-- every walk keeps its ways back -/
noncomputable def AWK (ρ : Nat → Nat) (w : zW) : Prop := ∀ q, ρ q = 60 → WK w q
theorem AWK_fr {rs : List Nat} {ρ : Nat → Nat} {w w1 : zW} (hw : CI ρ w) (g : wfR rs ρ w w1) (h : AWK ρ w) (h0 : 60 ∉ rs ∧ 61 ∉ rs ∧ 62 ∉ rs ∧ 63 ∉ rs) : AWK ρ w1 := by
  intro q hq
  obtain ⟨x0, hO, hx0, f1, f2, f3, f4⟩ := CI_o60 hw hq
  exact WK_fr g (by rw [hq]; exact h0.1) (by rw [f1]; exact h0.2.1) (by rw [f2]; exact h0.2.2.1) (by rw [f3]; exact h0.2.2.2) (h q hq)
theorem c_goA {ρ : Nat → Nat} {w : zW} (d : Nat) (p rd : Nat) (a1 a2 a3 : Int) (hw : CI ρ w) (hρp : ρ p = 60) (hρrd : ρ rd = 50) (hr0 : AWK ρ w) (hr1 : 0 ≤ a1 ∧ a1 ≤ 5460) (hr2 : -2147483648 ≤ a2 ∧ a2 ≤ 2147483647) (hr3 : -2147483648 ≤ a3 ∧ a3 ≤ 2147483647) (Q : zQ) (h : ∀ (w' : zW), CI ρ w' → wfR [51, 60, 61, 62, 63, 64] ρ w w' → (AWK ρ w') → Q none w') : zCl zTab (d + 5) iX9_go [.ref p, .ref rd, .int (Int32.ofInt a1), .int (Int32.ofInt a2), .int (Int32.ofInt a3)] w 0 0 Q := by
  obtain ⟨x0, hO, hx0, f1, f2, f3, f4⟩ := CI_o60 hw hρp
  have hp2 : mkW ρ p p = 60 := (mkW_k (by omega)).trans hρp
  have hrd2 : mkW ρ p rd = 50 := (mkW_k (by omega)).trans hρrd
  refine c_go d p rd a1 a2 a3 (CI_mkW hw hρp) hp2 hrd2 (hr0 p hρp) hr1 hr2 hr3 Q fun w' hw' g hk => ?_
  refine h w' (CI_un (mkW_m ρ p) hw hw' g (by decide)) (wfR_un (mkW_m ρ p) g (by decide)) fun q hq => ?_
  by_cases e : q = p
  · rw [e]; exact hk
  · obtain ⟨y0, hO', hy0, g1, g2, g3, g4⟩ := CI_o60 hw hq
    have hz : ∀ j, j ≤ 4 → ρ (q + j) = 60 + j → mkW ρ p (q + j) = 0 := by
      intro j hj e1
      refine if_pos (Or.inr (Or.inr ⟨by omega, fun h => e ?_⟩))
      have : ∃ i, i ≤ 4 ∧ q + j = p + i := ⟨q + j - p, by omega, by omega⟩
      obtain ⟨i, hi, e2⟩ := this
      have e3 : ρ (p + i) = 60 + i := by
        have : i = 0 ∨ i = 1 ∨ i = 2 ∨ i = 3 ∨ i = 4 := by omega
        rcases this with rfl | rfl | rfl | rfl | rfl <;> assumption
      rw [← e2, e1] at e3
      omega
    exact WK_fr g (by rw [show mkW ρ p q = 0 from hz 0 (by omega) hq]; decide) (by rw [hz 1 (by omega) g1]; decide) (by rw [hz 2 (by omega) g2]; decide) (by rw [hz 3 (by omega) g3]; decide) (hr0 q hq)
/-! THE CLASS AS A WHOLE: what holds between its calls. -/
noncomputable abbrev rfa (ti len : Nat) (g : Nat → Option Nat) : va_E := .inl (ti, len, .inr (.inr (.inr (.inr g))))
theorem up_s {α : Type} {f : Nat → α} {k : Nat} {v : α} : va_up f k v k = v := if_pos rfl
theorem up_n {α : Type} {f : Nat → α} {k j : Nat} {v : α} (h : j ≠ k) : va_up f k v j = f j := if_neg h
theorem rfEq {t n t' n' : Nat} {g g' : Nat → Option Nat} (h : (some (rfa t n g) : Option va_E) = some (rfa t' n' g')) : g = g' :=
  congrArg (fun o : Option va_E => match o with
    | some (.inl (_, _, .inr (.inr (.inr (.inr g))))) => g
    | _ => fun _ => none) h
theorem LE_eq {w w' : zW} {p : Nat} {l : Int} (h : zix w' p = zix w p) (hl : LE w p l) : LE w' p l := by
  obtain ⟨x, fs, a, b⟩ := hl
  exact ⟨x, fs, h.trans a, b⟩
theorem LE_u {w : zW} {p : Nat} {l : Int} {x : Value} {fs : List Value} {y : Int} (hl : LE w p l) (hO : zix w p = some (.inr (7, x :: .int (Int32.ofInt y) :: fs))) (hy : 0 ≤ y ∧ y ≤ 600) : y = l := by
  obtain ⟨x', fs', a, b⟩ := hl
  exact (f1Eq (by omega) (by omega) (a.symm.trans hO)).symm
/-- the tape's length, and that of the images -/
noncomputable def IM (w : zW) (l : Int) (m : Nat → Option Int) : Prop := LE w 1 l ∧ ∃ g : Nat → Option Nat, zix w 7 = some (rfa 6 3 g) ∧ (∀ k, k < 3 → (g k = none ∧ m k = none) ∨ ∃ q x, g k = some q ∧ m k = some x ∧ 45 ≤ q ∧ LE w q x) ∧ (∀ j k q, j < 3 → k < 3 → g j = some q → g k = some q → j = k)
noncomputable def TOP (ρ : Nat → Nat) (w : zW) : Prop := CI ρ w ∧ ρ 0 = 1 ∧ AWK ρ w ∧ (∀ q, 14 ≤ q → q ≤ 44 → ρ q = 0) ∧ 45 ≤ w.length
noncomputable def KEEP (w w' : zW) : Prop := ∀ q, 14 ≤ q → q ≤ 44 → zix w' q = zix w q
theorem KEEP_tr {w w1 w2 : zW} (h : KEEP w w1) (h2 : KEEP w1 w2) : KEEP w w2 := fun q a b => (h2 q a b).trans (h q a b)
noncomputable def pnr (c : Nat) (o : Option Nat) : Nat := match o with
  | none => c
  | some _ => 0
noncomputable def pnv (c : Nat) (v : Value) : Nat := match v with
  | .null => c
  | _ => 0
noncomputable def ph2 (c : Nat) (e : Option va_E) : Nat := match e with
  | some (.inl (_, _, .inr (.inr (.inr (.inr g))))) => pnr c (g 0) + pnr c (g 1)
  | _ => 0
noncomputable def ph3 (c : Nat) (e : Option va_E) : Nat := match e with
  | some (.inl (_, _, .inr (.inr (.inr (.inr g))))) => pnr c (g 0) + pnr c (g 1) + pnr c (g 2)
  | _ => 0
noncomputable def ph0 (e : Option va_E) : Nat := match e with
  | some (.inr (_, _ :: _ :: _ :: _ :: _ :: _ :: a :: b :: _)) => pnv 83000 a + pnv 49200 b
  | _ => 0
/-- what is still to be made -/
noncomputable def phi (w : zW) : Nat := ph0 (zix w 0) + ph3 700 (zix w 7) + ph2 38300 (zix w 12) + ph2 21900 (zix w 13)
theorem phi_eq {w w' : zW} (h0 : zix w' 0 = zix w 0) (h7 : zix w' 7 = zix w 7) (h12 : zix w' 12 = zix w 12) (h13 : zix w' 13 = zix w 13) : phi w' = phi w := by
  unfold phi
  rw [h0, h7, h12, h13]
theorem top_o {ρ : Nat → Nat} {w : zW} (h : TOP ρ w) : ∃ y6 y7 : Option Nat, zix w 0 = some (.inr (10, [.ref 1, .ref 7, .ref 8, .ref 9, .ref 12, .ref 13, va_rf y6, va_rf y7])) ∧ ρ 1 = 2 ∧ ρ 7 = 8 ∧ ρ 8 = 9 ∧ ρ 9 = 10 ∧ ρ 12 = 13 ∧ ρ 13 = 14 ∧ (∀ z, y6 = some z → ρ z = 70) ∧ (∀ z, y7 = some z → ρ z = 80) := CI_o1 h.1 h.2.1
theorem im_role {ρ : Nat → Nat} {w : zW} {l : Int} {m : Nat → Option Int} (h : TOP ρ w) {g : Nat → Option Nat} (hg : zix w 7 = some (rfa 6 3 g)) {k q : Nat} (hq : g k = some q) : ρ q = 2 := by
  obtain ⟨y6, y7, h0, r1, r7, r8, r9, r12, r13, e6, e7⟩ := top_o h
  obtain ⟨g', a, b⟩ := CI_rf h.1 (q := 7) (by rw [r7]; rfl) (by rw [r7]; rfl)
  obtain rfl := rfEq (a.symm.trans hg)
  exact b k q hq
theorem im_eq {w w' : zW} {l : Int} {m : Nat → Option Int} (h1 : zix w' 1 = zix w 1) (h7 : zix w' 7 = zix w 7) (hq : ∀ g k q, zix w 7 = some (rfa 6 3 g) → g k = some q → 45 ≤ q → zix w' q = zix w q) (h : IM w l m) : IM w' l m := by
  obtain ⟨a, g, b, c, d⟩ := h
  refine ⟨LE_eq h1 a, g, h7.trans b, fun k hk => ?_, d⟩
  rcases c k hk with e | ⟨q, x, e1, e2, e3, e4⟩
  · exact Or.inl e
  · exact Or.inr ⟨q, x, e1, e2, e3, LE_eq (hq g k q b e1 e3) e4⟩
/-- a stretch that touches neither what is told nor the object itself -/
theorem top_fr {rs : List Nat} {ρ : Nat → Nat} {w w' : zW} (hT : TOP ρ w) (hc : CI ρ w') (hf : wfR rs ρ w w') (hrs : 0 ∉ rs ∧ 1 ∉ rs ∧ 2 ∉ rs ∧ 8 ∉ rs ∧ 13 ∉ rs ∧ 14 ∉ rs) (hwk : AWK ρ w') : TOP ρ w' ∧ (∀ l m, IM w l m → IM w' l m) ∧ phi w' = phi w ∧ KEEP w w' := by
  obtain ⟨y6, y7, h0, r1, r7, r8, r9, r12, r13, e6, e7⟩ := top_o hT
  have c0 : zix w' 0 = zix w 0 := hf.2 0 (by rw [hT.2.1]; exact hrs.2.1)
  have c1 : zix w' 1 = zix w 1 := hf.2 1 (by rw [r1]; exact hrs.2.2.1)
  have c7 : zix w' 7 = zix w 7 := hf.2 7 (by rw [r7]; exact hrs.2.2.2.1)
  have c12 : zix w' 12 = zix w 12 := hf.2 12 (by rw [r12]; exact hrs.2.2.2.2.1)
  have c13 : zix w' 13 = zix w 13 := hf.2 13 (by rw [r13]; exact hrs.2.2.2.2.2)
  refine ⟨⟨hc, hT.2.1, hwk, hT.2.2.2.1, by rw [hf.1]; exact hT.2.2.2.2⟩, fun l m h => im_eq c1 c7 (fun g k q hg hq _ => hf.2 q ?_) h, phi_eq c0 c7 c12 c13, fun q a b => hf.2 q (by rw [hT.2.2.2.1 q a b]; exact hrs.1)⟩
  · rw [im_role (l := 0) (m := fun _ => none) hT hg hq]; exact hrs.2.2.1
noncomputable def EXT (ρ σ : Nat → Nat) : Prop := ∀ q, ρ q ≠ 0 → σ q = ρ q
theorem EXT_rf (ρ : Nat → Nat) : EXT ρ ρ := fun _ _ => rfl
theorem EXT_tr {ρ σ τ : Nat → Nat} (h : EXT ρ σ) (h2 : EXT σ τ) : EXT ρ τ := fun q hq => (h2 q (by rw [h q hq]; exact hq)).trans (h q hq)
/-- new cells behind the last one -/
theorem top_gro {ρ σ : Nat → Nat} {w w' : zW} (hT : TOP ρ w) (hc : CI σ w') (hg : GRO ρ w σ w') (hwk : ∀ q, w.length ≤ q → σ q = 60 → WK w' q) : TOP σ w' ∧ (∀ l m, IM w l m → IM w' l m) ∧ phi w' = phi w ∧ KEEP w w' ∧ EXT ρ σ := by
  have hx : EXT ρ σ := fun q hq => (hg.2 q (CI_lt hT.1 hq)).1
  have h45 := hT.2.2.2.2
  have lo : ∀ q, q < 45 → zix w' q = zix w q := fun q hq => (hg.2 q (by omega)).2
  refine ⟨⟨hc, (hx 0 (by rw [hT.2.1]; decide)).trans hT.2.1, fun q hq => ?_, fun q a b => (hg.2 q (by omega)).1.trans (hT.2.2.2.1 q a b), Nat.le_trans h45 hg.1⟩, fun l m h => im_eq (lo 1 (by omega)) (lo 7 (by omega)) (fun g k q hg' hq _ => (hg.2 q ?_).2) h, phi_eq (lo 0 (by omega)) (lo 7 (by omega)) (lo 12 (by omega)) (lo 13 (by omega)), fun q a b => lo q (by omega), hx⟩
  · by_cases e : q < w.length
    · have e1 := (hg.2 q e).1
      rw [hq] at e1
      obtain ⟨x0, hO, hx0, f1, f2, f3, f4⟩ := CI_o60 hT.1 e1.symm
      have l1 : q + 1 < w.length := CI_lt hT.1 (by rw [f1]; decide)
      have l2 : q + 2 < w.length := CI_lt hT.1 (by rw [f2]; decide)
      have l3 : q + 3 < w.length := CI_lt hT.1 (by rw [f3]; decide)
      obtain ⟨sz, gq, gn, gb, ⟨a, b, c⟩, d, e', f⟩ := hT.2.2.1 q e1.symm
      exact ⟨sz, gq, gn, gb, ⟨a, (hg.2 _ e).2.trans b, (hg.2 _ l2).2.trans c⟩, (hg.2 _ l1).2.trans d, (hg.2 _ l3).2.trans e', f⟩
    · exact hwk q (by omega) hq
  · exact CI_lt hT.1 (by rw [im_role (l := 0) (m := fun _ => none) hT hg' hq]; decide)
section RS
variable {R : zS → Prop} {np : Nat} {L : zL} {S : List Value} {w : zW} {k n : Nat} {ρ : Nat → Nat}
theorem c_rst {q ti len re p : Nat} {i : Int} {g : Nat → Option Nat} {fs : List Value} (hw : CI ρ w) (ha : rAr (ρ q) = none) (hr : rRf (ρ q) = some (ti, len, re)) (ht : (Nat.ble 3 ti && Nat.ble ti 8) = true) (hm : ρ q ≠ 23 ∧ ρ q ≠ 24) (hg : zix w q = some (rfa ti len g)) (hp : ρ p = re) (hpo : zix w p = some (.inr (zec ti, fs))) (h0 : 0 ≤ i) (h1 : i < len) (hl : len ≤ 60000) (hk : ∀ w1, CI ρ w1 → wfr q w w1 → zix w1 q = some (rfa ti len (va_up g i.toNat (some p))) → R (np, L, S, w1, k, n)) : zaq w q (fun ti len g => zif (Nat.ble 3 ti && Nat.ble ti 8) (zrn2 (.ref p) (fun q2 => zob w q2 (zec ti) fun _ => vp_in (Int32.ofInt i) len ∧ R (np, L, S, zst w q (.inl (ti, len, .inr (.inr (.inr (.inr (va_up g (Int32.ofInt i).toNatClampNeg (some q2))))))), k, n)) (vp_in (Int32.ofInt i) len ∧ R (np, L, S, zst w q (.inl (ti, len, .inr (.inr (.inr (.inr (va_up g (Int32.ofInt i).toNatClampNeg none)))))), k, n)))) := by
  unfold zaq
  rw [hg]
  dsimp only
  rw [ht]
  show zob w p (zec ti) _
  refine c_obj hpo ⟨zvin h0 h1 hl, ?_⟩
  rw [zcl h0 (by omega)]
  obtain ⟨f1, f2⟩ := wfr_st (c' := rfa ti len (va_up g i.toNat (some p))) hg
  refine hk _ (CI_st hw f1 f2 ?_ hm) f1 f2
  obtain ⟨g', a, b⟩ := CI_rf hw ha hr
  obtain rfl := rfEq (a.symm.trans hg)
  unfold rOK
  rw [ha, hr]
  refine ⟨_, rfl, fun j x hx => ?_⟩
  by_cases e : j = i.toNat
  · subst e
    rw [up_s] at hx
    cases hx
    exact hp
  · rw [up_n e] at hx
    exact b j x hx
theorem c_rsn {q ti len re : Nat} {i : Int} {g : Nat → Option Nat} (hw : CI ρ w) (ha : rAr (ρ q) = none) (hr : rRf (ρ q) = some (ti, len, re)) (ht : (Nat.ble 3 ti && Nat.ble ti 8) = true) (hm : ρ q ≠ 23 ∧ ρ q ≠ 24) (hg : zix w q = some (rfa ti len g)) (h0 : 0 ≤ i) (h1 : i < len) (hl : len ≤ 60000) (hk : ∀ w1, CI ρ w1 → wfr q w w1 → zix w1 q = some (rfa ti len (va_up g i.toNat none)) → R (np, L, S, w1, k, n)) : zaq w q (fun ti len g => zif (Nat.ble 3 ti && Nat.ble ti 8) (zrn2 .null (fun q2 => zob w q2 (zec ti) fun _ => vp_in (Int32.ofInt i) len ∧ R (np, L, S, zst w q (.inl (ti, len, .inr (.inr (.inr (.inr (va_up g (Int32.ofInt i).toNatClampNeg (some q2))))))), k, n)) (vp_in (Int32.ofInt i) len ∧ R (np, L, S, zst w q (.inl (ti, len, .inr (.inr (.inr (.inr (va_up g (Int32.ofInt i).toNatClampNeg none)))))), k, n)))) := by
  unfold zaq
  rw [hg]
  dsimp only
  rw [ht]
  show _ ∧ _
  refine ⟨zvin h0 h1 hl, ?_⟩
  rw [zcl h0 (by omega)]
  obtain ⟨f1, f2⟩ := wfr_st (c' := rfa ti len (va_up g i.toNat none)) hg
  refine hk _ (CI_st hw f1 f2 ?_ hm) f1 f2
  obtain ⟨g', a, b⟩ := CI_rf hw ha hr
  obtain rfl := rfEq (a.symm.trans hg)
  unfold rOK
  rw [ha, hr]
  refine ⟨_, rfl, fun j x hx => ?_⟩
  by_cases e : j = i.toNat
  · subst e
    rw [up_s] at hx
    cases hx
  · rw [up_n e] at hx
    exact b j x hx
/-- an exact reference out of an array -/
theorem c_rldE {q ti len : Nat} {i : Int} {g : Nat → Option Nat} (hg : zix w q = some (rfa ti len g)) (ht : (Nat.ble 3 ti && Nat.ble ti 8) = true) (h0 : 0 ≤ i) (h1 : i < len) (hl : len ≤ 60000) {v : Value} (hv : va_rf (g i.toNat) = v) (hk : R (np, L, v :: S, w, k, n)) : zaq w q (fun ti len g => zif (Nat.ble 3 ti && Nat.ble ti 8) (vp_in (Int32.ofInt i) len ∧ R (np, L, va_rf (g (Int32.ofInt i).toNatClampNeg) :: S, w, k, n))) := by
  unfold zaq
  rw [hg]
  dsimp only
  rw [ht]
  show _ ∧ _
  rw [zcl h0 (by omega), hv]
  exact ⟨zvin h0 h1 hl, hk⟩
end RS
theorem top_st {σ : Nat → Nat} {w1 w2 : zW} {q0 : Nat} (hT : TOP σ w1) (hc : CI σ w2) (f : wfr q0 w1 w2) (hq : σ q0 = 1 ∨ σ q0 = 13 ∨ σ q0 = 14) : TOP σ w2 ∧ (∀ l m, IM w1 l m → IM w2 l m) ∧ KEEP w1 w2 := by
  obtain ⟨y6, y7, h0, r1, r7, r8, r9, r12, r13, e6, e7⟩ := top_o hT
  have hf : wfR [1, 13, 14] σ w1 w2 := wfR_st (wfR_rf _ _ _) f (by rcases hq with h | h | h <;> rw [h] <;> decide)
  refine ⟨⟨hc, hT.2.1, AWK_fr hT.1 hf hT.2.2.1 (by decide), hT.2.2.2.1, by rw [f.1]; exact hT.2.2.2.2⟩, fun l m h => im_eq (f.2 1 (fun e => by rw [← e, r1] at hq; omega)) (f.2 7 (fun e => by rw [← e, r7] at hq; omega)) (fun g k q hg hq' _ => f.2 q (fun e => ?_)) h, fun q a b => f.2 q (fun e => by rw [← e, hT.2.2.2.1 q a b] at hq; omega)⟩
  rw [← e, im_role (l := 0) (m := fun _ => none) hT hg hq'] at hq
  omega
theorem ph2_up {c i p t n : Nat} {g : Nat → Option Nat} (hi : i ≤ 1) (hn : g i = none) : ph2 c (some (rfa t n (va_up g i (some p)))) + c = ph2 c (some (rfa t n g)) := by
  show pnr c (va_up g i (some p) 0) + pnr c (va_up g i (some p) 1) + c = pnr c (g 0) + pnr c (g 1)
  have h : i = 0 ∨ i = 1 := by omega
  rcases h with rfl | rfl
  · rw [up_s, up_n (by decide), hn]; show 0 + _ + c = c + _; omega
  · rw [up_s, up_n (by decide), hn]; show _ + 0 + c = _ + c; omega
theorem phi_13 {w1 w2 : zW} {i p : Nat} {g : Nat → Option Nat} (f : wfr 13 w1 w2) (hg : zix w1 13 = some (rfa 8 2 g)) (hg2 : zix w2 13 = some (rfa 8 2 (va_up g i (some p)))) (hi : i ≤ 1) (hn : g i = none) : phi w2 + 21900 = phi w1 := by
  have := ph2_up (c := 21900) (p := p) (t := 8) (n := 2) hi hn
  unfold phi
  rw [hg, hg2, f.2 0 (by decide), f.2 7 (by decide), f.2 12 (by decide)]
  omega
theorem phi_12 {w1 w2 : zW} {i p : Nat} {g : Nat → Option Nat} (f : wfr 12 w1 w2) (hg : zix w1 12 = some (rfa 7 2 g)) (hg2 : zix w2 12 = some (rfa 7 2 (va_up g i (some p)))) (hi : i ≤ 1) (hn : g i = none) : phi w2 + 38300 = phi w1 := by
  have := ph2_up (c := 38300) (p := p) (t := 7) (n := 2) hi hn
  unfold phi
  rw [hg, hg2, f.2 0 (by decide), f.2 7 (by decide), f.2 13 (by decide)]
  omega
theorem phi_0 {w1 w2 : zW} {a b a2 b2 : Value} {v1 v2 v3 v4 v5 v6 : Value} {c : Nat} (f : wfr 0 w1 w2) (h1 : zix w1 0 = some (.inr (10, [v1, v2, v3, v4, v5, v6, a, b]))) (h2 : zix w2 0 = some (.inr (10, [v1, v2, v3, v4, v5, v6, a2, b2]))) (hc : pnv 83000 a2 + pnv 49200 b2 + c = pnv 83000 a + pnv 49200 b) : phi w2 + c = phi w1 := by
  unfold phi
  rw [h1, h2, f.2 7 (by decide), f.2 12 (by decide), f.2 13 (by decide)]
  show pnv 83000 a2 + pnv 49200 b2 + _ + _ + _ + c = pnv 83000 a + pnv 49200 b + _ + _ + _
  omega
/-! WHAT IS TOLD, BY ITS CELLS: a call that tells nothing keeps them. -/
noncomputable def TP1 (w : zW) (p : Nat) : Prop := p = 1 ∨ ∃ g k, zix w 7 = some (rfa 6 3 g) ∧ g k = some p
noncomputable def TC (w : zW) (q : Nat) : Prop := q = 7 ∨ ∃ p, TP1 w p ∧ ((p ≤ q ∧ q ≤ p + 5) ∨ (∃ g k b, zix w (p + 3) = some (rfa 3 2 g) ∧ g k = some b ∧ b ≤ q ∧ q ≤ b + 4) ∨ (∃ g k b, zix w (p + 4) = some (rfa 4 2 g) ∧ g k = some b ∧ b ≤ q ∧ q ≤ b + 3) ∨ (∃ g k b, zix w (p + 5) = some (rfa 5 2 g) ∧ g k = some b ∧ b ≤ q ∧ q ≤ b + 2))
noncomputable def TRL (r : Nat) : Prop := (2 ≤ r ∧ r ≤ 8) ∨ (20 ≤ r ∧ r ≤ 24) ∨ (30 ≤ r ∧ r ≤ 33) ∨ (40 ≤ r ∧ r ≤ 42)
theorem tp1_role {ρ : Nat → Nat} {w : zW} (hT : TOP ρ w) {p : Nat} (h : TP1 w p) : ρ p = 2 := by
  rcases h with rfl | ⟨g, k, h1, h2⟩
  · obtain ⟨y6, y7, h0, r1, -⟩ := top_o hT
    exact r1
  · exact im_role (l := 0) (m := fun _ => none) hT h1 h2
theorem tc_role {ρ : Nat → Nat} {w : zW} (hT : TOP ρ w) {q : Nat} (h : TC w q) : TRL (ρ q) := by
  rcases h with rfl | ⟨p, hp, h⟩
  · obtain ⟨y6, y7, h0, r1, r7, -⟩ := top_o hT
    unfold TRL
    omega
  · have hp2 := tp1_role hT hp
    obtain ⟨x1, x2, x3, -, p1, -, -, -, p2, p3, p4, p5⟩ := CI_o2 hT.1 hp2
    rcases h with ⟨h1, h2⟩ | ⟨g, k, b, h1, h2, h3, h4⟩ | ⟨g, k, b, h1, h2, h3, h4⟩ | ⟨g, k, b, h1, h2, h3, h4⟩
    · have hq : q = p ∨ q = p + 1 ∨ q = p + 2 ∨ q = p + 3 ∨ q = p + 4 ∨ q = p + 5 := by omega
      unfold TRL
      rcases hq with rfl | rfl | rfl | rfl | rfl | rfl <;> omega
    · obtain ⟨g', a, c⟩ := CI_rf hT.1 (q := p + 3) (by rw [p3]; rfl) (by rw [p3]; rfl)
      obtain rfl := rfEq (a.symm.trans h1)
      have hb : ρ b = 20 := c k b h2
      obtain ⟨_, _, _, -, -, -, -, b1, b2, b3, b4⟩ := CI_o20 hT.1 hb
      have hq : q = b ∨ q = b + 1 ∨ q = b + 2 ∨ q = b + 3 ∨ q = b + 4 := by omega
      unfold TRL
      rcases hq with rfl | rfl | rfl | rfl | rfl <;> omega
    · obtain ⟨g', a, c⟩ := CI_rf hT.1 (q := p + 4) (by rw [p4]; rfl) (by rw [p4]; rfl)
      obtain rfl := rfEq (a.symm.trans h1)
      have hb : ρ b = 30 := c k b h2
      obtain ⟨_, -, -, b1, b2, b3⟩ := CI_o30 hT.1 hb
      have hq : q = b ∨ q = b + 1 ∨ q = b + 2 ∨ q = b + 3 := by omega
      unfold TRL
      rcases hq with rfl | rfl | rfl | rfl <;> omega
    · obtain ⟨g', a, c⟩ := CI_rf hT.1 (q := p + 5) (by rw [p5]; rfl) (by rw [p5]; rfl)
      obtain rfl := rfEq (a.symm.trans h1)
      have hb : ρ b = 40 := c k b h2
      obtain ⟨_, -, -, b1, b2⟩ := CI_o40 hT.1 hb
      have hq : q = b ∨ q = b + 1 ∨ q = b + 2 := by omega
      unfold TRL
      rcases hq with rfl | rfl | rfl <;> omega
noncomputable def KEEP2 (w w' : zW) : Prop := KEEP w w' ∧ ∀ q, TC w q → zix w' q = zix w q
theorem tc_mo {w w1 : zW} (h : ∀ q, TC w q → zix w1 q = zix w q) {q : Nat} (hq : TC w q) : TC w1 q := by
  have e7 : zix w1 7 = zix w 7 := h 7 (Or.inl rfl)
  rcases hq with rfl | ⟨p, hp, hq⟩
  · exact Or.inl rfl
  · have hp1 : TP1 w1 p := by
      rcases hp with rfl | ⟨g, k, h1, h2⟩
      · exact Or.inl rfl
      · exact Or.inr ⟨g, k, e7.trans h1, h2⟩
    refine Or.inr ⟨p, hp1, ?_⟩
    have ec : ∀ j, j ≤ 5 → zix w1 (p + j) = zix w (p + j) := fun j hj => h (p + j) (Or.inr ⟨p, hp, Or.inl (by omega)⟩)
    rcases hq with h1 | ⟨g, k, b, h1, h2⟩ | ⟨g, k, b, h1, h2⟩ | ⟨g, k, b, h1, h2⟩
    · exact Or.inl h1
    · exact Or.inr (Or.inl ⟨g, k, b, (ec 3 (by omega)).trans h1, h2⟩)
    · exact Or.inr (Or.inr (Or.inl ⟨g, k, b, (ec 4 (by omega)).trans h1, h2⟩))
    · exact Or.inr (Or.inr (Or.inr ⟨g, k, b, (ec 5 (by omega)).trans h1, h2⟩))
theorem KEEP2_tr {w w1 w2 : zW} (h : KEEP2 w w1) (h2 : KEEP2 w1 w2) : KEEP2 w w2 := ⟨KEEP_tr h.1 h2.1, fun q hq => (h2.2 q (tc_mo h.2 hq)).trans (h.2 q hq)⟩
theorem KEEP2_rf (w : zW) : KEEP2 w w := ⟨fun _ _ _ => rfl, fun _ _ => rfl⟩
noncomputable def NTR (rs : List Nat) : Bool := rs.all fun r => Nat.ble 9 r && (Nat.ble r 12 || Nat.ble 49 r)
theorem ntr_n {rs : List Nat} (h : NTR rs = true) {r : Nat} (hr : r < 9 ∨ (12 < r ∧ r < 49)) : r ∉ rs := by
  intro hm
  have := List.all_eq_true.mp h r hm
  rw [Bool.and_eq_true, Bool.or_eq_true] at this
  have a := Nat.le_of_ble_eq_true this.1
  rcases this.2 with b | b
  · have := Nat.le_of_ble_eq_true b; omega
  · have := Nat.le_of_ble_eq_true b; omega
theorem top_fr2 {rs : List Nat} {ρ : Nat → Nat} {w w' : zW} (hT : TOP ρ w) (hc : CI ρ w') (hf : wfR rs ρ w w') (hrs : NTR rs = true) (hwk : AWK ρ w') : TOP ρ w' ∧ (∀ l m, IM w l m → IM w' l m) ∧ phi w' = phi w ∧ KEEP2 w w' := by
  obtain ⟨a, b, c, d⟩ := top_fr hT hc hf ⟨ntr_n hrs (by omega), ntr_n hrs (by omega), ntr_n hrs (by omega), ntr_n hrs (by omega), ntr_n hrs (by omega), ntr_n hrs (by omega)⟩ hwk
  refine ⟨a, b, c, d, fun q hq => hf.2 q (ntr_n hrs ?_)⟩
  have := tc_role hT hq
  unfold TRL at this
  omega
theorem top_gro2 {ρ σ : Nat → Nat} {w w' : zW} (hT : TOP ρ w) (hc : CI σ w') (hg : GRO ρ w σ w') (hwk : ∀ q, w.length ≤ q → σ q = 60 → WK w' q) : TOP σ w' ∧ (∀ l m, IM w l m → IM w' l m) ∧ phi w' = phi w ∧ KEEP2 w w' ∧ EXT ρ σ := by
  obtain ⟨a, b, c, d, e⟩ := top_gro hT hc hg hwk
  refine ⟨a, b, c, ⟨d, fun q hq => (hg.2 q (CI_lt hT.1 ?_)).2⟩, e⟩
  have := tc_role hT hq
  unfold TRL at this
  omega
theorem top_st2 {σ : Nat → Nat} {w1 w2 : zW} {q0 : Nat} (hT : TOP σ w1) (hc : CI σ w2) (f : wfr q0 w1 w2) (hq : σ q0 = 1 ∨ σ q0 = 13 ∨ σ q0 = 14) : TOP σ w2 ∧ (∀ l m, IM w1 l m → IM w2 l m) ∧ KEEP2 w1 w2 := by
  obtain ⟨a, b, c⟩ := top_st hT hc f hq
  refine ⟨a, b, c, fun q hq' => f.2 q (fun e => ?_)⟩
  have := tc_role hT hq'
  rw [e] at this
  unfold TRL at this
  omega
/-! WHAT IS MADE AT FIRST USE. -/
/-- the class's call that touches nothing told -/
noncomputable def AL (ρ : Nat → Nat) (w : zW) (mc ms : Nat) (σ : Nat → Nat) (w' : zW) : Prop := TOP σ w' ∧ (∀ l m, IM w l m → IM w' l m) ∧ KEEP2 w w' ∧ EXT ρ σ ∧ mc ≤ 20 ∧ ms + phi w' ≤ phi w
theorem a_walkAt {ρ : Nat → Nat} {w : zW} (hT : TOP ρ w) (d i : Nat) (hi : i ≤ 1) : DET zTab (d + 3) iX11_walkAt [.ref 0, .int (Int32.ofInt i)] w (fun mc ms r w' => ∃ σ p, AL ρ w mc ms σ w' ∧ r = some (.ref p) ∧ σ p = 60) := by
  obtain ⟨y6, y7, h0, r1, r7, r8, r9, r12, r13, e6, e7⟩ := top_o hT
  obtain ⟨g, hg, hgr⟩ := CI_rf hT.1 (q := 13) (by rw [r13]; rfl) (by rw [r13]; rfl)
  have ei : ((i : Int)).toNat = i := Int.toNat_natCast i
  cases hgi : g i with
  | some p =>
    refine det_of (mc := 0) (ms := 0) ?_
    refine zCl_i (M := kX11_walkAt) rfl (Nat.le_of_ble_eq_true rfl) fun R hR => ?_
    refine hR (?_ : R (_, _, _, _, _, _))
    refine hR (c_get h0 rfl ?_)
    refine hR (?_ : R (_, _, _, _, _, _))
    refine hR (c_rldE hg rfl (by omega) (by omega) (Nat.le_of_ble_eq_true rfl) (v := .ref p) (by rw [ei, hgi]; rfl) ?_)
    iterate 2 refine hR (?_ : R (_, _, _, _, _, _))
    refine hR (c_get h0 rfl ?_)
    refine hR (?_ : R (_, _, _, _, _, _))
    refine hR (c_rldE hg rfl (by omega) (by omega) (Nat.le_of_ble_eq_true rfl) (v := .ref p) (by rw [ei, hgi]; rfl) ?_)
    exact hR (zret_i rfl (Nat.le_refl _) trivial ⟨ρ, p, ⟨hT, fun _ _ h => h, KEEP2_rf _, EXT_rf ρ, by omega, by omega⟩, rfl, hgr i p hgi⟩)
  | none =>
    refine det_of (mc := 5) (ms := 21849) ?_
    refine zCl_i (M := kX11_walkAt) rfl (Nat.le_of_ble_eq_true rfl) fun R hR => ?_
    refine hR (?_ : R (_, _, _, _, _, _))
    refine hR (c_get h0 rfl ?_)
    refine hR (?_ : R (_, _, _, _, _, _))
    refine hR (c_rldE hg rfl (by omega) (by omega) (Nat.le_of_ble_eq_true rfl) (v := .null) (by rw [ei, hgi]; rfl) ?_)
    iterate 2 refine hR (?_ : R (_, _, _, _, _, _))
    refine hR (c_get h0 rfl ?_)
    iterate 3 refine hR (?_ : R (_, _, _, _, _, _))
    refine hR (zcall_i 4 21844 (Nat.le_of_ble_eq_true rfl) (Nat.le_of_ble_eq_true rfl) (n_Walk hT.1 _ _ fun σ w1 hc1 g1 hl1 hr1 hk1 => ?_))
    refine (?_ : R (_, _, .ref w.length :: .int (Int32.ofInt i) :: .ref 13 :: [], w1, 5, 21849))
    have hwk : ∀ q, w.length ≤ q → σ q = 60 → WK w1 q := by
      intro q hq h6
      obtain ⟨x0, hO, hx0, f1, f2, f3, f4⟩ := CI_o60 hc1 hr1
      have hlt : q < w1.length := CI_lt hc1 (by rw [h6]; decide)
      have : q = w.length ∨ q = w.length + 1 ∨ q = w.length + 2 ∨ q = w.length + 3 ∨ q = w.length + 4 := by omega
      rcases this with rfl | rfl | rfl | rfl | rfl
      · exact hk1
      all_goals omega
    obtain ⟨hT1, hI1, hp1, hK1, hx1⟩ := top_gro2 hT hc1 g1 hwk
    obtain ⟨y6', y7', h0', r1', r7', r8', r9', r12', r13', e6', e7'⟩ := top_o hT1
    have hg1 : zix w1 13 = some (rfa 8 2 g) := (g1.2 13 (by have := hT.2.2.2.2; omega)).2.trans hg
    obtain ⟨x0, hO, -⟩ := CI_o60 hc1 hr1
    refine hR (c_rst hc1 (by rw [r13']; rfl) (by rw [r13']; rfl) rfl ⟨by rw [r13']; decide, by rw [r13']; decide⟩ hg1 hr1 hO (by omega) (by omega) (Nat.le_of_ble_eq_true rfl) fun w2 hc2 f2 hg2 => ?_)
    rw [ei] at hg2
    have h02 := (f2.2 0 (by decide)).trans h0'
    refine hR (?_ : R (_, _, _, _, _, _))
    refine hR (c_get h02 rfl ?_)
    refine hR (?_ : R (_, _, _, _, _, _))
    refine hR (c_rldE hg2 rfl (by omega) (by omega) (Nat.le_of_ble_eq_true rfl) (v := .ref w.length) (by rw [ei, up_s]; rfl) ?_)
    obtain ⟨hT2, hI2, hK2⟩ := top_st2 hT1 hc2 f2 (Or.inr (Or.inr r13'))
    have hph := phi_13 f2 hg1 hg2 hi hgi
    exact hR (zret_i rfl (Nat.le_refl _) trivial ⟨σ, w.length, ⟨hT2, fun l m h => hI2 l m (hI1 l m h), KEEP2_tr hK1 hK2, hx1, by omega, by omega⟩, rfl, hr1⟩)
theorem a_levelsThere {ρ : Nat → Nat} {w : zW} (hT : TOP ρ w) (d : Nat) : DET zTab (d + 3) iX11_levelsThere [.ref 0] w (fun mc ms r w' => ∃ σ p, AL ρ w mc ms σ w' ∧ r = some (.ref p) ∧ σ p = 70) := by
  obtain ⟨y6, y7, h0, r1, r7, r8, r9, r12, r13, e6, e7⟩ := top_o hT
  cases y6 with
  | some p =>
    refine det_of (mc := 0) (ms := 0) ?_
    refine zCl_i (M := kX11_levelsThere) rfl (Nat.le_of_ble_eq_true rfl) fun R hR => ?_
    refine hR (?_ : R (_, _, _, _, _, _))
    refine hR (c_get h0 rfl ?_)
    iterate 2 refine hR (?_ : R (_, _, _, _, _, _))
    refine hR (c_get h0 rfl ?_)
    exact hR (zret_i rfl (Nat.le_refl _) trivial ⟨ρ, p, ⟨hT, fun _ _ h => h, KEEP2_rf _, EXT_rf ρ, by omega, by omega⟩, rfl, e6 p rfl⟩)
  | none =>
    refine det_of (mc := 7) (ms := 82742) ?_
    refine zCl_i (M := kX11_levelsThere) rfl (Nat.le_of_ble_eq_true rfl) fun R hR => ?_
    refine hR (?_ : R (_, _, _, _, _, _))
    refine hR (c_get h0 rfl ?_)
    iterate 4 refine hR (?_ : R (_, _, _, _, _, _))
    refine hR (zcall_i 6 82732 (Nat.le_of_ble_eq_true rfl) (Nat.le_of_ble_eq_true rfl) (n_Levels hT.1 _ _ fun σ w1 hc1 g1 hl1 hr1 hn1 => ?_))
    refine (?_ : R (_, _, .ref w.length :: .ref 0 :: [], w1, 7, 82742))
    obtain ⟨hT1, hI1, hp1, hK1, hx1⟩ := top_gro2 hT hc1 g1 (fun q a b => absurd b (hn1 q a))
    have hb := (g1.2 0 (by have := hT.2.2.2.2; omega)).2.trans h0
    obtain ⟨y6', y7', h0', r1', r7', r8', r9', r12', r13', e6', e7'⟩ := top_o hT1
    have e6n : va_rf y6' = .null := by
      have e := h0'.symm.trans hb
      injection e with e; injection e with e; injection e with _ e; injection e with _ e; injection e with _ e; injection e with _ e; injection e with _ e; injection e with _ e; injection e with _ e; injection e with e _
    refine hR (c_put h0' rfl rfl fun w2 f2 hO2 => ?_)
    have hO2 : zix w2 0 = some (.inr (10, [.ref 1, .ref 7, .ref 8, .ref 9, .ref 12, .ref 13, .ref w.length, va_rf y7'])) := hO2
    have hc2 : CI σ w2 := CI_w1 hc1 hT1.2.1 f2 (y6 := some w.length) (y7 := y7') hO2 ⟨r1', r7', r8', r9', r12', r13', fun z h => by cases h; exact hr1, e7'⟩
    refine hR (?_ : R (_, _, _, _, _, _))
    refine hR (c_get hO2 rfl ?_)
    obtain ⟨hT2, hI2, hK2⟩ := top_st2 hT1 hc2 f2 (Or.inl hT1.2.1)
    have hph := phi_0 (c := 83000) f2 h0' hO2 (by rw [e6n]; show 0 + _ + 83000 = 83000 + _; omega)
    exact hR (zret_i rfl (Nat.le_refl _) trivial ⟨σ, w.length, ⟨hT2, fun l m h => hI2 l m (hI1 l m h), KEEP2_tr hK1 hK2, hx1, by omega, by omega⟩, rfl, hr1⟩)
theorem a_ringsThere {ρ : Nat → Nat} {w : zW} (hT : TOP ρ w) (d : Nat) : DET zTab (d + 3) iX11_ringsThere [.ref 0] w (fun mc ms r w' => ∃ σ p, AL ρ w mc ms σ w' ∧ r = some (.ref p) ∧ σ p = 80) := by
  obtain ⟨y6, y7, h0, r1, r7, r8, r9, r12, r13, e6, e7⟩ := top_o hT
  cases y7 with
  | some p =>
    refine det_of (mc := 0) (ms := 0) ?_
    refine zCl_i (M := kX11_ringsThere) rfl (Nat.le_of_ble_eq_true rfl) fun R hR => ?_
    refine hR (?_ : R (_, _, _, _, _, _))
    refine hR (c_get h0 rfl ?_)
    iterate 2 refine hR (?_ : R (_, _, _, _, _, _))
    refine hR (c_get h0 rfl ?_)
    exact hR (zret_i rfl (Nat.le_refl _) trivial ⟨ρ, p, ⟨hT, fun _ _ h => h, KEEP2_rf _, EXT_rf ρ, by omega, by omega⟩, rfl, e7 p rfl⟩)
  | none =>
    refine det_of (mc := 11) (ms := 49170) ?_
    refine zCl_i (M := kX11_ringsThere) rfl (Nat.le_of_ble_eq_true rfl) fun R hR => ?_
    refine hR (?_ : R (_, _, _, _, _, _))
    refine hR (c_get h0 rfl ?_)
    iterate 4 refine hR (?_ : R (_, _, _, _, _, _))
    refine hR (zcall_i 10 49155 (Nat.le_of_ble_eq_true rfl) (Nat.le_of_ble_eq_true rfl) (n_Rings hT.1 _ _ fun σ w1 hc1 g1 hl1 hr1 hn1 => ?_))
    refine (?_ : R (_, _, .ref w.length :: .ref 0 :: [], w1, 11, 49170))
    obtain ⟨hT1, hI1, hp1, hK1, hx1⟩ := top_gro2 hT hc1 g1 (fun q a b => absurd b (hn1 q a))
    have hb := (g1.2 0 (by have := hT.2.2.2.2; omega)).2.trans h0
    obtain ⟨y6', y7', h0', r1', r7', r8', r9', r12', r13', e6', e7'⟩ := top_o hT1
    have e7n : va_rf y7' = .null := by
      have e := h0'.symm.trans hb
      injection e with e; injection e with e; injection e with _ e; injection e with _ e; injection e with _ e; injection e with _ e; injection e with _ e; injection e with _ e; injection e with _ e; injection e with _ e; injection e with e _
    refine hR (c_put h0' rfl rfl fun w2 f2 hO2 => ?_)
    have hO2 : zix w2 0 = some (.inr (10, [.ref 1, .ref 7, .ref 8, .ref 9, .ref 12, .ref 13, va_rf y6', .ref w.length])) := hO2
    have hc2 : CI σ w2 := CI_w1 hc1 hT1.2.1 f2 (y6 := y6') (y7 := some w.length) hO2 ⟨r1', r7', r8', r9', r12', r13', e6', fun z h => by cases h; exact hr1⟩
    refine hR (?_ : R (_, _, _, _, _, _))
    refine hR (c_get hO2 rfl ?_)
    obtain ⟨hT2, hI2, hK2⟩ := top_st2 hT1 hc2 f2 (Or.inl hT1.2.1)
    have hph := phi_0 (c := 49200) f2 h0' hO2 (by rw [e7n]; show _ + 0 + 49200 = _ + 49200; omega)
    exact hR (zret_i rfl (Nat.le_refl _) trivial ⟨σ, w.length, ⟨hT2, fun l m h => hI2 l m (hI1 l m h), KEEP2_tr hK1 hK2, hx1, by omega, by omega⟩, rfl, hr1⟩)
theorem c_bookAt {ρ : Nat → Nat} {w : zW} (d : Nat) (a1 : Int) (hw : CI ρ w) (hρ0 : ρ 0 = 1) (hr0 : -2147483648 ≤ a1 ∧ a1 ≤ 2147483647) (Q : zQ) (h : ∀ (o : Option Nat), (∀ x, o = some x → ρ x = 20) → (o = none ∨ (0 ≤ a1 ∧ a1 ≤ 1)) → Q (some (va_rf o)) w) : zCl zTab (d + 1) iX11_bookAt [.ref 0, .int (Int32.ofInt a1)] w 0 0 Q := by
  refine zCl_i (M := kX11_bookAt) rfl (Nat.le_of_ble_eq_true rfl) fun R hR => ?_
  have fr0 := wfR_rf [] ρ w
  refine hR (?_ : R (_, _, _, _, _, _))
  refine hR (k_lt (by omega) (fun hc1 => ?_) (fun hc1 => ?_))
  · skip
    iterate 2 refine hR (?_ : R (_, _, _, _, _, _))
    exact hR (zret_i rfl (Nat.le_refl _) trivial (h none (fun z h => by cases h) (Or.inl rfl)))
  iterate 2 refine hR (?_ : R (_, _, _, _, _, _))
  obtain ⟨y6_2, y7_2, hO2, hk2_0, hk2_1, hk2_2, hk2_3, hk2_4, hk2_5, hk2_6, hk2_7⟩ := CI_o1 hw hρ0
  refine hR (c_get hO2 rfl ?_)
  obtain ⟨x1_3, x2_3, x3_3, hO3, hk3_0, hk3_1, hk3_2, hk3_3, hk3_4, hk3_5, hk3_6, hk3_7⟩ := CI_o2 hw hk2_0
  refine hR (c_get hO3 rfl ?_)
  refine hR (?_ : R (_, _, _, _, _, _))
  refine hR (c_ald hw (by rw [hk3_4]; rfl) (by omega) (by omega) (Nat.le_of_ble_eq_true rfl) fun v4 lv4 uv4 => ?_)
  refine hR (j_lt (by omega) (by omega) (fun hc5 => ?_) (fun hc5 => ?_))
  rotate_left
  · skip
    iterate 2 refine hR (?_ : R (_, _, _, _, _, _))
    exact hR (zret_i rfl (Nat.le_refl _) trivial (h none (fun z h => by cases h) (Or.inl rfl)))
  refine hR (?_ : R (_, _, _, _, _, _))
  refine hR (c_get hO2 rfl ?_)
  refine hR (c_get hO3 rfl ?_)
  refine hR (?_ : R (_, _, _, _, _, _))
  refine hR (c_rld hw (by rw [hk3_5]; rfl) (by rw [hk3_5]; rfl) (by decide) (by omega) (by omega) (Nat.le_of_ble_eq_true rfl) fun o_6 ho_6 => ?_)
  cases o_6 with
  | none =>
    exact hR (zret_i rfl (Nat.le_refl _) trivial (h none (fun z h => by cases h) (Or.inl rfl)))
  | some z7 =>
    have hz7 : ρ z7 = 20 := ho_6 z7 rfl
    exact hR (zret_i rfl (Nat.le_refl _) trivial (h (some z7) (fun z h => by cases h; exact hz7) (Or.inr (by omega))))
theorem c_yearAt {ρ : Nat → Nat} {w : zW} (d : Nat) (a1 : Int) (hw : CI ρ w) (hρ0 : ρ 0 = 1) (hr0 : -2147483648 ≤ a1 ∧ a1 ≤ 2147483647) (Q : zQ) (h : ∀ (o : Option Nat), (∀ x, o = some x → ρ x = 30) → (o = none ∨ (0 ≤ a1 ∧ a1 ≤ 1)) → Q (some (va_rf o)) w) : zCl zTab (d + 1) iX11_yearAt [.ref 0, .int (Int32.ofInt a1)] w 0 0 Q := by
  refine zCl_i (M := kX11_yearAt) rfl (Nat.le_of_ble_eq_true rfl) fun R hR => ?_
  have fr0 := wfR_rf [] ρ w
  refine hR (?_ : R (_, _, _, _, _, _))
  refine hR (k_lt (by omega) (fun hc1 => ?_) (fun hc1 => ?_))
  · skip
    iterate 2 refine hR (?_ : R (_, _, _, _, _, _))
    exact hR (zret_i rfl (Nat.le_refl _) trivial (h none (fun z h => by cases h) (Or.inl rfl)))
  iterate 2 refine hR (?_ : R (_, _, _, _, _, _))
  obtain ⟨y6_2, y7_2, hO2, hk2_0, hk2_1, hk2_2, hk2_3, hk2_4, hk2_5, hk2_6, hk2_7⟩ := CI_o1 hw hρ0
  refine hR (c_get hO2 rfl ?_)
  obtain ⟨x1_3, x2_3, x3_3, hO3, hk3_0, hk3_1, hk3_2, hk3_3, hk3_4, hk3_5, hk3_6, hk3_7⟩ := CI_o2 hw hk2_0
  refine hR (c_get hO3 rfl ?_)
  refine hR (?_ : R (_, _, _, _, _, _))
  refine hR (c_ald hw (by rw [hk3_4]; rfl) (by omega) (by omega) (Nat.le_of_ble_eq_true rfl) fun v4 lv4 uv4 => ?_)
  refine hR (j_lt (by omega) (by omega) (fun hc5 => ?_) (fun hc5 => ?_))
  rotate_left
  · skip
    iterate 2 refine hR (?_ : R (_, _, _, _, _, _))
    exact hR (zret_i rfl (Nat.le_refl _) trivial (h none (fun z h => by cases h) (Or.inl rfl)))
  refine hR (?_ : R (_, _, _, _, _, _))
  refine hR (c_get hO2 rfl ?_)
  refine hR (c_get hO3 rfl ?_)
  refine hR (?_ : R (_, _, _, _, _, _))
  refine hR (c_rld hw (by rw [hk3_6]; rfl) (by rw [hk3_6]; rfl) (by decide) (by omega) (by omega) (Nat.le_of_ble_eq_true rfl) fun o_6 ho_6 => ?_)
  cases o_6 with
  | none =>
    exact hR (zret_i rfl (Nat.le_refl _) trivial (h none (fun z h => by cases h) (Or.inl rfl)))
  | some z7 =>
    have hz7 : ρ z7 = 30 := ho_6 z7 rfl
    exact hR (zret_i rfl (Nat.le_refl _) trivial (h (some z7) (fun z h => by cases h; exact hz7) (Or.inr (by omega))))
theorem c_sightAt {ρ : Nat → Nat} {w : zW} (d : Nat) (a1 : Int) (hw : CI ρ w) (hρ0 : ρ 0 = 1) (hr0 : -2147483648 ≤ a1 ∧ a1 ≤ 2147483647) (Q : zQ) (h : ∀ (o : Option Nat), (∀ x, o = some x → ρ x = 40) → (o = none ∨ (0 ≤ a1 ∧ a1 ≤ 1)) → Q (some (va_rf o)) w) : zCl zTab (d + 1) iX11_sightAt [.ref 0, .int (Int32.ofInt a1)] w 0 0 Q := by
  refine zCl_i (M := kX11_sightAt) rfl (Nat.le_of_ble_eq_true rfl) fun R hR => ?_
  have fr0 := wfR_rf [] ρ w
  refine hR (?_ : R (_, _, _, _, _, _))
  refine hR (k_lt (by omega) (fun hc1 => ?_) (fun hc1 => ?_))
  · skip
    iterate 2 refine hR (?_ : R (_, _, _, _, _, _))
    exact hR (zret_i rfl (Nat.le_refl _) trivial (h none (fun z h => by cases h) (Or.inl rfl)))
  iterate 2 refine hR (?_ : R (_, _, _, _, _, _))
  obtain ⟨y6_2, y7_2, hO2, hk2_0, hk2_1, hk2_2, hk2_3, hk2_4, hk2_5, hk2_6, hk2_7⟩ := CI_o1 hw hρ0
  refine hR (c_get hO2 rfl ?_)
  obtain ⟨x1_3, x2_3, x3_3, hO3, hk3_0, hk3_1, hk3_2, hk3_3, hk3_4, hk3_5, hk3_6, hk3_7⟩ := CI_o2 hw hk2_0
  refine hR (c_get hO3 rfl ?_)
  refine hR (?_ : R (_, _, _, _, _, _))
  refine hR (c_ald hw (by rw [hk3_4]; rfl) (by omega) (by omega) (Nat.le_of_ble_eq_true rfl) fun v4 lv4 uv4 => ?_)
  refine hR (j_lt (by omega) (by omega) (fun hc5 => ?_) (fun hc5 => ?_))
  rotate_left
  · skip
    iterate 2 refine hR (?_ : R (_, _, _, _, _, _))
    exact hR (zret_i rfl (Nat.le_refl _) trivial (h none (fun z h => by cases h) (Or.inl rfl)))
  refine hR (?_ : R (_, _, _, _, _, _))
  refine hR (c_get hO2 rfl ?_)
  refine hR (c_get hO3 rfl ?_)
  refine hR (?_ : R (_, _, _, _, _, _))
  refine hR (c_rld hw (by rw [hk3_7]; rfl) (by rw [hk3_7]; rfl) (by decide) (by omega) (by omega) (Nat.le_of_ble_eq_true rfl) fun o_6 ho_6 => ?_)
  cases o_6 with
  | none =>
    exact hR (zret_i rfl (Nat.le_refl _) trivial (h none (fun z h => by cases h) (Or.inl rfl)))
  | some z7 =>
    have hz7 : ρ z7 = 40 := ho_6 z7 rfl
    exact hR (zret_i rfl (Nat.le_refl _) trivial (h (some z7) (fun z h => by cases h; exact hz7) (Or.inr (by omega))))
theorem c_takeUp0 {ρ : Nat → Nat} {w : zW} (d : Nat) (p b : Nat) (hw : CI ρ w) (hρp : ρ p = 49) (hρb : ρ b = 20) (Q : zQ) (h : ∀ (w' : zW), CI ρ w' → wfR [49, 51] ρ w w' → nn w' p → Q (none) w') : zCl zTab (d + 2) iX4_takeUp [.ref p, .ref b] w 0 0 Q := by
  refine zCl_i (M := kX4_takeUp) rfl (Nat.le_of_ble_eq_true rfl) fun R hR => ?_
  have fr0 := wfR_rf [49, 51] ρ w
  refine hR (?_ : R (_, _, _, _, _, _))
  obtain ⟨y0_1, z2_1, z3_1, hO1, hk1_0, hk1_1, hk1_2, hk1_3, hk1_4⟩ := CI_o49 hw hρp
  refine hR (c_get hO1 rfl ?_)
  cases y0_1 with
  | none =>
    refine hR (?_ : R (_, _, _, _, _, _))
    refine hR (And.intro (fun hc => by exact nomatch hc) (fun _ => ?_))
    iterate 2 refine hR (?_ : R (_, _, _, _, _, _))
    refine hR (c_put hO1 rfl rfl fun w3 f3 hO3 => ?_)
    have hw3 := CI_w49 hw hρp f3 (y0 := some b) hO3 ⟨(fun z h => by cases h; exact hρb), hk1_1, hk1_2, hk1_3, (by first | assumption | exact Ne.symm (by assumption))⟩
    have fr4 := wfR_st fr0 f3 (by rw [hρp]; decide)
    have hn5 := nn_of hO3
    refine hR (?_ : R (_, _, _, _, _, _))
    refine hR (c_get hO3 rfl ?_)
    refine hR (?_ : R (_, _, _, _, _, _))
    refine hR (zcall_i 0 0 (Nat.le_of_ble_eq_true rfl) (Nat.le_of_ble_eq_true rfl) (c_fill _ (p + 1) 27305 ((-1)) (-1) 5460 hw3 (by rw [hk1_1]; rfl) ⟨by rw [hk1_1]; decide, by rw [hk1_1]; decide⟩ (by omega) (by omega) (by omega) _ fun w6 hw6 f6 hg6 => ?_))
    refine (?_ : R (_, _, [], w6, 0, 0))
    have fr7 := wfR_st fr4 f6 (by rw [hk1_1]; decide)
    have hn8 := nn_eq (f6.2 p (rne hρp hk1_1 (by decide))) hn5
    have hO9 := (f6.2 p (rne hρp hk1_1 (by decide))).trans hO3
    exact hR (zret_i rfl (Nat.le_refl _) rfl (h _ hw6 fr7 hn8))
  | some z2 =>
    have hz2 : ρ z2 = 20 := hk1_0 z2 rfl
    refine hR (?_ : R (_, _, _, _, _, _))
    refine hR (j_any ?_ ?_)
    · skip
      exact hR (zret_i rfl (Nat.le_refl _) rfl (h _ hw fr0 (nn_of hO1)))
    iterate 2 refine hR (?_ : R (_, _, _, _, _, _))
    refine hR (c_put hO1 rfl rfl fun w10 f10 hO10 => ?_)
    have hw10 := CI_w49 hw hρp f10 (y0 := some b) hO10 ⟨(fun z h => by cases h; exact hρb), hk1_1, hk1_2, hk1_3, (by first | assumption | exact Ne.symm (by assumption))⟩
    have fr11 := wfR_st fr0 f10 (by rw [hρp]; decide)
    have hn12 := nn_of hO10
    refine hR (?_ : R (_, _, _, _, _, _))
    refine hR (c_get hO10 rfl ?_)
    refine hR (?_ : R (_, _, _, _, _, _))
    refine hR (zcall_i 0 0 (Nat.le_of_ble_eq_true rfl) (Nat.le_of_ble_eq_true rfl) (c_fill _ (p + 1) 27305 ((-1)) (-1) 5460 hw10 (by rw [hk1_1]; rfl) ⟨by rw [hk1_1]; decide, by rw [hk1_1]; decide⟩ (by omega) (by omega) (by omega) _ fun w13 hw13 f13 hg13 => ?_))
    refine (?_ : R (_, _, [], w13, 0, 0))
    have fr14 := wfR_st fr11 f13 (by rw [hk1_1]; decide)
    have hn15 := nn_eq (f13.2 p (rne hρp hk1_1 (by decide))) hn12
    have hO16 := (f13.2 p (rne hρp hk1_1 (by decide))).trans hO10
    exact hR (zret_i rfl (Nat.le_refl _) rfl (h _ hw13 fr14 hn15))
/-! NEW READINGS: while they have no book, the row that holds them is out of view. -/
noncomputable def mk12 (ρ : Nat → Nat) : Nat → Nat := fun x => if ρ x = 1 ∨ ρ x = 13 then 0 else ρ x
theorem mk12_k {ρ : Nat → Nat} {x : Nat} (h : ¬ (ρ x = 1 ∨ ρ x = 13)) : mk12 ρ x = ρ x := if_neg h
theorem mk12_0 {ρ : Nat → Nat} {x : Nat} (h : ρ x = 1 ∨ ρ x = 13) : mk12 ρ x = 0 := if_pos h
theorem mk12_r {ρ : Nat → Nat} {x r : Nat} (h : mk12 ρ x = r) (h0 : r ≠ 0) : ρ x = r := by
  unfold mk12 at h
  split at h
  · exact absurd h.symm h0
  · exact h
theorem rls_12 {r0 r : Nat} (h : r ∈ rls r0) (h1 : r0 ≠ 1) : r ≠ 1 ∧ r ≠ 13 := by
  unfold rls at h
  split at h
  case h_1 => exact absurd rfl h1
  all_goals first | (simp only [List.mem_cons, List.not_mem_nil, or_false] at h; omega) | (cases h)
theorem rRf_12 {r0 r ti len : Nat} (h : rRf r0 = some (ti, len, r)) : r ≠ 1 ∧ r ≠ 13 ∧ r ≠ 49 ∧ r ≠ 19 ∧ r ≠ 25 ∧ r ≠ 26 := by
  unfold rRf at h
  split at h
  all_goals first | (simp only [Option.some.injEq, Prod.mk.injEq] at h; omega) | (cases h)
theorem rls_49 {r0 r : Nat} (h : r ∈ rls r0) : r ≠ 49 ∧ r ≠ 19 := by
  unfold rls at h
  split at h
  all_goals first | (simp only [List.mem_cons, List.not_mem_nil, or_false] at h; omega) | (cases h)
theorem CI_mk12 {ρ : Nat → Nat} {w : zW} (hw : CI ρ w) : CI (mk12 ρ) w := by
  refine ⟨fun q hq => ?_, fun q hq => ?_, fun q hq => ?_⟩
  · obtain ⟨c, h1, h2⟩ := hw.1 q hq
    refine ⟨c, h1, ?_⟩
    by_cases e : ρ q = 1 ∨ ρ q = 13
    · unfold rOK
      rw [mk12_0 e]
      trivial
    · refine rOK_map (mk12_k e) (fun x r hr ex => ?_) h2
      have hr' : r ≠ 1 ∧ r ≠ 13 := by
        rcases hr with hr | ⟨ti, len, hr⟩
        · exact rls_12 hr (by omega)
        · have := rRf_12 hr; omega
      exact (mk12_k (by rw [ex]; omega)).trans ex
  · have := hw.2.1 q hq
    exact (mk12_k (by omega)).trans this
  · have hq' := mk12_r hq (by decide)
    obtain ⟨h1, h2⟩ := hw.2.2 q hq'
    exact ⟨(mk12_k (by omega)).trans h1, h2⟩
/-- a cell out of view may change -/
theorem CI_hid {ρ : Nat → Nat} {w w' : zW} {q : Nat} (hw : CI ρ w) (hq : ρ q = 0) (hl : q < w.length) (f : wfr q w w') : CI ρ w' := by
  have hz : ∃ c, zix w' q = some c := by
    rw [zix_eq]
    exact ⟨_, List.getElem?_eq_getElem (by rw [f.1]; exact hl)⟩
  obtain ⟨c, hc⟩ := hz
  refine CI_st hw f hc ?_ ⟨by rw [hq]; decide, by rw [hq]; decide⟩
  unfold rOK
  rw [hq]
  trivial
noncomputable def to50 (ρ : Nat → Nat) (n : Nat) : Nat → Nat := fun x => if x = n then 50 else ρ x
theorem to50_n {ρ : Nat → Nat} {n x : Nat} (h : x ≠ n) : to50 ρ n x = ρ x := if_neg h
theorem to50_s {ρ : Nat → Nat} {n : Nat} : to50 ρ n n = 50 := if_pos rfl
theorem CI_to50 {σ : Nat → Nat} {w1 w2 w3 : zW} {n i : Nat} {g : Nat → Option Nat} (h1 : CI σ w1) (hn : σ n = 49) (r12 : σ 12 = 13) (f2 : wfr 12 w1 w2) (hg : zix w1 12 = some (rfa 7 2 g)) (hg2 : zix w2 12 = some (rfa 7 2 (va_up g i (some n)))) (h3 : CI (mk12 σ) w3) (f3 : wfR [49, 51] (mk12 σ) w2 w3) (hnn : nn w3 n) : CI (to50 σ n) w3 := by
  have len : w3.length = w1.length := f3.1.trans f2.1
  have h49 : ∀ x r, σ x = r → r ≠ 49 → to50 σ n x = r := fun x r e h => (to50_n (fun e2 => h (by rw [← e, e2, hn]))).trans e
  refine ⟨fun q hq => ?_, fun q hq => ?_, fun q hq => ?_⟩
  · by_cases e : q = n
    · subst e
      obtain ⟨y0, z2, z3, hO, a, b, c, d, f⟩ := CI_o49 h3 (q := q) ((mk12_k (by omega)).trans hn)
      cases y0 with
      | none => exact absurd hO (hnn _ _)
      | some zb =>
        refine ⟨_, hO, ?_⟩
        unfold rOK
        rw [to50_s]
        exact ⟨zb, z2, z3, rfl, h49 _ _ (mk12_r (a zb rfl) (by decide)) (by decide), h49 _ _ (mk12_r b (by decide)) (by decide), h49 _ _ (mk12_r c (by decide)) (by decide), h49 _ _ (mk12_r d (by decide)) (by decide), f⟩
    · by_cases e2 : σ q = 1 ∨ σ q = 13
      · have c3 : zix w3 q = zix w2 q := f3.2 q (by rw [mk12_0 e2]; decide)
        by_cases e12 : q = 12
        · subst e12
          refine ⟨_, c3.trans hg2, ?_⟩
          unfold rOK
          rw [to50_n e, r12]
          refine ⟨_, rfl, fun j x hx => ?_⟩
          by_cases ej : j = i
          · subst ej
            rw [up_s] at hx
            cases hx
            exact to50_s
          · rw [up_n ej] at hx
            obtain ⟨g', a, b⟩ := CI_rf h1 (q := 12) (by rw [r12]; rfl) (by rw [r12]; rfl)
            obtain rfl := rfEq (a.symm.trans hg)
            exact h49 x 50 (b j x hx) (by decide)
        · obtain ⟨c, hc, ho⟩ := h1.1 q (by rw [← len]; exact hq)
          refine ⟨c, (c3.trans (f2.2 q e12)).trans hc, rOK_map (to50_n e) (fun x r hr ex => h49 x r ex ?_) ho⟩
          rcases hr with hr | ⟨ti, len, hr⟩
          · exact (rls_49 hr).1
          · exact (rRf_12 hr).2.2.1
      · obtain ⟨c, hc, ho⟩ := h3.1 q hq
        refine ⟨c, hc, rOK_map ((to50_n e).trans (mk12_k e2).symm) (fun x r hr ex => ?_) ho⟩
        rcases hr with hr | ⟨ti, len, hr⟩
        · exact h49 x r (mk12_r ex (rls_0 hr)) (rls_49 hr).1
        · exact h49 x r (mk12_r ex (rRf_0 hr)) (rRf_12 hr).2.2.1
  · have h0 := h1.2.1 q (by rw [← len]; exact hq)
    exact h49 q 0 h0 (by decide)
  · have hq' : σ q = 23 := by
      unfold to50 at hq
      split at hq
      · cases hq
      · exact hq
    obtain ⟨a, b⟩ := h3.2.2 q ((mk12_k (by omega)).trans hq')
    exact ⟨h49 _ _ (mk12_r a (by decide)) (by decide), b⟩
section RS
variable {R : zS → Prop} {np : Nat} {L : zL} {S : List Value} {w : zW} {k n : Nat}
theorem c_rst0 {q ti len p : Nat} {i : Int} {g : Nat → Option Nat} {fs : List Value} (ht : (Nat.ble 3 ti && Nat.ble ti 8) = true) (hg : zix w q = some (rfa ti len g)) (hpo : zix w p = some (.inr (zec ti, fs))) (h0 : 0 ≤ i) (h1 : i < len) (hl : len ≤ 60000) (hk : ∀ w1, wfr q w w1 → zix w1 q = some (rfa ti len (va_up g i.toNat (some p))) → R (np, L, S, w1, k, n)) : zaq w q (fun ti len g => zif (Nat.ble 3 ti && Nat.ble ti 8) (zrn2 (.ref p) (fun q2 => zob w q2 (zec ti) fun _ => vp_in (Int32.ofInt i) len ∧ R (np, L, S, zst w q (.inl (ti, len, .inr (.inr (.inr (.inr (va_up g (Int32.ofInt i).toNatClampNeg (some q2))))))), k, n)) (vp_in (Int32.ofInt i) len ∧ R (np, L, S, zst w q (.inl (ti, len, .inr (.inr (.inr (.inr (va_up g (Int32.ofInt i).toNatClampNeg none)))))), k, n)))) := by
  unfold zaq
  rw [hg]
  dsimp only
  rw [ht]
  show zob w p (zec ti) _
  refine c_obj hpo ⟨zvin h0 h1 hl, ?_⟩
  rw [zcl h0 (by omega)]
  obtain ⟨f1, f2⟩ := wfr_st (c' := rfa ti len (va_up g i.toNat (some p))) hg
  exact hk _ f1 f2
end RS
theorem a_readingsAt {ρ : Nat → Nat} {w : zW} (hT : TOP ρ w) (d : Nat) (b : Int) (hb : -2147483648 ≤ b ∧ b ≤ 2147483647) : DET zTab (d + 3) iX11_readingsAt [.ref 0, .int (Int32.ofInt b)] w (fun mc ms r w' => ∃ σ, AL ρ w mc ms σ w' ∧ (r = some .null ∨ ∃ p, r = some (.ref p) ∧ σ p = 50)) := by
  obtain ⟨y6, y7, h0, r1, r7, r8, r9, r12, r13, e6, e7⟩ := top_o hT
  obtain ⟨rb, wb, ⟨o, rfl, ho, hob, rfl⟩, hrun⟩ := zCl_det _ _ _ _ _ _ _ (c_bookAt (d + 1) b hT.1 hT.2.1 hb (fun r w' => ∃ o, r = some (va_rf o) ∧ (∀ x, o = some x → ρ x = 20) ∧ (o = none ∨ (0 ≤ b ∧ b ≤ 1)) ∧ w' = w) fun o a b => ⟨o, rfl, a, b, rfl⟩)
  cases o with
  | none =>
    refine det_of (mc := 0) (ms := 0) ?_
    refine zCl_i (M := kX11_readingsAt) rfl (Nat.le_of_ble_eq_true rfl) fun R hR => ?_
    iterate 2 refine hR (?_ : R (_, _, _, _, _, _))
    refine hR (c_obj h0 (zcall_i 0 0 (Nat.le_of_ble_eq_true rfl) (Nat.le_of_ble_eq_true rfl) (hrun _ ?_)))
    refine (?_ : R (_, _, .null :: [], wb, 0, 0))
    iterate 4 refine hR (?_ : R (_, _, _, _, _, _))
    exact hR (zret_i rfl (Nat.le_refl _) trivial ⟨ρ, ⟨hT, fun _ _ h => h, KEEP2_rf _, EXT_rf ρ, by omega, by omega⟩, Or.inl rfl⟩)
  | some z =>
    have hb1 : 0 ≤ b ∧ b ≤ 1 := by rcases hob with h | h; · cases h
                                   · exact h
    have hz := ho z rfl
    obtain ⟨g, hg, hgr⟩ := CI_rf hT.1 (q := 12) (by rw [r12]; rfl) (by rw [r12]; rfl)
    cases hgi : g b.toNat with
    | some p =>
      have hp := hgr _ _ hgi
      refine det_of (mc := 0) (ms := 0) ?_
      refine zCl_i (M := kX11_readingsAt) rfl (Nat.le_of_ble_eq_true rfl) fun R hR => ?_
      iterate 2 refine hR (?_ : R (_, _, _, _, _, _))
      refine hR (c_obj h0 (zcall_i 0 0 (Nat.le_of_ble_eq_true rfl) (Nat.le_of_ble_eq_true rfl) (hrun _ ?_)))
      refine (?_ : R (_, _, .ref z :: [], wb, 0, 0))
      iterate 4 refine hR (?_ : R (_, _, _, _, _, _))
      refine hR (c_get h0 rfl ?_)
      refine hR (?_ : R (_, _, _, _, _, _))
      refine hR (c_rldE hg rfl (by omega) (by omega) (Nat.le_of_ble_eq_true rfl) (v := .ref p) (by rw [hgi]; rfl) ?_)
      iterate 2 refine hR (?_ : R (_, _, _, _, _, _))
      refine hR (c_get h0 rfl ?_)
      refine hR (?_ : R (_, _, _, _, _, _))
      refine hR (c_rldE hg rfl (by omega) (by omega) (Nat.le_of_ble_eq_true rfl) (v := .ref p) (by rw [hgi]; rfl) ?_)
      refine hR (?_ : R (_, _, _, _, _, _))
      obtain ⟨z0, z2, z3, hO, -⟩ := CI_o50 hT.1 hp
      refine hR (c_obj hO (zcall_i 0 0 (Nat.le_of_ble_eq_true rfl) (Nat.le_of_ble_eq_true rfl) (c_takeUp _ p z hT.1 hp hz _ fun w1 hw1 f1 => ?_)))
      refine (?_ : R (_, _, [], w1, 0, 0))
      obtain ⟨hT1, hI1, hph, hK1⟩ := top_fr2 hT hw1 f1 (by decide) (AWK_fr hT.1 f1 hT.2.2.1 (by decide))
      have h01 := (f1.2 0 (by rw [hT.2.1]; decide)).trans h0
      have hg1 := (f1.2 12 (by rw [r12]; decide)).trans hg
      refine hR (?_ : R (_, _, _, _, _, _))
      refine hR (c_get h01 rfl ?_)
      refine hR (?_ : R (_, _, _, _, _, _))
      refine hR (c_rldE hg1 rfl (by omega) (by omega) (Nat.le_of_ble_eq_true rfl) (v := .ref p) (by rw [hgi]; rfl) ?_)
      exact hR (zret_i rfl (Nat.le_refl _) trivial ⟨ρ, ⟨hT1, hI1, hK1, EXT_rf ρ, by omega, by omega⟩, Or.inr ⟨p, rfl, hp⟩⟩)
    | none =>
      refine det_of (mc := 4) (ms := 38231) ?_
      refine zCl_i (M := kX11_readingsAt) rfl (Nat.le_of_ble_eq_true rfl) fun R hR => ?_
      iterate 2 refine hR (?_ : R (_, _, _, _, _, _))
      refine hR (c_obj h0 (zcall_i 0 0 (Nat.le_of_ble_eq_true rfl) (Nat.le_of_ble_eq_true rfl) (hrun _ ?_)))
      refine (?_ : R (_, _, .ref z :: [], wb, 0, 0))
      iterate 4 refine hR (?_ : R (_, _, _, _, _, _))
      refine hR (c_get h0 rfl ?_)
      refine hR (?_ : R (_, _, _, _, _, _))
      refine hR (c_rldE hg rfl (by omega) (by omega) (Nat.le_of_ble_eq_true rfl) (v := .null) (by rw [hgi]; rfl) ?_)
      iterate 2 refine hR (?_ : R (_, _, _, _, _, _))
      refine hR (c_get h0 rfl ?_)
      iterate 3 refine hR (?_ : R (_, _, _, _, _, _))
      refine hR (zcall_i 3 38227 (Nat.le_of_ble_eq_true rfl) (Nat.le_of_ble_eq_true rfl) (n_Readings hT.1 _ _ fun σ w1 hc1 g1 hl1 hr1 hn1 => ?_))
      refine (?_ : R (_, _, .ref wb.length :: .int (Int32.ofInt b) :: .ref 12 :: [], w1, 4, 38231))
      obtain ⟨y0, z2, z3, hO, a1, a2, a3, a4, a5⟩ := CI_o49 hc1 hr1
      obtain ⟨hT1, hI1, hp1, hK1, hx1⟩ := top_gro2 hT hc1 g1 (fun q a b => absurd b (hn1 q a))
      obtain ⟨y6', y7', h0', r1', r7', r8', r9', r12', r13', e6', e7'⟩ := top_o hT1
      have hlt : 45 ≤ wb.length := hT.2.2.2.2
      have hg1 : zix w1 12 = some (rfa 7 2 g) := (g1.2 12 (by omega)).2.trans hg
      refine hR (c_rst0 rfl hg1 hO (by omega) (by omega) (Nat.le_of_ble_eq_true rfl) fun w2 f2 hg2 => ?_)
      have hm0 : mk12 σ 0 = 0 := mk12_0 (Or.inl hT1.2.1)
      have hm12 : mk12 σ 12 = 0 := mk12_0 (Or.inr r12')
      have hc2 : CI (mk12 σ) w2 := CI_hid (CI_mk12 hc1) hm12 (by omega) f2
      have hN : mk12 σ wb.length = 49 := (mk12_k (by omega)).trans hr1
      have hz1 : σ z = 20 := (hx1 z (by rw [hz]; decide)).trans hz
      have hz2 : mk12 σ z = 20 := (mk12_k (by omega)).trans hz1
      have h02 := (f2.2 0 (by decide)).trans h0'
      refine hR (?_ : R (_, _, _, _, _, _))
      refine hR (c_get h02 rfl ?_)
      refine hR (?_ : R (_, _, _, _, _, _))
      refine hR (c_rldE hg2 rfl (by omega) (by omega) (Nat.le_of_ble_eq_true rfl) (v := .ref wb.length) (by rw [up_s]; rfl) ?_)
      refine hR (?_ : R (_, _, _, _, _, _))
      obtain ⟨u0, u2, u3, hO2, -⟩ := CI_o49 hc2 hN
      refine hR (c_obj hO2 (zcall_i 0 0 (Nat.le_of_ble_eq_true rfl) (Nat.le_of_ble_eq_true rfl) (c_takeUp0 _ wb.length z hc2 hN hz2 _ fun w3 hw3 f3 hnn => ?_)))
      refine (?_ : R (_, _, [], w3, 4, 38231))
      have h03 := (f3.2 0 (by rw [hm0]; decide)).trans h02
      have hg3 := (f3.2 12 (by rw [hm12]; decide)).trans hg2
      refine hR (?_ : R (_, _, _, _, _, _))
      refine hR (c_get h03 rfl ?_)
      refine hR (?_ : R (_, _, _, _, _, _))
      refine hR (c_rldE hg3 rfl (by omega) (by omega) (Nat.le_of_ble_eq_true rfl) (v := .ref wb.length) (by rw [up_s]; rfl) ?_)
      have hc3 := CI_to50 hc1 hr1 r12' f2 hg1 hg2 hw3 f3 hnn
      have hx3 : EXT ρ (to50 σ wb.length) := fun q hq => (to50_n (by have := CI_lt hT.1 hq; omega)).trans (hx1 q hq)
      have hce : ∀ q, q ≠ 12 → σ q ≠ 49 → σ q ≠ 51 → zix w3 q = zix w1 q := by
        intro q a b c
        refine (f3.2 q ?_).trans (f2.2 q a)
        by_cases e : σ q = 1 ∨ σ q = 13
        · rw [mk12_0 e]; decide
        · rw [mk12_k e]; simp only [List.mem_cons, List.not_mem_nil, or_false]; omega
      have hlen : w3.length = w1.length := f3.1.trans f2.1
      have hT3 : TOP (to50 σ wb.length) w3 := by
        refine ⟨hc3, (hx3 0 (by rw [hT.2.1]; decide)).trans hT.2.1, fun q hq => ?_, fun q a b => (to50_n (by omega)).trans (hT1.2.2.2.1 q a b), by rw [hlen]; exact hT1.2.2.2.2⟩
        have hq' : σ q = 60 := by
          unfold to50 at hq
          split at hq
          · cases hq
          · exact hq
        obtain ⟨x0, hO6, hx0, k1, k2, k3, k4⟩ := CI_o60 hc1 hq'
        obtain ⟨sz, gq, gn, gb, ⟨a, b, c⟩, d', e', f⟩ := hT1.2.2.1 q hq'
        exact ⟨sz, gq, gn, gb, ⟨a, (hce _ (fun e => by rw [e, r12'] at hq'; omega) (by omega) (by omega)).trans b, (hce _ (fun e => by rw [e, r12'] at k2; omega) (by omega) (by omega)).trans c⟩, (hce _ (fun e => by rw [e, r12'] at k1; omega) (by omega) (by omega)).trans d', (hce _ (fun e => by rw [e, r12'] at k3; omega) (by omega) (by omega)).trans e', f⟩
      have hI3 : ∀ l m, IM w1 l m → IM w3 l m := fun l m h => im_eq (hce 1 (by decide) (by omega) (by omega)) (hce 7 (by decide) (by omega) (by omega)) (fun g' k q hg' hq _ => by
        have := im_role (l := 0) (m := fun _ => none) hT1 hg' hq
        exact hce q (fun e => by rw [e, r12'] at this; omega) (by omega) (by omega)) h
      have hK3 : KEEP2 w1 w3 := ⟨fun q a b => hce q (by omega) (by have := hT1.2.2.2.1 q a b; omega) (by have := hT1.2.2.2.1 q a b; omega), fun q hq => by
        have ht := tc_role hT1 hq
        unfold TRL at ht
        exact hce q (fun e => by rw [e, r12'] at ht; omega) (by omega) (by omega)⟩
      have hph := phi_12 f2 hg1 hg2 (by omega) hgi
      have hph3 : phi w3 = phi w2 := phi_eq (h03.trans h02.symm) ((hce 7 (by decide) (by omega) (by omega)).trans (f2.2 7 (by decide)).symm) (hg3.trans hg2.symm) ((hce 13 (by decide) (by omega) (by omega)).trans (f2.2 13 (by decide)).symm)
      exact hR (zret_i rfl (Nat.le_refl _) trivial ⟨_, ⟨hT3, fun l m h => hI3 l m (hI1 l m h), KEEP2_tr hK1 hK3, hx3, by omega, by omega⟩, Or.inr ⟨_, rfl, to50_s⟩⟩)
theorem c_common (w : zW) (d : Nat) (la lb : Int64) (Q : zQ) (h : ∀ (v : Int64), Q (some (.long v)) w) : zCl zTab (d + 1) iX11_common [.long la, .long lb] w 0 0 Q := by
  refine zCl_i (M := kX11_common) rfl (Nat.le_of_ble_eq_true rfl) fun R hR => ?_
  have loop : ∀ (N : Nat) (x y : Int64) (i : Int) (o9 : Option Value), (0 ≤ i ∧ i ≤ 100) → 101 - i < N → R (9, [some (.long la), none, some (.long lb), none, some (.long x), none, some (.long y), none, some (.int (Int32.ofInt i)), o9, none], [], w, 0, 0) := by
    intro N
    induction N with
    | zero => intro x y i o9 _ h; omega
    | succ N ih =>
      intro x y i o9 hi hN
      refine hR (?_ : R (_, _, _, _, _, _))
      refine hR (t_c 100 (by decide) ?_)
      refine hR (j_ge (by omega) (by omega) (fun hc => ?_) (fun hc => ?_))
      · refine hR (?_ : R (_, _, _, _, _, _))
        exact hR (zret_i rfl (Nat.le_refl _) trivial (h x))
      · iterate 2 refine hR (?_ : R (_, _, _, _, _, _))
        refine hR (?_ : R (_, _, .int (lg_cmp y 0) :: _, _, _, _))
        refine hR (And.intro (fun hc => ?_) (fun hc => ?_))
        · refine hR (?_ : R (_, _, _, _, _, _))
          exact hR (zret_i rfl (Nat.le_refl _) trivial (h x))
        · have hy : y ≠ 0 := fun e => hc (by rw [e]; decide)
          iterate 2 refine hR (?_ : R (_, _, _, _, _, _))
          refine hR (And.intro hy ?_)
          iterate 5 refine hR (?_ : R (_, _, _, _, _, _))
          refine hR (t_inc ?_)
          refine hR (?_ : R (_, _, _, _, _, _))
          exact ih y _ _ _ (by omega) (by omega)
  iterate 6 refine hR (?_ : R (_, _, _, _, _, _))
  exact loop 200 la lb 0 none (by omega) (by omega)
/-- a call of the class that leaves what is told as it is -/
noncomputable def AL2 (ρ : Nat → Nat) (w : zW) (mc ms : Nat) (σ : Nat → Nat) (w' : zW) : Prop := TOP σ w' ∧ (∀ l m, IM w l m → IM w' l m) ∧ KEEP2 w w' ∧ EXT ρ σ ∧ mc ≤ 100 ∧ ms + phi w' ≤ phi w
noncomputable def PB (ρ : Nat → Nat) (w : zW) (mc ms : Nat) (r : Option Value) (w' : zW) : Prop := (∃ σ, AL2 ρ w mc ms σ w') ∧ ∃ v, r = some (.int v)
noncomputable def PBl (ρ : Nat → Nat) (w : zW) (mc ms : Nat) (r : Option Value) (w' : zW) : Prop := (∃ σ, AL2 ρ w mc ms σ w') ∧ ∃ v, r = some (.long v)
theorem k_making {ρ : Nat → Nat} {w : zW} (hT : TOP ρ w) (d : Nat) (a1 a2 a3 a4 : Int) (hr0 : -2147483648 ≤ a1 ∧ a1 ≤ 2147483647) (hr1 : -2147483648 ≤ a2 ∧ a2 ≤ 2147483647) (hr2 : -2147483648 ≤ a3 ∧ a3 ≤ 2147483647) (hr3 : -2147483648 ≤ a4 ∧ a4 ≤ 2147483647) : DET zTab (d + 6) iX11_making [.ref 0, .int (Int32.ofInt a1), .int (Int32.ofInt a2), .int (Int32.ofInt a3), .int (Int32.ofInt a4)] w (PB ρ w) := by
  refine z_rel (M := kX11_making) _ rfl (Nat.le_of_ble_eq_true rfl) fun R hR0 => ?_
  have hR : ∀ {pc : Nat} {L : zL} {S : List Value} {w1 : zW} {k n : Nat}, zsc (zCl zTab (d + 5)) (d + 5) kX11_making none zTab k n (PB ρ w k n) pc L S w1 k n R → R (pc, L, S, w1, k, n) := fun h => hR0 _ _ (Nat.le_refl _) (Nat.le_refl _) h
  have fr0 := wfR_rf [51, 60, 61, 62, 63, 64] ρ w
  iterate 2 refine hR (?_ : R (_, _, _, _, _, _))
  obtain ⟨y6_2, y7_2, hO2, hk2_0, hk2_1, hk2_2, hk2_3, hk2_4, hk2_5, hk2_6, hk2_7⟩ := CI_o1 hT.1 hT.2.1
  obtain ⟨hTt1, hIt1, hpt1, hKt1⟩ := top_fr2 hT hT.1 fr0 (by decide) hT.2.2.1
  obtain ⟨mc1, ms1, re1, w, ⟨ρ, hA1, hr_1⟩, hrun1⟩ := a_readingsAt hTt1 (d + 2) a1 (by omega)
  refine hR0 (0 + mc1) (0 + ms1) (Nat.le_add_right _ _) (Nat.le_add_right _ _) (c_obj hO2 (zcall_i mc1 ms1 (Nat.le_refl _) (Nat.le_refl _) (hrun1 _ ?_)))
  obtain ⟨hT, hI1, hK1, hx1, hm1, hs1⟩ := hA1
  have fr3 := wfR_rf [51, 60, 61, 62, 63, 64] ρ w
  rcases hr_1 with rfl | ⟨z1, rfl, hz1⟩
  · skip
    refine (?_ : R (_, _, .null :: [], w, 0 + mc1, 0 + ms1))
    iterate 4 refine hR (?_ : R (_, _, _, _, _, _))
    obtain ⟨hTf4, hIf4, hpf4, hKf4⟩ := top_fr2 hT hT.1 fr3 (by decide) hT.2.2.1
    exact hR (zret_i rfl (Nat.le_refl _) trivial ⟨⟨_, hTf4, fun l m h => hIf4 _ _ (hI1 _ _ (hIt1 _ _ (h))), (KEEP2_tr hKt1 (KEEP2_tr hK1 hKf4)), hx1, by omega, by omega⟩, _, rfl⟩)
  · skip
    refine (?_ : R (_, _, (.ref z1) :: [], w, 0 + mc1, 0 + ms1))
    iterate 4 refine hR (?_ : R (_, _, _, _, _, _))
    refine hR (zcall_i 0 0 (Nat.le_refl _) (Nat.le_refl _) (c_isText _ _ a2 (by omega) _ fun v5 hp7 => ?_))
    refine (?_ : R (_, _, (.int (Int32.ofInt v5)) :: [], w, 0 + mc1, 0 + ms1))
    refine hR (k_eq (by omega) (fun hc8 => ?_) (fun hc8 => ?_))
    · skip
      refine hR (?_ : R (_, _, _, _, _, _))
      obtain ⟨hTf9, hIf9, hpf9, hKf9⟩ := top_fr2 hT hT.1 fr3 (by decide) hT.2.2.1
      exact hR (zret_i rfl (Nat.le_refl _) trivial ⟨⟨_, hTf9, fun l m h => hIf9 _ _ (hI1 _ _ (hIt1 _ _ (h))), (KEEP2_tr hKt1 (KEEP2_tr hK1 hKf9)), hx1, by omega, by omega⟩, _, rfl⟩)
    refine hR (?_ : R (_, _, _, _, _, _))
    refine hR (zcall_i 0 0 (Nat.le_refl _) (Nat.le_refl _) (c_isText _ _ a3 (by omega) _ fun v10 hp12 => ?_))
    refine (?_ : R (_, _, (.int (Int32.ofInt v10)) :: [], w, 0 + mc1, 0 + ms1))
    refine hR (k_ne (by omega) (fun hc13 => ?_) (fun hc13 => ?_))
    rotate_left
    · skip
      refine hR (?_ : R (_, _, _, _, _, _))
      obtain ⟨hTf41, hIf41, hpf41, hKf41⟩ := top_fr2 hT hT.1 fr3 (by decide) hT.2.2.1
      exact hR (zret_i rfl (Nat.le_refl _) trivial ⟨⟨_, hTf41, fun l m h => hIf41 _ _ (hI1 _ _ (hIt1 _ _ (h))), (KEEP2_tr hKt1 (KEEP2_tr hK1 hKf41)), hx1, by omega, by omega⟩, _, rfl⟩)
    iterate 2 refine hR (?_ : R (_, _, _, _, _, _))
    obtain ⟨y6_15, y7_15, hO15, hk15_0, hk15_1, hk15_2, hk15_3, hk15_4, hk15_5, hk15_6, hk15_7⟩ := CI_o1 hT.1 hT.2.1
    obtain ⟨hTt14, hIt14, hpt14, hKt14⟩ := top_fr2 hT hT.1 fr3 (by decide) hT.2.2.1
    obtain ⟨mc14, ms14, re14, w, ⟨ρ, z14, hA14, hre14, hz14⟩, hrun14⟩ := a_walkAt hTt14 (d + 2) 0 (by omega)
    subst hre14
    refine hR0 (0 + mc1 + mc14) (0 + ms1 + ms14) (Nat.le_add_right _ _) (Nat.le_add_right _ _) (c_obj hO15 (zcall_i mc14 ms14 (Nat.le_refl _) (Nat.le_refl _) (hrun14 _ ?_)))
    obtain ⟨hT, hI14, hK14, hx14, hm14, hs14⟩ := hA14
    have hl16 : ρ z1 = 50 := (hx14 z1 (by rw [hz1]; decide)).trans hz1
    have fr17 := wfR_rf [51, 60, 61, 62, 63, 64] ρ w
    refine (?_ : R (_, _, (.ref z14) :: [], w, 0 + mc1 + mc14, 0 + ms1 + ms14))
    iterate 5 refine hR (?_ : R (_, _, _, _, _, _))
    obtain ⟨z0_21, z2_21, z3_21, hO21, hk21_0, hk21_1, hk21_2, hk21_3, hk21_4⟩ := CI_o50 hT.1 hl16
    refine hR (c_obj hO21 (zcall_i 0 0 (Nat.le_refl _) (Nat.le_refl _) (c_all _ z1 hT.1 hl16 _ fun v18 hp20 => ?_)))
    refine (?_ : R (_, _, (.int (Int32.ofInt v18)) :: (.int (Int32.ofInt a2)) :: (.ref z1) :: (.ref z14) :: [], w, 0 + mc1 + mc14, 0 + ms1 + ms14))
    refine hR (?_ : R (_, _, _, _, _, _))
    obtain ⟨x0_24, hO24, hk24_0, hk24_1, hk24_2, hk24_3, hk24_4⟩ := CI_o60 hT.1 hz14
    refine hR (c_obj hO24 (zcall_i 0 0 (Nat.le_refl _) (Nat.le_refl _) (c_goA _ z14 z1 a2 v18 a3 hT.1 hz14 hl16 hT.2.2.1 (by omega) (by omega) (by omega) _ fun w22 hw22 g22 hp23 => ?_)))
    have fr25 := wfR_tr fr17 g22 (by decide)
    have hO26 := (g22.2 z1 (by rw [hl16]; decide)).trans hO21
    refine (?_ : R (_, _, [], w22, 0 + mc1 + mc14, 0 + ms1 + ms14))
    refine hR (?_ : R (_, _, _, _, _, _))
    obtain ⟨x0_27, hO27, hk27_0, hk27_1, hk27_2, hk27_3, hk27_4⟩ := CI_o60 hw22 hz14
    refine hR (c_get hO27 rfl ?_)
    refine hR (?_ : R (_, _, _, _, _, _))
    refine hR (c_ald hw22 (by rw [hk27_2]; rfl) (by omega) (by omega) (Nat.le_of_ble_eq_true rfl) fun v28 lv28 uv28 => ?_)
    iterate 3 refine hR (?_ : R (_, _, _, _, _, _))
    refine hR (j_eq (by omega) (by omega) (fun hc29 => ?_) (fun hc29 => ?_))
    · skip
      refine hR (?_ : R (_, _, _, _, _, _))
      obtain ⟨hTf30, hIf30, hpf30, hKf30⟩ := top_fr2 hT hw22 fr25 (by decide) hp23
      exact hR (zret_i rfl (Nat.le_refl _) trivial ⟨⟨_, hTf30, fun l m h => hIf30 _ _ (hI14 _ _ (hIt14 _ _ (hI1 _ _ (hIt1 _ _ (h))))), (KEEP2_tr hKt1 (KEEP2_tr hK1 (KEEP2_tr hKt14 (KEEP2_tr hK14 hKf30)))), (EXT_tr hx1 hx14), by omega, by omega⟩, _, rfl⟩)
    iterate 2 refine hR (?_ : R (_, _, _, _, _, _))
    refine hR (j_ne (by omega) (by omega) (fun hc31 => ?_) (fun hc31 => ?_))
    rotate_left
    · skip
      refine hR (?_ : R (_, _, _, _, _, _))
      obtain ⟨hTf40, hIf40, hpf40, hKf40⟩ := top_fr2 hT hw22 fr25 (by decide) hp23
      exact hR (zret_i rfl (Nat.le_refl _) trivial ⟨⟨_, hTf40, fun l m h => hIf40 _ _ (hI14 _ _ (hIt14 _ _ (hI1 _ _ (hIt1 _ _ (h))))), (KEEP2_tr hKt1 (KEEP2_tr hK1 (KEEP2_tr hKt14 (KEEP2_tr hK14 hKf40)))), (EXT_tr hx1 hx14), by omega, by omega⟩, _, rfl⟩)
    refine hR (?_ : R (_, _, _, _, _, _))
    refine hR (k_lt (by omega) (fun hc32 => ?_) (fun hc32 => ?_))
    · skip
      iterate 2 refine hR (?_ : R (_, _, _, _, _, _))
      obtain ⟨hTf33, hIf33, hpf33, hKf33⟩ := top_fr2 hT hw22 fr25 (by decide) hp23
      exact hR (zret_i rfl (Nat.le_refl _) trivial ⟨⟨_, hTf33, fun l m h => hIf33 _ _ (hI14 _ _ (hIt14 _ _ (hI1 _ _ (hIt1 _ _ (h))))), (KEEP2_tr hKt1 (KEEP2_tr hK1 (KEEP2_tr hKt14 (KEEP2_tr hK14 hKf33)))), (EXT_tr hx1 hx14), by omega, by omega⟩, _, rfl⟩)
    iterate 2 refine hR (?_ : R (_, _, _, _, _, _))
    refine hR (j_lt (by omega) (by omega) (fun hc34 => ?_) (fun hc34 => ?_))
    rotate_left
    · skip
      iterate 2 refine hR (?_ : R (_, _, _, _, _, _))
      obtain ⟨hTf39, hIf39, hpf39, hKf39⟩ := top_fr2 hT hw22 fr25 (by decide) hp23
      exact hR (zret_i rfl (Nat.le_refl _) trivial ⟨⟨_, hTf39, fun l m h => hIf39 _ _ (hI14 _ _ (hIt14 _ _ (hI1 _ _ (hIt1 _ _ (h))))), (KEEP2_tr hKt1 (KEEP2_tr hK1 (KEEP2_tr hKt14 (KEEP2_tr hK14 hKf39)))), (EXT_tr hx1 hx14), by omega, by omega⟩, _, rfl⟩)
    iterate 3 refine hR (?_ : R (_, _, _, _, _, _))
    refine hR (c_obj hO27 (zcall_i 0 0 (Nat.le_refl _) (Nat.le_refl _) (c_readerOnWay _ z14 a3 a4 hw22 hz14 (hp23 z14 hz14) (by omega) (by omega) _ fun v35 hp37 => ?_)))
    refine (?_ : R (_, _, (.int (Int32.ofInt v35)) :: [], w22, 0 + mc1 + mc14, 0 + ms1 + ms14))
    obtain ⟨hTf38, hIf38, hpf38, hKf38⟩ := top_fr2 hT hw22 fr25 (by decide) hp23
    exact hR (zret_i rfl (Nat.le_refl _) trivial ⟨⟨_, hTf38, fun l m h => hIf38 _ _ (hI14 _ _ (hIt14 _ _ (hI1 _ _ (hIt1 _ _ (h))))), (KEEP2_tr hKt1 (KEEP2_tr hK1 (KEEP2_tr hKt14 (KEEP2_tr hK14 hKf38)))), (EXT_tr hx1 hx14), by omega, by omega⟩, _, rfl⟩)
theorem k_ring {ρ : Nat → Nat} {w : zW} (hT : TOP ρ w) (d : Nat) (a1 a2 : Int) (hr0 : -2147483648 ≤ a1 ∧ a1 ≤ 2147483647) (hr1 : -2147483648 ≤ a2 ∧ a2 ≤ 2147483647) : DET zTab (d + 6) iX11_ring [.ref 0, .int (Int32.ofInt a1), .int (Int32.ofInt a2)] w (PB ρ w) := by
  refine z_rel (M := kX11_ring) _ rfl (Nat.le_of_ble_eq_true rfl) fun R hR0 => ?_
  have hR : ∀ {pc : Nat} {L : zL} {S : List Value} {w1 : zW} {k n : Nat}, zsc (zCl zTab (d + 5)) (d + 5) kX11_ring none zTab k n (PB ρ w k n) pc L S w1 k n R → R (pc, L, S, w1, k, n) := fun h => hR0 _ _ (Nat.le_refl _) (Nat.le_refl _) h
  have fr0 := wfR_rf [51, 60, 61, 62, 63, 64] ρ w
  iterate 2 refine hR (?_ : R (_, _, _, _, _, _))
  obtain ⟨y6_2, y7_2, hO2, hk2_0, hk2_1, hk2_2, hk2_3, hk2_4, hk2_5, hk2_6, hk2_7⟩ := CI_o1 hT.1 hT.2.1
  obtain ⟨hTt1, hIt1, hpt1, hKt1⟩ := top_fr2 hT hT.1 fr0 (by decide) hT.2.2.1
  obtain ⟨mc1, ms1, re1, w, ⟨ρ, hA1, hr_1⟩, hrun1⟩ := a_readingsAt hTt1 (d + 2) a1 (by omega)
  refine hR0 (0 + mc1) (0 + ms1) (Nat.le_add_right _ _) (Nat.le_add_right _ _) (c_obj hO2 (zcall_i mc1 ms1 (Nat.le_refl _) (Nat.le_refl _) (hrun1 _ ?_)))
  obtain ⟨hT, hI1, hK1, hx1, hm1, hs1⟩ := hA1
  have fr3 := wfR_rf [51, 60, 61, 62, 63, 64] ρ w
  rcases hr_1 with rfl | ⟨z1, rfl, hz1⟩
  · skip
    refine (?_ : R (_, _, .null :: [], w, 0 + mc1, 0 + ms1))
    iterate 4 refine hR (?_ : R (_, _, _, _, _, _))
    obtain ⟨hTf4, hIf4, hpf4, hKf4⟩ := top_fr2 hT hT.1 fr3 (by decide) hT.2.2.1
    exact hR (zret_i rfl (Nat.le_refl _) trivial ⟨⟨_, hTf4, fun l m h => hIf4 _ _ (hI1 _ _ (hIt1 _ _ (h))), (KEEP2_tr hKt1 (KEEP2_tr hK1 hKf4)), hx1, by omega, by omega⟩, _, rfl⟩)
  · skip
    refine (?_ : R (_, _, (.ref z1) :: [], w, 0 + mc1, 0 + ms1))
    iterate 4 refine hR (?_ : R (_, _, _, _, _, _))
    refine hR (zcall_i 0 0 (Nat.le_refl _) (Nat.le_refl _) (c_isText _ _ a2 (by omega) _ fun v5 hp7 => ?_))
    refine (?_ : R (_, _, (.int (Int32.ofInt v5)) :: [], w, 0 + mc1, 0 + ms1))
    refine hR (k_ne (by omega) (fun hc8 => ?_) (fun hc8 => ?_))
    rotate_left
    · skip
      refine hR (?_ : R (_, _, _, _, _, _))
      obtain ⟨hTf31, hIf31, hpf31, hKf31⟩ := top_fr2 hT hT.1 fr3 (by decide) hT.2.2.1
      exact hR (zret_i rfl (Nat.le_refl _) trivial ⟨⟨_, hTf31, fun l m h => hIf31 _ _ (hI1 _ _ (hIt1 _ _ (h))), (KEEP2_tr hKt1 (KEEP2_tr hK1 hKf31)), hx1, by omega, by omega⟩, _, rfl⟩)
    iterate 2 refine hR (?_ : R (_, _, _, _, _, _))
    obtain ⟨y6_10, y7_10, hO10, hk10_0, hk10_1, hk10_2, hk10_3, hk10_4, hk10_5, hk10_6, hk10_7⟩ := CI_o1 hT.1 hT.2.1
    obtain ⟨hTt9, hIt9, hpt9, hKt9⟩ := top_fr2 hT hT.1 fr3 (by decide) hT.2.2.1
    obtain ⟨mc9, ms9, re9, w, ⟨ρ, z9, hA9, hre9, hz9⟩, hrun9⟩ := a_walkAt hTt9 (d + 2) 0 (by omega)
    subst hre9
    refine hR0 (0 + mc1 + mc9) (0 + ms1 + ms9) (Nat.le_add_right _ _) (Nat.le_add_right _ _) (c_obj hO10 (zcall_i mc9 ms9 (Nat.le_refl _) (Nat.le_refl _) (hrun9 _ ?_)))
    obtain ⟨hT, hI9, hK9, hx9, hm9, hs9⟩ := hA9
    have hl11 : ρ z1 = 50 := (hx9 z1 (by rw [hz1]; decide)).trans hz1
    have fr12 := wfR_rf [51, 60, 61, 62, 63, 64] ρ w
    refine (?_ : R (_, _, (.ref z9) :: [], w, 0 + mc1 + mc9, 0 + ms1 + ms9))
    iterate 5 refine hR (?_ : R (_, _, _, _, _, _))
    obtain ⟨z0_16, z2_16, z3_16, hO16, hk16_0, hk16_1, hk16_2, hk16_3, hk16_4⟩ := CI_o50 hT.1 hl11
    refine hR (c_obj hO16 (zcall_i 0 0 (Nat.le_refl _) (Nat.le_refl _) (c_all _ z1 hT.1 hl11 _ fun v13 hp15 => ?_)))
    refine (?_ : R (_, _, (.int (Int32.ofInt v13)) :: (.int (Int32.ofInt a2)) :: (.ref z1) :: (.ref z9) :: [], w, 0 + mc1 + mc9, 0 + ms1 + ms9))
    refine hR (?_ : R (_, _, _, _, _, _))
    obtain ⟨x0_19, hO19, hk19_0, hk19_1, hk19_2, hk19_3, hk19_4⟩ := CI_o60 hT.1 hz9
    refine hR (c_obj hO19 (zcall_i 0 0 (Nat.le_refl _) (Nat.le_refl _) (c_goA _ z9 z1 a2 v13 ((-1)) hT.1 hz9 hl11 hT.2.2.1 (by omega) (by omega) (by omega) _ fun w17 hw17 g17 hp18 => ?_)))
    have fr20 := wfR_tr fr12 g17 (by decide)
    have hO21 := (g17.2 z1 (by rw [hl11]; decide)).trans hO16
    refine (?_ : R (_, _, [], w17, 0 + mc1 + mc9, 0 + ms1 + ms9))
    iterate 3 refine hR (?_ : R (_, _, _, _, _, _))
    obtain ⟨x0_25, hO25, hk25_0, hk25_1, hk25_2, hk25_3, hk25_4⟩ := CI_o60 hw17 hz9
    refine hR (c_obj hO25 (zcall_i 0 0 (Nat.le_refl _) (Nat.le_refl _) (c_wayBack _ z9 z1 a2 hw17 hz9 hl11 (by omega) _ fun v22 w23 hw23 g23 hp24 => ?_)))
    have fr26 := wfR_tr fr20 g23 (by decide)
    have hO27 := (g23.2 z1 (by rw [hl11]; decide)).trans hO21
    have hO28 := (g23.2 z9 (by rw [hz9]; decide)).trans hO25
    refine (?_ : R (_, _, (.int (Int32.ofInt v22)) :: [], w23, 0 + mc1 + mc9, 0 + ms1 + ms9))
    have aw29 := AWK_fr hw17 g23 hp18 (by decide)
    obtain ⟨hTf30, hIf30, hpf30, hKf30⟩ := top_fr2 hT hw23 fr26 (by decide) aw29
    exact hR (zret_i rfl (Nat.le_refl _) trivial ⟨⟨_, hTf30, fun l m h => hIf30 _ _ (hI9 _ _ (hIt9 _ _ (hI1 _ _ (hIt1 _ _ (h))))), (KEEP2_tr hKt1 (KEEP2_tr hK1 (KEEP2_tr hKt9 (KEEP2_tr hK9 hKf30)))), (EXT_tr hx1 hx9), by omega, by omega⟩, _, rfl⟩)
theorem k_reach {ρ : Nat → Nat} {w : zW} (hT : TOP ρ w) (d : Nat) (a1 a2 a3 : Int) (hr0 : -2147483648 ≤ a1 ∧ a1 ≤ 2147483647) (hr1 : -2147483648 ≤ a2 ∧ a2 ≤ 2147483647) (hr2 : -2147483648 ≤ a3 ∧ a3 ≤ 2147483647) : DET zTab (d + 6) iX11_reach [.ref 0, .int (Int32.ofInt a1), .int (Int32.ofInt a2), .int (Int32.ofInt a3)] w (PB ρ w) := by
  refine z_rel (M := kX11_reach) _ rfl (Nat.le_of_ble_eq_true rfl) fun R hR0 => ?_
  have hR : ∀ {pc : Nat} {L : zL} {S : List Value} {w1 : zW} {k n : Nat}, zsc (zCl zTab (d + 5)) (d + 5) kX11_reach none zTab k n (PB ρ w k n) pc L S w1 k n R → R (pc, L, S, w1, k, n) := fun h => hR0 _ _ (Nat.le_refl _) (Nat.le_refl _) h
  have fr0 := wfR_rf [51, 60, 61, 62, 63, 64] ρ w
  iterate 2 refine hR (?_ : R (_, _, _, _, _, _))
  obtain ⟨y6_2, y7_2, hO2, hk2_0, hk2_1, hk2_2, hk2_3, hk2_4, hk2_5, hk2_6, hk2_7⟩ := CI_o1 hT.1 hT.2.1
  obtain ⟨hTt1, hIt1, hpt1, hKt1⟩ := top_fr2 hT hT.1 fr0 (by decide) hT.2.2.1
  obtain ⟨mc1, ms1, re1, w, ⟨ρ, hA1, hr_1⟩, hrun1⟩ := a_readingsAt hTt1 (d + 2) a1 (by omega)
  refine hR0 (0 + mc1) (0 + ms1) (Nat.le_add_right _ _) (Nat.le_add_right _ _) (c_obj hO2 (zcall_i mc1 ms1 (Nat.le_refl _) (Nat.le_refl _) (hrun1 _ ?_)))
  obtain ⟨hT, hI1, hK1, hx1, hm1, hs1⟩ := hA1
  have fr3 := wfR_rf [51, 60, 61, 62, 63, 64] ρ w
  rcases hr_1 with rfl | ⟨z1, rfl, hz1⟩
  · skip
    refine (?_ : R (_, _, .null :: [], w, 0 + mc1, 0 + ms1))
    iterate 4 refine hR (?_ : R (_, _, _, _, _, _))
    obtain ⟨hTf4, hIf4, hpf4, hKf4⟩ := top_fr2 hT hT.1 fr3 (by decide) hT.2.2.1
    exact hR (zret_i rfl (Nat.le_refl _) trivial ⟨⟨_, hTf4, fun l m h => hIf4 _ _ (hI1 _ _ (hIt1 _ _ (h))), (KEEP2_tr hKt1 (KEEP2_tr hK1 hKf4)), hx1, by omega, by omega⟩, _, rfl⟩)
  · skip
    refine (?_ : R (_, _, (.ref z1) :: [], w, 0 + mc1, 0 + ms1))
    iterate 4 refine hR (?_ : R (_, _, _, _, _, _))
    refine hR (zcall_i 0 0 (Nat.le_refl _) (Nat.le_refl _) (c_isText _ _ a2 (by omega) _ fun v5 hp7 => ?_))
    refine (?_ : R (_, _, (.int (Int32.ofInt v5)) :: [], w, 0 + mc1, 0 + ms1))
    refine hR (k_ne (by omega) (fun hc8 => ?_) (fun hc8 => ?_))
    rotate_left
    · skip
      refine hR (?_ : R (_, _, _, _, _, _))
      obtain ⟨hTf29, hIf29, hpf29, hKf29⟩ := top_fr2 hT hT.1 fr3 (by decide) hT.2.2.1
      exact hR (zret_i rfl (Nat.le_refl _) trivial ⟨⟨_, hTf29, fun l m h => hIf29 _ _ (hI1 _ _ (hIt1 _ _ (h))), (KEEP2_tr hKt1 (KEEP2_tr hK1 hKf29)), hx1, by omega, by omega⟩, _, rfl⟩)
    iterate 2 refine hR (?_ : R (_, _, _, _, _, _))
    obtain ⟨y6_10, y7_10, hO10, hk10_0, hk10_1, hk10_2, hk10_3, hk10_4, hk10_5, hk10_6, hk10_7⟩ := CI_o1 hT.1 hT.2.1
    obtain ⟨hTt9, hIt9, hpt9, hKt9⟩ := top_fr2 hT hT.1 fr3 (by decide) hT.2.2.1
    obtain ⟨mc9, ms9, re9, w, ⟨ρ, z9, hA9, hre9, hz9⟩, hrun9⟩ := a_walkAt hTt9 (d + 2) 0 (by omega)
    subst hre9
    refine hR0 (0 + mc1 + mc9) (0 + ms1 + ms9) (Nat.le_add_right _ _) (Nat.le_add_right _ _) (c_obj hO10 (zcall_i mc9 ms9 (Nat.le_refl _) (Nat.le_refl _) (hrun9 _ ?_)))
    obtain ⟨hT, hI9, hK9, hx9, hm9, hs9⟩ := hA9
    have hl11 : ρ z1 = 50 := (hx9 z1 (by rw [hz1]; decide)).trans hz1
    have fr12 := wfR_rf [51, 60, 61, 62, 63, 64] ρ w
    refine (?_ : R (_, _, (.ref z9) :: [], w, 0 + mc1 + mc9, 0 + ms1 + ms9))
    iterate 5 refine hR (?_ : R (_, _, _, _, _, _))
    obtain ⟨z0_16, z2_16, z3_16, hO16, hk16_0, hk16_1, hk16_2, hk16_3, hk16_4⟩ := CI_o50 hT.1 hl11
    refine hR (c_obj hO16 (zcall_i 0 0 (Nat.le_refl _) (Nat.le_refl _) (c_all _ z1 hT.1 hl11 _ fun v13 hp15 => ?_)))
    refine (?_ : R (_, _, (.int (Int32.ofInt v13)) :: (.int (Int32.ofInt a2)) :: (.ref z1) :: (.ref z9) :: [], w, 0 + mc1 + mc9, 0 + ms1 + ms9))
    refine hR (?_ : R (_, _, _, _, _, _))
    obtain ⟨x0_19, hO19, hk19_0, hk19_1, hk19_2, hk19_3, hk19_4⟩ := CI_o60 hT.1 hz9
    refine hR (c_obj hO19 (zcall_i 0 0 (Nat.le_refl _) (Nat.le_refl _) (c_goA _ z9 z1 a2 v13 ((-1)) hT.1 hz9 hl11 hT.2.2.1 (by omega) (by omega) (by omega) _ fun w17 hw17 g17 hp18 => ?_)))
    have fr20 := wfR_tr fr12 g17 (by decide)
    have hO21 := (g17.2 z1 (by rw [hl11]; decide)).trans hO16
    refine (?_ : R (_, _, [], w17, 0 + mc1 + mc9, 0 + ms1 + ms9))
    refine hR (?_ : R (_, _, _, _, _, _))
    refine hR (k_eq (by omega) (fun hc22 => ?_) (fun hc22 => ?_))
    · skip
      refine hR (?_ : R (_, _, _, _, _, _))
      obtain ⟨x0_23, hO23, hk23_0, hk23_1, hk23_2, hk23_3, hk23_4⟩ := CI_o60 hw17 hz9
      refine hR (c_get hO23 rfl ?_)
      obtain ⟨hTf24, hIf24, hpf24, hKf24⟩ := top_fr2 hT hw17 fr20 (by decide) hp18
      exact hR (zret_i rfl (Nat.le_refl _) trivial ⟨⟨_, hTf24, fun l m h => hIf24 _ _ (hI9 _ _ (hIt9 _ _ (hI1 _ _ (hIt1 _ _ (h))))), (KEEP2_tr hKt1 (KEEP2_tr hK1 (KEEP2_tr hKt9 (KEEP2_tr hK9 hKf24)))), (EXT_tr hx1 hx9), by omega, by omega⟩, _, rfl⟩)
    refine hR (?_ : R (_, _, _, _, _, _))
    obtain ⟨x0_27, hO27, hk27_0, hk27_1, hk27_2, hk27_3, hk27_4⟩ := CI_o60 hw17 hz9
    refine hR (c_obj hO27 (zcall_i 0 0 (Nat.le_refl _) (Nat.le_refl _) (c_farthest _ z9 hw17 hz9 _ fun v25 => ?_)))
    refine (?_ : R (_, _, (.int (Int32.ofInt v25)) :: [], w17, 0 + mc1 + mc9, 0 + ms1 + ms9))
    refine hR (?_ : R (_, _, _, _, _, _))
    obtain ⟨hTf28, hIf28, hpf28, hKf28⟩ := top_fr2 hT hw17 fr20 (by decide) hp18
    exact hR (zret_i rfl (Nat.le_refl _) trivial ⟨⟨_, hTf28, fun l m h => hIf28 _ _ (hI9 _ _ (hIt9 _ _ (hI1 _ _ (hIt1 _ _ (h))))), (KEEP2_tr hKt1 (KEEP2_tr hK1 (KEEP2_tr hKt9 (KEEP2_tr hK9 hKf28)))), (EXT_tr hx1 hx9), by omega, by omega⟩, _, rfl⟩)
theorem k_sound {ρ : Nat → Nat} {w : zW} (hT : TOP ρ w) (d : Nat) (a1 a2 : Int) (hr0 : -2147483648 ≤ a1 ∧ a1 ≤ 2147483647) (hr1 : -2147483648 ≤ a2 ∧ a2 ≤ 2147483647) : DET zTab (d + 7) iX11_sound [.ref 0, .int (Int32.ofInt a1), .int (Int32.ofInt a2)] w (PB ρ w) := by
  refine z_rel (M := kX11_sound) _ rfl (Nat.le_of_ble_eq_true rfl) fun R hR0 => ?_
  have hR : ∀ {pc : Nat} {L : zL} {S : List Value} {w1 : zW} {k n : Nat}, zsc (zCl zTab (d + 6)) (d + 6) kX11_sound none zTab k n (PB ρ w k n) pc L S w1 k n R → R (pc, L, S, w1, k, n) := fun h => hR0 _ _ (Nat.le_refl _) (Nat.le_refl _) h
  have fr0 := wfR_rf [51] ρ w
  iterate 2 refine hR (?_ : R (_, _, _, _, _, _))
  obtain ⟨y6_2, y7_2, hO2, hk2_0, hk2_1, hk2_2, hk2_3, hk2_4, hk2_5, hk2_6, hk2_7⟩ := CI_o1 hT.1 hT.2.1
  obtain ⟨hTt1, hIt1, hpt1, hKt1⟩ := top_fr2 hT hT.1 fr0 (by decide) hT.2.2.1
  obtain ⟨mc1, ms1, re1, w, ⟨ρ, hA1, hr_1⟩, hrun1⟩ := a_readingsAt hTt1 (d + 3) a1 (by omega)
  refine hR0 (0 + mc1) (0 + ms1) (Nat.le_add_right _ _) (Nat.le_add_right _ _) (c_obj hO2 (zcall_i mc1 ms1 (Nat.le_refl _) (Nat.le_refl _) (hrun1 _ ?_)))
  obtain ⟨hT, hI1, hK1, hx1, hm1, hs1⟩ := hA1
  have fr3 := wfR_rf [51] ρ w
  rcases hr_1 with rfl | ⟨z1, rfl, hz1⟩
  · skip
    refine (?_ : R (_, _, .null :: [], w, 0 + mc1, 0 + ms1))
    iterate 5 refine hR (?_ : R (_, _, _, _, _, _))
    obtain ⟨hTf4, hIf4, hpf4, hKf4⟩ := top_fr2 hT hT.1 fr3 (by decide) hT.2.2.1
    exact hR (zret_i rfl (Nat.le_refl _) trivial ⟨⟨_, hTf4, fun l m h => hIf4 _ _ (hI1 _ _ (hIt1 _ _ (h))), (KEEP2_tr hKt1 (KEEP2_tr hK1 hKf4)), hx1, by omega, by omega⟩, _, rfl⟩)
  · skip
    refine (?_ : R (_, _, (.ref z1) :: [], w, 0 + mc1, 0 + ms1))
    iterate 4 refine hR (?_ : R (_, _, _, _, _, _))
    obtain ⟨z0_5, z2_5, z3_5, hO5, hk5_0, hk5_1, hk5_2, hk5_3, hk5_4⟩ := CI_o50 hT.1 hz1
    refine hR (c_get hO5 rfl ?_)
    refine hR (?_ : R (_, _, _, _, _, _))
    obtain ⟨x0_9, x1_9, x2_9, hO9, hk9_0, hk9_1, hk9_2, hk9_3, hk9_4, hk9_5, hk9_6⟩ := CI_o20 hT.1 hk5_0
    refine hR (c_obj hO9 (zcall_i 0 0 (Nat.le_refl _) (Nat.le_refl _) (c_hasReaders _ z0_5 a2 hT.1 hk5_0 (by omega) _ fun v6 hp8 => ?_)))
    refine (?_ : R (_, _, (.int (Int32.ofInt v6)) :: [], w, 0 + mc1, 0 + ms1))
    refine hR (k_ne (by omega) (fun hc10 => ?_) (fun hc10 => ?_))
    rotate_left
    · skip
      iterate 2 refine hR (?_ : R (_, _, _, _, _, _))
      obtain ⟨hTf18, hIf18, hpf18, hKf18⟩ := top_fr2 hT hT.1 fr3 (by decide) hT.2.2.1
      exact hR (zret_i rfl (Nat.le_refl _) trivial ⟨⟨_, hTf18, fun l m h => hIf18 _ _ (hI1 _ _ (hIt1 _ _ (h))), (KEEP2_tr hKt1 (KEEP2_tr hK1 hKf18)), hx1, by omega, by omega⟩, _, rfl⟩)
    iterate 2 refine hR (?_ : R (_, _, _, _, _, _))
    refine hR (c_obj hO5 (zcall_i 0 0 (Nat.le_refl _) (Nat.le_refl _) (c_unchangedBy _ z1 a2 hT.1 hz1 (by omega) _ fun v11 w12 hw12 g12 => ?_)))
    have fr13 := wfR_tr fr3 g12 (by decide)
    have hO14 := (g12.2 z1 (by rw [hz1]; decide)).trans hO5
    have hO15 := (g12.2 z0_5 (by rw [hk5_0]; decide)).trans hO9
    refine (?_ : R (_, _, (.int (Int32.ofInt v11)) :: [], w12, 0 + mc1, 0 + ms1))
    have aw16 := AWK_fr hT.1 g12 hT.2.2.1 (by decide)
    obtain ⟨hTf17, hIf17, hpf17, hKf17⟩ := top_fr2 hT hw12 fr13 (by decide) aw16
    exact hR (zret_i rfl (Nat.le_refl _) trivial ⟨⟨_, hTf17, fun l m h => hIf17 _ _ (hI1 _ _ (hIt1 _ _ (h))), (KEEP2_tr hKt1 (KEEP2_tr hK1 hKf17)), hx1, by omega, by omega⟩, _, rfl⟩)
theorem k_like {ρ : Nat → Nat} {w : zW} (hT : TOP ρ w) (d : Nat) (a1 a2 a3 : Int) (hr0 : -2147483648 ≤ a1 ∧ a1 ≤ 2147483647) (hr1 : -2147483648 ≤ a2 ∧ a2 ≤ 2147483647) (hr2 : -2147483648 ≤ a3 ∧ a3 ≤ 2147483647) : DET zTab (d + 6) iX11_like [.ref 0, .int (Int32.ofInt a1), .int (Int32.ofInt a2), .int (Int32.ofInt a3)] w (PB ρ w) := by
  refine z_rel (M := kX11_like) _ rfl (Nat.le_of_ble_eq_true rfl) fun R hR0 => ?_
  have hR : ∀ {pc : Nat} {L : zL} {S : List Value} {w1 : zW} {k n : Nat}, zsc (zCl zTab (d + 5)) (d + 5) kX11_like none zTab k n (PB ρ w k n) pc L S w1 k n R → R (pc, L, S, w1, k, n) := fun h => hR0 _ _ (Nat.le_refl _) (Nat.le_refl _) h
  have fr0 := wfR_rf [51] ρ w
  iterate 2 refine hR (?_ : R (_, _, _, _, _, _))
  obtain ⟨y6_2, y7_2, hO2, hk2_0, hk2_1, hk2_2, hk2_3, hk2_4, hk2_5, hk2_6, hk2_7⟩ := CI_o1 hT.1 hT.2.1
  obtain ⟨hTt1, hIt1, hpt1, hKt1⟩ := top_fr2 hT hT.1 fr0 (by decide) hT.2.2.1
  obtain ⟨mc1, ms1, re1, w, ⟨ρ, hA1, hr_1⟩, hrun1⟩ := a_readingsAt hTt1 (d + 2) a1 (by omega)
  refine hR0 (0 + mc1) (0 + ms1) (Nat.le_add_right _ _) (Nat.le_add_right _ _) (c_obj hO2 (zcall_i mc1 ms1 (Nat.le_refl _) (Nat.le_refl _) (hrun1 _ ?_)))
  obtain ⟨hT, hI1, hK1, hx1, hm1, hs1⟩ := hA1
  have fr3 := wfR_rf [51] ρ w
  rcases hr_1 with rfl | ⟨z1, rfl, hz1⟩
  · skip
    refine (?_ : R (_, _, .null :: [], w, 0 + mc1, 0 + ms1))
    iterate 4 refine hR (?_ : R (_, _, _, _, _, _))
    obtain ⟨hTf4, hIf4, hpf4, hKf4⟩ := top_fr2 hT hT.1 fr3 (by decide) hT.2.2.1
    exact hR (zret_i rfl (Nat.le_refl _) trivial ⟨⟨_, hTf4, fun l m h => hIf4 _ _ (hI1 _ _ (hIt1 _ _ (h))), (KEEP2_tr hKt1 (KEEP2_tr hK1 hKf4)), hx1, by omega, by omega⟩, _, rfl⟩)
  · skip
    refine (?_ : R (_, _, (.ref z1) :: [], w, 0 + mc1, 0 + ms1))
    iterate 4 refine hR (?_ : R (_, _, _, _, _, _))
    obtain ⟨z0_5, z2_5, z3_5, hO5, hk5_0, hk5_1, hk5_2, hk5_3, hk5_4⟩ := CI_o50 hT.1 hz1
    refine hR (c_get hO5 rfl ?_)
    refine hR (?_ : R (_, _, _, _, _, _))
    obtain ⟨x0_9, x1_9, x2_9, hO9, hk9_0, hk9_1, hk9_2, hk9_3, hk9_4, hk9_5, hk9_6⟩ := CI_o20 hT.1 hk5_0
    refine hR (c_obj hO9 (zcall_i 0 0 (Nat.le_refl _) (Nat.le_refl _) (c_hasReader _ z0_5 a2 hT.1 hk5_0 (by omega) _ fun v6 hp8 => ?_)))
    refine (?_ : R (_, _, (.int (Int32.ofInt v6)) :: [], w, 0 + mc1, 0 + ms1))
    refine hR (k_eq (by omega) (fun hc10 => ?_) (fun hc10 => ?_))
    · skip
      refine hR (?_ : R (_, _, _, _, _, _))
      obtain ⟨hTf11, hIf11, hpf11, hKf11⟩ := top_fr2 hT hT.1 fr3 (by decide) hT.2.2.1
      exact hR (zret_i rfl (Nat.le_refl _) trivial ⟨⟨_, hTf11, fun l m h => hIf11 _ _ (hI1 _ _ (hIt1 _ _ (h))), (KEEP2_tr hKt1 (KEEP2_tr hK1 hKf11)), hx1, by omega, by omega⟩, _, rfl⟩)
    refine hR (?_ : R (_, _, _, _, _, _))
    refine hR (c_get hO5 rfl ?_)
    refine hR (?_ : R (_, _, _, _, _, _))
    refine hR (c_obj hO9 (zcall_i 0 0 (Nat.le_refl _) (Nat.le_refl _) (c_hasReader _ z0_5 a3 hT.1 hk5_0 (by omega) _ fun v12 hp14 => ?_)))
    refine (?_ : R (_, _, (.int (Int32.ofInt v12)) :: [], w, 0 + mc1, 0 + ms1))
    refine hR (k_ne (by omega) (fun hc15 => ?_) (fun hc15 => ?_))
    rotate_left
    · skip
      refine hR (?_ : R (_, _, _, _, _, _))
      obtain ⟨hTf23, hIf23, hpf23, hKf23⟩ := top_fr2 hT hT.1 fr3 (by decide) hT.2.2.1
      exact hR (zret_i rfl (Nat.le_refl _) trivial ⟨⟨_, hTf23, fun l m h => hIf23 _ _ (hI1 _ _ (hIt1 _ _ (h))), (KEEP2_tr hKt1 (KEEP2_tr hK1 hKf23)), hx1, by omega, by omega⟩, _, rfl⟩)
    iterate 3 refine hR (?_ : R (_, _, _, _, _, _))
    refine hR (c_obj hO5 (zcall_i 0 0 (Nat.le_refl _) (Nat.le_refl _) (c_alikeEitherWay _ z1 a2 a3 hT.1 hz1 (by omega) (by omega) _ fun v16 w17 hw17 g17 => ?_)))
    have fr18 := wfR_tr fr3 g17 (by decide)
    have hO19 := (g17.2 z1 (by rw [hz1]; decide)).trans hO5
    have hO20 := (g17.2 z0_5 (by rw [hk5_0]; decide)).trans hO9
    refine (?_ : R (_, _, (.int (Int32.ofInt v16)) :: [], w17, 0 + mc1, 0 + ms1))
    have aw21 := AWK_fr hT.1 g17 hT.2.2.1 (by decide)
    obtain ⟨hTf22, hIf22, hpf22, hKf22⟩ := top_fr2 hT hw17 fr18 (by decide) aw21
    exact hR (zret_i rfl (Nat.le_refl _) trivial ⟨⟨_, hTf22, fun l m h => hIf22 _ _ (hI1 _ _ (hIt1 _ _ (h))), (KEEP2_tr hKt1 (KEEP2_tr hK1 hKf22)), hx1, by omega, by omega⟩, _, rfl⟩)
theorem k_orbits {ρ : Nat → Nat} {w : zW} (hT : TOP ρ w) (d : Nat) (a1 a2 a3 : Int) (hr0 : -2147483648 ≤ a1 ∧ a1 ≤ 2147483647) (hr1 : -2147483648 ≤ a2 ∧ a2 ≤ 2147483647) (hr2 : -2147483648 ≤ a3 ∧ a3 ≤ 2147483647) : DET zTab (d + 7) iX11_orbits [.ref 0, .int (Int32.ofInt a1), .int (Int32.ofInt a2), .int (Int32.ofInt a3)] w (PB ρ w) := by
  refine z_rel (M := kX11_orbits) _ rfl (Nat.le_of_ble_eq_true rfl) fun R hR0 => ?_
  have hR : ∀ {pc : Nat} {L : zL} {S : List Value} {w1 : zW} {k n : Nat}, zsc (zCl zTab (d + 6)) (d + 6) kX11_orbits none zTab k n (PB ρ w k n) pc L S w1 k n R → R (pc, L, S, w1, k, n) := fun h => hR0 _ _ (Nat.le_refl _) (Nat.le_refl _) h
  have fr0 := wfR_rf [51, 80, 81, 82, 83, 84] ρ w
  iterate 2 refine hR (?_ : R (_, _, _, _, _, _))
  obtain ⟨y6_2, y7_2, hO2, hk2_0, hk2_1, hk2_2, hk2_3, hk2_4, hk2_5, hk2_6, hk2_7⟩ := CI_o1 hT.1 hT.2.1
  obtain ⟨hTt1, hIt1, hpt1, hKt1⟩ := top_fr2 hT hT.1 fr0 (by decide) hT.2.2.1
  obtain ⟨mc1, ms1, re1, w, ⟨ρ, hA1, hr_1⟩, hrun1⟩ := a_readingsAt hTt1 (d + 3) a1 (by omega)
  refine hR0 (0 + mc1) (0 + ms1) (Nat.le_add_right _ _) (Nat.le_add_right _ _) (c_obj hO2 (zcall_i mc1 ms1 (Nat.le_refl _) (Nat.le_refl _) (hrun1 _ ?_)))
  obtain ⟨hT, hI1, hK1, hx1, hm1, hs1⟩ := hA1
  have fr3 := wfR_rf [51, 80, 81, 82, 83, 84] ρ w
  rcases hr_1 with rfl | ⟨z1, rfl, hz1⟩
  · skip
    refine (?_ : R (_, _, .null :: [], w, 0 + mc1, 0 + ms1))
    iterate 4 refine hR (?_ : R (_, _, _, _, _, _))
    obtain ⟨hTf4, hIf4, hpf4, hKf4⟩ := top_fr2 hT hT.1 fr3 (by decide) hT.2.2.1
    exact hR (zret_i rfl (Nat.le_refl _) trivial ⟨⟨_, hTf4, fun l m h => hIf4 _ _ (hI1 _ _ (hIt1 _ _ (h))), (KEEP2_tr hKt1 (KEEP2_tr hK1 hKf4)), hx1, by omega, by omega⟩, _, rfl⟩)
  · skip
    refine (?_ : R (_, _, (.ref z1) :: [], w, 0 + mc1, 0 + ms1))
    iterate 4 refine hR (?_ : R (_, _, _, _, _, _))
    obtain ⟨z0_5, z2_5, z3_5, hO5, hk5_0, hk5_1, hk5_2, hk5_3, hk5_4⟩ := CI_o50 hT.1 hz1
    refine hR (c_get hO5 rfl ?_)
    refine hR (?_ : R (_, _, _, _, _, _))
    obtain ⟨x0_9, x1_9, x2_9, hO9, hk9_0, hk9_1, hk9_2, hk9_3, hk9_4, hk9_5, hk9_6⟩ := CI_o20 hT.1 hk5_0
    refine hR (c_obj hO9 (zcall_i 0 0 (Nat.le_refl _) (Nat.le_refl _) (c_hasReader _ z0_5 a2 hT.1 hk5_0 (by omega) _ fun v6 hp8 => ?_)))
    refine (?_ : R (_, _, (.int (Int32.ofInt v6)) :: [], w, 0 + mc1, 0 + ms1))
    refine hR (k_eq (by omega) (fun hc10 => ?_) (fun hc10 => ?_))
    · skip
      refine hR (?_ : R (_, _, _, _, _, _))
      obtain ⟨hTf11, hIf11, hpf11, hKf11⟩ := top_fr2 hT hT.1 fr3 (by decide) hT.2.2.1
      exact hR (zret_i rfl (Nat.le_refl _) trivial ⟨⟨_, hTf11, fun l m h => hIf11 _ _ (hI1 _ _ (hIt1 _ _ (h))), (KEEP2_tr hKt1 (KEEP2_tr hK1 hKf11)), hx1, by omega, by omega⟩, _, rfl⟩)
    refine hR (?_ : R (_, _, _, _, _, _))
    refine hR (k_lt (by omega) (fun hc12 => ?_) (fun hc12 => ?_))
    · skip
      refine hR (?_ : R (_, _, _, _, _, _))
      obtain ⟨hTf13, hIf13, hpf13, hKf13⟩ := top_fr2 hT hT.1 fr3 (by decide) hT.2.2.1
      exact hR (zret_i rfl (Nat.le_refl _) trivial ⟨⟨_, hTf13, fun l m h => hIf13 _ _ (hI1 _ _ (hIt1 _ _ (h))), (KEEP2_tr hKt1 (KEEP2_tr hK1 hKf13)), hx1, by omega, by omega⟩, _, rfl⟩)
    refine hR (?_ : R (_, _, _, _, _, _))
    refine hR (t_c 6 (by decide) ?_)
    refine hR (j_lt (by omega) (by omega) (fun hc14 => ?_) (fun hc14 => ?_))
    rotate_left
    · skip
      refine hR (?_ : R (_, _, _, _, _, _))
      obtain ⟨hTf26, hIf26, hpf26, hKf26⟩ := top_fr2 hT hT.1 fr3 (by decide) hT.2.2.1
      exact hR (zret_i rfl (Nat.le_refl _) trivial ⟨⟨_, hTf26, fun l m h => hIf26 _ _ (hI1 _ _ (hIt1 _ _ (h))), (KEEP2_tr hKt1 (KEEP2_tr hK1 hKf26)), hx1, by omega, by omega⟩, _, rfl⟩)
    refine hR (?_ : R (_, _, _, _, _, _))
    obtain ⟨y6_16, y7_16, hO16, hk16_0, hk16_1, hk16_2, hk16_3, hk16_4, hk16_5, hk16_6, hk16_7⟩ := CI_o1 hT.1 hT.2.1
    obtain ⟨hTt15, hIt15, hpt15, hKt15⟩ := top_fr2 hT hT.1 fr3 (by decide) hT.2.2.1
    obtain ⟨mc15, ms15, re15, w, ⟨ρ, z15, hA15, hre15, hz15⟩, hrun15⟩ := a_ringsThere hTt15 (d + 3)
    subst hre15
    refine hR0 (0 + mc1 + mc15) (0 + ms1 + ms15) (Nat.le_add_right _ _) (Nat.le_add_right _ _) (c_obj hO16 (zcall_i mc15 ms15 (Nat.le_refl _) (Nat.le_refl _) (hrun15 _ ?_)))
    obtain ⟨hT, hI15, hK15, hx15, hm15, hs15⟩ := hA15
    have hl17 : ρ z1 = 50 := (hx15 z1 (by rw [hz1]; decide)).trans hz1
    have fr18 := wfR_rf [51, 80, 81, 82, 83, 84] ρ w
    refine (?_ : R (_, _, (.ref z15) :: [], w, 0 + mc1 + mc15, 0 + ms1 + ms15))
    iterate 4 refine hR (?_ : R (_, _, _, _, _, _))
    obtain ⟨x1_20, x2_20, x3_20, x4_20, x5_20, hO20, hk20_0, hk20_1, hk20_2, hk20_3, hk20_4, hk20_5, hk20_6, hk20_7, hk20_8, hk20_9, hk20_10, hk20_11, hk20_12, hk20_13, hk20_14⟩ := CI_o80 hT.1 hz15
    refine hR (c_obj hO20 (zcall_i 0 0 (Nat.le_refl _) (Nat.le_refl _) (c_findOrbits _ z15 z1 a2 hT.1 hz15 hl17 (by omega) _ fun w19 hw19 g19 => ?_)))
    have fr21 := wfR_tr fr18 g19 (by decide)
    have hO22 := (g19.2 z15 (by rw [hz15]; decide)).trans hO20
    refine (?_ : R (_, _, [], w19, 0 + mc1 + mc15, 0 + ms1 + ms15))
    have aw23 := AWK_fr hT.1 g19 hT.2.2.1 (by decide)
    refine hR (?_ : R (_, _, _, _, _, _))
    refine hR (c_get hO22 rfl ?_)
    refine hR (?_ : R (_, _, _, _, _, _))
    refine hR (c_ald hw19 (by rw [hk20_0]; rfl) (by omega) (by omega) (Nat.le_of_ble_eq_true rfl) fun v24 lv24 uv24 => ?_)
    obtain ⟨hTf25, hIf25, hpf25, hKf25⟩ := top_fr2 hT hw19 fr21 (by decide) aw23
    exact hR (zret_i rfl (Nat.le_refl _) trivial ⟨⟨_, hTf25, fun l m h => hIf25 _ _ (hI15 _ _ (hIt15 _ _ (hI1 _ _ (hIt1 _ _ (h))))), (KEEP2_tr hKt1 (KEEP2_tr hK1 (KEEP2_tr hKt15 (KEEP2_tr hK15 hKf25)))), (EXT_tr hx1 hx15), by omega, by omega⟩, _, rfl⟩)
theorem k_elders {ρ : Nat → Nat} {w : zW} (hT : TOP ρ w) (d : Nat) (a1 a2 a3 a4 : Int) (hr0 : -2147483648 ≤ a1 ∧ a1 ≤ 2147483647) (hr1 : -2147483648 ≤ a2 ∧ a2 ≤ 2147483647) (hr2 : -2147483648 ≤ a3 ∧ a3 ≤ 2147483647) (hr3 : -2147483648 ≤ a4 ∧ a4 ≤ 2147483647) : DET zTab (d + 7) iX11_elders [.ref 0, .int (Int32.ofInt a1), .int (Int32.ofInt a2), .int (Int32.ofInt a3), .int (Int32.ofInt a4)] w (PB ρ w) := by
  refine z_rel (M := kX11_elders) _ rfl (Nat.le_of_ble_eq_true rfl) fun R hR0 => ?_
  have hR : ∀ {pc : Nat} {L : zL} {S : List Value} {w1 : zW} {k n : Nat}, zsc (zCl zTab (d + 6)) (d + 6) kX11_elders none zTab k n (PB ρ w k n) pc L S w1 k n R → R (pc, L, S, w1, k, n) := fun h => hR0 _ _ (Nat.le_refl _) (Nat.le_refl _) h
  have fr0 := wfR_rf [50, 51, 52] ρ w
  iterate 2 refine hR (?_ : R (_, _, _, _, _, _))
  obtain ⟨y6_2, y7_2, hO2, hk2_0, hk2_1, hk2_2, hk2_3, hk2_4, hk2_5, hk2_6, hk2_7⟩ := CI_o1 hT.1 hT.2.1
  obtain ⟨hTt1, hIt1, hpt1, hKt1⟩ := top_fr2 hT hT.1 fr0 (by decide) hT.2.2.1
  obtain ⟨mc1, ms1, re1, w, ⟨ρ, hA1, hr_1⟩, hrun1⟩ := a_readingsAt hTt1 (d + 3) a1 (by omega)
  refine hR0 (0 + mc1) (0 + ms1) (Nat.le_add_right _ _) (Nat.le_add_right _ _) (c_obj hO2 (zcall_i mc1 ms1 (Nat.le_refl _) (Nat.le_refl _) (hrun1 _ ?_)))
  obtain ⟨hT, hI1, hK1, hx1, hm1, hs1⟩ := hA1
  have fr3 := wfR_rf [50, 51, 52] ρ w
  rcases hr_1 with rfl | ⟨z1, rfl, hz1⟩
  · skip
    refine (?_ : R (_, _, .null :: [], w, 0 + mc1, 0 + ms1))
    iterate 3 refine hR (?_ : R (_, _, _, _, _, _))
    refine hR (t_c (-2) (by decide) ?_)
    obtain ⟨hTf4, hIf4, hpf4, hKf4⟩ := top_fr2 hT hT.1 fr3 (by decide) hT.2.2.1
    exact hR (zret_i rfl (Nat.le_refl _) trivial ⟨⟨_, hTf4, fun l m h => hIf4 _ _ (hI1 _ _ (hIt1 _ _ (h))), (KEEP2_tr hKt1 (KEEP2_tr hK1 hKf4)), hx1, by omega, by omega⟩, _, rfl⟩)
  · skip
    refine (?_ : R (_, _, (.ref z1) :: [], w, 0 + mc1, 0 + ms1))
    iterate 4 refine hR (?_ : R (_, _, _, _, _, _))
    refine hR (zcall_i 0 0 (Nat.le_refl _) (Nat.le_refl _) (c_isText _ _ a2 (by omega) _ fun v5 hp7 => ?_))
    refine (?_ : R (_, _, (.int (Int32.ofInt v5)) :: [], w, 0 + mc1, 0 + ms1))
    refine hR (k_eq (by omega) (fun hc8 => ?_) (fun hc8 => ?_))
    · skip
      refine hR (t_c (-2) (by decide) ?_)
      obtain ⟨hTf9, hIf9, hpf9, hKf9⟩ := top_fr2 hT hT.1 fr3 (by decide) hT.2.2.1
      exact hR (zret_i rfl (Nat.le_refl _) trivial ⟨⟨_, hTf9, fun l m h => hIf9 _ _ (hI1 _ _ (hIt1 _ _ (h))), (KEEP2_tr hKt1 (KEEP2_tr hK1 hKf9)), hx1, by omega, by omega⟩, _, rfl⟩)
    refine hR (?_ : R (_, _, _, _, _, _))
    refine hR (zcall_i 0 0 (Nat.le_refl _) (Nat.le_refl _) (c_isSpan _ _ a3 (by omega) _ fun v10 hp12 => ?_))
    refine (?_ : R (_, _, (.int (Int32.ofInt v10)) :: [], w, 0 + mc1, 0 + ms1))
    refine hR (k_ne (by omega) (fun hc13 => ?_) (fun hc13 => ?_))
    rotate_left
    · skip
      refine hR (t_c (-2) (by decide) ?_)
      obtain ⟨hTf27, hIf27, hpf27, hKf27⟩ := top_fr2 hT hT.1 fr3 (by decide) hT.2.2.1
      exact hR (zret_i rfl (Nat.le_refl _) trivial ⟨⟨_, hTf27, fun l m h => hIf27 _ _ (hI1 _ _ (hIt1 _ _ (h))), (KEEP2_tr hKt1 (KEEP2_tr hK1 hKf27)), hx1, by omega, by omega⟩, _, rfl⟩)
    iterate 3 refine hR (?_ : R (_, _, _, _, _, _))
    obtain ⟨z0_15, z2_15, z3_15, hO15, hk15_0, hk15_1, hk15_2, hk15_3, hk15_4⟩ := CI_o50 hT.1 hz1
    refine hR (c_obj hO15 (zcall_i 0 0 (Nat.le_refl _) (Nat.le_refl _) (c_goBack _ z1 a2 a3 hT.1 hz1 (by omega) (by omega) _ fun w14 hw14 g14 => ?_)))
    have fr16 := wfR_tr fr3 g14 (by decide)
    refine (?_ : R (_, _, [], w14, 0 + mc1, 0 + ms1))
    have aw17 := AWK_fr hT.1 g14 hT.2.2.1 (by decide)
    refine hR (?_ : R (_, _, _, _, _, _))
    refine hR (k_eq (by omega) (fun hc18 => ?_) (fun hc18 => ?_))
    · skip
      refine hR (?_ : R (_, _, _, _, _, _))
      obtain ⟨z0_21, z2_21, z3_21, hO21, hk21_0, hk21_1, hk21_2, hk21_3, hk21_4⟩ := CI_o50 hw14 hz1
      refine hR (c_obj hO21 (zcall_i 0 0 (Nat.le_refl _) (Nat.le_refl _) (c_marked _ z1 hw14 hz1 _ fun v19 => ?_)))
      refine (?_ : R (_, _, (.int (Int32.ofInt v19)) :: [], w14, 0 + mc1, 0 + ms1))
      obtain ⟨hTf22, hIf22, hpf22, hKf22⟩ := top_fr2 hT hw14 fr16 (by decide) aw17
      exact hR (zret_i rfl (Nat.le_refl _) trivial ⟨⟨_, hTf22, fun l m h => hIf22 _ _ (hI1 _ _ (hIt1 _ _ (h))), (KEEP2_tr hKt1 (KEEP2_tr hK1 hKf22)), hx1, by omega, by omega⟩, _, rfl⟩)
    refine hR (?_ : R (_, _, _, _, _, _))
    obtain ⟨z0_25, z2_25, z3_25, hO25, hk25_0, hk25_1, hk25_2, hk25_3, hk25_4⟩ := CI_o50 hw14 hz1
    refine hR (c_obj hO25 (zcall_i 0 0 (Nat.le_refl _) (Nat.le_refl _) (c_leastMarked _ z1 hw14 hz1 _ fun v23 => ?_)))
    refine (?_ : R (_, _, (.int (Int32.ofInt v23)) :: [], w14, 0 + mc1, 0 + ms1))
    refine hR (?_ : R (_, _, _, _, _, _))
    obtain ⟨hTf26, hIf26, hpf26, hKf26⟩ := top_fr2 hT hw14 fr16 (by decide) aw17
    exact hR (zret_i rfl (Nat.le_refl _) trivial ⟨⟨_, hTf26, fun l m h => hIf26 _ _ (hI1 _ _ (hIt1 _ _ (h))), (KEEP2_tr hKt1 (KEEP2_tr hK1 hKf26)), hx1, by omega, by omega⟩, _, rfl⟩)
theorem k_unmade {ρ : Nat → Nat} {w : zW} (hT : TOP ρ w) (d : Nat) (a1 a2 : Int) (hr0 : -2147483648 ≤ a1 ∧ a1 ≤ 2147483647) (hr1 : -2147483648 ≤ a2 ∧ a2 ≤ 2147483647) : DET zTab (d + 6) iX11_unmade [.ref 0, .int (Int32.ofInt a1), .int (Int32.ofInt a2)] w (PB ρ w) := by
  refine z_rel (M := kX11_unmade) _ rfl (Nat.le_of_ble_eq_true rfl) fun R hR0 => ?_
  have hR : ∀ {pc : Nat} {L : zL} {S : List Value} {w1 : zW} {k n : Nat}, zsc (zCl zTab (d + 5)) (d + 5) kX11_unmade none zTab k n (PB ρ w k n) pc L S w1 k n R → R (pc, L, S, w1, k, n) := fun h => hR0 _ _ (Nat.le_refl _) (Nat.le_refl _) h
  have fr0 := wfR_rf [51, 52] ρ w
  iterate 2 refine hR (?_ : R (_, _, _, _, _, _))
  obtain ⟨y6_2, y7_2, hO2, hk2_0, hk2_1, hk2_2, hk2_3, hk2_4, hk2_5, hk2_6, hk2_7⟩ := CI_o1 hT.1 hT.2.1
  obtain ⟨hTt1, hIt1, hpt1, hKt1⟩ := top_fr2 hT hT.1 fr0 (by decide) hT.2.2.1
  obtain ⟨mc1, ms1, re1, w, ⟨ρ, hA1, hr_1⟩, hrun1⟩ := a_readingsAt hTt1 (d + 2) a1 (by omega)
  refine hR0 (0 + mc1) (0 + ms1) (Nat.le_add_right _ _) (Nat.le_add_right _ _) (c_obj hO2 (zcall_i mc1 ms1 (Nat.le_refl _) (Nat.le_refl _) (hrun1 _ ?_)))
  obtain ⟨hT, hI1, hK1, hx1, hm1, hs1⟩ := hA1
  have fr3 := wfR_rf [51, 52] ρ w
  rcases hr_1 with rfl | ⟨z1, rfl, hz1⟩
  · skip
    refine (?_ : R (_, _, .null :: [], w, 0 + mc1, 0 + ms1))
    iterate 3 refine hR (?_ : R (_, _, _, _, _, _))
    refine hR (t_c (-2) (by decide) ?_)
    obtain ⟨hTf4, hIf4, hpf4, hKf4⟩ := top_fr2 hT hT.1 fr3 (by decide) hT.2.2.1
    exact hR (zret_i rfl (Nat.le_refl _) trivial ⟨⟨_, hTf4, fun l m h => hIf4 _ _ (hI1 _ _ (hIt1 _ _ (h))), (KEEP2_tr hKt1 (KEEP2_tr hK1 hKf4)), hx1, by omega, by omega⟩, _, rfl⟩)
  · skip
    refine (?_ : R (_, _, (.ref z1) :: [], w, 0 + mc1, 0 + ms1))
    iterate 4 refine hR (?_ : R (_, _, _, _, _, _))
    obtain ⟨z0_6, z2_6, z3_6, hO6, hk6_0, hk6_1, hk6_2, hk6_3, hk6_4⟩ := CI_o50 hT.1 hz1
    refine hR (c_obj hO6 (zcall_i 0 0 (Nat.le_refl _) (Nat.le_refl _) (c_markUnmade _ z1 hT.1 hz1 _ fun w5 hw5 g5 => ?_)))
    have fr7 := wfR_tr fr3 g5 (by decide)
    have hO8 := (g5.2 z1 (by rw [hz1]; decide)).trans hO6
    refine (?_ : R (_, _, [], w5, 0 + mc1, 0 + ms1))
    have aw9 := AWK_fr hT.1 g5 hT.2.2.1 (by decide)
    refine hR (?_ : R (_, _, _, _, _, _))
    refine hR (k_eq (by omega) (fun hc10 => ?_) (fun hc10 => ?_))
    · skip
      refine hR (?_ : R (_, _, _, _, _, _))
      refine hR (c_obj hO8 (zcall_i 0 0 (Nat.le_refl _) (Nat.le_refl _) (c_marked _ z1 hw5 hz1 _ fun v11 => ?_)))
      refine (?_ : R (_, _, (.int (Int32.ofInt v11)) :: [], w5, 0 + mc1, 0 + ms1))
      obtain ⟨hTf13, hIf13, hpf13, hKf13⟩ := top_fr2 hT hw5 fr7 (by decide) aw9
      exact hR (zret_i rfl (Nat.le_refl _) trivial ⟨⟨_, hTf13, fun l m h => hIf13 _ _ (hI1 _ _ (hIt1 _ _ (h))), (KEEP2_tr hKt1 (KEEP2_tr hK1 hKf13)), hx1, by omega, by omega⟩, _, rfl⟩)
    refine hR (?_ : R (_, _, _, _, _, _))
    refine hR (c_obj hO8 (zcall_i 0 0 (Nat.le_refl _) (Nat.le_refl _) (c_leastMarked _ z1 hw5 hz1 _ fun v14 => ?_)))
    refine (?_ : R (_, _, (.int (Int32.ofInt v14)) :: [], w5, 0 + mc1, 0 + ms1))
    refine hR (?_ : R (_, _, _, _, _, _))
    obtain ⟨hTf16, hIf16, hpf16, hKf16⟩ := top_fr2 hT hw5 fr7 (by decide) aw9
    exact hR (zret_i rfl (Nat.le_refl _) trivial ⟨⟨_, hTf16, fun l m h => hIf16 _ _ (hI1 _ _ (hIt1 _ _ (h))), (KEEP2_tr hKt1 (KEEP2_tr hK1 hKf16)), hx1, by omega, by omega⟩, _, rfl⟩)
theorem k_nearest {ρ : Nat → Nat} {w : zW} (hT : TOP ρ w) (d : Nat) (a1 a2 a3 a4 : Int) (hr0 : -2147483648 ≤ a1 ∧ a1 ≤ 2147483647) (hr1 : -2147483648 ≤ a2 ∧ a2 ≤ 2147483647) (hr2 : -2147483648 ≤ a3 ∧ a3 ≤ 2147483647) (hr3 : -2147483648 ≤ a4 ∧ a4 ≤ 2147483647) : DET zTab (d + 6) iX11_nearest [.ref 0, .int (Int32.ofInt a1), .int (Int32.ofInt a2), .int (Int32.ofInt a3), .int (Int32.ofInt a4)] w (PB ρ w) := by
  refine z_rel (M := kX11_nearest) _ rfl (Nat.le_of_ble_eq_true rfl) fun R hR0 => ?_
  have hR : ∀ {pc : Nat} {L : zL} {S : List Value} {w1 : zW} {k n : Nat}, zsc (zCl zTab (d + 5)) (d + 5) kX11_nearest none zTab k n (PB ρ w k n) pc L S w1 k n R → R (pc, L, S, w1, k, n) := fun h => hR0 _ _ (Nat.le_refl _) (Nat.le_refl _) h
  have fr0 := wfR_rf [51, 60, 61, 62, 63, 64] ρ w
  iterate 2 refine hR (?_ : R (_, _, _, _, _, _))
  obtain ⟨y6_2, y7_2, hO2, hk2_0, hk2_1, hk2_2, hk2_3, hk2_4, hk2_5, hk2_6, hk2_7⟩ := CI_o1 hT.1 hT.2.1
  obtain ⟨hTt1, hIt1, hpt1, hKt1⟩ := top_fr2 hT hT.1 fr0 (by decide) hT.2.2.1
  obtain ⟨mc1, ms1, re1, w, ⟨ρ, hA1, hr_1⟩, hrun1⟩ := a_readingsAt hTt1 (d + 2) a1 (by omega)
  refine hR0 (0 + mc1) (0 + ms1) (Nat.le_add_right _ _) (Nat.le_add_right _ _) (c_obj hO2 (zcall_i mc1 ms1 (Nat.le_refl _) (Nat.le_refl _) (hrun1 _ ?_)))
  obtain ⟨hT, hI1, hK1, hx1, hm1, hs1⟩ := hA1
  have fr3 := wfR_rf [51, 60, 61, 62, 63, 64] ρ w
  rcases hr_1 with rfl | ⟨z1, rfl, hz1⟩
  · skip
    refine (?_ : R (_, _, .null :: [], w, 0 + mc1, 0 + ms1))
    iterate 4 refine hR (?_ : R (_, _, _, _, _, _))
    obtain ⟨hTf4, hIf4, hpf4, hKf4⟩ := top_fr2 hT hT.1 fr3 (by decide) hT.2.2.1
    exact hR (zret_i rfl (Nat.le_refl _) trivial ⟨⟨_, hTf4, fun l m h => hIf4 _ _ (hI1 _ _ (hIt1 _ _ (h))), (KEEP2_tr hKt1 (KEEP2_tr hK1 hKf4)), hx1, by omega, by omega⟩, _, rfl⟩)
  · skip
    refine (?_ : R (_, _, (.ref z1) :: [], w, 0 + mc1, 0 + ms1))
    iterate 4 refine hR (?_ : R (_, _, _, _, _, _))
    refine hR (zcall_i 0 0 (Nat.le_refl _) (Nat.le_refl _) (c_isText _ _ a2 (by omega) _ fun v5 hp7 => ?_))
    refine (?_ : R (_, _, (.int (Int32.ofInt v5)) :: [], w, 0 + mc1, 0 + ms1))
    refine hR (k_eq (by omega) (fun hc8 => ?_) (fun hc8 => ?_))
    · skip
      refine hR (?_ : R (_, _, _, _, _, _))
      obtain ⟨hTf9, hIf9, hpf9, hKf9⟩ := top_fr2 hT hT.1 fr3 (by decide) hT.2.2.1
      exact hR (zret_i rfl (Nat.le_refl _) trivial ⟨⟨_, hTf9, fun l m h => hIf9 _ _ (hI1 _ _ (hIt1 _ _ (h))), (KEEP2_tr hKt1 (KEEP2_tr hK1 hKf9)), hx1, by omega, by omega⟩, _, rfl⟩)
    refine hR (?_ : R (_, _, _, _, _, _))
    refine hR (zcall_i 0 0 (Nat.le_refl _) (Nat.le_refl _) (c_isText _ _ a3 (by omega) _ fun v10 hp12 => ?_))
    refine (?_ : R (_, _, (.int (Int32.ofInt v10)) :: [], w, 0 + mc1, 0 + ms1))
    refine hR (k_ne (by omega) (fun hc13 => ?_) (fun hc13 => ?_))
    rotate_left
    · skip
      refine hR (?_ : R (_, _, _, _, _, _))
      obtain ⟨hTf37, hIf37, hpf37, hKf37⟩ := top_fr2 hT hT.1 fr3 (by decide) hT.2.2.1
      exact hR (zret_i rfl (Nat.le_refl _) trivial ⟨⟨_, hTf37, fun l m h => hIf37 _ _ (hI1 _ _ (hIt1 _ _ (h))), (KEEP2_tr hKt1 (KEEP2_tr hK1 hKf37)), hx1, by omega, by omega⟩, _, rfl⟩)
    iterate 2 refine hR (?_ : R (_, _, _, _, _, _))
    obtain ⟨y6_15, y7_15, hO15, hk15_0, hk15_1, hk15_2, hk15_3, hk15_4, hk15_5, hk15_6, hk15_7⟩ := CI_o1 hT.1 hT.2.1
    obtain ⟨hTt14, hIt14, hpt14, hKt14⟩ := top_fr2 hT hT.1 fr3 (by decide) hT.2.2.1
    obtain ⟨mc14, ms14, re14, w, ⟨ρ, z14, hA14, hre14, hz14⟩, hrun14⟩ := a_walkAt hTt14 (d + 2) 0 (by omega)
    subst hre14
    refine hR0 (0 + mc1 + mc14) (0 + ms1 + ms14) (Nat.le_add_right _ _) (Nat.le_add_right _ _) (c_obj hO15 (zcall_i mc14 ms14 (Nat.le_refl _) (Nat.le_refl _) (hrun14 _ ?_)))
    obtain ⟨hT, hI14, hK14, hx14, hm14, hs14⟩ := hA14
    have hl16 : ρ z1 = 50 := (hx14 z1 (by rw [hz1]; decide)).trans hz1
    have fr17 := wfR_rf [51, 60, 61, 62, 63, 64] ρ w
    refine (?_ : R (_, _, (.ref z14) :: [], w, 0 + mc1 + mc14, 0 + ms1 + ms14))
    iterate 5 refine hR (?_ : R (_, _, _, _, _, _))
    obtain ⟨z0_21, z2_21, z3_21, hO21, hk21_0, hk21_1, hk21_2, hk21_3, hk21_4⟩ := CI_o50 hT.1 hl16
    refine hR (c_obj hO21 (zcall_i 0 0 (Nat.le_refl _) (Nat.le_refl _) (c_all _ z1 hT.1 hl16 _ fun v18 hp20 => ?_)))
    refine (?_ : R (_, _, (.int (Int32.ofInt v18)) :: (.int (Int32.ofInt a2)) :: (.ref z1) :: (.ref z14) :: [], w, 0 + mc1 + mc14, 0 + ms1 + ms14))
    refine hR (?_ : R (_, _, _, _, _, _))
    obtain ⟨x0_24, hO24, hk24_0, hk24_1, hk24_2, hk24_3, hk24_4⟩ := CI_o60 hT.1 hz14
    refine hR (c_obj hO24 (zcall_i 0 0 (Nat.le_refl _) (Nat.le_refl _) (c_goA _ z14 z1 a2 v18 ((-1)) hT.1 hz14 hl16 hT.2.2.1 (by omega) (by omega) (by omega) _ fun w22 hw22 g22 hp23 => ?_)))
    have fr25 := wfR_tr fr17 g22 (by decide)
    have hO26 := (g22.2 z1 (by rw [hl16]; decide)).trans hO21
    refine (?_ : R (_, _, [], w22, 0 + mc1 + mc14, 0 + ms1 + ms14))
    iterate 2 refine hR (?_ : R (_, _, _, _, _, _))
    obtain ⟨x0_30, hO30, hk30_0, hk30_1, hk30_2, hk30_3, hk30_4⟩ := CI_o60 hw22 hz14
    refine hR (c_obj hO30 (zcall_i 0 0 (Nat.le_refl _) (Nat.le_refl _) (c_nearestTo _ z14 a3 hw22 hz14 (by omega) _ fun v27 hp29 => ?_)))
    refine (?_ : R (_, _, (.int (Int32.ofInt v27)) :: [], w22, 0 + mc1 + mc14, 0 + ms1 + ms14))
    iterate 2 refine hR (?_ : R (_, _, _, _, _, _))
    refine hR (k_eq (by omega) (fun hc31 => ?_) (fun hc31 => ?_))
    rotate_left
    · skip
      iterate 2 refine hR (?_ : R (_, _, _, _, _, _))
      obtain ⟨hTf36, hIf36, hpf36, hKf36⟩ := top_fr2 hT hw22 fr25 (by decide) hp23
      exact hR (zret_i rfl (Nat.le_refl _) trivial ⟨⟨_, hTf36, fun l m h => hIf36 _ _ (hI14 _ _ (hIt14 _ _ (hI1 _ _ (hIt1 _ _ (h))))), (KEEP2_tr hKt1 (KEEP2_tr hK1 (KEEP2_tr hKt14 (KEEP2_tr hK14 hKf36)))), (EXT_tr hx1 hx14), by omega, by omega⟩, _, rfl⟩)
    iterate 2 refine hR (?_ : R (_, _, _, _, _, _))
    refine hR (zcall_i 0 0 (Nat.le_refl _) (Nat.le_refl _) (c_driftOf _ _ v27 a3 (by omega) (by omega) _ fun v32 hp34 => ?_))
    refine (?_ : R (_, _, (.int (Int32.ofInt v32)) :: [], w22, 0 + mc1 + mc14, 0 + ms1 + ms14))
    obtain ⟨hTf35, hIf35, hpf35, hKf35⟩ := top_fr2 hT hw22 fr25 (by decide) hp23
    exact hR (zret_i rfl (Nat.le_refl _) trivial ⟨⟨_, hTf35, fun l m h => hIf35 _ _ (hI14 _ _ (hIt14 _ _ (hI1 _ _ (hIt1 _ _ (h))))), (KEEP2_tr hKt1 (KEEP2_tr hK1 (KEEP2_tr hKt14 (KEEP2_tr hK14 hKf35)))), (EXT_tr hx1 hx14), by omega, by omega⟩, _, rfl⟩)
theorem k_settles {ρ : Nat → Nat} {w : zW} (hT : TOP ρ w) (d : Nat) (a1 a2 a3 : Int) (hr0 : -2147483648 ≤ a1 ∧ a1 ≤ 2147483647) (hr1 : -2147483648 ≤ a2 ∧ a2 ≤ 2147483647) (hr2 : -2147483648 ≤ a3 ∧ a3 ≤ 2147483647) : DET zTab (d + 7) iX11_settles [.ref 0, .int (Int32.ofInt a1), .int (Int32.ofInt a2), .int (Int32.ofInt a3)] w (PB ρ w) := by
  refine z_rel (M := kX11_settles) _ rfl (Nat.le_of_ble_eq_true rfl) fun R hR0 => ?_
  have hR : ∀ {pc : Nat} {L : zL} {S : List Value} {w1 : zW} {k n : Nat}, zsc (zCl zTab (d + 6)) (d + 6) kX11_settles none zTab k n (PB ρ w k n) pc L S w1 k n R → R (pc, L, S, w1, k, n) := fun h => hR0 _ _ (Nat.le_refl _) (Nat.le_refl _) h
  have fr0 := wfR_rf [51, 60, 61, 62, 63, 64] ρ w
  iterate 2 refine hR (?_ : R (_, _, _, _, _, _))
  obtain ⟨y6_2, y7_2, hO2, hk2_0, hk2_1, hk2_2, hk2_3, hk2_4, hk2_5, hk2_6, hk2_7⟩ := CI_o1 hT.1 hT.2.1
  obtain ⟨hTt1, hIt1, hpt1, hKt1⟩ := top_fr2 hT hT.1 fr0 (by decide) hT.2.2.1
  obtain ⟨mc1, ms1, re1, w, ⟨ρ, hA1, hr_1⟩, hrun1⟩ := a_readingsAt hTt1 (d + 3) a1 (by omega)
  refine hR0 (0 + mc1) (0 + ms1) (Nat.le_add_right _ _) (Nat.le_add_right _ _) (c_obj hO2 (zcall_i mc1 ms1 (Nat.le_refl _) (Nat.le_refl _) (hrun1 _ ?_)))
  obtain ⟨hT, hI1, hK1, hx1, hm1, hs1⟩ := hA1
  have fr3 := wfR_rf [51, 60, 61, 62, 63, 64] ρ w
  rcases hr_1 with rfl | ⟨z1, rfl, hz1⟩
  · skip
    refine (?_ : R (_, _, .null :: [], w, 0 + mc1, 0 + ms1))
    iterate 4 refine hR (?_ : R (_, _, _, _, _, _))
    obtain ⟨hTf4, hIf4, hpf4, hKf4⟩ := top_fr2 hT hT.1 fr3 (by decide) hT.2.2.1
    exact hR (zret_i rfl (Nat.le_refl _) trivial ⟨⟨_, hTf4, fun l m h => hIf4 _ _ (hI1 _ _ (hIt1 _ _ (h))), (KEEP2_tr hKt1 (KEEP2_tr hK1 hKf4)), hx1, by omega, by omega⟩, _, rfl⟩)
  · skip
    refine (?_ : R (_, _, (.ref z1) :: [], w, 0 + mc1, 0 + ms1))
    iterate 4 refine hR (?_ : R (_, _, _, _, _, _))
    refine hR (zcall_i 0 0 (Nat.le_refl _) (Nat.le_refl _) (c_isText _ _ a2 (by omega) _ fun v5 hp7 => ?_))
    refine (?_ : R (_, _, (.int (Int32.ofInt v5)) :: [], w, 0 + mc1, 0 + ms1))
    refine hR (k_ne (by omega) (fun hc8 => ?_) (fun hc8 => ?_))
    rotate_left
    · skip
      refine hR (?_ : R (_, _, _, _, _, _))
      obtain ⟨hTf36, hIf36, hpf36, hKf36⟩ := top_fr2 hT hT.1 fr3 (by decide) hT.2.2.1
      exact hR (zret_i rfl (Nat.le_refl _) trivial ⟨⟨_, hTf36, fun l m h => hIf36 _ _ (hI1 _ _ (hIt1 _ _ (h))), (KEEP2_tr hKt1 (KEEP2_tr hK1 hKf36)), hx1, by omega, by omega⟩, _, rfl⟩)
    iterate 2 refine hR (?_ : R (_, _, _, _, _, _))
    obtain ⟨y6_10, y7_10, hO10, hk10_0, hk10_1, hk10_2, hk10_3, hk10_4, hk10_5, hk10_6, hk10_7⟩ := CI_o1 hT.1 hT.2.1
    obtain ⟨hTt9, hIt9, hpt9, hKt9⟩ := top_fr2 hT hT.1 fr3 (by decide) hT.2.2.1
    obtain ⟨mc9, ms9, re9, w, ⟨ρ, z9, hA9, hre9, hz9⟩, hrun9⟩ := a_walkAt hTt9 (d + 3) 0 (by omega)
    subst hre9
    refine hR0 (0 + mc1 + mc9) (0 + ms1 + ms9) (Nat.le_add_right _ _) (Nat.le_add_right _ _) (c_obj hO10 (zcall_i mc9 ms9 (Nat.le_refl _) (Nat.le_refl _) (hrun9 _ ?_)))
    obtain ⟨hT, hI9, hK9, hx9, hm9, hs9⟩ := hA9
    have hl11 : ρ z1 = 50 := (hx9 z1 (by rw [hz1]; decide)).trans hz1
    have fr12 := wfR_rf [51, 60, 61, 62, 63, 64] ρ w
    refine (?_ : R (_, _, (.ref z9) :: [], w, 0 + mc1 + mc9, 0 + ms1 + ms9))
    iterate 5 refine hR (?_ : R (_, _, _, _, _, _))
    obtain ⟨z0_16, z2_16, z3_16, hO16, hk16_0, hk16_1, hk16_2, hk16_3, hk16_4⟩ := CI_o50 hT.1 hl11
    refine hR (c_obj hO16 (zcall_i 0 0 (Nat.le_refl _) (Nat.le_refl _) (c_all _ z1 hT.1 hl11 _ fun v13 hp15 => ?_)))
    refine (?_ : R (_, _, (.int (Int32.ofInt v13)) :: (.int (Int32.ofInt a2)) :: (.ref z1) :: (.ref z9) :: [], w, 0 + mc1 + mc9, 0 + ms1 + ms9))
    refine hR (?_ : R (_, _, _, _, _, _))
    obtain ⟨x0_19, hO19, hk19_0, hk19_1, hk19_2, hk19_3, hk19_4⟩ := CI_o60 hT.1 hz9
    refine hR (c_obj hO19 (zcall_i 0 0 (Nat.le_refl _) (Nat.le_refl _) (c_goA _ z9 z1 a2 v13 ((-1)) hT.1 hz9 hl11 hT.2.2.1 (by omega) (by omega) (by omega) _ fun w17 hw17 g17 hp18 => ?_)))
    have fr20 := wfR_tr fr12 g17 (by decide)
    have hO21 := (g17.2 z1 (by rw [hl11]; decide)).trans hO16
    refine (?_ : R (_, _, [], w17, 0 + mc1 + mc9, 0 + ms1 + ms9))
    iterate 2 refine hR (?_ : R (_, _, _, _, _, _))
    obtain ⟨x0_25, hO25, hk25_0, hk25_1, hk25_2, hk25_3, hk25_4⟩ := CI_o60 hw17 hz9
    refine hR (c_obj hO25 (zcall_i 0 0 (Nat.le_refl _) (Nat.le_refl _) (c_firstSettled _ z9 z1 hw17 hz9 hl11 _ fun v22 w23 hw23 g23 hp24 => ?_)))
    have fr26 := wfR_tr fr20 g23 (by decide)
    have hO27 := (g23.2 z1 (by rw [hl11]; decide)).trans hO21
    have hO28 := (g23.2 z9 (by rw [hz9]; decide)).trans hO25
    refine (?_ : R (_, _, (.int (Int32.ofInt v22)) :: [], w23, 0 + mc1 + mc9, 0 + ms1 + ms9))
    have aw29 := AWK_fr hw17 g23 hp18 (by decide)
    iterate 2 refine hR (?_ : R (_, _, _, _, _, _))
    refine hR (k_ne (by omega) (fun hc30 => ?_) (fun hc30 => ?_))
    · skip
      iterate 2 refine hR (?_ : R (_, _, _, _, _, _))
      obtain ⟨hTf31, hIf31, hpf31, hKf31⟩ := top_fr2 hT hw23 fr26 (by decide) aw29
      exact hR (zret_i rfl (Nat.le_refl _) trivial ⟨⟨_, hTf31, fun l m h => hIf31 _ _ (hI9 _ _ (hIt9 _ _ (hI1 _ _ (hIt1 _ _ (h))))), (KEEP2_tr hKt1 (KEEP2_tr hK1 (KEEP2_tr hKt9 (KEEP2_tr hK9 hKf31)))), (EXT_tr hx1 hx9), by omega, by omega⟩, _, rfl⟩)
    iterate 2 refine hR (?_ : R (_, _, _, _, _, _))
    refine hR (j_ne (by omega) (by omega) (fun hc32 => ?_) (fun hc32 => ?_))
    rotate_left
    · skip
      iterate 2 refine hR (?_ : R (_, _, _, _, _, _))
      obtain ⟨hTf35, hIf35, hpf35, hKf35⟩ := top_fr2 hT hw23 fr26 (by decide) aw29
      exact hR (zret_i rfl (Nat.le_refl _) trivial ⟨⟨_, hTf35, fun l m h => hIf35 _ _ (hI9 _ _ (hIt9 _ _ (hI1 _ _ (hIt1 _ _ (h))))), (KEEP2_tr hKt1 (KEEP2_tr hK1 (KEEP2_tr hKt9 (KEEP2_tr hK9 hKf35)))), (EXT_tr hx1 hx9), by omega, by omega⟩, _, rfl⟩)
    refine hR (?_ : R (_, _, _, _, _, _))
    refine hR (c_get hO28 rfl ?_)
    refine hR (?_ : R (_, _, _, _, _, _))
    refine hR (c_ald hw23 (by rw [hk25_2]; rfl) (by omega) (by omega) (Nat.le_of_ble_eq_true rfl) fun v33 lv33 uv33 => ?_)
    obtain ⟨hTf34, hIf34, hpf34, hKf34⟩ := top_fr2 hT hw23 fr26 (by decide) aw29
    exact hR (zret_i rfl (Nat.le_refl _) trivial ⟨⟨_, hTf34, fun l m h => hIf34 _ _ (hI9 _ _ (hIt9 _ _ (hI1 _ _ (hIt1 _ _ (h))))), (KEEP2_tr hKt1 (KEEP2_tr hK1 (KEEP2_tr hKt9 (KEEP2_tr hK9 hKf34)))), (EXT_tr hx1 hx9), by omega, by omega⟩, _, rfl⟩)
theorem k_joined {ρ : Nat → Nat} {w : zW} (hT : TOP ρ w) (d : Nat) (a1 a2 a3 a4 : Int) (hr0 : -2147483648 ≤ a1 ∧ a1 ≤ 2147483647) (hr1 : -2147483648 ≤ a2 ∧ a2 ≤ 2147483647) (hr2 : -2147483648 ≤ a3 ∧ a3 ≤ 2147483647) (hr3 : -2147483648 ≤ a4 ∧ a4 ≤ 2147483647) : DET zTab (d + 6) iX11_joined [.ref 0, .int (Int32.ofInt a1), .int (Int32.ofInt a2), .int (Int32.ofInt a3), .int (Int32.ofInt a4)] w (PB ρ w) := by
  refine z_rel (M := kX11_joined) _ rfl (Nat.le_of_ble_eq_true rfl) fun R hR0 => ?_
  have hR : ∀ {pc : Nat} {L : zL} {S : List Value} {w1 : zW} {k n : Nat}, zsc (zCl zTab (d + 5)) (d + 5) kX11_joined none zTab k n (PB ρ w k n) pc L S w1 k n R → R (pc, L, S, w1, k, n) := fun h => hR0 _ _ (Nat.le_refl _) (Nat.le_refl _) h
  have fr0 := wfR_rf [51, 60, 61, 62, 63, 64] ρ w
  iterate 2 refine hR (?_ : R (_, _, _, _, _, _))
  obtain ⟨y6_2, y7_2, hO2, hk2_0, hk2_1, hk2_2, hk2_3, hk2_4, hk2_5, hk2_6, hk2_7⟩ := CI_o1 hT.1 hT.2.1
  obtain ⟨hTt1, hIt1, hpt1, hKt1⟩ := top_fr2 hT hT.1 fr0 (by decide) hT.2.2.1
  obtain ⟨mc1, ms1, re1, w, ⟨ρ, hA1, hr_1⟩, hrun1⟩ := a_readingsAt hTt1 (d + 2) a1 (by omega)
  refine hR0 (0 + mc1) (0 + ms1) (Nat.le_add_right _ _) (Nat.le_add_right _ _) (c_obj hO2 (zcall_i mc1 ms1 (Nat.le_refl _) (Nat.le_refl _) (hrun1 _ ?_)))
  obtain ⟨hT, hI1, hK1, hx1, hm1, hs1⟩ := hA1
  have fr3 := wfR_rf [51, 60, 61, 62, 63, 64] ρ w
  rcases hr_1 with rfl | ⟨z1, rfl, hz1⟩
  · skip
    refine (?_ : R (_, _, .null :: [], w, 0 + mc1, 0 + ms1))
    iterate 4 refine hR (?_ : R (_, _, _, _, _, _))
    obtain ⟨hTf4, hIf4, hpf4, hKf4⟩ := top_fr2 hT hT.1 fr3 (by decide) hT.2.2.1
    exact hR (zret_i rfl (Nat.le_refl _) trivial ⟨⟨_, hTf4, fun l m h => hIf4 _ _ (hI1 _ _ (hIt1 _ _ (h))), (KEEP2_tr hKt1 (KEEP2_tr hK1 hKf4)), hx1, by omega, by omega⟩, _, rfl⟩)
  · skip
    refine (?_ : R (_, _, (.ref z1) :: [], w, 0 + mc1, 0 + ms1))
    iterate 4 refine hR (?_ : R (_, _, _, _, _, _))
    refine hR (zcall_i 0 0 (Nat.le_refl _) (Nat.le_refl _) (c_isText _ _ a2 (by omega) _ fun v5 hp7 => ?_))
    refine (?_ : R (_, _, (.int (Int32.ofInt v5)) :: [], w, 0 + mc1, 0 + ms1))
    refine hR (k_eq (by omega) (fun hc8 => ?_) (fun hc8 => ?_))
    · skip
      refine hR (?_ : R (_, _, _, _, _, _))
      obtain ⟨hTf9, hIf9, hpf9, hKf9⟩ := top_fr2 hT hT.1 fr3 (by decide) hT.2.2.1
      exact hR (zret_i rfl (Nat.le_refl _) trivial ⟨⟨_, hTf9, fun l m h => hIf9 _ _ (hI1 _ _ (hIt1 _ _ (h))), (KEEP2_tr hKt1 (KEEP2_tr hK1 hKf9)), hx1, by omega, by omega⟩, _, rfl⟩)
    refine hR (?_ : R (_, _, _, _, _, _))
    refine hR (zcall_i 0 0 (Nat.le_refl _) (Nat.le_refl _) (c_isText _ _ a3 (by omega) _ fun v10 hp12 => ?_))
    refine (?_ : R (_, _, (.int (Int32.ofInt v10)) :: [], w, 0 + mc1, 0 + ms1))
    refine hR (k_ne (by omega) (fun hc13 => ?_) (fun hc13 => ?_))
    rotate_left
    · skip
      refine hR (?_ : R (_, _, _, _, _, _))
      obtain ⟨hTf52, hIf52, hpf52, hKf52⟩ := top_fr2 hT hT.1 fr3 (by decide) hT.2.2.1
      exact hR (zret_i rfl (Nat.le_refl _) trivial ⟨⟨_, hTf52, fun l m h => hIf52 _ _ (hI1 _ _ (hIt1 _ _ (h))), (KEEP2_tr hKt1 (KEEP2_tr hK1 hKf52)), hx1, by omega, by omega⟩, _, rfl⟩)
    iterate 2 refine hR (?_ : R (_, _, _, _, _, _))
    obtain ⟨y6_15, y7_15, hO15, hk15_0, hk15_1, hk15_2, hk15_3, hk15_4, hk15_5, hk15_6, hk15_7⟩ := CI_o1 hT.1 hT.2.1
    obtain ⟨hTt14, hIt14, hpt14, hKt14⟩ := top_fr2 hT hT.1 fr3 (by decide) hT.2.2.1
    obtain ⟨mc14, ms14, re14, w, ⟨ρ, z14, hA14, hre14, hz14⟩, hrun14⟩ := a_walkAt hTt14 (d + 2) 0 (by omega)
    subst hre14
    refine hR0 (0 + mc1 + mc14) (0 + ms1 + ms14) (Nat.le_add_right _ _) (Nat.le_add_right _ _) (c_obj hO15 (zcall_i mc14 ms14 (Nat.le_refl _) (Nat.le_refl _) (hrun14 _ ?_)))
    obtain ⟨hT, hI14, hK14, hx14, hm14, hs14⟩ := hA14
    have hl16 : ρ z1 = 50 := (hx14 z1 (by rw [hz1]; decide)).trans hz1
    have fr17 := wfR_rf [51, 60, 61, 62, 63, 64] ρ w
    refine (?_ : R (_, _, (.ref z14) :: [], w, 0 + mc1 + mc14, 0 + ms1 + ms14))
    iterate 3 refine hR (?_ : R (_, _, _, _, _, _))
    obtain ⟨y6_19, y7_19, hO19, hk19_0, hk19_1, hk19_2, hk19_3, hk19_4, hk19_5, hk19_6, hk19_7⟩ := CI_o1 hT.1 hT.2.1
    obtain ⟨hTt18, hIt18, hpt18, hKt18⟩ := top_fr2 hT hT.1 fr17 (by decide) hT.2.2.1
    obtain ⟨mc18, ms18, re18, w, ⟨ρ, z18, hA18, hre18, hz18⟩, hrun18⟩ := a_walkAt hTt18 (d + 2) 1 (by omega)
    subst hre18
    refine hR0 (0 + mc1 + mc14 + mc18) (0 + ms1 + ms14 + ms18) (Nat.le_add_right _ _) (Nat.le_add_right _ _) (c_obj hO19 (zcall_i mc18 ms18 (Nat.le_refl _) (Nat.le_refl _) (hrun18 _ ?_)))
    obtain ⟨hT, hI18, hK18, hx18, hm18, hs18⟩ := hA18
    have hl20 : ρ z1 = 50 := (hx18 z1 (by rw [hl16]; decide)).trans hl16
    have hl21 : ρ z14 = 60 := (hx18 z14 (by rw [hz14]; decide)).trans hz14
    have fr22 := wfR_rf [51, 60, 61, 62, 63, 64] ρ w
    refine (?_ : R (_, _, (.ref z18) :: [], w, 0 + mc1 + mc14 + mc18, 0 + ms1 + ms14 + ms18))
    iterate 5 refine hR (?_ : R (_, _, _, _, _, _))
    obtain ⟨z0_26, z2_26, z3_26, hO26, hk26_0, hk26_1, hk26_2, hk26_3, hk26_4⟩ := CI_o50 hT.1 hl20
    refine hR (c_obj hO26 (zcall_i 0 0 (Nat.le_refl _) (Nat.le_refl _) (c_all _ z1 hT.1 hl20 _ fun v23 hp25 => ?_)))
    refine (?_ : R (_, _, (.int (Int32.ofInt v23)) :: (.int (Int32.ofInt a2)) :: (.ref z1) :: (.ref z14) :: [], w, 0 + mc1 + mc14 + mc18, 0 + ms1 + ms14 + ms18))
    refine hR (?_ : R (_, _, _, _, _, _))
    obtain ⟨x0_29, hO29, hk29_0, hk29_1, hk29_2, hk29_3, hk29_4⟩ := CI_o60 hT.1 hl21
    refine hR (c_obj hO29 (zcall_i 0 0 (Nat.le_refl _) (Nat.le_refl _) (c_goA _ z14 z1 a2 v23 ((-1)) hT.1 hl21 hl20 hT.2.2.1 (by omega) (by omega) (by omega) _ fun w27 hw27 g27 hp28 => ?_)))
    have fr30 := wfR_tr fr22 g27 (by decide)
    have hO31 := (g27.2 z1 (by rw [hl20]; decide)).trans hO26
    refine (?_ : R (_, _, [], w27, 0 + mc1 + mc14 + mc18, 0 + ms1 + ms14 + ms18))
    iterate 4 refine hR (?_ : R (_, _, _, _, _, _))
    refine hR (c_obj hO31 (zcall_i 0 0 (Nat.le_refl _) (Nat.le_refl _) (c_all _ z1 hw27 hl20 _ fun v32 hp34 => ?_)))
    refine (?_ : R (_, _, (.int (Int32.ofInt v32)) :: (.int (Int32.ofInt a3)) :: (.ref z1) :: (.ref z18) :: [], w27, 0 + mc1 + mc14 + mc18, 0 + ms1 + ms14 + ms18))
    refine hR (?_ : R (_, _, _, _, _, _))
    obtain ⟨x0_37, hO37, hk37_0, hk37_1, hk37_2, hk37_3, hk37_4⟩ := CI_o60 hw27 hz18
    refine hR (c_obj hO37 (zcall_i 0 0 (Nat.le_refl _) (Nat.le_refl _) (c_goA _ z18 z1 a3 v32 ((-1)) hw27 hz18 hl20 hp28 (by omega) (by omega) (by omega) _ fun w35 hw35 g35 hp36 => ?_)))
    have fr38 := wfR_tr fr30 g35 (by decide)
    have hO39 := (g35.2 z1 (by rw [hl20]; decide)).trans hO31
    refine (?_ : R (_, _, [], w35, 0 + mc1 + mc14 + mc18, 0 + ms1 + ms14 + ms18))
    iterate 2 refine hR (?_ : R (_, _, _, _, _, _))
    obtain ⟨x0_43, hO43, hk43_0, hk43_1, hk43_2, hk43_3, hk43_4⟩ := CI_o60 hw35 hl21
    refine hR (c_obj hO43 (zcall_i 0 0 (Nat.le_refl _) (Nat.le_refl _) (c_meeting _ z14 z18 hw35 hl21 hz18 _ fun v40 hp42 => ?_)))
    refine (?_ : R (_, _, (.int (Int32.ofInt v40)) :: [], w35, 0 + mc1 + mc14 + mc18, 0 + ms1 + ms14 + ms18))
    iterate 2 refine hR (?_ : R (_, _, _, _, _, _))
    refine hR (k_ne (by omega) (fun hc44 => ?_) (fun hc44 => ?_))
    · skip
      refine hR (?_ : R (_, _, _, _, _, _))
      obtain ⟨hTf45, hIf45, hpf45, hKf45⟩ := top_fr2 hT hw35 fr38 (by decide) hp36
      exact hR (zret_i rfl (Nat.le_refl _) trivial ⟨⟨_, hTf45, fun l m h => hIf45 _ _ (hI18 _ _ (hIt18 _ _ (hI14 _ _ (hIt14 _ _ (hI1 _ _ (hIt1 _ _ (h))))))), (KEEP2_tr hKt1 (KEEP2_tr hK1 (KEEP2_tr hKt14 (KEEP2_tr hK14 (KEEP2_tr hKt18 (KEEP2_tr hK18 hKf45)))))), (EXT_tr hx1 (EXT_tr hx14 hx18)), by omega, by omega⟩, _, rfl⟩)
    iterate 2 refine hR (?_ : R (_, _, _, _, _, _))
    refine hR (j_ne (by omega) (by omega) (fun hc46 => ?_) (fun hc46 => ?_))
    rotate_left
    · skip
      refine hR (?_ : R (_, _, _, _, _, _))
      obtain ⟨hTf51, hIf51, hpf51, hKf51⟩ := top_fr2 hT hw35 fr38 (by decide) hp36
      exact hR (zret_i rfl (Nat.le_refl _) trivial ⟨⟨_, hTf51, fun l m h => hIf51 _ _ (hI18 _ _ (hIt18 _ _ (hI14 _ _ (hIt14 _ _ (hI1 _ _ (hIt1 _ _ (h))))))), (KEEP2_tr hKt1 (KEEP2_tr hK1 (KEEP2_tr hKt14 (KEEP2_tr hK14 (KEEP2_tr hKt18 (KEEP2_tr hK18 hKf51)))))), (EXT_tr hx1 (EXT_tr hx14 hx18)), by omega, by omega⟩, _, rfl⟩)
    refine hR (?_ : R (_, _, _, _, _, _))
    refine hR (c_get hO43 rfl ?_)
    refine hR (?_ : R (_, _, _, _, _, _))
    refine hR (c_ald hw35 (by rw [hk43_2]; rfl) (by omega) (by omega) (Nat.le_of_ble_eq_true rfl) fun v47 lv47 uv47 => ?_)
    refine hR (?_ : R (_, _, _, _, _, _))
    obtain ⟨x0_48, hO48, hk48_0, hk48_1, hk48_2, hk48_3, hk48_4⟩ := CI_o60 hw35 hz18
    refine hR (c_get hO48 rfl ?_)
    refine hR (?_ : R (_, _, _, _, _, _))
    refine hR (c_ald hw35 (by rw [hk48_2]; rfl) (by omega) (by omega) (Nat.le_of_ble_eq_true rfl) fun v49 lv49 uv49 => ?_)
    refine hR (t_add ?_)
    obtain ⟨hTf50, hIf50, hpf50, hKf50⟩ := top_fr2 hT hw35 fr38 (by decide) hp36
    exact hR (zret_i rfl (Nat.le_refl _) trivial ⟨⟨_, hTf50, fun l m h => hIf50 _ _ (hI18 _ _ (hIt18 _ _ (hI14 _ _ (hIt14 _ _ (hI1 _ _ (hIt1 _ _ (h))))))), (KEEP2_tr hKt1 (KEEP2_tr hK1 (KEEP2_tr hKt14 (KEEP2_tr hK14 (KEEP2_tr hKt18 (KEEP2_tr hK18 hKf50)))))), (EXT_tr hx1 (EXT_tr hx14 hx18)), by omega, by omega⟩, _, rfl⟩)
theorem k_circles {ρ : Nat → Nat} {w : zW} (hT : TOP ρ w) (d : Nat) (a1 a2 : Int) (hr0 : -2147483648 ≤ a1 ∧ a1 ≤ 2147483647) (hr1 : -2147483648 ≤ a2 ∧ a2 ≤ 2147483647) : DET zTab (d + 8) iX11_circles [.ref 0, .int (Int32.ofInt a1), .int (Int32.ofInt a2)] w (PB ρ w) := by
  refine z_rel (M := kX11_circles) _ rfl (Nat.le_of_ble_eq_true rfl) fun R hR0 => ?_
  have hR : ∀ {pc : Nat} {L : zL} {S : List Value} {w1 : zW} {k n : Nat}, zsc (zCl zTab (d + 7)) (d + 7) kX11_circles none zTab k n (PB ρ w k n) pc L S w1 k n R → R (pc, L, S, w1, k, n) := fun h => hR0 _ _ (Nat.le_refl _) (Nat.le_refl _) h
  have fr0 := wfR_rf [51, 80, 85, 86, 87, 88, 89, 90] ρ w
  iterate 2 refine hR (?_ : R (_, _, _, _, _, _))
  obtain ⟨y6_2, y7_2, hO2, hk2_0, hk2_1, hk2_2, hk2_3, hk2_4, hk2_5, hk2_6, hk2_7⟩ := CI_o1 hT.1 hT.2.1
  obtain ⟨hTt1, hIt1, hpt1, hKt1⟩ := top_fr2 hT hT.1 fr0 (by decide) hT.2.2.1
  obtain ⟨mc1, ms1, re1, w, ⟨ρ, hA1, hr_1⟩, hrun1⟩ := a_readingsAt hTt1 (d + 4) a1 (by omega)
  refine hR0 (0 + mc1) (0 + ms1) (Nat.le_add_right _ _) (Nat.le_add_right _ _) (c_obj hO2 (zcall_i mc1 ms1 (Nat.le_refl _) (Nat.le_refl _) (hrun1 _ ?_)))
  obtain ⟨hT, hI1, hK1, hx1, hm1, hs1⟩ := hA1
  have fr3 := wfR_rf [51, 80, 85, 86, 87, 88, 89, 90] ρ w
  rcases hr_1 with rfl | ⟨z1, rfl, hz1⟩
  · skip
    refine (?_ : R (_, _, .null :: [], w, 0 + mc1, 0 + ms1))
    iterate 4 refine hR (?_ : R (_, _, _, _, _, _))
    obtain ⟨hTf4, hIf4, hpf4, hKf4⟩ := top_fr2 hT hT.1 fr3 (by decide) hT.2.2.1
    exact hR (zret_i rfl (Nat.le_refl _) trivial ⟨⟨_, hTf4, fun l m h => hIf4 _ _ (hI1 _ _ (hIt1 _ _ (h))), (KEEP2_tr hKt1 (KEEP2_tr hK1 hKf4)), hx1, by omega, by omega⟩, _, rfl⟩)
  · skip
    refine (?_ : R (_, _, (.ref z1) :: [], w, 0 + mc1, 0 + ms1))
    iterate 5 refine hR (?_ : R (_, _, _, _, _, _))
    refine hR (j_eq (by omega) (by omega) (fun hc5 => ?_) (fun hc5 => ?_))
    · skip
      refine hR (?_ : R (_, _, _, _, _, _))
      obtain ⟨y6_7, y7_7, hO7, hk7_0, hk7_1, hk7_2, hk7_3, hk7_4, hk7_5, hk7_6, hk7_7⟩ := CI_o1 hT.1 hT.2.1
      obtain ⟨hTt6, hIt6, hpt6, hKt6⟩ := top_fr2 hT hT.1 fr3 (by decide) hT.2.2.1
      obtain ⟨mc6, ms6, re6, w, ⟨ρ, z6, hA6, hre6, hz6⟩, hrun6⟩ := a_ringsThere hTt6 (d + 4)
      subst hre6
      refine hR0 (0 + mc1 + mc6) (0 + ms1 + ms6) (Nat.le_add_right _ _) (Nat.le_add_right _ _) (c_obj hO7 (zcall_i mc6 ms6 (Nat.le_refl _) (Nat.le_refl _) (hrun6 _ ?_)))
      obtain ⟨hT, hI6, hK6, hx6, hm6, hs6⟩ := hA6
      have hl8 : ρ z1 = 50 := (hx6 z1 (by rw [hz1]; decide)).trans hz1
      have fr9 := wfR_rf [51, 80, 85, 86, 87, 88, 89, 90] ρ w
      refine (?_ : R (_, _, (.ref z6) :: [], w, 0 + mc1 + mc6, 0 + ms1 + ms6))
      iterate 3 refine hR (?_ : R (_, _, _, _, _, _))
      obtain ⟨x1_11, x2_11, x3_11, x4_11, x5_11, hO11, hk11_0, hk11_1, hk11_2, hk11_3, hk11_4, hk11_5, hk11_6, hk11_7, hk11_8, hk11_9, hk11_10, hk11_11, hk11_12, hk11_13, hk11_14⟩ := CI_o80 hT.1 hz6
      refine hR (c_obj hO11 (zcall_i 0 0 (Nat.le_refl _) (Nat.le_refl _) (c_findCircles _ z6 z1 hT.1 hz6 hl8 _ fun w10 hw10 g10 => ?_)))
      have fr12 := wfR_tr fr9 g10 (by decide)
      refine (?_ : R (_, _, [], w10, 0 + mc1 + mc6, 0 + ms1 + ms6))
      have aw13 := AWK_fr hT.1 g10 hT.2.2.1 (by decide)
      iterate 2 refine hR (?_ : R (_, _, _, _, _, _))
      refine hR (j_ne (by omega) (by omega) (fun hc => by omega) (fun _ => ?_))
      refine hR (?_ : R (_, _, _, _, _, _))
      obtain ⟨x1_14, x2_14, x3_14, x4_14, x5_14, hO14, hk14_0, hk14_1, hk14_2, hk14_3, hk14_4, hk14_5, hk14_6, hk14_7, hk14_8, hk14_9, hk14_10, hk14_11, hk14_12, hk14_13, hk14_14⟩ := CI_o80 hw10 hz6
      refine hR (c_get hO14 rfl ?_)
      obtain ⟨hTf15, hIf15, hpf15, hKf15⟩ := top_fr2 hT hw10 fr12 (by decide) aw13
      exact hR (zret_i rfl (Nat.le_refl _) trivial ⟨⟨_, hTf15, fun l m h => hIf15 _ _ (hI6 _ _ (hIt6 _ _ (hI1 _ _ (hIt1 _ _ (h))))), (KEEP2_tr hKt1 (KEEP2_tr hK1 (KEEP2_tr hKt6 (KEEP2_tr hK6 hKf15)))), (EXT_tr hx1 hx6), by omega, by omega⟩, _, rfl⟩)
    refine hR (?_ : R (_, _, _, _, _, _))
    refine hR (t_c (-2) (by decide) ?_)
    refine hR (j_eq (by omega) (by omega) (fun hc16 => ?_) (fun hc16 => ?_))
    · skip
      refine hR (?_ : R (_, _, _, _, _, _))
      obtain ⟨y6_18, y7_18, hO18, hk18_0, hk18_1, hk18_2, hk18_3, hk18_4, hk18_5, hk18_6, hk18_7⟩ := CI_o1 hT.1 hT.2.1
      obtain ⟨hTt17, hIt17, hpt17, hKt17⟩ := top_fr2 hT hT.1 fr3 (by decide) hT.2.2.1
      obtain ⟨mc17, ms17, re17, w, ⟨ρ, z17, hA17, hre17, hz17⟩, hrun17⟩ := a_ringsThere hTt17 (d + 4)
      subst hre17
      refine hR0 (0 + mc1 + mc17) (0 + ms1 + ms17) (Nat.le_add_right _ _) (Nat.le_add_right _ _) (c_obj hO18 (zcall_i mc17 ms17 (Nat.le_refl _) (Nat.le_refl _) (hrun17 _ ?_)))
      obtain ⟨hT, hI17, hK17, hx17, hm17, hs17⟩ := hA17
      have hl19 : ρ z1 = 50 := (hx17 z1 (by rw [hz1]; decide)).trans hz1
      have fr20 := wfR_rf [51, 80, 85, 86, 87, 88, 89, 90] ρ w
      refine (?_ : R (_, _, (.ref z17) :: [], w, 0 + mc1 + mc17, 0 + ms1 + ms17))
      iterate 3 refine hR (?_ : R (_, _, _, _, _, _))
      obtain ⟨x1_22, x2_22, x3_22, x4_22, x5_22, hO22, hk22_0, hk22_1, hk22_2, hk22_3, hk22_4, hk22_5, hk22_6, hk22_7, hk22_8, hk22_9, hk22_10, hk22_11, hk22_12, hk22_13, hk22_14⟩ := CI_o80 hT.1 hz17
      refine hR (c_obj hO22 (zcall_i 0 0 (Nat.le_refl _) (Nat.le_refl _) (c_findCircles _ z17 z1 hT.1 hz17 hl19 _ fun w21 hw21 g21 => ?_)))
      have fr23 := wfR_tr fr20 g21 (by decide)
      refine (?_ : R (_, _, [], w21, 0 + mc1 + mc17, 0 + ms1 + ms17))
      have aw24 := AWK_fr hT.1 g21 hT.2.2.1 (by decide)
      iterate 2 refine hR (?_ : R (_, _, _, _, _, _))
      refine hR (j_ne (by omega) (by omega) (fun _ => ?_) (fun hc => by omega))
      refine hR (?_ : R (_, _, _, _, _, _))
      refine hR (t_c (-2) (by decide) ?_)
      refine hR (j_ne (by omega) (by omega) (fun hc => by omega) (fun _ => ?_))
      refine hR (?_ : R (_, _, _, _, _, _))
      obtain ⟨x1_25, x2_25, x3_25, x4_25, x5_25, hO25, hk25_0, hk25_1, hk25_2, hk25_3, hk25_4, hk25_5, hk25_6, hk25_7, hk25_8, hk25_9, hk25_10, hk25_11, hk25_12, hk25_13, hk25_14⟩ := CI_o80 hw21 hz17
      refine hR (c_get hO25 rfl ?_)
      refine hR (?_ : R (_, _, _, _, _, _))
      obtain ⟨hTf26, hIf26, hpf26, hKf26⟩ := top_fr2 hT hw21 fr23 (by decide) aw24
      exact hR (zret_i rfl (Nat.le_refl _) trivial ⟨⟨_, hTf26, fun l m h => hIf26 _ _ (hI17 _ _ (hIt17 _ _ (hI1 _ _ (hIt1 _ _ (h))))), (KEEP2_tr hKt1 (KEEP2_tr hK1 (KEEP2_tr hKt17 (KEEP2_tr hK17 hKf26)))), (EXT_tr hx1 hx17), by omega, by omega⟩, _, rfl⟩)
    refine hR (?_ : R (_, _, _, _, _, _))
    refine hR (zcall_i 0 0 (Nat.le_refl _) (Nat.le_refl _) (c_isText _ _ a2 (by omega) _ fun v27 hp29 => ?_))
    refine (?_ : R (_, _, (.int (Int32.ofInt v27)) :: [], w, 0 + mc1, 0 + ms1))
    refine hR (k_ne (by omega) (fun hc30 => ?_) (fun hc30 => ?_))
    rotate_left
    · skip
      refine hR (?_ : R (_, _, _, _, _, _))
      obtain ⟨hTf42, hIf42, hpf42, hKf42⟩ := top_fr2 hT hT.1 fr3 (by decide) hT.2.2.1
      exact hR (zret_i rfl (Nat.le_refl _) trivial ⟨⟨_, hTf42, fun l m h => hIf42 _ _ (hI1 _ _ (hIt1 _ _ (h))), (KEEP2_tr hKt1 (KEEP2_tr hK1 hKf42)), hx1, by omega, by omega⟩, _, rfl⟩)
    refine hR (?_ : R (_, _, _, _, _, _))
    obtain ⟨y6_32, y7_32, hO32, hk32_0, hk32_1, hk32_2, hk32_3, hk32_4, hk32_5, hk32_6, hk32_7⟩ := CI_o1 hT.1 hT.2.1
    obtain ⟨hTt31, hIt31, hpt31, hKt31⟩ := top_fr2 hT hT.1 fr3 (by decide) hT.2.2.1
    obtain ⟨mc31, ms31, re31, w, ⟨ρ, z31, hA31, hre31, hz31⟩, hrun31⟩ := a_ringsThere hTt31 (d + 4)
    subst hre31
    refine hR0 (0 + mc1 + mc31) (0 + ms1 + ms31) (Nat.le_add_right _ _) (Nat.le_add_right _ _) (c_obj hO32 (zcall_i mc31 ms31 (Nat.le_refl _) (Nat.le_refl _) (hrun31 _ ?_)))
    obtain ⟨hT, hI31, hK31, hx31, hm31, hs31⟩ := hA31
    have hl33 : ρ z1 = 50 := (hx31 z1 (by rw [hz1]; decide)).trans hz1
    have fr34 := wfR_rf [51, 80, 85, 86, 87, 88, 89, 90] ρ w
    refine (?_ : R (_, _, (.ref z31) :: [], w, 0 + mc1 + mc31, 0 + ms1 + ms31))
    iterate 3 refine hR (?_ : R (_, _, _, _, _, _))
    obtain ⟨x1_36, x2_36, x3_36, x4_36, x5_36, hO36, hk36_0, hk36_1, hk36_2, hk36_3, hk36_4, hk36_5, hk36_6, hk36_7, hk36_8, hk36_9, hk36_10, hk36_11, hk36_12, hk36_13, hk36_14⟩ := CI_o80 hT.1 hz31
    refine hR (c_obj hO36 (zcall_i 0 0 (Nat.le_refl _) (Nat.le_refl _) (c_findCircles _ z31 z1 hT.1 hz31 hl33 _ fun w35 hw35 g35 => ?_)))
    have fr37 := wfR_tr fr34 g35 (by decide)
    refine (?_ : R (_, _, [], w35, 0 + mc1 + mc31, 0 + ms1 + ms31))
    have aw38 := AWK_fr hT.1 g35 hT.2.2.1 (by decide)
    iterate 2 refine hR (?_ : R (_, _, _, _, _, _))
    refine hR (j_ne (by omega) (by omega) (fun _ => ?_) (fun hc => by omega))
    refine hR (?_ : R (_, _, _, _, _, _))
    refine hR (t_c (-2) (by decide) ?_)
    refine hR (j_ne (by omega) (by omega) (fun _ => ?_) (fun hc => by omega))
    refine hR (?_ : R (_, _, _, _, _, _))
    obtain ⟨x1_39, x2_39, x3_39, x4_39, x5_39, hO39, hk39_0, hk39_1, hk39_2, hk39_3, hk39_4, hk39_5, hk39_6, hk39_7, hk39_8, hk39_9, hk39_10, hk39_11, hk39_12, hk39_13, hk39_14⟩ := CI_o80 hw35 hz31
    refine hR (c_get hO39 rfl ?_)
    refine hR (?_ : R (_, _, _, _, _, _))
    refine hR (c_ald hw35 (by rw [hk39_14]; rfl) (by omega) (by omega) (Nat.le_of_ble_eq_true rfl) fun v40 lv40 uv40 => ?_)
    obtain ⟨hTf41, hIf41, hpf41, hKf41⟩ := top_fr2 hT hw35 fr37 (by decide) aw38
    exact hR (zret_i rfl (Nat.le_refl _) trivial ⟨⟨_, hTf41, fun l m h => hIf41 _ _ (hI31 _ _ (hIt31 _ _ (hI1 _ _ (hIt1 _ _ (h))))), (KEEP2_tr hKt1 (KEEP2_tr hK1 (KEEP2_tr hKt31 (KEEP2_tr hK31 hKf41)))), (EXT_tr hx1 hx31), by omega, by omega⟩, _, rfl⟩)
