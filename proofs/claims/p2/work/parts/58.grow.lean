/-! THE WORLD GROWS: other roles for the same cells, and cells behind the last one. -/
theorem ap_ix {w l : zW} {j : Nat} : zix (w ++ l) (w.length + j) = zix l j := by
  rw [zix_eq, zix_eq, List.getElem?_append_right (by omega)]
  congr 1
  omega
theorem ap_lt {w l : zW} {q : Nat} (h : q < w.length) : zix (w ++ l) q = zix w q := by
  rw [zix_eq, zix_eq, List.getElem?_append_left h]
theorem ap_st {w l : zW} {j : Nat} {c : va_E} : zst (w ++ l) (w.length + j) c = w ++ zst l j c := by
  rw [zst_eq, zst_eq, List.set_append_right _ _ (by omega)]
  congr 2
  omega
def rls (r : Nat) : List Nat := match r with
  | 1 => [2, 8, 9, 10, 13, 14, 70, 80]
  | 2 => [3, 4, 5, 6, 7]
  | 9 => [3]
  | 10 => [11, 12, 20]
  | 19 => [21, 22, 25, 26]
  | 20 => [21, 22, 23, 24]
  | 30 => [31, 32, 33]
  | 40 => [41, 42]
  | 49 => [20, 51, 52]
  | 50 => [20, 51, 52]
  | 60 => [61, 62, 63, 64]
  | 70 => [50, 71, 72, 73, 74, 75, 76]
  | 80 => [81, 82, 83, 84, 85, 86, 87, 88, 89, 90]
  | _ => []
theorem rOb_m1 {ρ σ : Nat → Nat} {q : Nat} {c : va_E} (hm : ∀ x r, r ∈ rls 1 → ρ x = r → σ x = r) (h : rOb ρ 1 q c) : rOb σ 1 q c := by
  obtain ⟨y6, y7, e, f0, f1, f2, f3, f4, f5, f6, f7⟩ := h
  exact ⟨y6, y7, e, hm _ _ (by decide) f0, hm _ _ (by decide) f1, hm _ _ (by decide) f2, hm _ _ (by decide) f3, hm _ _ (by decide) f4, hm _ _ (by decide) f5, fun z hz => hm _ _ (by decide) (f6 z hz), fun z hz => hm _ _ (by decide) (f7 z hz)⟩
theorem rOb_m2 {ρ σ : Nat → Nat} {q : Nat} {c : va_E} (hm : ∀ x r, r ∈ rls 2 → ρ x = r → σ x = r) (h : rOb ρ 2 q c) : rOb σ 2 q c := by
  obtain ⟨x1, x2, x3, e, f0, f1, f2, f3, f4, f5, f6, f7⟩ := h
  exact ⟨x1, x2, x3, e, hm _ _ (by decide) f0, f1, f2, f3, hm _ _ (by decide) f4, hm _ _ (by decide) f5, hm _ _ (by decide) f6, hm _ _ (by decide) f7⟩
theorem rOb_m9 {ρ σ : Nat → Nat} {q : Nat} {c : va_E} (hm : ∀ x r, r ∈ rls 9 → ρ x = r → σ x = r) (h : rOb ρ 9 q c) : rOb σ 9 q c := by
  obtain ⟨y0, x1, x2, x3, x4, x5, x6, x7, e, f0, f1, f2, f3, f4, f5, f6, f7⟩ := h
  exact ⟨y0, x1, x2, x3, x4, x5, x6, x7, e, fun z hz => hm _ _ (by decide) (f0 z hz), f1, f2, f3, f4, f5, f6, f7⟩
theorem rOb_m10 {ρ σ : Nat → Nat} {q : Nat} {c : va_E} (hm : ∀ x r, r ∈ rls 10 → ρ x = r → σ x = r) (h : rOb ρ 10 q c) : rOb σ 10 q c := by
  obtain ⟨y0, x1, x2, x3, x4, e, f0, f1, f2, f3, f4, f5, f6⟩ := h
  exact ⟨y0, x1, x2, x3, x4, e, fun z hz => hm _ _ (by decide) (f0 z hz), f1, f2, f3, f4, hm _ _ (by decide) f5, hm _ _ (by decide) f6⟩
theorem rOb_m19 {ρ σ : Nat → Nat} {q : Nat} {c : va_E} (hm : ∀ x r, r ∈ rls 19 → ρ x = r → σ x = r) (h : rOb ρ 19 q c) : rOb σ 19 q c := by
  obtain ⟨x0, x1, x2, e, f0, f1, f2, f3, f4, f5, f6⟩ := h
  exact ⟨x0, x1, x2, e, f0, f1, f2, hm _ _ (by decide) f3, hm _ _ (by decide) f4, hm _ _ (by decide) f5, hm _ _ (by decide) f6⟩
theorem rOb_m20 {ρ σ : Nat → Nat} {q : Nat} {c : va_E} (hm : ∀ x r, r ∈ rls 20 → ρ x = r → σ x = r) (h : rOb ρ 20 q c) : rOb σ 20 q c := by
  obtain ⟨x0, x1, x2, e, f0, f1, f2, f3, f4, f5, f6⟩ := h
  exact ⟨x0, x1, x2, e, f0, f1, f2, hm _ _ (by decide) f3, hm _ _ (by decide) f4, hm _ _ (by decide) f5, hm _ _ (by decide) f6⟩
theorem rOb_m30 {ρ σ : Nat → Nat} {q : Nat} {c : va_E} (hm : ∀ x r, r ∈ rls 30 → ρ x = r → σ x = r) (h : rOb ρ 30 q c) : rOb σ 30 q c := by
  obtain ⟨x0, e, f0, f1, f2, f3⟩ := h
  exact ⟨x0, e, f0, hm _ _ (by decide) f1, hm _ _ (by decide) f2, hm _ _ (by decide) f3⟩
theorem rOb_m40 {ρ σ : Nat → Nat} {q : Nat} {c : va_E} (hm : ∀ x r, r ∈ rls 40 → ρ x = r → σ x = r) (h : rOb ρ 40 q c) : rOb σ 40 q c := by
  obtain ⟨x0, e, f0, f1, f2⟩ := h
  exact ⟨x0, e, f0, hm _ _ (by decide) f1, hm _ _ (by decide) f2⟩
theorem rOb_m49 {ρ σ : Nat → Nat} {q : Nat} {c : va_E} (hm : ∀ x r, r ∈ rls 49 → ρ x = r → σ x = r) (h : rOb ρ 49 q c) : rOb σ 49 q c := by
  obtain ⟨y0, z2, z3, e, f0, f1, f2, f3, f4⟩ := h
  exact ⟨y0, z2, z3, e, fun z hz => hm _ _ (by decide) (f0 z hz), hm _ _ (by decide) f1, hm _ _ (by decide) f2, hm _ _ (by decide) f3, f4⟩
theorem rOb_m50 {ρ σ : Nat → Nat} {q : Nat} {c : va_E} (hm : ∀ x r, r ∈ rls 50 → ρ x = r → σ x = r) (h : rOb ρ 50 q c) : rOb σ 50 q c := by
  obtain ⟨z0, z2, z3, e, f0, f1, f2, f3, f4⟩ := h
  exact ⟨z0, z2, z3, e, hm _ _ (by decide) f0, hm _ _ (by decide) f1, hm _ _ (by decide) f2, hm _ _ (by decide) f3, f4⟩
theorem rOb_m60 {ρ σ : Nat → Nat} {q : Nat} {c : va_E} (hm : ∀ x r, r ∈ rls 60 → ρ x = r → σ x = r) (h : rOb ρ 60 q c) : rOb σ 60 q c := by
  obtain ⟨x0, e, f0, f1, f2, f3, f4⟩ := h
  exact ⟨x0, e, f0, hm _ _ (by decide) f1, hm _ _ (by decide) f2, hm _ _ (by decide) f3, hm _ _ (by decide) f4⟩
theorem rOb_m70 {ρ σ : Nat → Nat} {q : Nat} {c : va_E} (hm : ∀ x r, r ∈ rls 70 → ρ x = r → σ x = r) (h : rOb ρ 70 q c) : rOb σ 70 q c := by
  obtain ⟨y0, x1, x2, x3, e, f0, f1, f2, f3, f4, f5, f6, f7, f8, f9⟩ := h
  exact ⟨y0, x1, x2, x3, e, fun z hz => hm _ _ (by decide) (f0 z hz), f1, f2, f3, hm _ _ (by decide) f4, hm _ _ (by decide) f5, hm _ _ (by decide) f6, hm _ _ (by decide) f7, hm _ _ (by decide) f8, hm _ _ (by decide) f9⟩
theorem rOb_m80 {ρ σ : Nat → Nat} {q : Nat} {c : va_E} (hm : ∀ x r, r ∈ rls 80 → ρ x = r → σ x = r) (h : rOb ρ 80 q c) : rOb σ 80 q c := by
  obtain ⟨x1, x2, x3, x4, x5, e, f0, f1, f2, f3, f4, f5, f6, f7, f8, f9, f10, f11, f12, f13, f14⟩ := h
  exact ⟨x1, x2, x3, x4, x5, e, hm _ _ (by decide) f0, f1, f2, f3, f4, f5, hm _ _ (by decide) f6, hm _ _ (by decide) f7, hm _ _ (by decide) f8, hm _ _ (by decide) f9, hm _ _ (by decide) f10, hm _ _ (by decide) f11, hm _ _ (by decide) f12, hm _ _ (by decide) f13, hm _ _ (by decide) f14⟩
theorem rOb_d {ρ : Nat → Nat} {r q : Nat} {c : va_E} (h : r ≠ 1 ∧ r ≠ 2 ∧ r ≠ 9 ∧ r ≠ 10 ∧ r ≠ 19 ∧ r ≠ 20 ∧ r ≠ 30 ∧ r ≠ 40 ∧ r ≠ 49 ∧ r ≠ 50 ∧ r ≠ 60 ∧ r ≠ 70 ∧ r ≠ 80) : rOb ρ r q c := by
  unfold rOb
  split <;> first | trivial | omega
theorem rOb_map {ρ σ : Nat → Nat} {r q : Nat} {c : va_E} (hm : ∀ x r1, r1 ∈ rls r → ρ x = r1 → σ x = r1) (h : rOb ρ r q c) : rOb σ r q c := by
  by_cases e1 : r = 1
  · subst e1; exact rOb_m1 hm h
  by_cases e2 : r = 2
  · subst e2; exact rOb_m2 hm h
  by_cases e9 : r = 9
  · subst e9; exact rOb_m9 hm h
  by_cases e10 : r = 10
  · subst e10; exact rOb_m10 hm h
  by_cases e19 : r = 19
  · subst e19; exact rOb_m19 hm h
  by_cases e20 : r = 20
  · subst e20; exact rOb_m20 hm h
  by_cases e30 : r = 30
  · subst e30; exact rOb_m30 hm h
  by_cases e40 : r = 40
  · subst e40; exact rOb_m40 hm h
  by_cases e49 : r = 49
  · subst e49; exact rOb_m49 hm h
  by_cases e50 : r = 50
  · subst e50; exact rOb_m50 hm h
  by_cases e60 : r = 60
  · subst e60; exact rOb_m60 hm h
  by_cases e70 : r = 70
  · subst e70; exact rOb_m70 hm h
  by_cases e80 : r = 80
  · subst e80; exact rOb_m80 hm h
  exact rOb_d ⟨e1, e2, e9, e10, e19, e20, e30, e40, e49, e50, e60, e70, e80⟩
theorem lgd_ge {l : List Nat} {i : Nat} (h : l.length ≤ i) : l.getD i 0 = 0 := by
  rw [List.getD_eq_getElem?_getD, List.getElem?_eq_none h]; rfl
theorem lgd_lt {l : List Nat} {i : Nat} (h : i < l.length) : l.getD i 0 = l[i] := by
  rw [List.getD_eq_getElem?_getD, List.getElem?_eq_getElem h]; rfl
theorem rls_0 {r r1 : Nat} (h : r1 ∈ rls r) : r1 ≠ 0 := by
  intro e
  subst e
  unfold rls at h
  split at h <;> revert h <;> decide
theorem rRf_0 {r ti len re : Nat} (h : rRf r = some (ti, len, re)) : re ≠ 0 := by
  intro e
  subst e
  unfold rRf at h
  split at h <;> revert h <;> simp
/-- a cell is as its role says, whatever else the roles say -/
theorem rOK_map {ρ σ : Nat → Nat} {q : Nat} {c : va_E} (hq : σ q = ρ q) (hm : ∀ x r, (r ∈ rls (ρ q) ∨ ∃ ti len, rRf (ρ q) = some (ti, len, r)) → ρ x = r → σ x = r) (h : rOK ρ q c) : rOK σ q c := by
  unfold rOK at h ⊢
  rw [hq]
  revert h
  cases rAr (ρ q) with
  | some v => exact fun h => h
  | none =>
    cases hr : rRf (ρ q) with
    | some v =>
      obtain ⟨ti, len, re⟩ := v
      rintro ⟨g, e, h⟩
      exact ⟨g, e, fun j x hx => hm x re (Or.inr ⟨ti, len, hr⟩) (h j x hx)⟩
    | none => exact fun h => rOb_map (fun x r1 h1 => hm x r1 (Or.inl h1)) h
def exr (ρ : Nat → Nat) (n : Nat) (rs : List Nat) : Nat → Nat := fun q => if q < n then ρ q else rs.getD (q - n) 0
theorem exr_lt {ρ : Nat → Nat} {n q : Nat} {rs : List Nat} (h : q < n) : exr ρ n rs q = ρ q := if_pos h
theorem exr_ge {ρ : Nat → Nat} {n : Nat} (j : Nat) {rs : List Nat} : exr ρ n rs (n + j) = rs.getD j 0 := by
  unfold exr
  rw [if_neg (by omega), show n + j - n = j by omega]
theorem exr_ni {ρ : Nat → Nat} {n r : Nat} {rs : List Nat} (h : r ∉ rs) (h0 : r ≠ 0) : ∀ q, n ≤ q → exr ρ n rs q ≠ r := by
  intro q hq e
  obtain ⟨j, rfl⟩ : ∃ j, q = n + j := ⟨q - n, by omega⟩
  rw [exr_ge] at e
  by_cases hj : j < rs.length
  · rw [lgd_lt hj] at e
    exact h (e ▸ List.getElem_mem hj)
  · rw [lgd_ge (by omega)] at e
    exact h0 e.symm
theorem CI_app {ρ : Nat → Nat} {w : zW} (hw : CI ρ w) (cs : zW) (rs : List Nat) (hl : rs.length = cs.length) (hc : ∀ j c, zix cs j = some c → rOK (exr ρ w.length rs) (w.length + j) c) (h23 : ∀ r ∈ rs, r ≠ 23) : CI (exr ρ w.length rs) (w ++ cs) := by
  refine ⟨fun q hq => ?_, fun q hq => ?_, fun q hq => ?_⟩
  · by_cases h : q < w.length
    · obtain ⟨c, h1, h2⟩ := hw.1 q h
      refine ⟨c, (ap_lt h).trans h1, rOK_map (exr_lt h) (fun x r hr e => ?_) h2⟩
      have h0 : ρ x ≠ 0 := by
        rw [e]
        rcases hr with hr | ⟨ti, len, hr⟩
        · exact rls_0 hr
        · exact rRf_0 hr
      exact (exr_lt (CI_lt hw h0)).trans e
    · obtain ⟨j, rfl⟩ : ∃ j, q = w.length + j := ⟨q - w.length, by omega⟩
      rw [List.length_append] at hq
      have hj : j < cs.length := by omega
      have e : zix cs j = some cs[j] := by rw [zix_eq]; exact List.getElem?_eq_getElem hj
      exact ⟨_, ap_ix.trans e, hc j _ e⟩
  · rw [List.length_append] at hq
    obtain ⟨j, rfl⟩ : ∃ j, q = w.length + j := ⟨q - w.length, by omega⟩
    rw [exr_ge]
    exact lgd_ge (by omega)
  · by_cases h : q < w.length
    · rw [exr_lt h] at hq
      obtain ⟨h1, gk, gn, h2, h3, h4⟩ := hw.2.2 q hq
      have hlt : q + 1 < w.length := CI_lt hw (by rw [h1]; decide)
      exact ⟨(exr_lt hlt).trans h1, gk, gn, (ap_lt h).trans h2, (ap_lt hlt).trans h3, h4⟩
    · obtain ⟨j, rfl⟩ : ∃ j, q = w.length + j := ⟨q - w.length, by omega⟩
      rw [exr_ge] at hq
      exfalso
      by_cases hj : j < rs.length
      · rw [lgd_lt hj] at hq
        exact h23 _ (List.getElem_mem hj) hq
      · rw [lgd_ge (by omega)] at hq
        cases hq
/-- the world has grown: the old cells and their roles stay -/
def GRO (ρ : Nat → Nat) (w : zW) (σ : Nat → Nat) (w' : zW) : Prop := w.length ≤ w'.length ∧ ∀ q, q < w.length → σ q = ρ q ∧ zix w' q = zix w q
theorem GRO_app {ρ : Nat → Nat} {w cs : zW} {rs : List Nat} : GRO ρ w (exr ρ w.length rs) (w ++ cs) := ⟨by rw [List.length_append]; omega, fun q hq => ⟨exr_lt hq, ap_lt hq⟩⟩
theorem GRO_wfr {ρ σ : Nat → Nat} {w w1 w2 : zW} {q : Nat} (h : GRO ρ w σ w1) (f : wfr q w1 w2) (hq : w.length ≤ q) : GRO ρ w σ w2 := ⟨by rw [f.1]; exact h.1, fun j hj => ⟨(h.2 j hj).1, (f.2 j (by omega)).trans (h.2 j hj).2⟩⟩
section AP
variable {R : zS → Prop} {np : Nat} {L : zL} {S : List Value} {w cells : zW} {k n : Nat}
theorem t_pa {j ci b : Nat} {fs : List Value} {v : Value} {ty : FieldType} (h : zix cells j = some (.inr (ci, fs))) (ht : zfit ty v = true) (hb : Nat.blt b fs.length = true) (hk : R (np, L, S, w ++ zst cells j (.inr (ci, zst fs b v)), k, n)) : zob (w ++ cells) (w.length + j) ci (fun fs => zif (zfit ty v) (zif (Nat.blt b fs.length) (R (np, L, S, zst (w ++ cells) (w.length + j) (.inr (ci, zst fs b v)), k, n)))) := by
  unfold zob
  rw [ap_ix, h]
  dsimp only
  rw [show Nat.beq ci ci = true from Nat.beq_refl ci]
  show zif (zfit ty v) _
  rw [ht]
  show zif (Nat.blt b fs.length) _
  rw [hb, ap_st]
  exact hk
theorem t_ga {j ci b : Nat} {fs : List Value} {v : Value} (h : zix cells j = some (.inr (ci, fs))) (hv : zix fs b = some v) (hk : R (np, L, v :: S, w ++ cells, k, n)) : zob (w ++ cells) (w.length + j) ci (fun fs => zfld fs b fun v => R (np, L, v :: S, w ++ cells, k, n)) := c_get (ap_ix.trans h) hv hk
theorem t_na {c : va_E} (hk : R (np, L, .ref (w.length + cells.length) :: S, w ++ (cells ++ [c]), k, n)) : R (np, L, .ref (w ++ cells).length :: S, (w ++ cells) ++ [c], k, n) := by
  rw [List.append_assoc, List.length_append]
  exact hk
theorem t_sa {j len : Nat} {g : Nat → Int32} {i x : Int32} (h : zix cells j = some (.inl (1, len, .inl g))) (hi : vp_in i len) (hk : R (np, L, S, w ++ zst cells j (.inl (1, len, .inl (upd g i.toNatClampNeg x))), k, n)) : zai (w ++ cells) (w.length + j) (fun ti len g => zif (Nat.beq ti 1) (vp_in i len ∧ R (np, L, S, zst (w ++ cells) (w.length + j) (.inl (ti, len, .inl (upd g i.toNatClampNeg x))), k, n))) := by
  unfold zai
  rw [ap_ix, h]
  show vp_in i len ∧ _
  rw [ap_st]
  exact ⟨hi, hk⟩
end AP
theorem c_linesInit (w : zW) (d q : Nat) (Q : zQ) (h : Q none w) : zCl zTab (d + 2) iX3_init [.ref q] w 0 0 Q := by
  refine zCl_i (M := kX3_init) rfl (Nat.le_of_ble_eq_true rfl) fun R hR => ?_
  iterate 2 refine hR (?_ : R (_, _, _, _, _, _))
  exact hR (zret_i rfl (Nat.le_refl _) rfl h)
