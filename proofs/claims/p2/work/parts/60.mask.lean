/-! A CALL UNDER A MASK: what no cell in view refers to stays as it is. -/
def MSK (ρ σ : Nat → Nat) : Prop := (∀ x, σ x = ρ x ∨ σ x = 0) ∧ ∀ q, ρ q = 23 → σ q = 23
theorem CI_un {ρ σ : Nat → Nat} {w w' : zW} {rs : List Nat} (hm : MSK ρ σ) (hw : CI ρ w) (h2 : CI σ w') (hf : wfR rs σ w w') (h0 : 0 ∉ rs) : CI ρ w' := by
  refine ⟨fun q hq => ?_, fun q hq => hw.2.1 q (by rw [← hf.1]; exact hq), fun q hq => ?_⟩
  · by_cases e : σ q = ρ q
    · obtain ⟨c, h1, h3⟩ := h2.1 q hq
      refine ⟨c, h1, rOK_map e.symm (fun x r hr ex => ?_) h3⟩
      have hne : σ x ≠ 0 := by
        rw [ex]
        rcases hr with hr | ⟨ti, len, hr⟩
        · exact rls_0 hr
        · exact rRf_0 hr
      rcases hm.1 x with h | h
      · rw [← h]; exact ex
      · exact absurd h hne
    · have e0 : σ q = 0 := (hm.1 q).resolve_left e
      obtain ⟨c, h1, h3⟩ := hw.1 q (by rw [← hf.1]; exact hq)
      exact ⟨c, (hf.2 q (by rw [e0]; exact h0)).trans h1, h3⟩
  · obtain ⟨h1, gk, gn, h3, h4, h5⟩ := h2.2.2 q (hm.2 q hq)
    refine ⟨?_, gk, gn, h3, h4, h5⟩
    rcases hm.1 (q + 1) with h | h
    · rw [← h]; exact h1
    · rw [h1] at h; cases h
theorem wfR_un {ρ σ : Nat → Nat} {w w' : zW} {rs : List Nat} (hm : MSK ρ σ) (hf : wfR rs σ w w') (h0 : 0 ∉ rs) : wfR rs ρ w w' := by
  refine ⟨hf.1, fun q hq => hf.2 q ?_⟩
  rcases hm.1 q with h | h
  · rw [h]; exact hq
  · rw [h]; exact h0
/-- all walks but one -/
def mkW (ρ : Nat → Nat) (p : Nat) : Nat → Nat := fun x => if ρ x = 1 ∨ ρ x = 14 ∨ ((60 ≤ ρ x ∧ ρ x ≤ 64) ∧ ¬ (p ≤ x ∧ x ≤ p + 4)) then 0 else ρ x
theorem mkW_k {ρ : Nat → Nat} {p x : Nat} (h : ¬ (ρ x = 1 ∨ ρ x = 14 ∨ ((60 ≤ ρ x ∧ ρ x ≤ 64) ∧ ¬ (p ≤ x ∧ x ≤ p + 4)))) : mkW ρ p x = ρ x := if_neg h
theorem mkW_m (ρ : Nat → Nat) (p : Nat) : MSK ρ (mkW ρ p) := by
  refine ⟨fun x => ?_, fun q hq => (mkW_k (by omega)).trans hq⟩
  unfold mkW
  split
  · exact Or.inr rfl
  · exact Or.inl rfl
theorem rls_w {r0 r : Nat} (h : r ∈ rls r0) (h1 : r0 ≠ 1) (h2 : r0 ≠ 60) : r ≠ 1 ∧ r ≠ 14 ∧ ¬ (60 ≤ r ∧ r ≤ 64) := by
  unfold rls at h
  split at h
  case h_1 => exact absurd rfl h1
  all_goals first | (exact absurd rfl h2) | (simp only [List.mem_cons, List.not_mem_nil, or_false] at h; omega) | (cases h)
theorem rRf_w {r0 r ti len : Nat} (h : rRf r0 = some (ti, len, r)) (h1 : r0 ≠ 14) : r ≠ 1 ∧ r ≠ 14 ∧ ¬ (60 ≤ r ∧ r ≤ 64) := by
  unfold rRf at h
  split at h
  all_goals first | (exact absurd rfl h1) | (simp only [Option.some.injEq, Prod.mk.injEq] at h; omega) | (cases h)
theorem CI_mkW {ρ : Nat → Nat} {w : zW} {p : Nat} (hw : CI ρ w) (hp : ρ p = 60) : CI (mkW ρ p) w := by
  obtain ⟨x0, hO, hx0, f1, f2, f3, f4⟩ := CI_o60 hw hp
  have kp : ∀ j, j ≤ 4 → ρ (p + j) = 60 + j → mkW ρ p (p + j) = 60 + j := fun j hj e => (mkW_k (by omega)).trans e
  refine ⟨fun q hq => ?_, fun q hq => ?_, fun q hq => ?_⟩
  · obtain ⟨c, h1, h2⟩ := hw.1 q hq
    refine ⟨c, h1, ?_⟩
    by_cases e : ρ q = 1 ∨ ρ q = 14 ∨ ((60 ≤ ρ q ∧ ρ q ≤ 64) ∧ ¬ (p ≤ q ∧ q ≤ p + 4))
    · unfold rOK
      rw [show mkW ρ p q = 0 from if_pos e]
      trivial
    · by_cases e6 : ρ q = 60
      · have hqp : q = p := by
          have : q = p ∨ q = p + 1 ∨ q = p + 2 ∨ q = p + 3 ∨ q = p + 4 := by omega
          rcases this with h | rfl | rfl | rfl | rfl
          · exact h
          all_goals omega
        subst hqp
        have e1 : c = .inr (8, [.int (Int32.ofInt x0), .ref (q + 1), .ref (q + 2), .ref (q + 3), .ref (q + 4)]) := by
          have := h1.symm.trans hO
          exact Option.some.inj this
        subst e1
        unfold rOK
        rw [show mkW ρ q q = 60 from kp 0 (by omega) hp]
        exact ⟨x0, rfl, hx0, kp 1 (by omega) f1, kp 2 (by omega) f2, kp 3 (by omega) f3, kp 4 (by omega) f4⟩
      · refine rOK_map (mkW_k e) (fun x r hr ex => ?_) h2
        have hr' : r ≠ 1 ∧ r ≠ 14 ∧ ¬ (60 ≤ r ∧ r ≤ 64) := by
          rcases hr with hr | ⟨ti, len, hr⟩
          · exact rls_w hr (by omega) e6
          · exact rRf_w hr (by omega)
        exact (mkW_k (by rw [ex]; omega)).trans ex
  · have := hw.2.1 q hq
    exact (mkW_k (by omega)).trans this
  · have hq' : ρ q = 23 := by
      rcases (mkW_m ρ p).1 q with h | h
      · rw [← h]; exact hq
      · rw [hq] at h; cases h
    obtain ⟨h1, h2⟩ := hw.2.2 q hq'
    exact ⟨(mkW_k (by omega)).trans h1, h2⟩
/-- every walk keeps its ways back -/
def AWK (ρ : Nat → Nat) (w : zW) : Prop := ∀ q, ρ q = 60 → WK w q
theorem AWK_fr {rs : List Nat} {ρ : Nat → Nat} {w w1 : zW} (hw : CI ρ w) (g : wfR rs ρ w w1) (h : AWK ρ w) (h0 : 60 ∉ rs ∧ 61 ∉ rs ∧ 62 ∉ rs ∧ 63 ∉ rs) : AWK ρ w1 := by
  intro q hq
  obtain ⟨x0, hO, hx0, f1, f2, f3, f4⟩ := CI_o60 hw hq
  exact WK_fr g (by rw [hq]; exact h0.1) (by rw [f1]; exact h0.2.1) (by rw [f2]; exact h0.2.2.1) (by rw [f3]; exact h0.2.2.2) (h q hq)
theorem c_goA {ρ : Nat → Nat} {w : zW} (d : Nat) (p rd : Nat) (a1 a2 a3 : Int) (hw : CI ρ w) (hρp : ρ p = 60) (hρrd : ρ rd = 50) (hr0 : AWK ρ w) (hr1 : 0 ≤ a1 ∧ a1 ≤ 5460) (hr2 : -2147483648 ≤ a2 ∧ a2 ≤ 2147483647) (hr3 : -2147483648 ≤ a3 ∧ a3 ≤ 2147483647) (Q : zQ) (h : ∀ (w' : zW), CI ρ w' → wfR [51, 60, 61, 62, 63, 64] ρ w w' → (AWK ρ w') → Q none w') : zCl zTab (d + 5) iX9_go [.ref p, .ref rd, .int (Int32.ofInt a1), .int (Int32.ofInt a2), .int (Int32.ofInt a3)] w 0 0 Q := by
  obtain ⟨x0, hO, hx0, f1, f2, f3, f4⟩ := CI_o60 hw hρp
  have hp2 : mkW ρ p p = 60 := (mkW_k (by omega)).trans hρp
  have hrd2 : mkW ρ p rd = 50 := (mkW_k (by omega)).trans hρrd
  refine c_go d p rd a1 a2 a3 (CI_mkW hw hρp) hp2 hrd2 (hr0 p hρp) hr1 hr2 hr3 Q fun w' hw' g hk => ?_
  refine h w' (CI_un (mkW_m ρ p) hw hw' g (by decide)) (wfR_un (mkW_m ρ p) g (by decide)) fun q hq => ?_
  by_cases e : q = p
  · rw [e]; exact hk
  · obtain ⟨y0, hO', hy0, g1, g2, g3, g4⟩ := CI_o60 hw hq
    have hz : ∀ j, j ≤ 4 → ρ (q + j) = 60 + j → mkW ρ p (q + j) = 0 := by
      intro j hj e1
      refine if_pos (Or.inr (Or.inr ⟨by omega, fun h => e ?_⟩))
      have : ∃ i, i ≤ 4 ∧ q + j = p + i := ⟨q + j - p, by omega, by omega⟩
      obtain ⟨i, hi, e2⟩ := this
      have e3 : ρ (p + i) = 60 + i := by
        have : i = 0 ∨ i = 1 ∨ i = 2 ∨ i = 3 ∨ i = 4 := by omega
        rcases this with rfl | rfl | rfl | rfl | rfl <;> assumption
      rw [← e2, e1] at e3
      omega
    exact WK_fr g (by rw [show mkW ρ p q = 0 from hz 0 (by omega) hq]; decide) (by rw [hz 1 (by omega) g1]; decide) (by rw [hz 2 (by omega) g2]; decide) (by rw [hz 3 (by omega) g3]; decide) (hr0 q hq)
