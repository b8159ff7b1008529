/-! WHAT IS TOLD: copies of it, bytes for the tape. -/
section CP
variable {R : zS → Prop} {np : Nat} {L : zL} {S : List Value} {w : zW} {k n : Nat} {ρ : Nat → Nat}
theorem c_cpy {q0 q1 ti len : Nat} {lo hi mi : Int} (hw : CI ρ w) (h0 : rAr (ρ q0) = some (ti, len, lo, hi)) (h1 : rAr (ρ q1) = some (ti, len, lo, hi)) (hm : ρ q1 ≠ 23 ∧ ρ q1 ≠ 24) (hti : Nat.ble ti 1 = true) (hmi : mi = len) (hn : len ≤ 60000) (hfit : ∀ v : Int32, lo ≤ v.toInt → v.toInt ≤ hi → fits (zaty ti) (.int v) = true) (hk : ∀ w1, CI ρ w1 → wfr q1 w w1 → R (np, L, S, w1, k, n)) : zai w q0 fun t0 n0 f => zai w q1 fun t1 n1 g => zif (Nat.beq t0 t1 && Nat.ble t0 1) (((¬ Int32.ofInt 0 < 0 ∧ ¬ Int32.ofInt 0 < 0 ∧ ¬ Int32.ofInt mi < 0) ∧ ((Int32.ofInt 0).toNatClampNeg + (Int32.ofInt mi).toNatClampNeg ≤ n0 ∧ (Int32.ofInt 0).toNatClampNeg + (Int32.ofInt mi).toNatClampNeg ≤ n1) ∧ ∀ j, j < (Int32.ofInt mi).toNatClampNeg → fits (zaty t0) (.int (f ((Int32.ofInt 0).toNatClampNeg + j))) = true) ∧ R (np, L, S, zst w q1 (.inl (t1, n1, .inl (va_cpy f g (Int32.ofInt 0).toNatClampNeg (Int32.ofInt 0).toNatClampNeg (Int32.ofInt mi).toNatClampNeg))), k, n)) := by
  subst hmi
  obtain ⟨f, f1, f2⟩ := CI_ar hw h0
  obtain ⟨g, g1, g2⟩ := CI_ar hw h1
  unfold zai
  rw [f1, g1]
  dsimp only
  rw [show Nat.beq ti ti = true from Nat.beq_refl ti, hti]
  have e0 : (Int32.ofInt 0).toNatClampNeg = 0 := by decide
  have em : (Int32.ofInt (len : Int)).toNatClampNeg = len := by rw [zcl (by omega) (by omega)]; omega
  have hlt : ¬ Int32.ofInt (len : Int) < 0 := by
    rw [Int32.lt_iff_toInt_lt, zti (by omega) (by omega)]
    show ¬ (len : Int) < 0
    omega
  show _ ∧ _
  rw [e0, em]
  refine ⟨⟨⟨by decide, by decide, hlt⟩, ⟨by omega, by omega⟩, fun j _ => hfit _ (f2 _).1 (f2 _).2⟩, ?_⟩
  obtain ⟨a, b⟩ := wfr_st (c' := .inl (ti, len, .inl (va_cpy f g 0 0 len))) g1
  refine hk _ (CI_st hw a b ?_ hm) a
  unfold rOK
  rw [h1]
  refine ⟨_, rfl, fun j => ?_⟩
  by_cases e : j < len
  · rw [pk_cpy_in (by omega) (by omega)]
    exact f2 _
  · rw [pk_cpy_out (by omega)]
    exact g2 _
theorem c_rso {q ti len re : Nat} {i : Int} {o : Option Nat} (hw : CI ρ w) (ha : rAr (ρ q) = none) (hr : rRf (ρ q) = some (ti, len, re)) (ht : (Nat.ble 3 ti && Nat.ble ti 8) = true) (hm : ρ q ≠ 23 ∧ ρ q ≠ 24) (ho : ∀ x, o = some x → ρ x = re ∧ ∃ fs, zix w x = some (.inr (zec ti, fs))) (h0 : 0 ≤ i) (h1 : i < len) (hl : len ≤ 60000) (hk : ∀ w1, CI ρ w1 → wfr q w w1 → R (np, L, S, w1, k, n)) : zaq w q (fun ti len g => zif (Nat.ble 3 ti && Nat.ble ti 8) (zrn2 (va_rf o) (fun q2 => zob w q2 (zec ti) fun _ => vp_in (Int32.ofInt i) len ∧ R (np, L, S, zst w q (.inl (ti, len, .inr (.inr (.inr (.inr (va_up g (Int32.ofInt i).toNatClampNeg (some q2))))))), k, n)) (vp_in (Int32.ofInt i) len ∧ R (np, L, S, zst w q (.inl (ti, len, .inr (.inr (.inr (.inr (va_up g (Int32.ofInt i).toNatClampNeg none)))))), k, n)))) := by
  obtain ⟨g, hg, -⟩ := CI_rf hw ha hr
  cases o with
  | none => exact c_rsn hw ha hr ht hm hg h0 h1 hl fun w1 a b _ => hk w1 a b
  | some x =>
    obtain ⟨hx, fs, hO⟩ := ho x rfl
    exact c_rst hw ha hr ht hm hg hx hO h0 h1 hl fun w1 a b _ => hk w1 a b
theorem c_bst3 {q len : Nat} {i : Int} {x : Int32} (hw : CI ρ w) (hr : rAr (ρ q) = some (0, len, -128, 127)) (hm : ρ q ≠ 23 ∧ ρ q ≠ 24) (h0 : 0 ≤ i) (h1 : i < len) (hl : len ≤ 60000) (hk : ∀ w1, CI ρ w1 → wfr q w w1 → R (np, L, S, w1, k, n)) : zai w q (fun ti len g => zor (Nat.beq ti 0) (vp_in (Int32.ofInt i) len ∧ R (np, L, S, zst w q (.inl (ti, len, .inl (upd g (Int32.ofInt i).toNatClampNeg (vp_nar .byte x)))), k, n)) (zif (Nat.beq ti 2) (vp_in (Int32.ofInt i) len ∧ R (np, L, S, zst w q (.inl (ti, len, .inl (upd g (Int32.ofInt i).toNatClampNeg (vp_nar .boolean x)))), k, n)))) := by
  obtain ⟨g, h2, h3⟩ := CI_ar hw hr
  unfold zai
  rw [h2]
  refine ⟨zvin h0 h1 hl, ?_⟩
  obtain ⟨f1, f2⟩ := wfr_st (c' := .inl (0, len, .inl (upd g (Int32.ofInt i).toNatClampNeg (vp_nar .byte x)))) h2
  refine hk _ (CI_st hw f1 f2 ?_ hm) f1
  unfold rOK
  rw [hr]
  refine ⟨_, rfl, fun j => ?_⟩
  by_cases e : j = (Int32.ofInt i).toNatClampNeg
  · subst e
    rw [pk_us, vp_nar_byte, Int8.toInt_toInt32]
    have a := Int8.le_toInt x.toInt8
    have b := Int8.toInt_lt x.toInt8
    omega
  · rw [pk_un e]
    exact h3 j
end CP
theorem fit_b (v : Int32) (h1 : -128 ≤ v.toInt) (h2 : v.toInt ≤ 127) : fits (zaty 0) (.int v) = true := by
  show (decide (-128 ≤ v) && decide (v ≤ 127)) = true
  rw [Bool.and_eq_true, decide_eq_true_eq, decide_eq_true_eq, Int32.le_iff_toInt_le, Int32.le_iff_toInt_le]
  exact ⟨h1, h2⟩
theorem blk {ρ : Nat → Nat} {w : zW} {p o : Nat} (hw : CI ρ w) (hp : ρ p = 2) (ho : ρ o = 2) (hne : p ≠ o) : ∀ j, j ≤ 5 → (o + j < p ∨ p + 5 < o + j) := by
  intro j hj
  obtain ⟨a1, a2, a3, -, b1, -, -, -, b2, b3, b4, b5⟩ := CI_o2 hw hp
  obtain ⟨c1, c2, c3, -, d1, -, -, -, d2, d3, d4, d5⟩ := CI_o2 hw ho
  rcases Nat.lt_or_ge (o + j) p with h | h
  · exact Or.inl h
  · rcases Nat.lt_or_ge (p + 5) (o + j) with h2 | h2
    · exact Or.inr h2
    · exfalso
      obtain ⟨i, hi⟩ : ∃ i, o + j = p + i := ⟨o + j - p, by omega⟩
      have e1 : ρ (p + i) = 2 + i := by
        have : i = 0 ∨ i = 1 ∨ i = 2 ∨ i = 3 ∨ i = 4 ∨ i = 5 := by omega
        rcases this with rfl | rfl | rfl | rfl | rfl | rfl <;> assumption
      have e2 : ρ (o + j) = 2 + j := by
        have : j = 0 ∨ j = 1 ∨ j = 2 ∨ j = 3 ∨ j = 4 ∨ j = 5 := by omega
        rcases this with rfl | rfl | rfl | rfl | rfl | rfl <;> assumption
      rw [hi, e1] at e2
      omega
def FRP (p : Nat) (w w' : zW) : Prop := w'.length = w.length ∧ ∀ q, (q < p ∨ p + 5 < q) → zix w' q = zix w q
theorem FRP_st {p q0 : Nat} {w w1 w2 : zW} (h : FRP p w w1) (f : wfr q0 w1 w2) (hq : p ≤ q0 ∧ q0 ≤ p + 5) : FRP p w w2 := ⟨f.1.trans h.1, fun q hh => (f.2 q (by omega)).trans (h.2 q hh)⟩
