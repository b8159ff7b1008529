theorem n_w {B i : Nat} (hB : B < 2 ^ 31) (hi : i < 16) : (nI B >>> (Int32.ofInt 2 * nI i &&& 31)) &&& Int32.ofInt 3 = nI (B / 4 ^ i % 4) := by
  rw [n_a2, n_sr hB hi, pk_andN (Nat.lt_of_le_of_lt n_dl (by omega)) 2 (by decide)]
theorem fTu_lt (b : Nat) : ∀ i, fTu b i < 2 ^ (2 * i + 1)
  | 0 => by show 1 < 2 ^ 1; decide
  | i + 1 => by
    have h1 := fTu_lt b i
    have h2 : b / 4 ^ i % 4 < 4 := Nat.mod_lt _ (by decide)
    have h3 : 2 ^ (2 * (i + 1) + 1) = 4 * 2 ^ (2 * i + 1) := by rw [show 2 * (i + 1) + 1 = (2 * i + 1) + 2 by omega, Nat.pow_add]; omega
    have h4 : 2 ^ (2 * i + 1) = 2 * 4 ^ i := by rw [Nat.pow_add, t_4]; omega
    have h5 := v4p i
    rw [fTu]
    exact Nat.or_lt_two_pow (by omega) (by omega)
theorem b_turned (w : zW) (d B l : Nat) (hB : B < 8192) (hl : l ≤ 6) (Q : zQ) (h : Q (some (.int (nI (fTu B l)))) w) : zCl zTab (d + 1) iX0_turned [.int (nI B), .int (nI l)] w 0 0 Q := by
  refine zCl_i (M := kX0_turned) rfl (Nat.le_of_ble_eq_true rfl) fun R hR => ?_
  have loop : ∀ (N i : Nat), i ≤ l → l - i < N → R (4, [some (.int (nI B)), some (.int (nI l)), some (.int (nI (fTu B i))), some (.int (nI i))], [], w, 0, 0) := by
    intro N
    induction N with
    | zero => intros; omega
    | succ N ih =>
      intro i h1 hN
      iterate 2 refine hR (?_ : R (_, _, _, _, _, _))
      refine hR (pk_le l i (fun z => ?_) (fun z => ?_) rfl rfl)
      · refine hR (?_ : R (_, _, _, _, _, _))
        have e : i = l := by omega
        subst e
        exact hR (zret_i rfl (Nat.le_refl _) trivial h)
      · iterate 14 refine hR (?_ : R (_, _, _, _, _, _))
        have ht := fTu_lt B i
        have h7 : 2 ^ (2 * i + 1) ≤ 8192 := by
          have := Nat.pow_le_pow_right (n := 2) (by decide) (show 2 * i + 1 ≤ 13 by omega)
          omega
        have e1 : (nI (fTu B i) <<< (Int32.ofInt 2 &&& 31) ||| (nI B >>> (Int32.ofInt 2 * nI i &&& 31)) &&& Int32.ofInt 3) = nI (fTu B (i + 1)) := by
          rw [n_w (by omega) (by omega), show Int32.ofInt 2 &&& 31 = nI (2 * 1) &&& 31 by decide, n_sl (j := 1) (by omega) (by omega), dz_or]
          rfl
        have e2 : nI i + Int32.ofInt 1 = nI (i + 1) := by rw [nI1, nI_add]
        have key := ih (i + 1) (by omega) (by omega)
        rw [← e1, ← e2] at key
        exact key
  iterate 4 refine hR (?_ : R (_, _, _, _, _, _))
  exact loop (l + 1) 0 (by omega) (by omega)
theorem b_lengthOfBits (w : zW) (d B l : Nat) (hv : vB l B) (Q : zQ) (h : Q (some (.int (nI l))) w) : zCl zTab (d + 1) iX11_lengthOfBits [.int (nI B)] w 0 0 Q := by
  have hB := (vB_lt hv).1
  obtain ⟨hl, hv⟩ := hv
  refine zCl_i (M := kX11_lengthOfBits) rfl (Nat.le_of_ble_eq_true rfl) fun R hR => ?_
  have hlo : 4 ^ l ≤ B := by
    by_cases hc : B < 4 ^ l
    · rw [Nat.div_eq_of_lt hc] at hv; omega
    · omega
  have hhi : B < 4 ^ l * 2 := by
    have h1 := Nat.div_add_mod B (4 ^ l)
    have h2 := Nat.mod_lt B (v4p l)
    rw [hv] at h1
    omega
  have loop : ∀ (N i : Nat), i ≤ l → l - i < N → R (2, [some (.int (nI B)), some (.int (nI i))], [], w, 0, 0) := by
    intro N
    induction N with
    | zero => intros; omega
    | succ N ih =>
      intro i h1 hN
      iterate 2 refine hR (?_ : R (_, _, _, _, _, _))
      refine hR (pk_le 6 i (fun z => ?_) (fun z => ?_) nI6 rfl)
      · refine hR (?_ : R (_, _, _, _, _, _))
        have e : i = l := by omega
        subst e
        exact hR (zret_i rfl (Nat.le_refl _) trivial h)
      · iterate 7 refine hR (?_ : R (_, _, _, _, _, _))
        have e1 : nI B >>> ((Int32.ofInt 2 * nI i + Int32.ofInt 2) &&& 31) = nI (B / 4 ^ (i + 1)) := by
          rw [n_a2, n_a22, n_sr (by omega) (by omega)]
        have hd : B / 4 ^ (i + 1) ≤ B := n_dl
        refine hR (pk_eq (B / 4 ^ (i + 1)) 0 (fun z => ?_) (fun z => ?_) e1 rfl)
        · refine hR (?_ : R (_, _, _, _, _, _))
          have e : i = l := by
            by_cases hc : i < l
            · have := Nat.pow_le_pow_right (n := 4) (by decide) (show i + 1 ≤ l by omega)
              have := Nat.div_pos (show 4 ^ (i + 1) ≤ B by omega) (v4p _)
              omega
            · omega
          subst e
          exact hR (zret_i rfl (Nat.le_refl _) trivial h)
        · iterate 2 refine hR (?_ : R (_, _, _, _, _, _))
          have e2 : nI i + Int32.ofInt 1 = nI (i + 1) := by rw [nI1, nI_add]
          have hc : i < l := by
            by_cases hc : i < l
            · exact hc
            · have ei : i = l := by omega
              subst ei
              exact absurd (Nat.div_eq_of_lt (show B < 4 ^ (i + 1) by rw [Nat.pow_succ]; omega)) z
          have key := ih (i + 1) (by omega) (by omega)
          rw [← e2] at key
          exact key
  iterate 2 refine hR (?_ : R (_, _, _, _, _, _))
  exact loop (l + 1) 0 (by omega) (by omega)
def fNo (B l : Nat) : Nat := B - 4 ^ l + tSh l
theorem b_numberOfBits (w : zW) (d B l : Nat) (hv : vB l B) (Q : zQ) (h : Q (some (.int (nI (fNo B l)))) w) : zCl zTab (d + 2) iX11_numberOfBits [.int (nI B)] w 0 0 Q := by
  have hB := (vB_lt hv).1
  have hlo : 4 ^ l ≤ B := by
    by_cases hc : B < 4 ^ l
    · have := hv.2; rw [Nat.div_eq_of_lt hc] at this; omega
    · omega
  refine zCl_i (M := kX11_numberOfBits) rfl (Nat.le_of_ble_eq_true rfl) fun R hR => ?_
  iterate 3 refine hR (?_ : R (_, _, _, _, _, _))
  refine hR (zcall_i 0 0 (Nat.le_of_ble_eq_true rfl) (Nat.le_of_ble_eq_true rfl) (b_lengthOfBits _ _ B l hv _ ?_))
  iterate 10 refine hR (?_ : R (_, _, _, _, _, _))
  refine hR (And.intro (by decide) ?_)
  refine hR (?_ : R (_, _, _, _, _, _))
  refine hR (zret_i rfl (Nat.le_refl _) trivial ?_)
  have h2 : ∀ z, z = nI (fNo B l) → Q (some (.int z)) w := fun z hz => by rw [hz]; exact h
  refine h2 _ ?_
  show nI B - Int32.ofInt 1 <<< ((Int32.ofInt 2 * nI l) &&& 31) + (Int32.ofInt 1 <<< ((Int32.ofInt 2 * nI l) &&& 31) - Int32.ofInt 1) / Int32.ofInt 3 = _
  have h6 := hv.1
  rw [t_shl _ (by omega), t_dv _ (by omega), pk_sub hlo, nI_add]
  rfl
theorem fNo_lt {B l : Nat} (hv : vB l B) : fNo B l ≤ 5460 := by
  obtain ⟨h6, h⟩ := hv
  obtain ⟨e0, e1, e2, e3, e4, e5, e6, _⟩ := v4v
  obtain ⟨t0, t1, t2, t3, t4, t5, t6, _⟩ := tSh_v
  have hl : l = 0 ∨ l = 1 ∨ l = 2 ∨ l = 3 ∨ l = 4 ∨ l = 5 ∨ l = 6 := by omega
  unfold fNo
  rcases hl with rfl | rfl | rfl | rfl | rfl | rfl | rfl <;> simp only [e0, e1, e2, e3, e4, e5, e6, t0, t1, t2, t3, t4, t5, t6] at h ⊢ <;> omega
theorem vB_tB {t : Nat} (ht : t < 5461) : vB (tLen t) (tB t) := by
  obtain ⟨e0, e1, e2, e3, e4, e5, e6, _⟩ := v4v
  obtain ⟨t0, t1, t2, t3, t4, t5, t6, _⟩ := tSh_v
  refine ⟨tLen_le t, ?_⟩
  unfold tB
  rcases tLen_v t ht with ⟨h1, h⟩ | ⟨h1, h2, h⟩ | ⟨h1, h2, h⟩ | ⟨h1, h2, h⟩ | ⟨h1, h2, h⟩ | ⟨h1, h2, h⟩ | ⟨h1, h⟩ <;> rw [h] <;> simp only [e0, e1, e2, e3, e4, e5, e6, t0, t1, t2, t3, t4, t5, t6] <;> omega

theorem vB_xor {l b c : Nat} (h : vB l b) (hc : c < 4 ^ l) : vB l (b ^^^ c) := by
  obtain ⟨h6, h⟩ := h
  refine ⟨h6, ?_⟩
  rw [← t_4, ← Nat.shiftRight_eq_div_pow] at h ⊢
  rw [Nat.shiftRight_xor_distrib, h, Nat.shiftRight_eq_div_pow, t_4, Nat.div_eq_of_lt hc]
  rfl
theorem vB_or {l b c : Nat} (h : vB l b) (hc : c < 4 ^ l) : vB l (b ||| c) := by
  obtain ⟨h6, h⟩ := h
  refine ⟨h6, ?_⟩
  rw [← t_4, ← Nat.shiftRight_eq_div_pow] at h ⊢
  rw [Nat.shiftRight_or_distrib, h, Nat.shiftRight_eq_div_pow, t_4, Nat.div_eq_of_lt hc]
  rfl
theorem n_lt {c i l : Nat} (hc : c < 4) (hi : i < l) : c * 4 ^ i < 4 ^ l := by
  have h1 : 4 ^ (i + 1) ≤ 4 ^ l := Nat.pow_le_pow_right (by decide) hi
  rw [Nat.pow_succ] at h1
  have h2 : c * 4 ^ i ≤ 3 * 4 ^ i := Nat.mul_le_mul_right _ (by omega)
  have := v4p i
  omega
theorem vB_fSh {l b c w : Nat} (h : vB l b) (hc : c < 4) : ∀ i, i ≤ l → vB l (fSh b c w i)
  | 0, _ => h
  | i + 1, hi => by
    rw [fSh]
    split
    · exact vB_xor (vB_fSh h hc i (by omega)) (n_lt hc (by omega))
    · exact vB_fSh h hc i (by omega)
theorem vB_fTu {b : Nat} : ∀ i, i ≤ 6 → vB i (fTu b i)
  | 0, _ => by refine ⟨by omega, ?_⟩; show 1 / 1 = 1; rfl
  | i + 1, hi => by
    rw [fTu]
    have h1 := vB_fTu (b := b) i (by omega)
    refine vB_or ⟨hi, ?_⟩ (Nat.lt_of_lt_of_le (Nat.mod_lt _ (by decide)) (Nat.pow_le_pow_right (n := 4) (by decide) (show 1 ≤ i + 1 by omega)))
    rw [Nat.pow_succ, Nat.mul_div_mul_right _ _ (by decide)]
    exact h1.2
theorem vB_fSw {l b j : Nat} (h : vB l b) (hj : j + 1 < l) : vB l (fSw b j) := by
  have hm : (b / 4 ^ j ^^^ b / 4 ^ (j + 1)) % 4 < 4 := Nat.mod_lt _ (by decide)
  exact vB_xor (vB_xor h (n_lt hm (by omega))) (n_lt hm hj)
theorem n_sp {l j : Nat} (h : j ≤ l) : 4 ^ l = 4 ^ j * 4 ^ (l - j) := by
  rw [← Nat.pow_add]
  congr 1
  omega
theorem vB_fDr {l b j : Nat} (h : vB l b) (hj : j < l) : vB (l - 1) (fDr b j) := by
  obtain ⟨h6, h⟩ := h
  refine vB_or ⟨by omega, ?_⟩ (Nat.lt_of_lt_of_le (Nat.mod_lt _ (v4p j)) (Nat.pow_le_pow_right (by decide) (by omega)))
  rw [n_sp (show j ≤ l - 1 by omega), Nat.mul_comm (4 ^ j), Nat.mul_div_mul_right _ _ (v4p j), Nat.div_div_eq_div_mul, ← Nat.pow_add]
  rw [show j + 1 + (l - 1 - j) = l by omega]
  exact h
theorem vB_fDb {l b j : Nat} (h : vB l b) (hj : j < l) (hl : l < 6) : vB (l + 1) (fDb b j) := by
  obtain ⟨h6, h⟩ := h
  refine vB_or ⟨by omega, ?_⟩ (Nat.lt_of_lt_of_le (Nat.mod_lt _ (v4p j)) (Nat.pow_le_pow_right (by decide) (by omega)))
  rw [n_sp (show j ≤ l + 1 by omega), Nat.mul_comm (4 ^ j), Nat.mul_div_mul_right _ _ (v4p j)]
  have h2 : vB (l + 1 - j) (b / 4 ^ j * 4 ||| b / 4 ^ j % 4) := by
    refine vB_or ⟨by omega, ?_⟩ (Nat.lt_of_lt_of_le (Nat.mod_lt _ (by decide)) (Nat.pow_le_pow_right (n := 4) (by decide) (show 1 ≤ l + 1 - j by omega)))
    rw [show l + 1 - j = (l - j) + 1 by omega, Nat.pow_succ, Nat.mul_div_mul_right _ _ (by decide), Nat.div_div_eq_div_mul, ← Nat.pow_add, show j + (l - j) = l by omega]
    exact h
  exact h2.2
