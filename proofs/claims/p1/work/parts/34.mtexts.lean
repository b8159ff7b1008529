theorem tSh_s : ∀ j, j < 7 → tSh j + 4 ^ j = tSh (j + 1) ∧ tSh j < 10000 ∧ 4 ^ j < 10000 := by decide +kernel
theorem tSz (t : Nat) (ht : t < 5461) (j : Nat) (hj : j < 7) : tSh (j + 1) ≤ t ↔ j < tLen t := by
  obtain ⟨e0, e1, e2, e3, e4, e5, e6, e7⟩ := tSh_v
  have hc : j = 0 ∨ j = 1 ∨ j = 2 ∨ j = 3 ∨ j = 4 ∨ j = 5 ∨ j = 6 := by omega
  rcases tLen_v t ht with ⟨h1, h⟩ | ⟨h1, h2, h⟩ | ⟨h1, h2, h⟩ | ⟨h1, h2, h⟩ | ⟨h1, h2, h⟩ | ⟨h1, h2, h⟩ | ⟨h1, h⟩ <;> rw [h] <;> rcases hc with rfl | rfl | rfl | rfl | rfl | rfl | rfl <;> simp only [e0, e1, e2, e3, e4, e5, e6, e7] <;> omega
theorem tSh7 : ∀ j, j < 8 → tSh j < 10000 := by decide +kernel
set_option maxHeartbeats 1000000 in
theorem m_shorter (d : Nat) (x : Int32) (n : Nat) (hx : x = nI n) (hn : n ≤ 7) (w : zW) (Q : zQ) (h : Q (some (.int (nI (tSh n)))) w) : zCl zTab (d + 1) iX12_shorter [.int x] w 0 0 Q := by
  refine zCl_i (M := kX12_shorter) rfl (Nat.le_of_ble_eq_true rfl) fun R hR => ?_
  have loop : ∀ (m : Nat) (s a k : Int32) (j : Nat), j + m = n → s = nI (tSh j) → a = nI (4 ^ j) → k = nI j → R (6, [some (.int x), some (.int s), some (.int a), some (.int k)], [], w, 0, 0) := by
    intro m
    induction m with
    | zero =>
      intro s a k j hj hs ha hk
      iterate 2 refine hR (?_ : R (_, _, _, _, _, _))
      refine hR (pk_le n j (fun _ => ?_) (fun z => by omega) hx hk)
      refine hR (?_ : R (_, _, _, _, _, _))
      have e : j = n := by omega
      subst e
      subst hs
      exact hR (zret_i rfl (Nat.le_refl _) trivial h)
    | succ m ih =>
      intro s a k j hj hs ha hk
      have h7 := tSh_s j (by omega)
      iterate 2 refine hR (?_ : R (_, _, _, _, _, _))
      refine hR (pk_le n j (fun z => by omega) (fun _ => ?_) hx hk)
      iterate 10 refine hR (?_ : R (_, _, _, _, _, _))
      refine ih _ _ _ (j + 1) (by omega) ?_ ?_ ?_
      · rw [hs, ha, nI_add, h7.1]
      · rw [ha, nI4, pk_mul, Nat.pow_succ]
      · rw [hk, nI1, nI_add]
  iterate 6 refine hR (?_ : R (_, _, _, _, _, _))
  exact loop n _ _ _ 0 (by omega) (by decide) (by decide) nI0
set_option maxHeartbeats 1000000 in
theorem m_sizeOf (d : Nat) (x : Int32) (t : Nat) (hx : x = nI t) (ht : t < 5461) (w : zW) (Q : zQ) (h : Q (some (.int (nI (tLen t)))) w) : zCl zTab (d + 2) iX12_sizeOf [.int x] w 0 0 Q := by
  have h6 := tLen_le t
  refine zCl_i (M := kX12_sizeOf) rfl (Nat.le_of_ble_eq_true rfl) fun R hR => ?_
  have loop : ∀ (m : Nat) (k : Int32) (j : Nat), j + m = tLen t → k = nI j → R (2, [some (.int x), some (.int k)], [], w, 0, 0) := by
    intro m
    induction m with
    | zero =>
      intro k j hj hk
      have hz := tSz t ht j (by omega)
      have h7 := tSh7 (j + 1) (by omega)
      iterate 3 refine hR (?_ : R (_, _, _, _, _, _))
      refine hR (zcall_i 0 0 (Nat.le_of_ble_eq_true rfl) (Nat.le_of_ble_eq_true rfl) (m_shorter _ _ (j + 1) (by rw [hk, nI1, nI_add]) (by omega) _ _ ?_))
      refine hR (?_ : R (_, _, _, _, _, _))
      refine hR (pk_lt t (tSh (j + 1)) (fun _ => ?_) (fun z => by omega) hx rfl)
      refine hR (?_ : R (_, _, _, _, _, _))
      have h3 : ∀ z, z = nI (tLen t) → Q (some (.int z)) w := fun z hz => by rw [hz]; exact h
      exact hR (zret_i rfl (Nat.le_refl _) trivial (h3 _ (by rw [hk]; exact congrArg nI (by omega))))
    | succ m ih =>
      intro k j hj hk
      have hz := tSz t ht j (by omega)
      have h7 := tSh7 (j + 1) (by omega)
      iterate 3 refine hR (?_ : R (_, _, _, _, _, _))
      refine hR (zcall_i 0 0 (Nat.le_of_ble_eq_true rfl) (Nat.le_of_ble_eq_true rfl) (m_shorter _ _ (j + 1) (by rw [hk, nI1, nI_add]) (by omega) _ _ ?_))
      refine hR (?_ : R (_, _, _, _, _, _))
      refine hR (pk_lt t (tSh (j + 1)) (fun z => by omega) (fun _ => ?_) hx rfl)
      iterate 2 refine hR (?_ : R (_, _, _, _, _, _))
      exact ih _ (j + 1) (by omega) (by rw [hk, nI1, nI_add])
  iterate 2 refine hR (?_ : R (_, _, _, _, _, _))
  exact loop (tLen t) _ 0 (by omega) nI0
set_option maxHeartbeats 1000000 in
theorem m_spell25 {c0 c1 c2 c3 c4 c5 c6 c7 c8 c9 c10 c11 c12 c13 : va_E} {x0 x9 x10 x11 x12 x13 x15 x16 x17 x20 x21 x22 x23 x26 x28 x31 x32 x33 x38 x41 x44 : Int32} {x14 : Int64} {g15 g16 g17 g18 g19 g20 g21 g22 g23 g24 g25 g26 g27 g28 g29 g30 g31 g32 g33 g34 g35 g36 g37 g38 g39 g40 g41 g42 g43 g44 : Nat → Int32} {t : zW} (d : Nat) (x : Int32) (t9 : Nat) (hx : x = nI t9) (ht : t9 < 5461) (Q : zQ) (h : ∀ f, (∀ i, i < tLen t9 → f i = nI (tW t9 i)) → Q none (zMg c0 c1 c2 c3 c4 c5 c6 c7 c8 c9 c10 c11 c12 c13 x0 x9 x10 x11 x12 x13 x15 x16 x17 x20 x21 x22 x23 x26 x28 x31 x32 x33 x38 x41 x44 x14 g15 g16 g17 g18 g19 g20 g21 g22 g23 g24 f g26 g27 g28 g29 g30 g31 g32 g33 g34 g35 g36 g37 g38 g39 g40 g41 g42 g43 g44 t)) : zCl zTab (d + 3) iX12_spell [.int x, .ref 25] (zMg c0 c1 c2 c3 c4 c5 c6 c7 c8 c9 c10 c11 c12 c13 x0 x9 x10 x11 x12 x13 x15 x16 x17 x20 x21 x22 x23 x26 x28 x31 x32 x33 x38 x41 x44 x14 g15 g16 g17 g18 g19 g20 g21 g22 g23 g24 g25 g26 g27 g28 g29 g30 g31 g32 g33 g34 g35 g36 g37 g38 g39 g40 g41 g42 g43 g44 t) 0 0 Q := by
  have h6 := tLen_le t9
  have hs := tSh_le t9 ht
  refine zCl_i (M := kX12_spell) rfl (Nat.le_of_ble_eq_true rfl) fun R hR => ?_
  have loop : ∀ (j : Nat) (l k : Int32) (f : Nat → Int32), j ≤ tLen t9 → l = nI (tF t9 / 4 ^ (tLen t9 - j)) → k.toInt = (j : Int) - 1 → (∀ i, j ≤ i → i < tLen t9 → f i = nI (tW t9 i)) → R (17, [some (.int x), some (.ref 25), some (.int (nI (tLen t9))), some (.int l), some (.int k)], [], (zMg c0 c1 c2 c3 c4 c5 c6 c7 c8 c9 c10 c11 c12 c13 x0 x9 x10 x11 x12 x13 x15 x16 x17 x20 x21 x22 x23 x26 x28 x31 x32 x33 x38 x41 x44 x14 g15 g16 g17 g18 g19 g20 g21 g22 g23 g24 f g26 g27 g28 g29 g30 g31 g32 g33 g34 g35 g36 g37 g38 g39 g40 g41 g42 g43 g44 t), 0, 0) := by
    intro j
    induction j with
    | zero =>
      intro l k f hj hl hk hf
      refine hR (?_ : R (_, _, _, _, _, _))
      refine hR (And.intro (fun _ => ?_) (fun hc => absurd (zlt_i.mpr (by rw [hk]; decide)) hc))
      exact hR (zret_i rfl (Nat.le_refl _) rfl (h _ (fun i hi => hf i (Nat.zero_le _) hi)))
    | succ j ih =>
      intro l k f hj hl hk hf
      have hkj : k = nI j := zeq_i.mpr (by rw [hk, nI_toInt (by omega)]; omega)
      have hlt : tF t9 / 4 ^ (tLen t9 - (j + 1)) < 4096 := Nat.lt_of_le_of_lt (Nat.div_le_self _ _) hs.2.2.2
      refine hR (?_ : R (_, _, _, _, _, _))
      refine hR (And.intro (fun hc => absurd (zlt_i.mp hc) (by rw [hk]; show ¬ ((_ : Int) < 0); omega)) (fun _ => ?_))
      iterate 4 refine hR (?_ : R (_, _, _, _, _, _))
      refine hR (And.intro (by decide) ?_)
      refine hR (And.intro (by rw [hkj]; exact nI_in (by omega) (by omega)) ?_)
      iterate 2 refine hR (?_ : R (_, _, _, _, _, _))
      refine hR (And.intro (by decide) ?_)
      iterate 3 refine hR (?_ : R (_, _, _, _, _, _))
      refine ih _ _ _ (by omega) ?_ ?_ ?_
      · rw [hl, nI4, pk_div (by omega) (by omega) (by omega), Nat.div_div_eq_div_mul, ← Nat.pow_succ, show (tLen t9 - (j + 1)).succ = tLen t9 - j by omega]
      · rw [zadd (by rw [hk]; show (-2147483648 : Int) ≤ _ + -1; omega) (by rw [hk]; show _ + (-1 : Int) < _; omega), hk]
        show _ + (-1 : Int) = _
        omega
      · intro i hi1 hi2
        rw [hkj, nI_clamp (by omega)]
        by_cases hij : i = j
        · subst hij
          rw [pk_us, hl, nI4, pk_rem (by omega) (by omega) (by omega)]
          unfold tW
          rw [show tLen t9 - 1 - i = tLen t9 - (i + 1) by omega]
        · rw [pk_un hij]
          exact hf i (by omega) hi2
  refine hR (?_ : R (_, _, _, _, _, _))
  refine hR (zcall_i 0 0 (Nat.le_of_ble_eq_true rfl) (Nat.le_of_ble_eq_true rfl) (m_sizeOf _ _ t9 hx ht _ _ ?_))
  iterate 3 refine hR (?_ : R (_, _, _, _, _, _))
  refine hR (zcall_i 0 0 (Nat.le_of_ble_eq_true rfl) (Nat.le_of_ble_eq_true rfl) (m_shorter _ _ (tLen t9) rfl (by omega) _ _ ?_))
  iterate 6 refine hR (?_ : R (_, _, _, _, _, _))
  refine loop (tLen t9) _ _ g25 (Nat.le_refl _) ?_ ?_ (fun i h1 h2 => by omega)
  · rw [hx, pk_sub hs.1, Nat.sub_self]
    show nI (tF t9) = _
    rw [Nat.pow_zero, Nat.div_one]
  · rw [nI1, pk_sub_toInt (by omega) (by omega)]
    omega
set_option maxHeartbeats 1000000 in
theorem m_spell26 {c0 c1 c2 c3 c4 c5 c6 c7 c8 c9 c10 c11 c12 c13 : va_E} {x0 x9 x10 x11 x12 x13 x15 x16 x17 x20 x21 x22 x23 x26 x28 x31 x32 x33 x38 x41 x44 : Int32} {x14 : Int64} {g15 g16 g17 g18 g19 g20 g21 g22 g23 g24 g25 g26 g27 g28 g29 g30 g31 g32 g33 g34 g35 g36 g37 g38 g39 g40 g41 g42 g43 g44 : Nat → Int32} {t : zW} (d : Nat) (x : Int32) (t9 : Nat) (hx : x = nI t9) (ht : t9 < 5461) (Q : zQ) (h : ∀ f, (∀ i, i < tLen t9 → f i = nI (tW t9 i)) → Q none (zMg c0 c1 c2 c3 c4 c5 c6 c7 c8 c9 c10 c11 c12 c13 x0 x9 x10 x11 x12 x13 x15 x16 x17 x20 x21 x22 x23 x26 x28 x31 x32 x33 x38 x41 x44 x14 g15 g16 g17 g18 g19 g20 g21 g22 g23 g24 g25 f g27 g28 g29 g30 g31 g32 g33 g34 g35 g36 g37 g38 g39 g40 g41 g42 g43 g44 t)) : zCl zTab (d + 3) iX12_spell [.int x, .ref 26] (zMg c0 c1 c2 c3 c4 c5 c6 c7 c8 c9 c10 c11 c12 c13 x0 x9 x10 x11 x12 x13 x15 x16 x17 x20 x21 x22 x23 x26 x28 x31 x32 x33 x38 x41 x44 x14 g15 g16 g17 g18 g19 g20 g21 g22 g23 g24 g25 g26 g27 g28 g29 g30 g31 g32 g33 g34 g35 g36 g37 g38 g39 g40 g41 g42 g43 g44 t) 0 0 Q := by
  have h6 := tLen_le t9
  have hs := tSh_le t9 ht
  refine zCl_i (M := kX12_spell) rfl (Nat.le_of_ble_eq_true rfl) fun R hR => ?_
  have loop : ∀ (j : Nat) (l k : Int32) (f : Nat → Int32), j ≤ tLen t9 → l = nI (tF t9 / 4 ^ (tLen t9 - j)) → k.toInt = (j : Int) - 1 → (∀ i, j ≤ i → i < tLen t9 → f i = nI (tW t9 i)) → R (17, [some (.int x), some (.ref 26), some (.int (nI (tLen t9))), some (.int l), some (.int k)], [], (zMg c0 c1 c2 c3 c4 c5 c6 c7 c8 c9 c10 c11 c12 c13 x0 x9 x10 x11 x12 x13 x15 x16 x17 x20 x21 x22 x23 x26 x28 x31 x32 x33 x38 x41 x44 x14 g15 g16 g17 g18 g19 g20 g21 g22 g23 g24 g25 f g27 g28 g29 g30 g31 g32 g33 g34 g35 g36 g37 g38 g39 g40 g41 g42 g43 g44 t), 0, 0) := by
    intro j
    induction j with
    | zero =>
      intro l k f hj hl hk hf
      refine hR (?_ : R (_, _, _, _, _, _))
      refine hR (And.intro (fun _ => ?_) (fun hc => absurd (zlt_i.mpr (by rw [hk]; decide)) hc))
      exact hR (zret_i rfl (Nat.le_refl _) rfl (h _ (fun i hi => hf i (Nat.zero_le _) hi)))
    | succ j ih =>
      intro l k f hj hl hk hf
      have hkj : k = nI j := zeq_i.mpr (by rw [hk, nI_toInt (by omega)]; omega)
      have hlt : tF t9 / 4 ^ (tLen t9 - (j + 1)) < 4096 := Nat.lt_of_le_of_lt (Nat.div_le_self _ _) hs.2.2.2
      refine hR (?_ : R (_, _, _, _, _, _))
      refine hR (And.intro (fun hc => absurd (zlt_i.mp hc) (by rw [hk]; show ¬ ((_ : Int) < 0); omega)) (fun _ => ?_))
      iterate 4 refine hR (?_ : R (_, _, _, _, _, _))
      refine hR (And.intro (by decide) ?_)
      refine hR (And.intro (by rw [hkj]; exact nI_in (by omega) (by omega)) ?_)
      iterate 2 refine hR (?_ : R (_, _, _, _, _, _))
      refine hR (And.intro (by decide) ?_)
      iterate 3 refine hR (?_ : R (_, _, _, _, _, _))
      refine ih _ _ _ (by omega) ?_ ?_ ?_
      · rw [hl, nI4, pk_div (by omega) (by omega) (by omega), Nat.div_div_eq_div_mul, ← Nat.pow_succ, show (tLen t9 - (j + 1)).succ = tLen t9 - j by omega]
      · rw [zadd (by rw [hk]; show (-2147483648 : Int) ≤ _ + -1; omega) (by rw [hk]; show _ + (-1 : Int) < _; omega), hk]
        show _ + (-1 : Int) = _
        omega
      · intro i hi1 hi2
        rw [hkj, nI_clamp (by omega)]
        by_cases hij : i = j
        · subst hij
          rw [pk_us, hl, nI4, pk_rem (by omega) (by omega) (by omega)]
          unfold tW
          rw [show tLen t9 - 1 - i = tLen t9 - (i + 1) by omega]
        · rw [pk_un hij]
          exact hf i (by omega) hi2
  refine hR (?_ : R (_, _, _, _, _, _))
  refine hR (zcall_i 0 0 (Nat.le_of_ble_eq_true rfl) (Nat.le_of_ble_eq_true rfl) (m_sizeOf _ _ t9 hx ht _ _ ?_))
  iterate 3 refine hR (?_ : R (_, _, _, _, _, _))
  refine hR (zcall_i 0 0 (Nat.le_of_ble_eq_true rfl) (Nat.le_of_ble_eq_true rfl) (m_shorter _ _ (tLen t9) rfl (by omega) _ _ ?_))
  iterate 6 refine hR (?_ : R (_, _, _, _, _, _))
  refine loop (tLen t9) _ _ g26 (Nat.le_refl _) ?_ ?_ (fun i h1 h2 => by omega)
  · rw [hx, pk_sub hs.1, Nat.sub_self]
    show nI (tF t9) = _
    rw [Nat.pow_zero, Nat.div_one]
  · rw [nI1, pk_sub_toInt (by omega) (by omega)]
    omega
theorem m_word {c0 c1 c2 c3 c4 c5 c6 c7 c8 c9 c10 c11 c12 c13 : va_E} {x0 x9 x10 x11 x12 x13 x15 x16 x17 x20 x21 x22 x23 x26 x28 x31 x32 x33 x38 x41 x44 : Int32} {x14 : Int64} {g15 g16 g17 g18 g19 g20 g21 g22 g23 g24 g25 g26 g27 g28 g29 g30 g31 g32 g33 g34 g35 g36 g37 g38 g39 g40 g41 g42 g43 g44 : Nat → Int32} {t : zW} (d : Nat) (x k : Int32) (Q : zQ) (h : ∀ w, Q (some (.int (vWord x k))) w) : zCl zTab (d + 4) iX12_word [.ref 14, .int x, .int k] (zMg c0 c1 c2 c3 c4 c5 c6 c7 c8 c9 c10 c11 c12 c13 x0 x9 x10 x11 x12 x13 x15 x16 x17 x20 x21 x22 x23 x26 x28 x31 x32 x33 x38 x41 x44 x14 g15 g16 g17 g18 g19 g20 g21 g22 g23 g24 g25 g26 g27 g28 g29 g30 g31 g32 g33 g34 g35 g36 g37 g38 g39 g40 g41 g42 g43 g44 t) 0 0 Q := by
  refine zCl_i (M := kX12_word) rfl (Nat.le_of_ble_eq_true rfl) fun R hR => ?_
  iterate 4 refine hR (?_ : R (_, _, _, _, _, _))
  refine hR (zcall_i 0 0 (Nat.le_of_ble_eq_true rfl) (Nat.le_of_ble_eq_true rfl) (m_isText _ _ _ _ (fun q0 q1 => ?_) (fun q => ?_)))
  · obtain ⟨n, hn, hx⟩ := t_of q0 q1
    have hcl : x.toNatClampNeg = n := by rw [hx]; exact nI_clamp (by omega)
    have h6 := tLen_le n
    unfold vWord at h
    rw [if_neg (fun z => z.elim q0 (fun z => absurd q1 (Int32.not_lt.mpr z))), hcl] at h
    refine hR (And.intro (fun hc => absurd hc (by decide)) (fun _ => ?_))
    iterate 3 refine hR (?_ : R (_, _, _, _, _, _))
    refine hR (zcall_i 0 0 (Nat.le_of_ble_eq_true rfl) (Nat.le_of_ble_eq_true rfl) (m_sizeOf _ _ n hx hn _ _ ?_))
    iterate 2 refine hR (?_ : R (_, _, _, _, _, _))
    have hm1 : (nI (tLen n) - Int32.ofInt 1).toInt = (tLen n : Int) - 1 := by rw [nI1, pk_sub_toInt (by omega) (by omega)]; rfl
    have em : (Int32.ofInt (-1)).toInt = -1 := by decide
    have e0 : (0 : Int32).toInt = 0 := rfl
    refine hR (zcall_i 0 0 (Nat.le_of_ble_eq_true rfl) (Nat.le_of_ble_eq_true rfl) (m_in _ _ _ _ _ _ (fun p1 p2 => ?_) (fun p => ?_)))
    · rw [zlt_i, em] at p1
      rw [zle_i, hm1] at p2
      refine hR (And.intro (fun _ => ?_) (fun hc => absurd hc (by decide)))
      iterate 3 refine hR (?_ : R (_, _, _, _, _, _))
      refine hR (zcall_i 0 0 (Nat.le_of_ble_eq_true rfl) (Nat.le_of_ble_eq_true rfl) (m_spell25 _ _ n hx hn _ (fun f hf => ?_)))
      iterate 2 refine hR (?_ : R (_, _, _, _, _, _))
      refine hR (And.intro (fun hk => ?_) (fun hk => ?_))
      · have hk0 : 0 ≤ k.toInt := by
          rw [zeq_i, em] at hk
          omega
        have hkn : ¬ k < 0 := by rw [zlt_i, e0]; omega
        obtain ⟨j, hj, hkj⟩ := nI_of hkn
        have hcj : k.toNatClampNeg = j := by rw [hkj]; exact nI_clamp hj
        have hjl : j < tLen n := by
          rw [hkj, nI_toInt hj] at p2
          omega
        have hnle : ¬ nI (tLen n) ≤ k := by rw [zle_i, hkj, nI_toInt hj, nI_toInt (by omega)]; omega
        rw [if_neg hk, if_neg (fun z => z.elim hkn hnle), hcj] at h
        iterate 3 refine hR (?_ : R (_, _, _, _, _, _))
        refine hR (And.intro (by rw [hkj]; exact nI_in (by omega) (by omega)) ?_)
        refine hR (zret_i rfl (Nat.le_refl _) trivial ?_)
        have h2 : ∀ y w, y = nI (tW n j) → Q (some (.int y)) w := fun y w hy => by rw [hy]; exact h w
        refine h2 _ _ ?_
        show f k.toNatClampNeg = _
        rw [hcj]
        exact hf j hjl
      · rw [if_pos hk] at h
        refine hR (?_ : R (_, _, _, _, _, _))
        refine hR (zcall_i 0 0 (Nat.le_of_ble_eq_true rfl) (Nat.le_of_ble_eq_true rfl) (m_sizeOf _ _ n hx hn _ _ ?_))
        refine hR (?_ : R (_, _, _, _, _, _))
        exact hR (zret_i rfl (Nat.le_refl _) trivial (h _))
    · rw [zlt_i, zlt_i, em, hm1] at p
      have hk1 : ¬ k = Int32.ofInt (-1) := by rw [zeq_i, em]; omega
      have hk2 : k < 0 ∨ nI (tLen n) ≤ k := by rw [zlt_i, zle_i, e0, nI_toInt (by omega)]; omega
      rw [if_neg hk1, if_pos hk2] at h
      refine hR (And.intro (fun hc => absurd (by decide) hc) (fun _ => ?_))
      refine hR (?_ : R (_, _, _, _, _, _))
      exact hR (zret_i rfl (Nat.le_refl _) trivial (h _))
  · unfold vWord at h
    rw [if_pos q] at h
    refine hR (And.intro (fun _ => ?_) (fun hc => absurd (by decide) hc))
    refine hR (?_ : R (_, _, _, _, _, _))
    exact hR (zret_i rfl (Nat.le_refl _) trivial (h _))
