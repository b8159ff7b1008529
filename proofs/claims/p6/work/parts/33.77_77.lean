theorem r_isText (d : Nat) (n : Int32) (w : zW) (Q : zQ) (h1 : ¬ n < 0 → n < 5461 → Q (some (.int (Int32.ofInt 1))) w) (h0 : n < 0 ∨ 5461 ≤ n → Q (some (.int (Int32.ofInt 0))) w) : zCl zTab (d + 1) iX11_isText [.int n] w 0 0 Q := by
  refine zCl_i (M := kX11_isText) rfl (Nat.le_of_ble_eq_true rfl) fun R hR => ?_
  refine hR (?_ : R (_, _, _, _, _, _))
  refine hR (And.intro (fun hc1 => ?_) (fun hc1 => ?_))
  · refine hR (?_ : R (_, _, _, _, _, _))
    refine hR (zret_i rfl (Nat.le_refl _) ?_ ?_)
    · exact Or.inl rfl
    · exact h0 (Or.inl hc1)
  iterate 2 refine hR (?_ : R (_, _, _, _, _, _))
  refine hR (And.intro (fun hc2 => ?_) (fun hc2 => ?_))
  · refine hR (?_ : R (_, _, _, _, _, _))
    refine hR (zret_i rfl (Nat.le_refl _) ?_ ?_)
    · exact Or.inl rfl
    · exact h0 (Or.inr hc2)
  iterate 2 refine hR (?_ : R (_, _, _, _, _, _))
  refine hR (zret_i rfl (Nat.le_refl _) ?_ ?_)
  · exact Or.inr rfl
  · exact h1 hc1 (Int32.not_le.mp hc2)
theorem m_in_1 (d : Nat) (v a b : Int32) (w : zW) (Q : zQ) (h1 : ¬ v < a → v ≤ b → Q (some (.int (Int32.ofInt 1))) w) (h0 : v < a ∨ b < v → Q (some (.int (Int32.ofInt 0))) w) : zCl zTab (d + 1) iX12_in [.int v, .int a, .int b] w 0 0 Q := by
  refine zCl_i (M := kX12_in) rfl (Nat.le_of_ble_eq_true rfl) fun R hR => ?_
  iterate 2 refine hR (?_ : R (_, _, _, _, _, _))
  refine hR (And.intro (fun hc1 => ?_) (fun hc1 => ?_))
  · refine hR (?_ : R (_, _, _, _, _, _))
    exact hR (zret_i rfl (Nat.le_refl _) (Or.inl rfl) (h0 (Or.inl hc1)))
  iterate 2 refine hR (?_ : R (_, _, _, _, _, _))
  refine hR (And.intro (fun hc2 => ?_) (fun hc2 => ?_))
  · refine hR (?_ : R (_, _, _, _, _, _))
    exact hR (zret_i rfl (Nat.le_refl _) (Or.inl rfl) (h0 (Or.inr hc2)))
  iterate 2 refine hR (?_ : R (_, _, _, _, _, _))
  exact hR (zret_i rfl (Nat.le_refl _) (Or.inr rfl) (h1 hc1 (Int32.not_lt.mp hc2)))
theorem zi_5460 {n : Int32} (h : n ≤ (Int16.ofInt 5460).toInt32) : n < 5461 := by
  rw [Int32.le_iff_toInt_le] at h
  rw [Int32.lt_iff_toInt_lt]
  have e1 : (Int16.ofInt 5460).toInt32.toInt = 5460 := by decide
  have e2 : (5461 : Int32).toInt = 5461 := by decide
  omega
theorem zi_5461 {n : Int32} (h : (Int16.ofInt 5460).toInt32 < n) : 5461 ≤ n := by
  rw [Int32.lt_iff_toInt_lt] at h
  rw [Int32.le_iff_toInt_le]
  have e1 : (Int16.ofInt 5460).toInt32.toInt = 5460 := by decide
  have e2 : (5461 : Int32).toInt = 5461 := by decide
  omega
theorem m_isText_1 (d : Nat) (n : Int32) (w : zW) (Q : zQ) (h1 : ¬ n < 0 → n < 5461 → Q (some (.int (Int32.ofInt 1))) w) (h0 : n < 0 ∨ 5461 ≤ n → Q (some (.int (Int32.ofInt 0))) w) : zCl zTab (d + 2) iX12_isText [.int n] w 0 0 Q := by
  refine zCl_i (M := kX12_isText) rfl (Nat.le_of_ble_eq_true rfl) fun R hR => ?_
  iterate 3 refine hR (?_ : R (_, _, _, _, _, _))
  refine hR (zcall_i 0 0 (Nat.le_of_ble_eq_true rfl) (Nat.le_of_ble_eq_true rfl) (m_in_1 _ _ _ _ _ _ (fun q1 q2 => ?_) (fun q => ?_)))
  · exact hR (zret_i rfl (Nat.le_refl _) (Or.inr rfl) (h1 q1 (zi_5460 q2)))
  · exact hR (zret_i rfl (Nat.le_refl _) (Or.inl rfl) (h0 (q.imp id zi_5461)))
theorem r_word (d : Nat) (x k : Int32) (t : zW) (Q : zQ) (h : Q (some (.int (vWord x k))) t) : zCl zTab (d + 4) iX11_word [.ref 0, .int x, .int k] t 0 0 Q := by
  refine zCl_i (M := kX11_word) rfl (Nat.le_of_ble_eq_true rfl) fun R hR => ?_
  refine hR (?_ : R (_, _, _, _, _, _))
  refine hR (zcall_i 0 0 (Nat.le_of_ble_eq_true rfl) (Nat.le_of_ble_eq_true rfl) (r_isText _ _ _ _ (fun q0 q1 => ?_) (fun q => ?_)))
  · obtain ⟨n, hn, hx⟩ := t_of q0 q1
    have hcl : x.toNatClampNeg = n := by rw [hx]; exact nI_clamp (by omega)
    have h6 := tLen_le n
    unfold vWord at h
    rw [if_neg (fun z => z.elim q0 (fun z => absurd q1 (Int32.not_lt.mpr z))), hcl] at h
    refine hR (And.intro (fun _ => ?_) (fun hc => absurd hc (by decide)))
    refine hR (?_ : R (_, _, _, _, _, _))
    refine hR (zcall_i 0 0 (Nat.le_of_ble_eq_true rfl) (Nat.le_of_ble_eq_true rfl) (r_lengthOf _ _ n hx hn _ _ ?_))
    iterate 3 refine hR (?_ : R (_, _, _, _, _, _))
    refine hR (And.intro (fun hk => ?_) (fun hk => ?_))
    · rw [if_neg hk] at h
      refine hR (?_ : R (_, _, _, _, _, _))
      refine hR (And.intro (fun hk1 => ?_) (fun hk1 => ?_))
      · rw [if_pos (Or.inl hk1)] at h
        iterate 2 refine hR (?_ : R (_, _, _, _, _, _))
        exact hR (zret_i rfl (Nat.le_refl _) trivial h)
      iterate 2 refine hR (?_ : R (_, _, _, _, _, _))
      refine hR (And.intro (fun hk2 => ?_) (fun hk2 => ?_))
      · rw [if_neg (fun z => z.elim hk1 (fun z => absurd hk2 (Int32.not_lt.mpr z)))] at h
        obtain ⟨j, hjl, hkj, hcj⟩ := t_kj hk1 hk2 h6
        rw [hcj] at h
        iterate 2 refine hR (?_ : R (_, _, _, _, _, _))
        refine hR (zcall_i 0 0 (Nat.le_of_ble_eq_true rfl) (Nat.le_of_ble_eq_true rfl) (r_wordAt _ _ _ n j hx hn hkj hjl _ _ ?_))
        exact hR (zret_i rfl (Nat.le_refl _) trivial h)
      · rw [if_pos (Or.inr (Int32.not_lt.mp hk2))] at h
        iterate 2 refine hR (?_ : R (_, _, _, _, _, _))
        exact hR (zret_i rfl (Nat.le_refl _) trivial h)
    · rw [if_pos hk] at h
      refine hR (?_ : R (_, _, _, _, _, _))
      exact hR (zret_i rfl (Nat.le_refl _) trivial h)
  · unfold vWord at h
    rw [if_pos q] at h
    refine hR (And.intro (fun hc => absurd (by decide) hc) (fun _ => ?_))
    refine hR (?_ : R (_, _, _, _, _, _))
    exact hR (zret_i rfl (Nat.le_refl _) trivial h)
set_option maxHeartbeats 1000000 in
theorem m_shorter_1 (d : Nat) (x : Int32) (n : Nat) (hx : x = nI n) (hn : n ≤ 7) (w : zW) (Q : zQ) (h : Q (some (.int (nI (tSh n)))) w) : zCl zTab (d + 1) iX12_shorter [.int x] w 0 0 Q := by
  refine zCl_i (M := kX12_shorter) rfl (Nat.le_of_ble_eq_true rfl) fun R hR => ?_
  have loop : ∀ (m : Nat) (s a k : Int32) (j : Nat), j + m = n → s = nI (tSh j) → a = nI (4 ^ j) → k = nI j → R (6, [some (.int x), some (.int s), some (.int a), some (.int k)], [], w, 0, 0) := by
    intro m
    induction m with
    | zero =>
      intro s a k j hj hs ha hk
      iterate 2 refine hR (?_ : R (_, _, _, _, _, _))
      refine hR (pk_le n j (fun _ => ?_) (fun z => by omega) hx hk)
      refine hR (?_ : R (_, _, _, _, _, _))
      have e : j = n := by omega
      subst e
      subst hs
      exact hR (zret_i rfl (Nat.le_refl _) trivial h)
    | succ m ih =>
      intro s a k j hj hs ha hk
      have h7 := tSh_s j (by omega)
      iterate 2 refine hR (?_ : R (_, _, _, _, _, _))
      refine hR (pk_le n j (fun z => by omega) (fun _ => ?_) hx hk)
      iterate 10 refine hR (?_ : R (_, _, _, _, _, _))
      refine ih _ _ _ (j + 1) (by omega) ?_ ?_ ?_
      · rw [hs, ha, nI_add, h7.1]
      · rw [ha, nI4, pk_mul, Nat.pow_succ]
      · rw [hk, nI1, nI_add]
  iterate 6 refine hR (?_ : R (_, _, _, _, _, _))
  exact loop n _ _ _ 0 (by omega) (by decide) (by decide) nI0
set_option maxHeartbeats 1000000 in
theorem m_sizeOf_1 (d : Nat) (x : Int32) (t : Nat) (hx : x = nI t) (ht : t < 5461) (w : zW) (Q : zQ) (h : Q (some (.int (nI (tLen t)))) w) : zCl zTab (d + 2) iX12_sizeOf [.int x] w 0 0 Q := by
  have h6 := tLen_le t
  refine zCl_i (M := kX12_sizeOf) rfl (Nat.le_of_ble_eq_true rfl) fun R hR => ?_
  have loop : ∀ (m : Nat) (k : Int32) (j : Nat), j + m = tLen t → k = nI j → R (2, [some (.int x), some (.int k)], [], w, 0, 0) := by
    intro m
    induction m with
    | zero =>
      intro k j hj hk
      have hz := tSz t ht j (by omega)
      have h7 := tSh7 (j + 1) (by omega)
      iterate 3 refine hR (?_ : R (_, _, _, _, _, _))
      refine hR (zcall_i 0 0 (Nat.le_of_ble_eq_true rfl) (Nat.le_of_ble_eq_true rfl) (m_shorter_1 _ _ (j + 1) (by rw [hk, nI1, nI_add]) (by omega) _ _ ?_))
      refine hR (?_ : R (_, _, _, _, _, _))
      refine hR (pk_lt t (tSh (j + 1)) (fun _ => ?_) (fun z => by omega) hx rfl)
      refine hR (?_ : R (_, _, _, _, _, _))
      have h3 : ∀ z, z = nI (tLen t) → Q (some (.int z)) w := fun z hz => by rw [hz]; exact h
      exact hR (zret_i rfl (Nat.le_refl _) trivial (h3 _ (by rw [hk]; exact congrArg nI (by omega))))
    | succ m ih =>
      intro k j hj hk
      have hz := tSz t ht j (by omega)
      have h7 := tSh7 (j + 1) (by omega)
      iterate 3 refine hR (?_ : R (_, _, _, _, _, _))
      refine hR (zcall_i 0 0 (Nat.le_of_ble_eq_true rfl) (Nat.le_of_ble_eq_true rfl) (m_shorter_1 _ _ (j + 1) (by rw [hk, nI1, nI_add]) (by omega) _ _ ?_))
      refine hR (?_ : R (_, _, _, _, _, _))
      refine hR (pk_lt t (tSh (j + 1)) (fun z => by omega) (fun _ => ?_) hx rfl)
      iterate 2 refine hR (?_ : R (_, _, _, _, _, _))
      exact ih _ (j + 1) (by omega) (by rw [hk, nI1, nI_add])
  iterate 2 refine hR (?_ : R (_, _, _, _, _, _))
  exact loop (tLen t) _ 0 (by omega) nI0
set_option maxHeartbeats 1000000 in
theorem m_spell25_1 {c0 c1 c2 c3 c4 c5 c6 c7 c8 c9 c10 c11 c12 c13 : va_E} {x0 x9 x10 x11 x12 x13 x15 x16 x17 x20 x21 x22 x23 x26 x28 x31 x32 x33 x38 x41 x44 : Int32} {x14 : Int64} {g15 g16 g17 g18 g19 g20 g21 g22 g23 g24 g25 g26 g27 g28 g29 g30 g31 g32 g33 g34 g35 g36 g37 g38 g39 g40 g41 g42 g43 g44 : Nat → Int32} {t : zW} (d : Nat) (x : Int32) (t9 : Nat) (hx : x = nI t9) (ht : t9 < 5461) (Q : zQ) (h : ∀ f, (∀ i, i < tLen t9 → f i = nI (tW t9 i)) → Q none (zMg c0 c1 c2 c3 c4 c5 c6 c7 c8 c9 c10 c11 c12 c13 x0 x9 x10 x11 x12 x13 x15 x16 x17 x20 x21 x22 x23 x26 x28 x31 x32 x33 x38 x41 x44 x14 g15 g16 g17 g18 g19 g20 g21 g22 g23 g24 f g26 g27 g28 g29 g30 g31 g32 g33 g34 g35 g36 g37 g38 g39 g40 g41 g42 g43 g44 t)) : zCl zTab (d + 3) iX12_spell [.int x, .ref 25] (zMg c0 c1 c2 c3 c4 c5 c6 c7 c8 c9 c10 c11 c12 c13 x0 x9 x10 x11 x12 x13 x15 x16 x17 x20 x21 x22 x23 x26 x28 x31 x32 x33 x38 x41 x44 x14 g15 g16 g17 g18 g19 g20 g21 g22 g23 g24 g25 g26 g27 g28 g29 g30 g31 g32 g33 g34 g35 g36 g37 g38 g39 g40 g41 g42 g43 g44 t) 0 0 Q := by
  have h6 := tLen_le t9
  have hs := tSh_le t9 ht
  refine zCl_i (M := kX12_spell) rfl (Nat.le_of_ble_eq_true rfl) fun R hR => ?_
  have loop : ∀ (j : Nat) (l k : Int32) (f : Nat → Int32), j ≤ tLen t9 → l = nI (tF t9 / 4 ^ (tLen t9 - j)) → k.toInt = (j : Int) - 1 → (∀ i, j ≤ i → i < tLen t9 → f i = nI (tW t9 i)) → R (17, [some (.int x), some (.ref 25), some (.int (nI (tLen t9))), some (.int l), some (.int k)], [], (zMg c0 c1 c2 c3 c4 c5 c6 c7 c8 c9 c10 c11 c12 c13 x0 x9 x10 x11 x12 x13 x15 x16 x17 x20 x21 x22 x23 x26 x28 x31 x32 x33 x38 x41 x44 x14 g15 g16 g17 g18 g19 g20 g21 g22 g23 g24 f g26 g27 g28 g29 g30 g31 g32 g33 g34 g35 g36 g37 g38 g39 g40 g41 g42 g43 g44 t), 0, 0) := by
    intro j
    induction j with
    | zero =>
      intro l k f hj hl hk hf
      refine hR (?_ : R (_, _, _, _, _, _))
      refine hR (And.intro (fun _ => ?_) (fun hc => absurd (zlt_i.mpr (by rw [hk]; decide)) hc))
      exact hR (zret_i rfl (Nat.le_refl _) rfl (h _ (fun i hi => hf i (Nat.zero_le _) hi)))
    | succ j ih =>
      intro l k f hj hl hk hf
      have hkj : k = nI j := zeq_i.mpr (by rw [hk, nI_toInt (by omega)]; omega)
      have hlt : tF t9 / 4 ^ (tLen t9 - (j + 1)) < 4096 := Nat.lt_of_le_of_lt (Nat.div_le_self _ _) hs.2.2.2
      refine hR (?_ : R (_, _, _, _, _, _))
      refine hR (And.intro (fun hc => absurd (zlt_i.mp hc) (by rw [hk]; show ¬ ((_ : Int) < 0); omega)) (fun _ => ?_))
      iterate 4 refine hR (?_ : R (_, _, _, _, _, _))
      refine hR (And.intro (by decide) ?_)
      refine hR (And.intro (by rw [hkj]; exact nI_in (by omega) (by omega)) ?_)
      iterate 2 refine hR (?_ : R (_, _, _, _, _, _))
      refine hR (And.intro (by decide) ?_)
      iterate 3 refine hR (?_ : R (_, _, _, _, _, _))
      refine ih _ _ _ (by omega) ?_ ?_ ?_
      · rw [hl, nI4, pk_div (by omega) (by omega) (by omega), Nat.div_div_eq_div_mul, ← Nat.pow_succ, show (tLen t9 - (j + 1)).succ = tLen t9 - j by omega]
      · rw [zadd (by rw [hk]; show (-2147483648 : Int) ≤ _ + -1; omega) (by rw [hk]; show _ + (-1 : Int) < _; omega), hk]
        show _ + (-1 : Int) = _
        omega
      · intro i hi1 hi2
        rw [hkj, nI_clamp (by omega)]
        by_cases hij : i = j
        · subst hij
          rw [pk_us, hl, nI4, pk_rem (by omega) (by omega) (by omega)]
          unfold tW
          rw [show tLen t9 - 1 - i = tLen t9 - (i + 1) by omega]
        · rw [pk_un hij]
          exact hf i (by omega) hi2
  refine hR (?_ : R (_, _, _, _, _, _))
  refine hR (zcall_i 0 0 (Nat.le_of_ble_eq_true rfl) (Nat.le_of_ble_eq_true rfl) (m_sizeOf_1 _ _ t9 hx ht _ _ ?_))
  iterate 3 refine hR (?_ : R (_, _, _, _, _, _))
  refine hR (zcall_i 0 0 (Nat.le_of_ble_eq_true rfl) (Nat.le_of_ble_eq_true rfl) (m_shorter_1 _ _ (tLen t9) rfl (by omega) _ _ ?_))
  iterate 6 refine hR (?_ : R (_, _, _, _, _, _))
  refine loop (tLen t9) _ _ g25 (Nat.le_refl _) ?_ ?_ (fun i h1 h2 => by omega)
  · rw [hx, pk_sub hs.1, Nat.sub_self]
    show nI (tF t9) = _
    rw [Nat.pow_zero, Nat.div_one]
  · rw [nI1, pk_sub_toInt (by omega) (by omega)]
    omega
set_option maxHeartbeats 1000000 in
theorem m_spell26_1 {c0 c1 c2 c3 c4 c5 c6 c7 c8 c9 c10 c11 c12 c13 : va_E} {x0 x9 x10 x11 x12 x13 x15 x16 x17 x20 x21 x22 x23 x26 x28 x31 x32 x33 x38 x41 x44 : Int32} {x14 : Int64} {g15 g16 g17 g18 g19 g20 g21 g22 g23 g24 g25 g26 g27 g28 g29 g30 g31 g32 g33 g34 g35 g36 g37 g38 g39 g40 g41 g42 g43 g44 : Nat → Int32} {t : zW} (d : Nat) (x : Int32) (t9 : Nat) (hx : x = nI t9) (ht : t9 < 5461) (Q : zQ) (h : ∀ f, (∀ i, i < tLen t9 → f i = nI (tW t9 i)) → Q none (zMg c0 c1 c2 c3 c4 c5 c6 c7 c8 c9 c10 c11 c12 c13 x0 x9 x10 x11 x12 x13 x15 x16 x17 x20 x21 x22 x23 x26 x28 x31 x32 x33 x38 x41 x44 x14 g15 g16 g17 g18 g19 g20 g21 g22 g23 g24 g25 f g27 g28 g29 g30 g31 g32 g33 g34 g35 g36 g37 g38 g39 g40 g41 g42 g43 g44 t)) : zCl zTab (d + 3) iX12_spell [.int x, .ref 26] (zMg c0 c1 c2 c3 c4 c5 c6 c7 c8 c9 c10 c11 c12 c13 x0 x9 x10 x11 x12 x13 x15 x16 x17 x20 x21 x22 x23 x26 x28 x31 x32 x33 x38 x41 x44 x14 g15 g16 g17 g18 g19 g20 g21 g22 g23 g24 g25 g26 g27 g28 g29 g30 g31 g32 g33 g34 g35 g36 g37 g38 g39 g40 g41 g42 g43 g44 t) 0 0 Q := by
  have h6 := tLen_le t9
  have hs := tSh_le t9 ht
  refine zCl_i (M := kX12_spell) rfl (Nat.le_of_ble_eq_true rfl) fun R hR => ?_
  have loop : ∀ (j : Nat) (l k : Int32) (f : Nat → Int32), j ≤ tLen t9 → l = nI (tF t9 / 4 ^ (tLen t9 - j)) → k.toInt = (j : Int) - 1 → (∀ i, j ≤ i → i < tLen t9 → f i = nI (tW t9 i)) → R (17, [some (.int x), some (.ref 26), some (.int (nI (tLen t9))), some (.int l), some (.int k)], [], (zMg c0 c1 c2 c3 c4 c5 c6 c7 c8 c9 c10 c11 c12 c13 x0 x9 x10 x11 x12 x13 x15 x16 x17 x20 x21 x22 x23 x26 x28 x31 x32 x33 x38 x41 x44 x14 g15 g16 g17 g18 g19 g20 g21 g22 g23 g24 g25 f g27 g28 g29 g30 g31 g32 g33 g34 g35 g36 g37 g38 g39 g40 g41 g42 g43 g44 t), 0, 0) := by
    intro j
    induction j with
    | zero =>
      intro l k f hj hl hk hf
      refine hR (?_ : R (_, _, _, _, _, _))
      refine hR (And.intro (fun _ => ?_) (fun hc => absurd (zlt_i.mpr (by rw [hk]; decide)) hc))
      exact hR (zret_i rfl (Nat.le_refl _) rfl (h _ (fun i hi => hf i (Nat.zero_le _) hi)))
    | succ j ih =>
      intro l k f hj hl hk hf
      have hkj : k = nI j := zeq_i.mpr (by rw [hk, nI_toInt (by omega)]; omega)
      have hlt : tF t9 / 4 ^ (tLen t9 - (j + 1)) < 4096 := Nat.lt_of_le_of_lt (Nat.div_le_self _ _) hs.2.2.2
      refine hR (?_ : R (_, _, _, _, _, _))
      refine hR (And.intro (fun hc => absurd (zlt_i.mp hc) (by rw [hk]; show ¬ ((_ : Int) < 0); omega)) (fun _ => ?_))
      iterate 4 refine hR (?_ : R (_, _, _, _, _, _))
      refine hR (And.intro (by decide) ?_)
      refine hR (And.intro (by rw [hkj]; exact nI_in (by omega) (by omega)) ?_)
      iterate 2 refine hR (?_ : R (_, _, _, _, _, _))
      refine hR (And.intro (by decide) ?_)
      iterate 3 refine hR (?_ : R (_, _, _, _, _, _))
      refine ih _ _ _ (by omega) ?_ ?_ ?_
      · rw [hl, nI4, pk_div (by omega) (by omega) (by omega), Nat.div_div_eq_div_mul, ← Nat.pow_succ, show (tLen t9 - (j + 1)).succ = tLen t9 - j by omega]
      · rw [zadd (by rw [hk]; show (-2147483648 : Int) ≤ _ + -1; omega) (by rw [hk]; show _ + (-1 : Int) < _; omega), hk]
        show _ + (-1 : Int) = _
        omega
      · intro i hi1 hi2
        rw [hkj, nI_clamp (by omega)]
        by_cases hij : i = j
        · subst hij
          rw [pk_us, hl, nI4, pk_rem (by omega) (by omega) (by omega)]
          unfold tW
          rw [show tLen t9 - 1 - i = tLen t9 - (i + 1) by omega]
        · rw [pk_un hij]
          exact hf i (by omega) hi2
  refine hR (?_ : R (_, _, _, _, _, _))
  refine hR (zcall_i 0 0 (Nat.le_of_ble_eq_true rfl) (Nat.le_of_ble_eq_true rfl) (m_sizeOf_1 _ _ t9 hx ht _ _ ?_))
  iterate 3 refine hR (?_ : R (_, _, _, _, _, _))
  refine hR (zcall_i 0 0 (Nat.le_of_ble_eq_true rfl) (Nat.le_of_ble_eq_true rfl) (m_shorter_1 _ _ (tLen t9) rfl (by omega) _ _ ?_))
  iterate 6 refine hR (?_ : R (_, _, _, _, _, _))
  refine loop (tLen t9) _ _ g26 (Nat.le_refl _) ?_ ?_ (fun i h1 h2 => by omega)
  · rw [hx, pk_sub hs.1, Nat.sub_self]
    show nI (tF t9) = _
    rw [Nat.pow_zero, Nat.div_one]
  · rw [nI1, pk_sub_toInt (by omega) (by omega)]
    omega
theorem m_word_1 {c0 c1 c2 c3 c4 c5 c6 c7 c8 c9 c10 c11 c12 c13 : va_E} {x0 x9 x10 x11 x12 x13 x15 x16 x17 x20 x21 x22 x23 x26 x28 x31 x32 x33 x38 x41 x44 : Int32} {x14 : Int64} {g15 g16 g17 g18 g19 g20 g21 g22 g23 g24 g25 g26 g27 g28 g29 g30 g31 g32 g33 g34 g35 g36 g37 g38 g39 g40 g41 g42 g43 g44 : Nat → Int32} {t : zW} (d : Nat) (x k : Int32) (Q : zQ) (h : ∀ w, Q (some (.int (vWord x k))) w) : zCl zTab (d + 4) iX12_word [.ref 14, .int x, .int k] (zMg c0 c1 c2 c3 c4 c5 c6 c7 c8 c9 c10 c11 c12 c13 x0 x9 x10 x11 x12 x13 x15 x16 x17 x20 x21 x22 x23 x26 x28 x31 x32 x33 x38 x41 x44 x14 g15 g16 g17 g18 g19 g20 g21 g22 g23 g24 g25 g26 g27 g28 g29 g30 g31 g32 g33 g34 g35 g36 g37 g38 g39 g40 g41 g42 g43 g44 t) 0 0 Q := by
  refine zCl_i (M := kX12_word) rfl (Nat.le_of_ble_eq_true rfl) fun R hR => ?_
  iterate 4 refine hR (?_ : R (_, _, _, _, _, _))
  refine hR (zcall_i 0 0 (Nat.le_of_ble_eq_true rfl) (Nat.le_of_ble_eq_true rfl) (m_isText_1 _ _ _ _ (fun q0 q1 => ?_) (fun q => ?_)))
  · obtain ⟨n, hn, hx⟩ := t_of q0 q1
    have hcl : x.toNatClampNeg = n := by rw [hx]; exact nI_clamp (by omega)
    have h6 := tLen_le n
    unfold vWord at h
    rw [if_neg (fun z => z.elim q0 (fun z => absurd q1 (Int32.not_lt.mpr z))), hcl] at h
    refine hR (And.intro (fun hc => absurd hc (by decide)) (fun _ => ?_))
    iterate 3 refine hR (?_ : R (_, _, _, _, _, _))
    refine hR (zcall_i 0 0 (Nat.le_of_ble_eq_true rfl) (Nat.le_of_ble_eq_true rfl) (m_sizeOf_1 _ _ n hx hn _ _ ?_))
    iterate 2 refine hR (?_ : R (_, _, _, _, _, _))
    have hm1 : (nI (tLen n) - Int32.ofInt 1).toInt = (tLen n : Int) - 1 := by rw [nI1, pk_sub_toInt (by omega) (by omega)]; rfl
    have em : (Int32.ofInt (-1)).toInt = -1 := by decide
    have e0 : (0 : Int32).toInt = 0 := rfl
    refine hR (zcall_i 0 0 (Nat.le_of_ble_eq_true rfl) (Nat.le_of_ble_eq_true rfl) (m_in_1 _ _ _ _ _ _ (fun p1 p2 => ?_) (fun p => ?_)))
    · rw [zlt_i, em] at p1
      rw [zle_i, hm1] at p2
      refine hR (And.intro (fun _ => ?_) (fun hc => absurd hc (by decide)))
      iterate 3 refine hR (?_ : R (_, _, _, _, _, _))
      refine hR (zcall_i 0 0 (Nat.le_of_ble_eq_true rfl) (Nat.le_of_ble_eq_true rfl) (m_spell25_1 _ _ n hx hn _ (fun f hf => ?_)))
      iterate 2 refine hR (?_ : R (_, _, _, _, _, _))
      refine hR (And.intro (fun hk => ?_) (fun hk => ?_))
      · have hk0 : 0 ≤ k.toInt := by
          rw [zeq_i, em] at hk
          omega
        have hkn : ¬ k < 0 := by rw [zlt_i, e0]; omega
        obtain ⟨j, hj, hkj⟩ := nI_of hkn
        have hcj : k.toNatClampNeg = j := by rw [hkj]; exact nI_clamp hj
        have hjl : j < tLen n := by
          rw [hkj, nI_toInt hj] at p2
          omega
        have hnle : ¬ nI (tLen n) ≤ k := by rw [zle_i, hkj, nI_toInt hj, nI_toInt (by omega)]; omega
        rw [if_neg hk, if_neg (fun z => z.elim hkn hnle), hcj] at h
        iterate 3 refine hR (?_ : R (_, _, _, _, _, _))
        refine hR (And.intro (by rw [hkj]; exact nI_in (by omega) (by omega)) ?_)
        refine hR (zret_i rfl (Nat.le_refl _) trivial ?_)
        have h2 : ∀ y w, y = nI (tW n j) → Q (some (.int y)) w := fun y w hy => by rw [hy]; exact h w
        refine h2 _ _ ?_
        show f k.toNatClampNeg = _
        rw [hcj]
        exact hf j hjl
      · rw [if_pos hk] at h
        refine hR (?_ : R (_, _, _, _, _, _))
        refine hR (zcall_i 0 0 (Nat.le_of_ble_eq_true rfl) (Nat.le_of_ble_eq_true rfl) (m_sizeOf_1 _ _ n hx hn _ _ ?_))
        refine hR (?_ : R (_, _, _, _, _, _))
        exact hR (zret_i rfl (Nat.le_refl _) trivial (h _))
    · rw [zlt_i, zlt_i, em, hm1] at p
      have hk1 : ¬ k = Int32.ofInt (-1) := by rw [zeq_i, em]; omega
      have hk2 : k < 0 ∨ nI (tLen n) ≤ k := by rw [zlt_i, zle_i, e0, nI_toInt (by omega)]; omega
      rw [if_neg hk1, if_pos hk2] at h
      refine hR (And.intro (fun hc => absurd (by decide) hc) (fun _ => ?_))
      refine hR (?_ : R (_, _, _, _, _, _))
      exact hR (zret_i rfl (Nat.le_refl _) trivial (h _))
  · unfold vWord at h
    rw [if_pos q] at h
    refine hR (And.intro (fun _ => ?_) (fun hc => absurd (by decide) hc))
    refine hR (?_ : R (_, _, _, _, _, _))
    exact hR (zret_i rfl (Nat.le_refl _) trivial (h _))
theorem m_lesser_1 (d : Nat) (x y : Int32) (p q : Nat) (hx : x = nI p) (hy : y = nI q) (hp : p < 1000) (hq : q < 1000) (w : zW) (Q : zQ) (h : Q (some (.int (nI (min p q)))) w) : zCl zTab (d + 1) iX12_lesser [.int x, .int y] w 0 0 Q := by
  refine zCl_i (M := kX12_lesser) rfl (Nat.le_of_ble_eq_true rfl) fun R hR => ?_
  have h3 : ∀ z, z = nI (min p q) → Q (some (.int z)) w := fun z hz => by rw [hz]; exact h
  iterate 2 refine hR (?_ : R (_, _, _, _, _, _))
  refine hR (pk_le q p (fun c => ?_) (fun c => ?_) hy hx)
  · refine hR (?_ : R (_, _, _, _, _, _))
    exact hR (zret_i rfl (Nat.le_refl _) trivial (h3 _ (by rw [hy, Nat.min_eq_right c])))
  · iterate 2 refine hR (?_ : R (_, _, _, _, _, _))
    exact hR (zret_i rfl (Nat.le_refl _) trivial (h3 _ (by rw [hx, Nat.min_eq_left (by omega)])))
set_option maxHeartbeats 4000000 in
theorem m_apart_1 {c0 c1 c2 c3 c4 c5 c6 c7 c8 c9 c10 c11 c12 c13 : va_E} {x0 x9 x10 x11 x12 x13 x15 x16 x17 x20 x21 x22 x23 x26 x28 x31 x32 x33 x38 x41 x44 : Int32} {x14 : Int64} {g15 g16 g17 g18 g19 g20 g21 g22 g23 g24 g25 g26 g27 g28 g29 g30 g31 g32 g33 g34 g35 g36 g37 g38 g39 g40 g41 g42 g43 g44 : Nat → Int32} {t : zW} (d : Nat) (x y : Int32) (a b : Nat) (hx : x = nI a) (ha : a < 5461) (hy : y = nI b) (hb : b < 5461) (Q : zQ) (h : ∀ w, Q (some (.int (nI (eD (tW a) (tW b) (tLen a) (tLen b))))) w) : zCl zTab (d + 4) iX12_apart [.ref 14, .int x, .int y] (zMg c0 c1 c2 c3 c4 c5 c6 c7 c8 c9 c10 c11 c12 c13 x0 x9 x10 x11 x12 x13 x15 x16 x17 x20 x21 x22 x23 x26 x28 x31 x32 x33 x38 x41 x44 x14 g15 g16 g17 g18 g19 g20 g21 g22 g23 g24 g25 g26 g27 g28 g29 g30 g31 g32 g33 g34 g35 g36 g37 g38 g39 g40 g41 g42 g43 g44 t) 0 0 Q := by
  have hn := tLen_le a
  have hm := tLen_le b
  refine zCl_i (M := kX12_apart) rfl (Nat.le_of_ble_eq_true rfl) fun R hR => ?_
  have main : ∀ (fa fb : Nat → Int32), (∀ i, i < tLen a → fa i = nI (tW a i)) → (∀ i, i < tLen b → fb i = nI (tW b i)) → ∀ (z6 z7 : Option Value), R (30, [some (.ref 14), some (.int x), some (.int y), some (.int (nI (tLen a))), some (.int (nI (tLen b))), some (.int (Int32.ofInt 0)), z6, z7], [], (zMg c0 c1 c2 c3 c4 c5 c6 c7 c8 c9 c10 c11 c12 c13 x0 x9 x10 x11 x12 x13 x15 x16 x17 x20 x21 x22 x23 x26 x28 x31 x32 x33 x38 x41 x44 x14 g15 g16 g17 g18 g19 g20 g21 g22 g23 g24 fa fb g27 g28 g29 g30 g31 g32 g33 g34 g35 g36 g37 g38 g39 g40 g41 g42 g43 g44 t), 0, 0) := by
    intro fa fb hfa hfb
    have inner : ∀ (i9 : Nat) (i : Int32), i = nI i9 → i9 ≤ tLen a → (∀ (T : Nat → Int32) (z6 z7 : Option Value), (∀ i', i' ≤ i9 → ∀ k', k' ≤ tLen b → T (7 * i' + k') = nI (eD (tW a) (tW b) i' k')) → R (185, [some (.ref 14), some (.int x), some (.int y), some (.int (nI (tLen a))), some (.int (nI (tLen b))), some (.int i), z6, z7], [], (zMg c0 c1 c2 c3 c4 c5 c6 c7 c8 c9 c10 c11 c12 c13 x0 x9 x10 x11 x12 x13 x15 x16 x17 x20 x21 x22 x23 x26 x28 x31 x32 x33 x38 x41 x44 x14 g15 g16 g17 g18 g19 g20 g21 g22 g23 g24 fa fb T g28 g29 g30 g31 g32 g33 g34 g35 g36 g37 g38 g39 g40 g41 g42 g43 g44 t), 0, 0)) → ∀ (m9 k9 : Nat) (k : Int32) (T : Nat → Int32) (z7 : Option Value), k9 + m9 = tLen b + 1 → k = nI k9 → (∀ i', i' < i9 → ∀ k', k' ≤ tLen b → T (7 * i' + k') = nI (eD (tW a) (tW b) i' k')) → (∀ k', k' < k9 → T (7 * i9 + k') = nI (eD (tW a) (tW b) i9 k')) → R (39, [some (.ref 14), some (.int x), some (.int y), some (.int (nI (tLen a))), some (.int (nI (tLen b))), some (.int i), some (.int k), z7], [], (zMg c0 c1 c2 c3 c4 c5 c6 c7 c8 c9 c10 c11 c12 c13 x0 x9 x10 x11 x12 x13 x15 x16 x17 x20 x21 x22 x23 x26 x28 x31 x32 x33 x38 x41 x44 x14 g15 g16 g17 g18 g19 g20 g21 g22 g23 g24 fa fb T g28 g29 g30 g31 g32 g33 g34 g35 g36 g37 g38 g39 g40 g41 g42 g43 g44 t), 0, 0) := by
      intro i9 i hi hi9 hexit m9
      induction m9 with
      | zero =>
        intro k9 k T z7 hk9 hk h1 h2
        iterate 2 refine hR (?_ : R (_, _, _, _, _, _))
        refine hR (pk_lt (tLen b) k9 (fun _ => ?_) (fun z => by omega) rfl hk)
        refine hexit T _ _ (fun i' hi' k' hk' => ?_)
        by_cases hq : i' = i9
        · subst hq
          exact h2 k' (by omega)
        · exact h1 i' (by omega) k' hk'
      | succ m9 ih =>
        intro k9 k T z7 hk9 hk h1 h2
        have fin : ∀ (bs : Int32), bs = nI (eD (tW a) (tW b) i9 k9) → R (164, [some (.ref 14), some (.int x), some (.int y), some (.int (nI (tLen a))), some (.int (nI (tLen b))), some (.int i), some (.int k), some (.int bs)], [], (zMg c0 c1 c2 c3 c4 c5 c6 c7 c8 c9 c10 c11 c12 c13 x0 x9 x10 x11 x12 x13 x15 x16 x17 x20 x21 x22 x23 x26 x28 x31 x32 x33 x38 x41 x44 x14 g15 g16 g17 g18 g19 g20 g21 g22 g23 g24 fa fb T g28 g29 g30 g31 g32 g33 g34 g35 g36 g37 g38 g39 g40 g41 g42 g43 g44 t), 0, 0) := by
          intro bs hbs
          have ei : (Int8.ofInt 7).toInt32 * i + k = nI (7 * i9 + k9) := by rw [nI7, hi, hk, pk_mul, nI_add]
          iterate 8 refine hR (?_ : R (_, _, _, _, _, _))
          refine hR (And.intro (by rw [ei]; exact nI_in (by omega) (by omega)) ?_)
          iterate 2 refine hR (?_ : R (_, _, _, _, _, _))
          have ec : ((Int8.ofInt 7).toInt32 * i + k).toNatClampNeg = 7 * i9 + k9 := by rw [ei]; exact nI_clamp (by omega)
          refine ih (k9 + 1) _ _ _ (by omega) (by rw [hk, nI1, nI_add]) (fun i' hi' k' hk' => ?_) (fun k' hk' => ?_)
          · rw [ec, pk_un (by omega)]
            exact h1 i' hi' k' hk'
          · rw [ec]
            by_cases hq : k' = k9
            · subst hq
              rw [pk_us, hbs]
            · rw [pk_un (by omega)]
              exact h2 k' (by omega)
        iterate 2 refine hR (?_ : R (_, _, _, _, _, _))
        refine hR (pk_lt (tLen b) k9 (fun z => by omega) (fun _ => ?_) rfl hk)
        refine hR (?_ : R (_, _, _, _, _, _))
        by_cases hi0 : i9 = 0
        · have hiz : i = 0 := by rw [hi, hi0]; rfl
          refine hR (And.intro (fun hc => absurd hiz hc) (fun _ => ?_))
          iterate 2 refine hR (?_ : R (_, _, _, _, _, _))
          iterate 2 refine hR (?_ : R (_, _, _, _, _, _))
          refine hR (And.intro (fun _ => ?_) (fun hc => absurd (by rw [hiz]; decide) hc))
          exact fin _ (by rw [hk, hi0, eD_0])
        have hin : ¬ i = 0 := by rw [hi]; exact nI_ne0 (by omega) (by omega)
        have hil : ¬ i ≤ 0 := by rw [hi]; exact nI_nle (by omega) (by omega)
        refine hR (And.intro (fun _ => ?_) (fun hc => absurd hc hin))
        refine hR (?_ : R (_, _, _, _, _, _))
        by_cases hk0 : k9 = 0
        · have hkz : k = 0 := by rw [hk, hk0]; rfl
          refine hR (And.intro (fun hc => absurd hkz hc) (fun _ => ?_))
          iterate 2 refine hR (?_ : R (_, _, _, _, _, _))
          iterate 2 refine hR (?_ : R (_, _, _, _, _, _))
          refine hR (And.intro (fun hc => absurd hc hil) (fun _ => ?_))
          refine hR (?_ : R (_, _, _, _, _, _))
          refine hR (And.intro (fun _ => ?_) (fun hc => absurd (by rw [hkz]; decide) hc))
          exact fin _ (by rw [hi, hk0, eD_z])
        have hkn : ¬ k = 0 := by rw [hk]; exact nI_ne0 (by omega) (by omega)
        have hkl : ¬ k ≤ 0 := by rw [hk]; exact nI_nle (by omega) (by omega)
        obtain ⟨i8, ei8⟩ : ∃ i8, i9 = i8 + 1 := ⟨i9 - 1, by omega⟩
        obtain ⟨k8, ek8⟩ : ∃ k8, k9 = k8 + 1 := ⟨k9 - 1, by omega⟩
        have d1 := eD_le (tW a) (tW b) i8 k8
        have d2 := eD_le (tW a) (tW b) i8 (k8 + 1)
        have d3 := eD_le (tW a) (tW b) (i8 + 1) k8
        have d4 := ed1_le (tW a i8) (tW b k8)
        have x1 : (Int8.ofInt 7).toInt32 * (i - Int32.ofInt 1) + k - Int32.ofInt 1 = nI (7 * i8 + k8) := by rw [nI7, hi, hk, ei8, ek8, nI1, pk_sub (by omega), Nat.add_sub_cancel, pk_mul, nI_add, pk_sub (by omega)]; exact congrArg nI (by omega)
        have x2 : i - Int32.ofInt 1 = nI i8 := by rw [hi, ei8, nI1, pk_sub (by omega), Nat.add_sub_cancel]
        have x3 : k - Int32.ofInt 1 = nI k8 := by rw [hk, ek8, nI1, pk_sub (by omega), Nat.add_sub_cancel]
        have x4 : (Int8.ofInt 7).toInt32 * (i - Int32.ofInt 1) + k = nI (7 * i8 + (k8 + 1)) := by rw [x2, nI7, hk, ek8, pk_mul, nI_add]
        have x5 : (Int8.ofInt 7).toInt32 * i + k - Int32.ofInt 1 = nI (7 * (i8 + 1) + k8) := by rw [nI7, hi, hk, ei8, ek8, pk_mul, nI_add, nI1, pk_sub (by omega)]; exact congrArg nI (by omega)
        have v1 : T ((Int8.ofInt 7).toInt32 * (i - Int32.ofInt 1) + k - Int32.ofInt 1).toNatClampNeg = nI (eD (tW a) (tW b) i8 k8) := by rw [x1, nI_clamp (by omega)]; exact h1 i8 (by omega) k8 (by omega)
        have v2 : fa (i - Int32.ofInt 1).toNatClampNeg = nI (tW a i8) := by rw [x2, nI_clamp (by omega)]; exact hfa i8 (by omega)
        have v3 : fb (k - Int32.ofInt 1).toNatClampNeg = nI (tW b k8) := by rw [x3, nI_clamp (by omega)]; exact hfb k8 (by omega)
        have v4 : T ((Int8.ofInt 7).toInt32 * (i - Int32.ofInt 1) + k).toNatClampNeg = nI (eD (tW a) (tW b) i8 (k8 + 1)) := by rw [x4, nI_clamp (by omega)]; exact h1 i8 (by omega) (k8 + 1) (by omega)
        have v5 : T ((Int8.ofInt 7).toInt32 * i + k - Int32.ofInt 1).toNatClampNeg = nI (eD (tW a) (tW b) (i8 + 1) k8) := by
          rw [x5, nI_clamp (by omega), ← ei8]
          exact h2 k8 (by omega)
        have rest : ∀ (bs : Int32), bs = nI (eD (tW a) (tW b) i8 k8 + ed1 (tW a i8) (tW b k8)) → R (112, [some (.ref 14), some (.int x), some (.int y), some (.int (nI (tLen a))), some (.int (nI (tLen b))), some (.int i), some (.int k), some (.int bs)], [], (zMg c0 c1 c2 c3 c4 c5 c6 c7 c8 c9 c10 c11 c12 c13 x0 x9 x10 x11 x12 x13 x15 x16 x17 x20 x21 x22 x23 x26 x28 x31 x32 x33 x38 x41 x44 x14 g15 g16 g17 g18 g19 g20 g21 g22 g23 g24 fa fb T g28 g29 g30 g31 g32 g33 g34 g35 g36 g37 g38 g39 g40 g41 g42 g43 g44 t), 0, 0) := by
          intro bs hbs
          refine hR (?_ : R (_, _, _, _, _, _))
          refine hR (And.intro (fun hc => absurd hc hil) (fun _ => ?_))
          refine hR (?_ : R (_, _, _, _, _, _))
          refine hR (And.intro (fun hc => absurd hc hkl) (fun _ => ?_))
          iterate 11 refine hR (?_ : R (_, _, _, _, _, _))
          refine hR (And.intro (by rw [x4]; exact nI_in (by omega) (by omega)) ?_)
          iterate 9 refine hR (?_ : R (_, _, _, _, _, _))
          refine hR (And.intro (by rw [x5]; exact nI_in (by omega) (by omega)) ?_)
          refine hR (zcall_i 0 0 (Nat.le_of_ble_eq_true rfl) (Nat.le_of_ble_eq_true rfl) (m_lesser_1 _ _ _ (eD (tW a) (tW b) i8 (k8 + 1)) (eD (tW a) (tW b) (i8 + 1) k8) v4 v5 (by omega) (by omega) _ _ ?_))
          refine hR (?_ : R (_, _, _, _, _, _))
          refine hR (zcall_i 0 0 (Nat.le_of_ble_eq_true rfl) (Nat.le_of_ble_eq_true rfl) (m_lesser_1 _ _ _ (eD (tW a) (tW b) i8 k8 + ed1 (tW a i8) (tW b k8)) (1 + min (eD (tW a) (tW b) i8 (k8 + 1)) (eD (tW a) (tW b) (i8 + 1) k8)) hbs (by rw [nI1, nI_add]) (by omega) (by omega) _ _ ?_))
          refine hR (?_ : R (_, _, _, _, _, _))
          exact fin _ (by rw [ei8, ek8, eD_s])
        refine hR (And.intro (fun _ => ?_) (fun hc => absurd hc hkn))
        iterate 11 refine hR (?_ : R (_, _, _, _, _, _))
        refine hR (And.intro (by rw [x1]; exact nI_in (by omega) (by omega)) ?_)
        iterate 5 refine hR (?_ : R (_, _, _, _, _, _))
        refine hR (And.intro (by rw [x2]; exact nI_in (by omega) (by omega)) ?_)
        iterate 5 refine hR (?_ : R (_, _, _, _, _, _))
        refine hR (And.intro (by rw [x3]; exact nI_in (by omega) (by omega)) ?_)
        have l1 : tW a i8 < 4 := Nat.mod_lt _ (by omega)
        have l2 : tW b k8 < 4 := Nat.mod_lt _ (by omega)
        refine hR (pk_eq (tW a i8) (tW b k8) (fun q => ?_) (fun q => ?_) v2 v3).symm
        · iterate 4 refine hR (?_ : R (_, _, _, _, _, _))
          exact rest _ (by rw [v1, nI0, nI_add, show ed1 (tW a i8) (tW b k8) = 0 from if_pos q])
        · iterate 3 refine hR (?_ : R (_, _, _, _, _, _))
          exact rest _ (by rw [v1, nI1, nI_add, show ed1 (tW a i8) (tW b k8) = 1 from if_neg q])
    have outer : ∀ (m9 i9 : Nat) (i : Int32) (T : Nat → Int32) (z6 z7 : Option Value), i9 + m9 = tLen a + 1 → i = nI i9 → (∀ i', i' < i9 → ∀ k', k' ≤ tLen b → T (7 * i' + k') = nI (eD (tW a) (tW b) i' k')) → R (30, [some (.ref 14), some (.int x), some (.int y), some (.int (nI (tLen a))), some (.int (nI (tLen b))), some (.int i), z6, z7], [], (zMg c0 c1 c2 c3 c4 c5 c6 c7 c8 c9 c10 c11 c12 c13 x0 x9 x10 x11 x12 x13 x15 x16 x17 x20 x21 x22 x23 x26 x28 x31 x32 x33 x38 x41 x44 x14 g15 g16 g17 g18 g19 g20 g21 g22 g23 g24 fa fb T g28 g29 g30 g31 g32 g33 g34 g35 g36 g37 g38 g39 g40 g41 g42 g43 g44 t), 0, 0) := by
      intro m9
      induction m9 with
      | zero =>
        intro i9 i T z6 z7 hi9 hi h1
        iterate 2 refine hR (?_ : R (_, _, _, _, _, _))
        refine hR (pk_lt (tLen a) i9 (fun _ => ?_) (fun z => by omega) rfl hi)
        have x1 : (Int8.ofInt 7).toInt32 * nI (tLen a) + nI (tLen b) = nI (7 * tLen a + tLen b) := by rw [nI7, pk_mul, nI_add]
        iterate 7 refine hR (?_ : R (_, _, _, _, _, _))
        refine hR (And.intro (by rw [x1]; exact nI_in (by omega) (by omega)) ?_)
        have h3 : ∀ z w, z = nI (eD (tW a) (tW b) (tLen a) (tLen b)) → Q (some (.int z)) w := fun z w hz => by rw [hz]; exact h w
        refine hR (zret_i rfl (Nat.le_refl _) trivial (h3 _ _ ?_))
        rw [x1, nI_clamp (by omega)]
        exact h1 (tLen a) (by omega) (tLen b) (by omega)
      | succ m9 ih =>
        intro i9 i T z6 z7 hi9 hi h1
        iterate 2 refine hR (?_ : R (_, _, _, _, _, _))
        refine hR (pk_lt (tLen a) i9 (fun z => by omega) (fun _ => ?_) rfl hi)
        iterate 2 refine hR (?_ : R (_, _, _, _, _, _))
        refine inner i9 i hi (by omega) ?_ (tLen b + 1) 0 _ T _ (by omega) nI0 h1 (fun k' hk' => by omega)
        intro T z6 z7 h5
        iterate 2 refine hR (?_ : R (_, _, _, _, _, _))
        exact ih (i9 + 1) _ T _ _ (by omega) (by rw [hi, nI1, nI_add]) (fun i' hi' k' hk' => h5 i' (by omega) k' hk')
    intro z6 z7
    exact outer (tLen a + 1) 0 _ g27 _ _ (by omega) nI0 (fun i' hi' => by omega)
  refine hR (?_ : R (_, _, _, _, _, _))
  refine hR (zcall_i 0 0 (Nat.le_of_ble_eq_true rfl) (Nat.le_of_ble_eq_true rfl) (m_sizeOf_1 _ _ a hx ha _ _ ?_))
  iterate 2 refine hR (?_ : R (_, _, _, _, _, _))
  refine hR (zcall_i 0 0 (Nat.le_of_ble_eq_true rfl) (Nat.le_of_ble_eq_true rfl) (m_sizeOf_1 _ _ b hy hb _ _ ?_))
  iterate 4 refine hR (?_ : R (_, _, _, _, _, _))
  refine hR (zcall_i 0 0 (Nat.le_of_ble_eq_true rfl) (Nat.le_of_ble_eq_true rfl) (m_spell25_1 _ _ a hx ha _ (fun fa hfa => ?_)))
  iterate 3 refine hR (?_ : R (_, _, _, _, _, _))
  refine hR (zcall_i 0 0 (Nat.le_of_ble_eq_true rfl) (Nat.le_of_ble_eq_true rfl) (m_spell26_1 _ _ b hy hb _ (fun fb hfb => ?_)))
  iterate 2 refine hR (?_ : R (_, _, _, _, _, _))
  exact main fa fb hfa hfb _ _
def vDrift (x y : Int32) : Int32 := if (x < 0 ∨ 5461 ≤ x) ∨ (y < 0 ∨ 5461 ≤ y) then Int32.ofInt (-1) else nI (eD (tW x.toNatClampNeg) (tW y.toNatClampNeg) (tLen x.toNatClampNeg) (tLen y.toNatClampNeg))
theorem ed_cong {u u' v v' : Nat → Nat} {n m : Nat} (hu : ∀ i, i < n → u i = u' i) (hv : ∀ i, i < m → v i = v' i) : eD u v n m = eD u' v' n m := by
  have key : ∀ (f g : Nat → Nat) (n : Nat), (∀ i, i < n → f i = g i) → rl f n = rl g n := by
    intro f g n
    induction n with
    | zero => intro _; rfl
    | succ n ih => intro hh; show f n :: rl f n = g n :: rl g n; rw [hh n (by omega), ih (fun i hi => hh i (by omega))]
  unfold eD
  rw [key u u' n hu, key v v' m hv]
theorem ue_eD (a b : Nat) : eD (ue a) (ue b) (tLen a) (tLen b) = eD (tW a) (tW b) (tLen a) (tLen b) := by
  rw [← eD_rev (tW a) (tW b) (tLen a) (tLen b)]
  refine ed_cong (fun i hi => ?_) (fun i hi => ?_)
  · have h := tB_w a (tLen a - 1 - i) (by omega)
    rw [show tLen a - 1 - (tLen a - 1 - i) = i by omega] at h
    exact h
  · have h := tB_w b (tLen b - 1 - i) (by omega)
    rw [show tLen b - 1 - (tLen b - 1 - i) = i by omega] at h
    exact h
theorem vDrift_in {x y : Int32} {a b : Nat} (hx : x = nI a) (ha : a < 5461) (hy : y = nI b) (hb : b < 5461) (p0 : ¬ x < 0) (p1 : x < 5461) (q0 : ¬ y < 0) (q1 : y < 5461) : vDrift x y = nI (eD (tW a) (tW b) (tLen a) (tLen b)) := by
  unfold vDrift
  rw [if_neg (fun z => z.elim (fun z => z.elim p0 (fun z => absurd p1 (Int32.not_lt.mpr z))) (fun z => z.elim q0 (fun z => absurd q1 (Int32.not_lt.mpr z)))), hx, hy, nI_clamp (by omega), nI_clamp (by omega)]
theorem r_drift (d : Nat) (x y : Int32) (t : zW) (Q : zQ) (h : Q (some (.int (vDrift x y))) t) : zCl zTab (d + 4) iX11_drift [.ref 0, .int x, .int y] t 0 0 Q := by
  have h3 : ∀ z, z = vDrift x y → Q (some (.int z)) t := fun z hz => by rw [hz]; exact h
  refine zCl_i (M := kX11_drift) rfl (Nat.le_of_ble_eq_true rfl) fun R hR => ?_
  refine hR (?_ : R (_, _, _, _, _, _))
  refine hR (zcall_i 0 0 (Nat.le_of_ble_eq_true rfl) (Nat.le_of_ble_eq_true rfl) (r_isText _ _ _ _ (fun p0 p1 => ?_) (fun q => ?_)))
  · refine hR (And.intro (fun hc => absurd hc (by decide)) (fun _ => ?_))
    refine hR (?_ : R (_, _, _, _, _, _))
    refine hR (zcall_i 0 0 (Nat.le_of_ble_eq_true rfl) (Nat.le_of_ble_eq_true rfl) (r_isText _ _ _ _ (fun q0 q1 => ?_) (fun q => ?_)))
    · obtain ⟨a, ha, hx⟩ := t_of p0 p1
      obtain ⟨b, hb, hy⟩ := t_of q0 q1
      refine hR (And.intro (fun hc => absurd hc (by decide)) (fun _ => ?_))
      iterate 2 refine hR (?_ : R (_, _, _, _, _, _))
      refine hR (zcall_i 0 0 (Nat.le_of_ble_eq_true rfl) (Nat.le_of_ble_eq_true rfl) (r_driftOf _ _ _ a b hx ha hy hb _ _ ?_))
      refine hR (?_ : R (_, _, _, _, _, _))
      exact hR (zret_i rfl (Nat.le_refl _) trivial (h3 _ (by rw [vDrift_in hx ha hy hb p0 p1 q0 q1, ue_eD])))
    · refine hR (And.intro (fun _ => ?_) (fun hc => absurd (by decide) hc))
      refine hR (?_ : R (_, _, _, _, _, _))
      exact hR (zret_i rfl (Nat.le_refl _) trivial (h3 _ (by unfold vDrift; rw [if_pos (Or.inr q)])))
  · refine hR (And.intro (fun _ => ?_) (fun hc => absurd (by decide) hc))
    refine hR (?_ : R (_, _, _, _, _, _))
    exact hR (zret_i rfl (Nat.le_refl _) trivial (h3 _ (by unfold vDrift; rw [if_pos (Or.inl q)])))
theorem m_drift_1 {c0 c1 c2 c3 c4 c5 c6 c7 c8 c9 c10 c11 c12 c13 : va_E} {x0 x9 x10 x11 x12 x13 x15 x16 x17 x20 x21 x22 x23 x26 x28 x31 x32 x33 x38 x41 x44 : Int32} {x14 : Int64} {g15 g16 g17 g18 g19 g20 g21 g22 g23 g24 g25 g26 g27 g28 g29 g30 g31 g32 g33 g34 g35 g36 g37 g38 g39 g40 g41 g42 g43 g44 : Nat → Int32} {t : zW} (d : Nat) (x y : Int32) (Q : zQ) (h : ∀ w, Q (some (.int (vDrift x y))) w) : zCl zTab (d + 5) iX12_drift [.ref 14, .int x, .int y] (zMg c0 c1 c2 c3 c4 c5 c6 c7 c8 c9 c10 c11 c12 c13 x0 x9 x10 x11 x12 x13 x15 x16 x17 x20 x21 x22 x23 x26 x28 x31 x32 x33 x38 x41 x44 x14 g15 g16 g17 g18 g19 g20 g21 g22 g23 g24 g25 g26 g27 g28 g29 g30 g31 g32 g33 g34 g35 g36 g37 g38 g39 g40 g41 g42 g43 g44 t) 0 0 Q := by
  have h3 : ∀ z w, z = vDrift x y → Q (some (.int z)) w := fun z w hz => by rw [hz]; exact h w
  refine zCl_i (M := kX12_drift) rfl (Nat.le_of_ble_eq_true rfl) fun R hR => ?_
  iterate 4 refine hR (?_ : R (_, _, _, _, _, _))
  refine hR (zcall_i 0 0 (Nat.le_of_ble_eq_true rfl) (Nat.le_of_ble_eq_true rfl) (m_isText_1 _ _ _ _ (fun p0 p1 => ?_) (fun q => ?_)))
  · refine hR (And.intro (fun hc => absurd hc (by decide)) (fun _ => ?_))
    refine hR (?_ : R (_, _, _, _, _, _))
    refine hR (zcall_i 0 0 (Nat.le_of_ble_eq_true rfl) (Nat.le_of_ble_eq_true rfl) (m_isText_1 _ _ _ _ (fun q0 q1 => ?_) (fun q => ?_)))
    · obtain ⟨a, ha, hx⟩ := t_of p0 p1
      obtain ⟨b, hb, hy⟩ := t_of q0 q1
      refine hR (And.intro (fun hc => absurd hc (by decide)) (fun _ => ?_))
      iterate 3 refine hR (?_ : R (_, _, _, _, _, _))
      refine hR (zcall_i 0 0 (Nat.le_of_ble_eq_true rfl) (Nat.le_of_ble_eq_true rfl) (m_apart_1 _ _ _ a b hx ha hy hb _ (fun _ => ?_)))
      refine hR (?_ : R (_, _, _, _, _, _))
      exact hR (zret_i rfl (Nat.le_refl _) trivial (h3 _ _ (by rw [vDrift_in hx ha hy hb p0 p1 q0 q1])))
    · refine hR (And.intro (fun _ => ?_) (fun hc => absurd (by decide) hc))
      refine hR (?_ : R (_, _, _, _, _, _))
      exact hR (zret_i rfl (Nat.le_refl _) trivial (h3 _ _ (by unfold vDrift; rw [if_pos (Or.inr q)])))
  · refine hR (And.intro (fun _ => ?_) (fun hc => absurd (by decide) hc))
    refine hR (?_ : R (_, _, _, _, _, _))
    exact hR (zret_i rfl (Nat.le_refl _) trivial (h3 _ _ (by unfold vDrift; rw [if_pos (Or.inl q)])))
def num (l : List Nat) : Nat := l.foldl (fun t w => 4 * t + 1 + w) 0
theorem num_snoc (l : List Nat) (w : Nat) : num (l ++ [w]) = 4 * num l + 1 + w := by unfold num; rw [List.foldl_append]; rfl
theorem tSh_4 : ∀ j, j < 8 → tSh (j + 1) = 4 * tSh j + 1 := by decide +kernel
theorem tLen_of {t n : Nat} (hn : n ≤ 6) (h1 : tSh n ≤ t) (h2 : t < tSh (n + 1)) : tLen t = n ∧ t < 5461 := by
  obtain ⟨e0, e1, e2, e3, e4, e5, e6, e7⟩ := tSh_v
  have hc : n = 0 ∨ n = 1 ∨ n = 2 ∨ n = 3 ∨ n = 4 ∨ n = 5 ∨ n = 6 := by omega
  have ht : t < 5461 := by
    rcases hc with rfl | rfl | rfl | rfl | rfl | rfl | rfl <;> simp only [e0, e1, e2, e3, e4, e5, e6, e7] at h1 h2 <;> omega
  refine ⟨?_, ht⟩
  rcases tLen_v t ht with ⟨h3, h⟩ | ⟨h3, h4, h⟩ | ⟨h3, h4, h⟩ | ⟨h3, h4, h⟩ | ⟨h3, h4, h⟩ | ⟨h3, h4, h⟩ | ⟨h3, h⟩ <;> rw [h] <;> rcases hc with rfl | rfl | rfl | rfl | rfl | rfl | rfl <;> simp only [e0, e1, e2, e3, e4, e5, e6, e7] at h1 h2 <;> omega
theorem numP : ∀ (n : Nat) (l : List Nat), l.length = n → n ≤ 6 → (∀ x ∈ l, x < 4) → (tSh n ≤ num l ∧ num l < tSh (n + 1)) ∧ ∀ k, k < n → (num l - tSh n) / 4 ^ (n - 1 - k) % 4 = l.getD k 0
  | 0, l, hl, _, _ => by
    have : l = [] := List.length_eq_zero_iff.mp hl
    subst this
    exact ⟨by decide, fun k hk => absurd hk (Nat.not_lt_zero _)⟩
  | n + 1, l, hl, hn, hx => by
    rcases List.eq_nil_or_concat l with rfl | ⟨L, w, rfl⟩
    · simp at hl
    · rw [List.concat_eq_append] at hl hx ⊢
      have hL : L.length = n := by rw [List.length_append] at hl; simpa using hl
      have hw : w < 4 := hx w (by simp)
      obtain ⟨⟨p1, p2⟩, p3⟩ := numP n L hL (by omega) (fun x h => hx x (by simp [h]))
      have e1 := tSh_4 n (by omega)
      have e2 := tSh_4 (n + 1) (by omega)
      rw [num_snoc]
      refine ⟨by omega, fun k hk => ?_⟩
      have e3 : 4 * num L + 1 + w - tSh (n + 1) = 4 * (num L - tSh n) + w := by omega
      rw [e3]
      by_cases hkn : k = n
      · subst hkn
        rw [show k + 1 - 1 - k = 0 by omega, Nat.pow_zero, Nat.div_one]
        have e4 : (L ++ [w]).getD k 0 = w := by
          rw [List.getD_eq_getElem?_getD, List.getElem?_append_right (by omega), hL, Nat.sub_self]
          rfl
        rw [e4]
        omega
      · have e4 : (L ++ [w]).getD k 0 = L.getD k 0 := by
          rw [List.getD_eq_getElem?_getD, List.getD_eq_getElem?_getD, List.getElem?_append_left (by omega)]
        rw [e4, ← p3 k (by omega), show n + 1 - 1 - k = (n - 1 - k) + 1 by omega, Nat.pow_succ', ← Nat.div_div_eq_div_mul, show (4 * (num L - tSh n) + w) / 4 = num L - tSh n by omega]
theorem num_t (l : List Nat) (hl : l.length ≤ 6) (hx : ∀ x ∈ l, x < 4) : tLen (num l) = l.length ∧ num l < 5461 ∧ ∀ k, k < l.length → tW (num l) k = l.getD k 0 := by
  obtain ⟨⟨p1, p2⟩, p3⟩ := numP l.length l rfl hl hx
  obtain ⟨q1, q2⟩ := tLen_of hl p1 p2
  refine ⟨q1, q2, fun k hk => ?_⟩
  rw [← p3 k hk]
  unfold tW tF
  rw [q1]
theorem num_inj {l l' : List Nat} (hl : l.length ≤ 6) (hx : ∀ x ∈ l, x < 4) (hl' : l'.length ≤ 6) (hx' : ∀ x ∈ l', x < 4) (h : num l = num l') : l = l' := by
  obtain ⟨a1, -, a3⟩ := num_t l hl hx
  obtain ⟨b1, -, b3⟩ := num_t l' hl' hx'
  have hlen : l.length = l'.length := by rw [← a1, ← b1, h]
  apply List.ext_getElem hlen
  intro k h1 h2
  have e1 := a3 k h1
  have e2 := b3 k h2
  rw [h] at e1
  rw [e1, List.getD_eq_getElem?_getD, List.getD_eq_getElem?_getD, List.getElem?_eq_getElem h1, List.getElem?_eq_getElem h2] at e2
  exact e2
def pick (u : Nat → Nat) (s : Nat) : Nat → List Nat
  | 0 => []
  | k + 1 => if s / 2 ^ k % 2 = 1 then pick u s k ++ [u k] else pick u s k
theorem pick_1 {u : Nat → Nat} {s k : Nat} (h : s / 2 ^ k % 2 = 1) : pick u s (k + 1) = pick u s k ++ [u k] := if_pos h
theorem pick_0 {u : Nat → Nat} {s k : Nat} (h : ¬ s / 2 ^ k % 2 = 1) : pick u s (k + 1) = pick u s k := if_neg h
theorem pick_len (u : Nat → Nat) (s : Nat) : ∀ k, (pick u s k).length ≤ k
  | 0 => Nat.le_refl _
  | k + 1 => by
    have h := pick_len u s k
    by_cases hb : s / 2 ^ k % 2 = 1
    · rw [pick_1 hb, List.length_append, List.length_singleton]; omega
    · rw [pick_0 hb]; omega
theorem pick_lt {u : Nat → Nat} (hu : ∀ i, u i < 4) (s : Nat) : ∀ k, ∀ x ∈ pick u s k, x < 4
  | 0, x, h => absurd h List.not_mem_nil
  | k + 1, x, h => by
    by_cases hb : s / 2 ^ k % 2 = 1
    · rw [pick_1 hb] at h
      rcases List.mem_append.mp h with h | h
      · exact pick_lt hu s k x h
      · rw [List.mem_singleton.mp h]; exact hu k
    · rw [pick_0 hb] at h
      exact pick_lt hu s k x h
theorem pick_cong {u : Nat → Nat} {s s' : Nat} : ∀ k, (∀ j, j < k → s / 2 ^ j % 2 = s' / 2 ^ j % 2) → pick u s k = pick u s' k
  | 0, _ => rfl
  | k + 1, h => by
    have h1 := pick_cong (u := u) k (fun j hj => h j (by omega))
    have h2 := h k (by omega)
    by_cases hb : s / 2 ^ k % 2 = 1
    · rw [pick_1 hb, pick_1 (by rw [← h2]; exact hb), h1]
    · rw [pick_0 hb, pick_0 (by rw [← h2]; exact hb), h1]
theorem pick_pre (u : Nat → Nat) (s : Nat) (j : Nat) : ∀ k, j ≤ k → ∃ l, pick u s k = pick u s j ++ l
  | 0, h => ⟨[], by rw [show j = 0 by omega]; rfl⟩
  | k + 1, h => by
    by_cases hj : j = k + 1
    · exact ⟨[], by rw [hj, List.append_nil]⟩
    · obtain ⟨l, hl⟩ := pick_pre u s j k (by omega)
      by_cases hb : s / 2 ^ k % 2 = 1
      · exact ⟨l ++ [u k], by rw [pick_1 hb, hl, List.append_assoc]⟩
      · exact ⟨l, by rw [pick_0 hb, hl]⟩
def fnd (u : Nat → Nat) (l : List Nat) : Nat → Nat
  | 0 => 0
  | k + 1 => if fnd u l k < l.length ∧ u k = l.getD (fnd u l k) 0 then fnd u l k + 1 else fnd u l k
theorem fnd_le (u : Nat → Nat) (l : List Nat) : ∀ k, fnd u l k ≤ l.length
  | 0 => Nat.zero_le _
  | k + 1 => by
    have h := fnd_le u l k
    unfold fnd
    split <;> omega
theorem fnd_pick (u : Nat → Nat) (l : List Nat) : ∀ k, ∃ s, s < 2 ^ k ∧ pick u s k = l.take (fnd u l k)
  | 0 => ⟨0, by decide, by simp [pick, fnd]⟩
  | k + 1 => by
    obtain ⟨s, hs, hp⟩ := fnd_pick u l k
    have h2 : 2 ^ (k + 1) = 2 * 2 ^ k := Nat.pow_succ'
    by_cases hc : fnd u l k < l.length ∧ u k = l.getD (fnd u l k) 0
    · have e : fnd u l (k + 1) = fnd u l k + 1 := if_pos hc
      have hbit : (s + 2 ^ k) / 2 ^ k % 2 = 1 := by
        rw [Nat.add_div_right _ (Nat.two_pow_pos k), Nat.div_eq_of_lt hs]
      refine ⟨s + 2 ^ k, by omega, ?_⟩
      rw [pick_1 hbit, pick_cong (s' := s) k (fun j hj => ?_), hp, e, List.take_add_one, hc.2]
      · have hc1 := hc.1
        have e5 : l.getD (fnd u l k) 0 = l[fnd u l k] := by rw [List.getD_eq_getElem?_getD, List.getElem?_eq_getElem hc1]; rfl
        rw [List.getElem?_eq_getElem hc1]
        exact congrArg (fun z => List.take (fnd u l k) l ++ [z]) e5
      · have e3 : 2 ^ k = 2 ^ j * (2 * 2 ^ (k - j - 1)) := by
          rw [← Nat.pow_succ', ← Nat.pow_add]
          congr 1
          omega
        rw [e3, Nat.add_mul_div_left _ _ (Nat.two_pow_pos j), Nat.add_mul_mod_self_left]
    · have e : fnd u l (k + 1) = fnd u l k := if_neg hc
      have hbit : ¬ s / 2 ^ k % 2 = 1 := by rw [Nat.div_eq_of_lt hs]; decide
      exact ⟨s, by omega, by rw [pick_0 hbit, e]; exact hp⟩
theorem pick_fnd (u : Nat → Nat) (s m : Nat) : ∀ k, k ≤ m → (pick u s k).length ≤ fnd u (pick u s m) k
  | 0, _ => Nat.zero_le _
  | k + 1, hk => by
    have h := pick_fnd u s m k (by omega)
    have hmono : fnd u (pick u s m) k ≤ fnd u (pick u s m) (k + 1) := by
      conv => rhs; unfold fnd
      split
      · exact Nat.le_succ _
      · exact Nat.le_refl _
    by_cases hb : s / 2 ^ k % 2 = 1
    · obtain ⟨r, hr⟩ := pick_pre u s (k + 1) m hk
      rw [pick_1 hb] at hr ⊢
      rw [List.length_append, List.length_singleton]
      by_cases hq : (pick u s k).length < fnd u (pick u s m) k
      · omega
      · have he : fnd u (pick u s m) k = (pick u s k).length := by omega
        have hget : (pick u s m).getD (pick u s k).length 0 = u k := by
          rw [hr, List.getD_eq_getElem?_getD, List.append_assoc, List.getElem?_append_right (Nat.le_refl _), Nat.sub_self]
          rfl
        have hlt : (pick u s k).length < (pick u s m).length := by
          rw [hr]
          simp
        have : fnd u (pick u s m) (k + 1) = fnd u (pick u s m) k + 1 := if_pos ⟨by rw [he]; exact hlt, by rw [he, hget]⟩
        omega
    · rw [pick_0 hb]
      omega
def isL (u : Nat → Nat) (m t : Nat) : Prop := ∃ s, s < 2 ^ m ∧ num (pick u s m) = t
theorem isL_fnd {u : Nat → Nat} (hu : ∀ i, u i < 4) {m : Nat} (hm : m ≤ 6) {l : List Nat} (hl : l.length ≤ 6) (hx : ∀ x ∈ l, x < 4) : isL u m (num l) ↔ fnd u l m = l.length := by
  constructor
  · rintro ⟨s, hs, hn⟩
    have e := num_inj (Nat.le_trans (pick_len u s m) hm) (pick_lt hu s m) hl hx hn
    have h1 := pick_fnd u s m m (Nat.le_refl _)
    rw [e] at h1
    have h2 := fnd_le u l m
    omega
  · intro h
    obtain ⟨s, hs, hp⟩ := fnd_pick u l m
    exact ⟨s, hs, by rw [hp, h, List.take_length]⟩
theorem tW_lt (t : Nat) : ∀ i, tW t i < 4 := fun i => Nat.mod_lt _ (by omega)
def btr (t b : Nat) : Prop := tLen b < tLen t ∨ (tLen t = tLen b ∧ t < b)
noncomputable def bst (u v : Nat → Nat) (n m : Nat) : Nat → Nat
  | 0 => 0
  | s + 1 => @ite Nat (btr (num (pick u s n)) (bst u v n m s) ∧ isL v m (num (pick u s n))) (Classical.propDecidable _) (num (pick u s n)) (bst u v n m s)
theorem bst_lt {u v : Nat → Nat} (hu : ∀ i, u i < 4) {n m : Nat} (hn : n ≤ 6) : ∀ s, bst u v n m s < 5461
  | 0 => by show 0 < 5461; omega
  | s + 1 => by
    have h := bst_lt (v := v) (m := m) hu hn s
    have h2 := (num_t (pick u s n) (Nat.le_trans (pick_len u s n) hn) (pick_lt hu s n)).2.1
    unfold bst
    split
    · exact h2
    · exact h
theorem bst_y {u v : Nat → Nat} {n m s : Nat} (h1 : btr (num (pick u s n)) (bst u v n m s)) (h2 : isL v m (num (pick u s n))) : bst u v n m (s + 1) = num (pick u s n) := if_pos ⟨h1, h2⟩
theorem bst_n {u v : Nat → Nat} {n m s : Nat} (h : ¬ (btr (num (pick u s n)) (bst u v n m s) ∧ isL v m (num (pick u s n)))) : bst u v n m (s + 1) = bst u v n m s := if_neg h
theorem s_sm : ∀ n, n < 32 → ((nI n &&& 31).toBitVec.smod 32).toNat = n := by decide +kernel
theorem s_2p : ∀ n, n < 7 → Int32.ofInt 1 <<< (nI n &&& 31) = nI (2 ^ n) ∧ 2 ^ n ≤ 64 := by decide +kernel
theorem r_longer (d : Nat) (x y : Int32) (t v : Nat) (hx : x = nI t) (hy : y = nI v) (w : zW) (Q : zQ) (h : Q (some (.int (nI (4 * t + 1 + v)))) w) : zCl zTab (d + 1) iX11_longer [.int x, .int y] w 0 0 Q := by
  have h3 : ∀ z, z = nI (4 * t + 1 + v) → Q (some (.int z)) w := fun z hz => by rw [hz]; exact h
  refine zCl_i (M := kX11_longer) rfl (Nat.le_of_ble_eq_true rfl) fun R hR => ?_
  iterate 7 refine hR (?_ : R (_, _, _, _, _, _))
  exact hR (zret_i rfl (Nat.le_refl _) trivial (h3 _ (by rw [nI4, nI1, hx, hy, pk_mul, nI_add, nI_add])))
theorem s_bit {s k : Nat} (hs : s < 2 ^ 31) (hk : k < 32) : (nI s >>> (nI k &&& 31)) &&& Int32.ofInt 1 = nI (s / 2 ^ k % 2) := by
  rw [pk_shrN hs _ k (s_sm k hk), pk_andN (Nat.lt_of_le_of_lt (Nat.div_le_self _ _) (by omega)) 1 (by decide)]
theorem r_isIn (d : Nat) (x y : Int32) (s k : Nat) (hx : x = nI s) (hs : s < 2 ^ 31) (hy : y = nI k) (hk : k < 32) (w : zW) (Q : zQ) (h1 : s / 2 ^ k % 2 = 1 → Q (some (.int (Int32.ofInt 1))) w) (h0 : ¬ s / 2 ^ k % 2 = 1 → Q (some (.int (Int32.ofInt 0))) w) : zCl zTab (d + 1) iX11_isIn [.int x, .int y] w 0 0 Q := by
  refine zCl_i (M := kX11_isIn) rfl (Nat.le_of_ble_eq_true rfl) fun R hR => ?_
  have e : (x >>> (y &&& 31)) &&& Int32.ofInt 1 = nI (s / 2 ^ k % 2) := by rw [hx, hy, s_bit hs hk]
  have hl : s / 2 ^ k % 2 < 2 := Nat.mod_lt _ (by omega)
  iterate 5 refine hR (?_ : R (_, _, _, _, _, _))
  refine hR (pk_eq (s / 2 ^ k % 2) 0 (fun q => ?_) (fun q => ?_) e rfl)
  · refine hR (?_ : R (_, _, _, _, _, _))
    exact hR (zret_i rfl (Nat.le_refl _) (Or.inl rfl) (h0 (by omega)))
  · iterate 2 refine hR (?_ : R (_, _, _, _, _, _))
    exact hR (zret_i rfl (Nat.le_refl _) (Or.inr rfl) (h1 (by omega)))
theorem fnd_full (u : Nat → Nat) (l : List Nat) (k : Nat) (h : fnd u l k = l.length) : ∀ m, k ≤ m → fnd u l m = l.length
  | 0, hm => by rw [show k = 0 by omega] at h; exact h
  | m + 1, hm => by
    by_cases hk : k = m + 1
    · rw [← hk]; exact h
    · have h2 := fnd_full u l k h m (by omega)
      have e : fnd u l (m + 1) = fnd u l m := if_neg (fun q => by omega)
      omega
set_option maxHeartbeats 2000000 in
theorem r_isLeftOf (d : Nat) (x y : Int32) (l : List Nat) (b : Nat) (hx : x = nI (num l)) (hl : l.length ≤ 6) (hd : ∀ z ∈ l, z < 4) (hy : y = nI b) (hb : b < 5461) (w : zW) (Q : zQ) (h1 : isL (tW b) (tLen b) (num l) → Q (some (.int (Int32.ofInt 1))) w) (h0 : ¬ isL (tW b) (tLen b) (num l) → Q (some (.int (Int32.ofInt 0))) w) : zCl zTab (d + 4) iX11_isLeftOf [.int x, .int y] w 0 0 Q := by
  obtain ⟨n1, n2, n3⟩ := num_t l hl hd
  have hm := tLen_le b
  have hiff := isL_fnd (tW_lt b) hm hl hd
  refine zCl_i (M := kX11_isLeftOf) rfl (Nat.le_of_ble_eq_true rfl) fun R hR => ?_
  have fin : ∀ (f k : Int32) (f9 : Nat), f = nI f9 → f9 ≤ l.length → (f9 = l.length ↔ fnd (tW b) l (tLen b) = l.length) → R (52, [some (.int x), some (.int y), some (.int (nI (tLen (num l)))), some (.int (nI (tLen b))), some (.int f), some (.int k)], [], w, 0, 0) := by
    intro f k f9 hf hf9 he
    iterate 2 refine hR (?_ : R (_, _, _, _, _, _))
    refine hR (pk_eq f9 (tLen (num l)) (fun q => ?_) (fun q => ?_) hf rfl).symm
    · iterate 2 refine hR (?_ : R (_, _, _, _, _, _))
      exact hR (zret_i rfl (Nat.le_refl _) (Or.inr rfl) (h1 (hiff.mpr (he.mp (by omega)))))
    · refine hR (?_ : R (_, _, _, _, _, _))
      exact hR (zret_i rfl (Nat.le_refl _) (Or.inl rfl) (h0 (fun z => q (by have := he.mpr (hiff.mp z); omega))))
  have loop : ∀ (m9 k9 : Nat) (f k : Int32), k9 + m9 = tLen b → f = nI (fnd (tW b) l k9) → k = nI k9 → R (16, [some (.int x), some (.int y), some (.int (nI (tLen (num l)))), some (.int (nI (tLen b))), some (.int f), some (.int k)], [], w, 0, 0) := by
    intro m9
    induction m9 with
    | zero =>
      intro k9 f k hk9 hf hk
      iterate 2 refine hR (?_ : R (_, _, _, _, _, _))
      refine hR (pk_le (tLen b) k9 (fun _ => ?_) (fun z => by omega) rfl hk)
      exact fin f k _ hf (fnd_le _ _ _) (by rw [show k9 = tLen b by omega])
    | succ m9 ih =>
      intro k9 f k hk9 hf hk
      have hfl := fnd_le (tW b) l k9
      iterate 2 refine hR (?_ : R (_, _, _, _, _, _))
      refine hR (pk_le (tLen b) k9 (fun z => by omega) (fun _ => ?_) rfl hk)
      iterate 2 refine hR (?_ : R (_, _, _, _, _, _))
      refine hR (pk_le (tLen (num l)) (fnd (tW b) l k9) (fun q => ?_) (fun q => ?_) rfl hf)
      · have he : fnd (tW b) l k9 = l.length := by omega
        exact fin f k _ hf hfl ⟨fun _ => fnd_full _ _ _ he _ (by omega), fun _ => he⟩
      · iterate 2 refine hR (?_ : R (_, _, _, _, _, _))
        refine hR (zcall_i 0 0 (Nat.le_of_ble_eq_true rfl) (Nat.le_of_ble_eq_true rfl) (r_wordAt _ _ _ b k9 hy hb hk (by omega) _ _ ?_))
        iterate 2 refine hR (?_ : R (_, _, _, _, _, _))
        refine hR (zcall_i 0 0 (Nat.le_of_ble_eq_true rfl) (Nat.le_of_ble_eq_true rfl) (r_wordAt _ _ _ (num l) (fnd (tW b) l k9) hx n2 hf (by omega) _ _ ?_))
        have g1 := tW_lt b k9
        have g2 := tW_lt (num l) (fnd (tW b) l k9)
        have g3 := n3 (fnd (tW b) l k9) (by omega)
        refine hR (pk_eq (tW b k9) (tW (num l) (fnd (tW b) l k9)) (fun q2 => ?_) (fun q2 => ?_) rfl rfl).symm
        · iterate 3 refine hR (?_ : R (_, _, _, _, _, _))
          have e : fnd (tW b) l (k9 + 1) = fnd (tW b) l k9 + 1 := if_pos ⟨by omega, by rw [q2, g3]⟩
          exact ih (k9 + 1) _ _ (by omega) (by rw [hf, nI1, nI_add, e]) (by rw [hk, nI1, nI_add])
        · iterate 2 refine hR (?_ : R (_, _, _, _, _, _))
          have e : fnd (tW b) l (k9 + 1) = fnd (tW b) l k9 := if_neg (fun z => q2 (by rw [z.2, g3]))
          exact ih (k9 + 1) _ _ (by omega) (by rw [hf, e]) (by rw [hk, nI1, nI_add])
  refine hR (?_ : R (_, _, _, _, _, _))
  refine hR (zcall_i 0 0 (Nat.le_of_ble_eq_true rfl) (Nat.le_of_ble_eq_true rfl) (r_lengthOf _ _ (num l) hx n2 _ _ ?_))
  iterate 2 refine hR (?_ : R (_, _, _, _, _, _))
  refine hR (zcall_i 0 0 (Nat.le_of_ble_eq_true rfl) (Nat.le_of_ble_eq_true rfl) (r_lengthOf _ _ b hy hb _ _ ?_))
  iterate 5 refine hR (?_ : R (_, _, _, _, _, _))
  exact loop (tLen b) 0 _ _ (by omega) nI0 nI0
set_option maxHeartbeats 4000000 in
theorem r_mostShared (d : Nat) (x y : Int32) (a b : Nat) (hx : x = nI a) (ha : a < 5461) (hy : y = nI b) (hb : b < 5461) (w : zW) (Q : zQ) (h : Q (some (.int (nI (bst (tW a) (tW b) (tLen a) (tLen b) (2 ^ tLen a))))) w) : zCl zTab (d + 5) iX11_mostShared [.int x, .int y] w 0 0 Q := by
  have hn := tLen_le a
  have h2p := s_2p (tLen a) (by omega)
  refine zCl_i (M := kX11_mostShared) rfl (Nat.le_of_ble_eq_true rfl) fun R hR => ?_
  have loop : ∀ (m9 s9 : Nat) (be ke : Int32) (z5 z6 : Option Value), s9 + m9 = 2 ^ tLen a → be = nI (bst (tW a) (tW b) (tLen a) (tLen b) s9) → ke = nI s9 → R (10, [some (.int x), some (.int y), some (.int (nI (tLen a))), some (.int be), some (.int ke), z5, z6], [], w, 0, 0) := by
    intro m9
    induction m9 with
    | zero =>
      intro s9 be ke z5 z6 hs hbe hke
      iterate 4 refine hR (?_ : R (_, _, _, _, _, _))
      refine hR (pk_le (2 ^ tLen a) s9 (fun _ => ?_) (fun z => by omega) h2p.1 hke)
      refine hR (?_ : R (_, _, _, _, _, _))
      have h3 : ∀ z, z = nI (bst (tW a) (tW b) (tLen a) (tLen b) (2 ^ tLen a)) → Q (some (.int z)) w := fun z hz => by rw [hz]; exact h
      exact hR (zret_i rfl (Nat.le_refl _) trivial (h3 _ (by rw [hbe, show s9 = 2 ^ tLen a by omega])))
    | succ m9 ih =>
      intro s9 be ke z5 z6 hs hbe hke
      have hpl := pick_len (tW a) s9 (tLen a)
      have hpx := pick_lt (tW_lt a) s9 (tLen a)
      obtain ⟨n1, n2, n3⟩ := num_t (pick (tW a) s9 (tLen a)) (by omega) hpx
      have hbl := bst_lt (v := tW b) (m := tLen b) (tW_lt a) hn s9
      have hb6 := tLen_le (bst (tW a) (tW b) (tLen a) (tLen b) s9)
      have ht6 := tLen_le (num (pick (tW a) s9 (tLen a)))
      have cont : ∀ (bs lf k : Int32), bs = nI (bst (tW a) (tW b) (tLen a) (tLen b) (s9 + 1)) → R (99, [some (.int x), some (.int y), some (.int (nI (tLen a))), some (.int bs), some (.int ke), some (.int lf), some (.int k)], [], w, 0, 0) := by
        intro bs lf k hbs
        iterate 2 refine hR (?_ : R (_, _, _, _, _, _))
        exact ih (s9 + 1) _ _ _ _ (by omega) hbs (by rw [hke, nI1, nI_add])
      have test : ∀ (lf k : Int32), lf = nI (num (pick (tW a) s9 (tLen a))) → btr (num (pick (tW a) s9 (tLen a))) (bst (tW a) (tW b) (tLen a) (tLen b) s9) → R (87, [some (.int x), some (.int y), some (.int (nI (tLen a))), some (.int be), some (.int ke), some (.int lf), some (.int k)], [], w, 0, 0) := by
        intro lf k hlf hbt
        iterate 2 refine hR (?_ : R (_, _, _, _, _, _))
        refine hR (zcall_i 0 0 (Nat.le_of_ble_eq_true rfl) (Nat.le_of_ble_eq_true rfl) (r_isLeftOf _ _ _ (pick (tW a) s9 (tLen a)) b hlf (by omega) hpx hy hb _ _ (fun q => ?_) (fun q => ?_)))
        · refine hR (And.intro (fun hc => absurd hc (by decide)) (fun _ => ?_))
          iterate 2 refine hR (?_ : R (_, _, _, _, _, _))
          exact cont _ _ _ (by rw [hlf, bst_y hbt q])
        · refine hR (And.intro (fun _ => ?_) (fun hc => absurd (by decide) hc))
          exact cont _ _ _ (by rw [hbe, bst_n (fun z => q z.2)])
      have after : ∀ (lf k : Int32), lf = nI (num (pick (tW a) s9 (tLen a))) → R (59, [some (.int x), some (.int y), some (.int (nI (tLen a))), some (.int be), some (.int ke), some (.int lf), some (.int k)], [], w, 0, 0) := by
        intro lf k hlf
        refine hR (?_ : R (_, _, _, _, _, _))
        refine hR (zcall_i 0 0 (Nat.le_of_ble_eq_true rfl) (Nat.le_of_ble_eq_true rfl) (r_lengthOf _ _ (num (pick (tW a) s9 (tLen a))) hlf n2 _ _ ?_))
        refine hR (?_ : R (_, _, _, _, _, _))
        refine hR (zcall_i 0 0 (Nat.le_of_ble_eq_true rfl) (Nat.le_of_ble_eq_true rfl) (r_lengthOf _ _ (bst (tW a) (tW b) (tLen a) (tLen b) s9) hbe hbl _ _ ?_))
        have ed9 : (nI (tLen (num (pick (tW a) s9 (tLen a)))) - nI (tLen (bst (tW a) (tW b) (tLen a) (tLen b) s9))).toInt = (tLen (num (pick (tW a) s9 (tLen a))) : Int) - (tLen (bst (tW a) (tW b) (tLen a) (tLen b) s9) : Int) := pk_sub_toInt (by omega) (by omega)
        have e0 : (0 : Int32).toInt = 0 := rfl
        iterate 3 refine hR (?_ : R (_, _, _, _, _, _))
        refine hR (And.intro (fun hc => ?_) (fun hc => ?_))
        · have z := zlt_i.mp hc
          rw [ed9, e0] at z
          exact test lf _ hlf (Or.inl (by omega))
        refine hR (?_ : R (_, _, _, _, _, _))
        refine hR (And.intro (fun hc2 => ?_) (fun hc2 => ?_))
        · have z1 : ¬ (0 : Int32).toInt < _ := fun q => hc (zlt_i.mpr q)
          rw [ed9, e0] at z1
          have z2 : ¬ _ = (0 : Int32).toInt := fun q => hc2 (zeq_i.mpr q)
          rw [ed9, e0] at z2
          exact cont be _ _ (by rw [hbe, bst_n (fun z => by rcases z.1 with q | q <;> omega)])
        · have z2 := zeq_i.mp hc2
          rw [ed9, e0] at z2
          iterate 2 refine hR (?_ : R (_, _, _, _, _, _))
          refine hR (pk_le (bst (tW a) (tW b) (tLen a) (tLen b) s9) (num (pick (tW a) s9 (tLen a))) (fun q => ?_) (fun q => ?_) hbe hlf)
          · exact cont be _ _ (by rw [hbe, bst_n (fun z => by rcases z.1 with q | q <;> omega)])
          · exact test lf _ hlf (Or.inr ⟨by omega, q⟩)
      have inner : ∀ (r9 k9 : Nat) (lf k : Int32), k9 + r9 = tLen a → lf = nI (num (pick (tW a) s9 k9)) → k = nI k9 → R (24, [some (.int x), some (.int y), some (.int (nI (tLen a))), some (.int be), some (.int ke), some (.int lf), some (.int k)], [], w, 0, 0) := by
        intro r9
        induction r9 with
        | zero =>
          intro k9 lf k hk9 hlf hk
          iterate 2 refine hR (?_ : R (_, _, _, _, _, _))
          refine hR (pk_le (tLen a) k9 (fun _ => ?_) (fun z => by omega) rfl hk)
          exact after lf k (by rw [hlf, show k9 = tLen a by omega])
        | succ r9 ih2 =>
          intro k9 lf k hk9 hlf hk
          iterate 2 refine hR (?_ : R (_, _, _, _, _, _))
          refine hR (pk_le (tLen a) k9 (fun z => by omega) (fun _ => ?_) rfl hk)
          iterate 2 refine hR (?_ : R (_, _, _, _, _, _))
          refine hR (zcall_i 0 0 (Nat.le_of_ble_eq_true rfl) (Nat.le_of_ble_eq_true rfl) (r_isIn _ _ _ s9 k9 hke (by omega) hk (by omega) _ _ (fun q => ?_) (fun q => ?_)))
          · refine hR (And.intro (fun hc => absurd hc (by decide)) (fun _ => ?_))
            iterate 3 refine hR (?_ : R (_, _, _, _, _, _))
            refine hR (zcall_i 0 0 (Nat.le_of_ble_eq_true rfl) (Nat.le_of_ble_eq_true rfl) (r_wordAt _ _ _ a k9 hx ha hk (by omega) _ _ ?_))
            refine hR (zcall_i 0 0 (Nat.le_of_ble_eq_true rfl) (Nat.le_of_ble_eq_true rfl) (r_longer _ _ _ (num (pick (tW a) s9 k9)) (tW a k9) hlf rfl _ _ ?_))
            iterate 3 refine hR (?_ : R (_, _, _, _, _, _))
            exact ih2 (k9 + 1) _ _ (by omega) (by rw [pick_1 q, num_snoc]) (by rw [hk, nI1, nI_add])
          · refine hR (And.intro (fun _ => ?_) (fun hc => absurd (by decide) hc))
            iterate 2 refine hR (?_ : R (_, _, _, _, _, _))
            exact ih2 (k9 + 1) _ _ (by omega) (by rw [hlf, pick_0 q]) (by rw [hk, nI1, nI_add])
      iterate 4 refine hR (?_ : R (_, _, _, _, _, _))
      refine hR (pk_le (2 ^ tLen a) s9 (fun z => by omega) (fun _ => ?_) h2p.1 hke)
      iterate 4 refine hR (?_ : R (_, _, _, _, _, _))
      exact inner (tLen a) 0 _ _ (by omega) nI0 nI0
  refine hR (?_ : R (_, _, _, _, _, _))
  refine hR (zcall_i 0 0 (Nat.le_of_ble_eq_true rfl) (Nat.le_of_ble_eq_true rfl) (r_lengthOf _ _ a hx ha _ _ ?_))
  iterate 5 refine hR (?_ : R (_, _, _, _, _, _))
  exact loop (2 ^ tLen a) 0 _ _ _ _ (by omega) nI0 nI0
noncomputable def vShared (x y p : Int32) : Int32 := if (x < 0 ∨ 5461 ≤ x) ∨ (y < 0 ∨ 5461 ≤ y) then Int32.ofInt (-1) else if p = 0 then nI (tLen (bst (tW x.toNatClampNeg) (tW y.toNatClampNeg) (tLen x.toNatClampNeg) (tLen y.toNatClampNeg) (2 ^ tLen x.toNatClampNeg))) else nI (bst (tW x.toNatClampNeg) (tW y.toNatClampNeg) (tLen x.toNatClampNeg) (tLen y.toNatClampNeg) (2 ^ tLen x.toNatClampNeg))
theorem vShared_in {x y p : Int32} {a b : Nat} (hx : x = nI a) (ha : a < 5461) (hy : y = nI b) (hb : b < 5461) (p0 : ¬ x < 0) (p1 : x < 5461) (q0 : ¬ y < 0) (q1 : y < 5461) : vShared x y p = if p = 0 then nI (tLen (bst (tW a) (tW b) (tLen a) (tLen b) (2 ^ tLen a))) else nI (bst (tW a) (tW b) (tLen a) (tLen b) (2 ^ tLen a)) := by
  unfold vShared
  rw [if_neg (fun z => z.elim (fun z => z.elim p0 (fun z => absurd p1 (Int32.not_lt.mpr z))) (fun z => z.elim q0 (fun z => absurd q1 (Int32.not_lt.mpr z)))), hx, hy, nI_clamp (by omega), nI_clamp (by omega)]
theorem r_shared (d : Nat) (x y p : Int32) (t : zW) (Q : zQ) (h : Q (some (.int (vShared x y p))) t) : zCl zTab (d + 6) iX11_shared [.ref 0, .int x, .int y, .int p] t 0 0 Q := by
  have h3 : ∀ z, z = vShared x y p → Q (some (.int z)) t := fun z hz => by rw [hz]; exact h
  refine zCl_i (M := kX11_shared) rfl (Nat.le_of_ble_eq_true rfl) fun R hR => ?_
  refine hR (?_ : R (_, _, _, _, _, _))
  refine hR (zcall_i 0 0 (Nat.le_of_ble_eq_true rfl) (Nat.le_of_ble_eq_true rfl) (r_isText _ _ _ _ (fun p0 p1 => ?_) (fun q => ?_)))
  · refine hR (And.intro (fun hc => absurd hc (by decide)) (fun _ => ?_))
    refine hR (?_ : R (_, _, _, _, _, _))
    refine hR (zcall_i 0 0 (Nat.le_of_ble_eq_true rfl) (Nat.le_of_ble_eq_true rfl) (r_isText _ _ _ _ (fun q0 q1 => ?_) (fun q => ?_)))
    · obtain ⟨a, ha, hx⟩ := t_of p0 p1
      obtain ⟨b, hb, hy⟩ := t_of q0 q1
      have hbl := bst_lt (v := tW b) (m := tLen b) (tW_lt a) (tLen_le a) (2 ^ tLen a)
      refine hR (And.intro (fun _ => ?_) (fun hc => absurd hc (by decide)))
      iterate 2 refine hR (?_ : R (_, _, _, _, _, _))
      refine hR (zcall_i 0 0 (Nat.le_of_ble_eq_true rfl) (Nat.le_of_ble_eq_true rfl) (r_mostShared _ _ _ a b hx ha hy hb _ _ ?_))
      iterate 2 refine hR (?_ : R (_, _, _, _, _, _))
      refine hR (And.intro (fun hp => ?_) (fun hp => ?_))
      · refine hR (?_ : R (_, _, _, _, _, _))
        refine hR (zcall_i 0 0 (Nat.le_of_ble_eq_true rfl) (Nat.le_of_ble_eq_true rfl) (r_lengthOf _ _ (bst (tW a) (tW b) (tLen a) (tLen b) (2 ^ tLen a)) rfl hbl _ _ ?_))
        exact hR (zret_i rfl (Nat.le_refl _) trivial (h3 _ (by rw [vShared_in hx ha hy hb p0 p1 q0 q1, if_pos hp])))
      · iterate 2 refine hR (?_ : R (_, _, _, _, _, _))
        exact hR (zret_i rfl (Nat.le_refl _) trivial (h3 _ (by rw [vShared_in hx ha hy hb p0 p1 q0 q1, if_neg hp])))
    · refine hR (And.intro (fun hc => absurd (by decide) hc) (fun _ => ?_))
      refine hR (?_ : R (_, _, _, _, _, _))
      exact hR (zret_i rfl (Nat.le_refl _) trivial (h3 _ (by unfold vShared; rw [if_pos (Or.inr q)])))
  · refine hR (And.intro (fun _ => ?_) (fun hc => absurd (by decide) hc))
    refine hR (?_ : R (_, _, _, _, _, _))
    exact hR (zret_i rfl (Nat.le_refl _) trivial (h3 _ (by unfold vShared; rw [if_pos (Or.inl q)])))
theorem m_has_1 (d : Nat) (x y : Int32) (s k : Nat) (hx : x = nI s) (hs : s < 2 ^ 31) (hy : y = nI k) (hk : k < 32) (w : zW) (Q : zQ) (h1 : s / 2 ^ k % 2 = 1 → Q (some (.int (Int32.ofInt 1))) w) (h0 : ¬ s / 2 ^ k % 2 = 1 → Q (some (.int (Int32.ofInt 0))) w) : zCl zTab (d + 1) iX12_has [.int x, .int y] w 0 0 Q := by
  refine zCl_i (M := kX12_has) rfl (Nat.le_of_ble_eq_true rfl) fun R hR => ?_
  have e : (x >>> (y &&& 31)) &&& Int32.ofInt 1 = nI (s / 2 ^ k % 2) := by rw [hx, hy, s_bit hs hk]
  have hl : s / 2 ^ k % 2 < 2 := Nat.mod_lt _ (by omega)
  iterate 6 refine hR (?_ : R (_, _, _, _, _, _))
  refine hR (pk_eq (s / 2 ^ k % 2) 1 (fun q => ?_) (fun q => ?_) e nI1).symm
  · iterate 2 refine hR (?_ : R (_, _, _, _, _, _))
    exact hR (zret_i rfl (Nat.le_refl _) (Or.inr rfl) (h1 q))
  · refine hR (?_ : R (_, _, _, _, _, _))
    exact hR (zret_i rfl (Nat.le_refl _) (Or.inl rfl) (h0 q))
theorem take_s {l : List Nat} {k : Nat} (h : k < l.length) : l.take (k + 1) = l.take k ++ [l.getD k 0] := by
  rw [List.take_add_one, List.getD_eq_getElem?_getD, List.getElem?_eq_getElem h]
  rfl
set_option maxHeartbeats 2000000 in
theorem m_numberOf_1 {c0 c1 c2 c3 c4 c5 c6 c7 c8 c9 c10 c11 c12 c13 : va_E} {x0 x9 x10 x11 x12 x13 x15 x16 x17 x20 x21 x22 x23 x26 x28 x31 x32 x33 x38 x41 x44 : Int32} {x14 : Int64} {g15 g16 g17 g18 g19 g20 g21 g22 g23 g24 g25 g26 g27 g28 g29 g30 g31 g32 g33 g34 g35 g36 g37 g38 g39 g40 g41 g42 g43 g44 : Nat → Int32} {t : zW} (d : Nat) (y : Int32) (l : List Nat) (hy : y = nI l.length) (hl : l.length ≤ 6) (hd : ∀ z ∈ l, z < 4) (hf : ∀ i, i < l.length → g25 i = nI (l.getD i 0)) (Q : zQ) (h : Q (some (.int (nI (num l)))) (zMg c0 c1 c2 c3 c4 c5 c6 c7 c8 c9 c10 c11 c12 c13 x0 x9 x10 x11 x12 x13 x15 x16 x17 x20 x21 x22 x23 x26 x28 x31 x32 x33 x38 x41 x44 x14 g15 g16 g17 g18 g19 g20 g21 g22 g23 g24 g25 g26 g27 g28 g29 g30 g31 g32 g33 g34 g35 g36 g37 g38 g39 g40 g41 g42 g43 g44 t)) : zCl zTab (d + 2) iX12_numberOf [.ref 14, .int y] (zMg c0 c1 c2 c3 c4 c5 c6 c7 c8 c9 c10 c11 c12 c13 x0 x9 x10 x11 x12 x13 x15 x16 x17 x20 x21 x22 x23 x26 x28 x31 x32 x33 x38 x41 x44 x14 g15 g16 g17 g18 g19 g20 g21 g22 g23 g24 g25 g26 g27 g28 g29 g30 g31 g32 g33 g34 g35 g36 g37 g38 g39 g40 g41 g42 g43 g44 t) 0 0 Q := by
  have hP : ∀ k, k ≤ l.length → tSh k ≤ num (l.take k) ∧ num (l.take k) < tSh (k + 1) := fun k hk => (numP k (l.take k) (by rw [List.length_take]; omega) (by omega) (fun z hz => hd z (List.mem_of_mem_take hz))).1
  refine zCl_i (M := kX12_numberOf) rfl (Nat.le_of_ble_eq_true rfl) fun R hR => ?_
  have loop : ∀ (m9 k9 : Nat) (f k : Int32), k9 + m9 = l.length → f = nI (num (l.take k9) - tSh k9) → k = nI k9 → R (4, [some (.ref 14), some (.int y), some (.int f), some (.int k)], [], (zMg c0 c1 c2 c3 c4 c5 c6 c7 c8 c9 c10 c11 c12 c13 x0 x9 x10 x11 x12 x13 x15 x16 x17 x20 x21 x22 x23 x26 x28 x31 x32 x33 x38 x41 x44 x14 g15 g16 g17 g18 g19 g20 g21 g22 g23 g24 g25 g26 g27 g28 g29 g30 g31 g32 g33 g34 g35 g36 g37 g38 g39 g40 g41 g42 g43 g44 t), 0, 0) := by
    intro m9
    induction m9 with
    | zero =>
      intro k9 f k hk9 hff hk
      have p1 := hP k9 (by omega)
      have e9 : k9 = l.length := by omega
      iterate 2 refine hR (?_ : R (_, _, _, _, _, _))
      refine hR (pk_le l.length k9 (fun _ => ?_) (fun z => by omega) hy hk)
      refine hR (?_ : R (_, _, _, _, _, _))
      refine hR (zcall_i 0 0 (Nat.le_of_ble_eq_true rfl) (Nat.le_of_ble_eq_true rfl) (m_shorter_1 _ _ l.length hy (by omega) _ _ ?_))
      iterate 2 refine hR (?_ : R (_, _, _, _, _, _))
      have h3 : ∀ z, z = nI (num l) → Q (some (.int z)) (zMg c0 c1 c2 c3 c4 c5 c6 c7 c8 c9 c10 c11 c12 c13 x0 x9 x10 x11 x12 x13 x15 x16 x17 x20 x21 x22 x23 x26 x28 x31 x32 x33 x38 x41 x44 x14 g15 g16 g17 g18 g19 g20 g21 g22 g23 g24 g25 g26 g27 g28 g29 g30 g31 g32 g33 g34 g35 g36 g37 g38 g39 g40 g41 g42 g43 g44 t) := fun z hz => by rw [hz]; exact h
      refine hR (zret_i rfl (Nat.le_refl _) trivial (h3 _ ?_))
      rw [e9, List.take_length] at hff p1
      rw [hff, nI_add]
      exact congrArg nI (by omega)
    | succ m9 ih =>
      intro k9 f k hk9 hff hk
      have p1 := hP k9 (by omega)
      have e4 := tSh_4 k9 (by omega)
      have ev : g25 k.toNatClampNeg = nI (l.getD k9 0) := by rw [hk, nI_clamp (by omega)]; exact hf k9 (by omega)
      iterate 2 refine hR (?_ : R (_, _, _, _, _, _))
      refine hR (pk_le l.length k9 (fun z => by omega) (fun _ => ?_) hy hk)
      iterate 6 refine hR (?_ : R (_, _, _, _, _, _))
      refine hR (And.intro (by rw [hk]; exact nI_in (by omega) (by omega)) ?_)
      iterate 4 refine hR (?_ : R (_, _, _, _, _, _))
      refine ih (k9 + 1) _ _ (by omega) ?_ (by rw [hk, nI1, nI_add])
      rw [ev, hff, nI4, pk_mul, nI_add, take_s (by omega), num_snoc]
      exact congrArg nI (by omega)
  iterate 4 refine hR (?_ : R (_, _, _, _, _, _))
  exact loop l.length 0 _ _ (by omega) nI0 nI0
set_option maxHeartbeats 4000000 in
theorem m_someOf_1 {c0 c1 c2 c3 c4 c5 c6 c7 c8 c9 c10 c11 c12 c13 : va_E} {x0 x9 x10 x11 x12 x13 x15 x16 x17 x20 x21 x22 x23 x26 x28 x31 x32 x33 x38 x41 x44 : Int32} {x14 : Int64} {g15 g16 g17 g18 g19 g20 g21 g22 g23 g24 g25 g26 g27 g28 g29 g30 g31 g32 g33 g34 g35 g36 g37 g38 g39 g40 g41 g42 g43 g44 : Nat → Int32} {t : zW} (d : Nat) (x y : Int32) (a s9 : Nat) (hx : x = nI a) (ha : a < 5461) (hy : y = nI s9) (hs : s9 < 2 ^ 31) (Q : zQ) (h : ∀ f, Q (some (.int (nI (num (pick (tW a) s9 (tLen a)))))) (zMg c0 c1 c2 c3 c4 c5 c6 c7 c8 c9 c10 c11 c12 c13 x0 x9 x10 x11 x12 x13 x15 x16 x17 x20 x21 x22 x23 x26 x28 x31 x32 x33 x38 x41 x44 x14 g15 g16 g17 g18 g19 g20 g21 g22 g23 g24 f g26 g27 g28 g29 g30 g31 g32 g33 g34 g35 g36 g37 g38 g39 g40 g41 g42 g43 g44 t)) : zCl zTab (d + 4) iX12_someOf [.ref 14, .int x, .int y] (zMg c0 c1 c2 c3 c4 c5 c6 c7 c8 c9 c10 c11 c12 c13 x0 x9 x10 x11 x12 x13 x15 x16 x17 x20 x21 x22 x23 x26 x28 x31 x32 x33 x38 x41 x44 x14 g15 g16 g17 g18 g19 g20 g21 g22 g23 g24 g25 g26 g27 g28 g29 g30 g31 g32 g33 g34 g35 g36 g37 g38 g39 g40 g41 g42 g43 g44 t) 0 0 Q := by
  have hn := tLen_le a
  refine zCl_i (M := kX12_someOf) rfl (Nat.le_of_ble_eq_true rfl) fun R hR => ?_
  have loop : ∀ (m9 k9 : Nat) (n k : Int32) (f : Nat → Int32), k9 + m9 = tLen a → n = nI (pick (tW a) s9 k9).length → k = nI k9 → (∀ i, i < (pick (tW a) s9 k9).length → f i = nI ((pick (tW a) s9 k9).getD i 0)) → (∀ i, k9 ≤ i → i < tLen a → f i = nI (tW a i)) → R (13, [some (.ref 14), some (.int x), some (.int y), some (.int n), some (.int k)], [], (zMg c0 c1 c2 c3 c4 c5 c6 c7 c8 c9 c10 c11 c12 c13 x0 x9 x10 x11 x12 x13 x15 x16 x17 x20 x21 x22 x23 x26 x28 x31 x32 x33 x38 x41 x44 x14 g15 g16 g17 g18 g19 g20 g21 g22 g23 g24 f g26 g27 g28 g29 g30 g31 g32 g33 g34 g35 g36 g37 g38 g39 g40 g41 g42 g43 g44 t), 0, 0) := by
    intro m9
    induction m9 with
    | zero =>
      intro k9 n k f hk9 hnn hk h1 h2
      have e9 : k9 = tLen a := by omega
      have hpl := pick_len (tW a) s9 k9
      have hpx := pick_lt (tW_lt a) s9 k9
      iterate 2 refine hR (?_ : R (_, _, _, _, _, _))
      refine hR (zcall_i 0 0 (Nat.le_of_ble_eq_true rfl) (Nat.le_of_ble_eq_true rfl) (m_sizeOf_1 _ _ a hx ha _ _ ?_))
      refine hR (pk_le (tLen a) k9 (fun _ => ?_) (fun z => by omega) rfl hk)
      iterate 2 refine hR (?_ : R (_, _, _, _, _, _))
      refine hR (zcall_i 0 0 (Nat.le_of_ble_eq_true rfl) (Nat.le_of_ble_eq_true rfl) (m_numberOf_1 _ _ (pick (tW a) s9 k9) hnn (by omega) hpx h1 _ ?_))
      have h3 : ∀ z w, z = nI (num (pick (tW a) s9 (tLen a))) → (∀ z', Q (some (.int (nI (num (pick (tW a) s9 (tLen a)))))) w → z' = z → Q (some (.int z')) w) := fun z w hz z' hq hz' => by rw [hz', hz]; exact hq
      exact hR (zret_i rfl (Nat.le_refl _) trivial (h3 _ _ rfl _ (h f) (by rw [e9])))
    | succ m9 ih =>
      intro k9 n k f hk9 hnn hk h1 h2
      have hpl := pick_len (tW a) s9 k9
      iterate 2 refine hR (?_ : R (_, _, _, _, _, _))
      refine hR (zcall_i 0 0 (Nat.le_of_ble_eq_true rfl) (Nat.le_of_ble_eq_true rfl) (m_sizeOf_1 _ _ a hx ha _ _ ?_))
      refine hR (pk_le (tLen a) k9 (fun z => by omega) (fun _ => ?_) rfl hk)
      iterate 2 refine hR (?_ : R (_, _, _, _, _, _))
      refine hR (zcall_i 0 0 (Nat.le_of_ble_eq_true rfl) (Nat.le_of_ble_eq_true rfl) (m_has_1 _ _ _ s9 k9 hy hs hk (by omega) _ _ (fun q => ?_) (fun q => ?_)))
      · have ev : f k.toNatClampNeg = nI (tW a k9) := by rw [hk, nI_clamp (by omega)]; exact h2 k9 (Nat.le_refl _) (by omega)
        have ec : n.toNatClampNeg = (pick (tW a) s9 k9).length := by rw [hnn, nI_clamp (by omega)]
        refine hR (And.intro (fun hc => absurd hc (by decide)) (fun _ => ?_))
        iterate 6 refine hR (?_ : R (_, _, _, _, _, _))
        refine hR (And.intro (by rw [hk]; exact nI_in (by omega) (by omega)) ?_)
        refine hR (And.intro (by rw [hnn]; exact nI_in (by omega) (by omega)) ?_)
        iterate 3 refine hR (?_ : R (_, _, _, _, _, _))
        refine ih (k9 + 1) _ _ _ (by omega) (by rw [hnn, nI1, nI_add, pick_1 q, List.length_append, List.length_singleton]) (by rw [hk, nI1, nI_add]) (fun i hi => ?_) (fun i hi1 hi2 => ?_)
        · rw [ec, ev]
          rw [pick_1 q] at hi ⊢
          rw [List.length_append, List.length_singleton] at hi
          by_cases hq : i = (pick (tW a) s9 k9).length
          · subst hq
            rw [pk_us, List.getD_eq_getElem?_getD, List.getElem?_append_right (Nat.le_refl _), Nat.sub_self]
            rfl
          · rw [pk_un hq, h1 i (by omega), List.getD_eq_getElem?_getD, List.getD_eq_getElem?_getD, List.getElem?_append_left (by omega)]
        · rw [ec, pk_un (by omega)]
          exact h2 i (by omega) hi2
      · refine hR (And.intro (fun _ => ?_) (fun hc => absurd (by decide) hc))
        iterate 2 refine hR (?_ : R (_, _, _, _, _, _))
        refine ih (k9 + 1) _ _ f (by omega) (by rw [pick_0 q]; exact hnn) (by rw [hk, nI1, nI_add]) (fun i hi => ?_) (fun i hi1 hi2 => h2 i (by omega) hi2)
        rw [pick_0 q] at hi ⊢
        exact h1 i hi
  iterate 3 refine hR (?_ : R (_, _, _, _, _, _))
  refine hR (zcall_i 0 0 (Nat.le_of_ble_eq_true rfl) (Nat.le_of_ble_eq_true rfl) (m_spell25_1 _ _ a hx ha _ (fun f hf => ?_)))
  iterate 4 refine hR (?_ : R (_, _, _, _, _, _))
  exact loop (tLen a) 0 _ _ f (by omega) nI0 nI0 (fun i hi => absurd hi (Nat.not_lt_zero _)) (fun i _ hi2 => hf i hi2)
set_option maxHeartbeats 2000000 in
theorem m_isLeft_1 {c0 c1 c2 c3 c4 c5 c6 c7 c8 c9 c10 c11 c12 c13 : va_E} {x0 x9 x10 x11 x12 x13 x15 x16 x17 x20 x21 x22 x23 x26 x28 x31 x32 x33 x38 x41 x44 : Int32} {x14 : Int64} {g15 g16 g17 g18 g19 g20 g21 g22 g23 g24 g25 g26 g27 g28 g29 g30 g31 g32 g33 g34 g35 g36 g37 g38 g39 g40 g41 g42 g43 g44 : Nat → Int32} {t : zW} (d : Nat) (x y : Int32) (b t9 : Nat) (hx : x = nI b) (hb : b < 5461) (hy : y = nI t9) (ht : t9 < 5461) (Q : zQ) (h1 : isL (tW b) (tLen b) t9 → ∀ f, Q (some (.int (Int32.ofInt 1))) (zMg c0 c1 c2 c3 c4 c5 c6 c7 c8 c9 c10 c11 c12 c13 x0 x9 x10 x11 x12 x13 x15 x16 x17 x20 x21 x22 x23 x26 x28 x31 x32 x33 x38 x41 x44 x14 g15 g16 g17 g18 g19 g20 g21 g22 g23 g24 f g26 g27 g28 g29 g30 g31 g32 g33 g34 g35 g36 g37 g38 g39 g40 g41 g42 g43 g44 t)) (h0 : ¬ isL (tW b) (tLen b) t9 → ∀ f, Q (some (.int (Int32.ofInt 0))) (zMg c0 c1 c2 c3 c4 c5 c6 c7 c8 c9 c10 c11 c12 c13 x0 x9 x10 x11 x12 x13 x15 x16 x17 x20 x21 x22 x23 x26 x28 x31 x32 x33 x38 x41 x44 x14 g15 g16 g17 g18 g19 g20 g21 g22 g23 g24 f g26 g27 g28 g29 g30 g31 g32 g33 g34 g35 g36 g37 g38 g39 g40 g41 g42 g43 g44 t)) : zCl zTab (d + 5) iX12_isLeft [.ref 14, .int x, .int y] (zMg c0 c1 c2 c3 c4 c5 c6 c7 c8 c9 c10 c11 c12 c13 x0 x9 x10 x11 x12 x13 x15 x16 x17 x20 x21 x22 x23 x26 x28 x31 x32 x33 x38 x41 x44 x14 g15 g16 g17 g18 g19 g20 g21 g22 g23 g24 g25 g26 g27 g28 g29 g30 g31 g32 g33 g34 g35 g36 g37 g38 g39 g40 g41 g42 g43 g44 t) 0 0 Q := by
  have hm := tLen_le b
  have h2p := s_2p (tLen b) (by omega)
  refine zCl_i (M := kX12_isLeft) rfl (Nat.le_of_ble_eq_true rfl) fun R hR => ?_
  have loop : ∀ (m9 s9 : Nat) (se : Int32) (f : Nat → Int32), s9 + m9 = 2 ^ tLen b → se = nI s9 → (∀ s', s' < s9 → num (pick (tW b) s' (tLen b)) ≠ t9) → R (2, [some (.ref 14), some (.int x), some (.int y), some (.int se)], [], (zMg c0 c1 c2 c3 c4 c5 c6 c7 c8 c9 c10 c11 c12 c13 x0 x9 x10 x11 x12 x13 x15 x16 x17 x20 x21 x22 x23 x26 x28 x31 x32 x33 x38 x41 x44 x14 g15 g16 g17 g18 g19 g20 g21 g22 g23 g24 f g26 g27 g28 g29 g30 g31 g32 g33 g34 g35 g36 g37 g38 g39 g40 g41 g42 g43 g44 t), 0, 0) := by
    intro m9
    induction m9 with
    | zero =>
      intro s9 se f hs hse hno
      iterate 3 refine hR (?_ : R (_, _, _, _, _, _))
      refine hR (zcall_i 0 0 (Nat.le_of_ble_eq_true rfl) (Nat.le_of_ble_eq_true rfl) (m_sizeOf_1 _ _ b hx hb _ _ ?_))
      refine hR (?_ : R (_, _, _, _, _, _))
      refine hR (pk_le (2 ^ tLen b) s9 (fun _ => ?_) (fun z => by omega) h2p.1 hse)
      refine hR (?_ : R (_, _, _, _, _, _))
      exact hR (zret_i rfl (Nat.le_refl _) (Or.inl rfl) (h0 (fun ⟨s', q1, q2⟩ => hno s' (by omega) q2) f))
    | succ m9 ih =>
      intro s9 se f hs hse hno
      have n2 := (num_t (pick (tW b) s9 (tLen b)) (Nat.le_trans (pick_len _ _ _) hm) (pick_lt (tW_lt b) s9 (tLen b))).2.1
      iterate 3 refine hR (?_ : R (_, _, _, _, _, _))
      refine hR (zcall_i 0 0 (Nat.le_of_ble_eq_true rfl) (Nat.le_of_ble_eq_true rfl) (m_sizeOf_1 _ _ b hx hb _ _ ?_))
      refine hR (?_ : R (_, _, _, _, _, _))
      refine hR (pk_le (2 ^ tLen b) s9 (fun z => by omega) (fun _ => ?_) h2p.1 hse)
      iterate 3 refine hR (?_ : R (_, _, _, _, _, _))
      refine hR (zcall_i 0 0 (Nat.le_of_ble_eq_true rfl) (Nat.le_of_ble_eq_true rfl) (m_someOf_1 _ _ _ b s9 hx hb hse (by omega) _ (fun f2 => ?_)))
      refine hR (?_ : R (_, _, _, _, _, _))
      refine hR (pk_eq (num (pick (tW b) s9 (tLen b))) t9 (fun q => ?_) (fun q => ?_) rfl hy).symm
      · refine hR (?_ : R (_, _, _, _, _, _))
        exact hR (zret_i rfl (Nat.le_refl _) (Or.inr rfl) (h1 ⟨s9, by omega, q⟩ f2))
      · iterate 2 refine hR (?_ : R (_, _, _, _, _, _))
        refine ih (s9 + 1) _ f2 (by omega) (by rw [hse, nI1, nI_add]) (fun s' hs' => ?_)
        by_cases e : s' = s9
        · rw [e]; exact q
        · exact hno s' (by omega)
  iterate 2 refine hR (?_ : R (_, _, _, _, _, _))
  exact loop (2 ^ tLen b) 0 _ g25 (by omega) nI0 (fun s' hs' => absurd hs' (Nat.not_lt_zero _))
set_option maxHeartbeats 4000000 in
theorem m_shared_1 {c0 c1 c2 c3 c4 c5 c6 c7 c8 c9 c10 c11 c12 c13 : va_E} {x0 x9 x10 x11 x12 x13 x15 x16 x17 x20 x21 x22 x23 x26 x28 x31 x32 x33 x38 x41 x44 : Int32} {x14 : Int64} {g15 g16 g17 g18 g19 g20 g21 g22 g23 g24 g25 g26 g27 g28 g29 g30 g31 g32 g33 g34 g35 g36 g37 g38 g39 g40 g41 g42 g43 g44 : Nat → Int32} {t : zW} (d : Nat) (x y p : Int32) (Q : zQ) (h : ∀ w, Q (some (.int (vShared x y p))) w) : zCl zTab (d + 6) iX12_shared [.ref 14, .int x, .int y, .int p] (zMg c0 c1 c2 c3 c4 c5 c6 c7 c8 c9 c10 c11 c12 c13 x0 x9 x10 x11 x12 x13 x15 x16 x17 x20 x21 x22 x23 x26 x28 x31 x32 x33 x38 x41 x44 x14 g15 g16 g17 g18 g19 g20 g21 g22 g23 g24 g25 g26 g27 g28 g29 g30 g31 g32 g33 g34 g35 g36 g37 g38 g39 g40 g41 g42 g43 g44 t) 0 0 Q := by
  have h3 : ∀ z w, z = vShared x y p → Q (some (.int z)) w := fun z w hz => by rw [hz]; exact h w
  refine zCl_i (M := kX12_shared) rfl (Nat.le_of_ble_eq_true rfl) fun R hR => ?_
  have main : ∀ (a b : Nat), x = nI a → a < 5461 → y = nI b → b < 5461 → (∀ (be se : Int32) (z6 z7 : Option Value) (f : Nat → Int32), be = nI (bst (tW a) (tW b) (tLen a) (tLen b) (2 ^ tLen a)) → R (117, [some (.ref 14), some (.int x), some (.int y), some (.int p), some (.int be), some (.int se), z6, z7], [], (zMg c0 c1 c2 c3 c4 c5 c6 c7 c8 c9 c10 c11 c12 c13 (Int32.ofInt 0) x9 x10 x11 x12 x13 x15 x16 x17 x20 x21 x22 x23 x26 x28 x31 x32 x33 x38 x41 x44 x14 g15 g16 g17 g18 g19 g20 g21 g22 g23 g24 f g26 g27 g28 g29 g30 g31 g32 g33 g34 g35 g36 g37 g38 g39 g40 g41 g42 g43 g44 t), 0, 0)) → ∀ (m9 s9 : Nat) (be se : Int32) (z6 z7 : Option Value) (f : Nat → Int32), s9 + m9 = 2 ^ tLen a → be = nI (bst (tW a) (tW b) (tLen a) (tLen b) s9) → se = nI s9 → R (27, [some (.ref 14), some (.int x), some (.int y), some (.int p), some (.int be), some (.int se), z6, z7], [], (zMg c0 c1 c2 c3 c4 c5 c6 c7 c8 c9 c10 c11 c12 c13 (Int32.ofInt 0) x9 x10 x11 x12 x13 x15 x16 x17 x20 x21 x22 x23 x26 x28 x31 x32 x33 x38 x41 x44 x14 g15 g16 g17 g18 g19 g20 g21 g22 g23 g24 f g26 g27 g28 g29 g30 g31 g32 g33 g34 g35 g36 g37 g38 g39 g40 g41 g42 g43 g44 t), 0, 0) := by
    intro a b hx ha hy hb hexit
    have hn := tLen_le a
    have h2p := s_2p (tLen a) (by omega)
    intro m9
    induction m9 with
    | zero =>
      intro s9 be se z6 z7 f hs hbe hse
      iterate 3 refine hR (?_ : R (_, _, _, _, _, _))
      refine hR (zcall_i 0 0 (Nat.le_of_ble_eq_true rfl) (Nat.le_of_ble_eq_true rfl) (m_sizeOf_1 _ _ a hx ha _ _ ?_))
      refine hR (?_ : R (_, _, _, _, _, _))
      refine hR (pk_le (2 ^ tLen a) s9 (fun _ => ?_) (fun z => by omega) h2p.1 hse)
      exact hexit be se _ _ f (by rw [hbe, show s9 = 2 ^ tLen a by omega])
    | succ m9 ih =>
      intro s9 be se z6 z7 f hs hbe hse
      have hpl := pick_len (tW a) s9 (tLen a)
      have hpx := pick_lt (tW_lt a) s9 (tLen a)
      obtain ⟨n1, n2, n3⟩ := num_t (pick (tW a) s9 (tLen a)) (by omega) hpx
      have hbl := bst_lt (v := tW b) (m := tLen b) (tW_lt a) hn s9
      have hb6 := tLen_le (bst (tW a) (tW b) (tLen a) (tLen b) s9)
      have ht6 := tLen_le (num (pick (tW a) s9 (tLen a)))
      have cont : ∀ (bs tt mo : Int32) (f : Nat → Int32), bs = nI (bst (tW a) (tW b) (tLen a) (tLen b) (s9 + 1)) → R (109, [some (.ref 14), some (.int x), some (.int y), some (.int p), some (.int be), some (.int se), some (.int tt), some (.int mo)], [.int bs], (zMg c0 c1 c2 c3 c4 c5 c6 c7 c8 c9 c10 c11 c12 c13 (Int32.ofInt 0) x9 x10 x11 x12 x13 x15 x16 x17 x20 x21 x22 x23 x26 x28 x31 x32 x33 x38 x41 x44 x14 g15 g16 g17 g18 g19 g20 g21 g22 g23 g24 f g26 g27 g28 g29 g30 g31 g32 g33 g34 g35 g36 g37 g38 g39 g40 g41 g42 g43 g44 t), 0, 0) := by
        intro bs tt mo f hbs
        iterate 3 refine hR (?_ : R (_, _, _, _, _, _))
        exact ih (s9 + 1) _ _ _ _ f (by omega) hbs (by rw [hse, nI1, nI_add])
      have yes : ∀ (tt : Int32) (z7 : Option Value) (f : Nat → Int32), tt = nI (num (pick (tW a) s9 (tLen a))) → btr (num (pick (tW a) s9 (tLen a))) (bst (tW a) (tW b) (tLen a) (tLen b) s9) → R (80, [some (.ref 14), some (.int x), some (.int y), some (.int p), some (.int be), some (.int se), some (.int tt), z7], [], (zMg c0 c1 c2 c3 c4 c5 c6 c7 c8 c9 c10 c11 c12 c13 (Int32.ofInt 0) x9 x10 x11 x12 x13 x15 x16 x17 x20 x21 x22 x23 x26 x28 x31 x32 x33 x38 x41 x44 x14 g15 g16 g17 g18 g19 g20 g21 g22 g23 g24 f g26 g27 g28 g29 g30 g31 g32 g33 g34 g35 g36 g37 g38 g39 g40 g41 g42 g43 g44 t), 0, 0) := by
        intro tt z7 f htt hbt
        iterate 4 refine hR (?_ : R (_, _, _, _, _, _))
        refine hR (And.intro (fun hc => absurd hc (by decide)) (fun _ => ?_))
        iterate 3 refine hR (?_ : R (_, _, _, _, _, _))
        refine hR (zcall_i 0 0 (Nat.le_of_ble_eq_true rfl) (Nat.le_of_ble_eq_true rfl) (m_isLeft_1 _ _ _ b (num (pick (tW a) s9 (tLen a))) hy hb htt n2 _ (fun q f2 => ?_) (fun q f2 => ?_)))
        · refine hR (And.intro (fun hc => absurd hc (by decide)) (fun _ => ?_))
          iterate 2 refine hR (?_ : R (_, _, _, _, _, _))
          exact cont _ _ _ f2 (by rw [htt, bst_y hbt q])
        · refine hR (And.intro (fun _ => ?_) (fun hc => absurd (by decide) hc))
          refine hR (?_ : R (_, _, _, _, _, _))
          exact cont _ _ _ f2 (by rw [hbe, bst_n (fun z => q z.2)])
      have no : ∀ (tt : Int32) (z7 : Option Value) (f : Nat → Int32), ¬ btr (num (pick (tW a) s9 (tLen a))) (bst (tW a) (tW b) (tLen a) (tLen b) s9) → R (84, [some (.ref 14), some (.int x), some (.int y), some (.int p), some (.int be), some (.int se), some (.int tt), z7], [], (zMg c0 c1 c2 c3 c4 c5 c6 c7 c8 c9 c10 c11 c12 c13 (Int32.ofInt 0) x9 x10 x11 x12 x13 x15 x16 x17 x20 x21 x22 x23 x26 x28 x31 x32 x33 x38 x41 x44 x14 g15 g16 g17 g18 g19 g20 g21 g22 g23 g24 f g26 g27 g28 g29 g30 g31 g32 g33 g34 g35 g36 g37 g38 g39 g40 g41 g42 g43 g44 t), 0, 0) := by
        intro tt z7 f hbt
        iterate 3 refine hR (?_ : R (_, _, _, _, _, _))
        refine hR (And.intro (fun _ => ?_) (fun hc => absurd (by decide) hc))
        refine hR (?_ : R (_, _, _, _, _, _))
        exact cont _ _ _ f (by rw [hbe, bst_n (fun z => hbt z.1)])
      iterate 3 refine hR (?_ : R (_, _, _, _, _, _))
      refine hR (zcall_i 0 0 (Nat.le_of_ble_eq_true rfl) (Nat.le_of_ble_eq_true rfl) (m_sizeOf_1 _ _ a hx ha _ _ ?_))
      refine hR (?_ : R (_, _, _, _, _, _))
      refine hR (pk_le (2 ^ tLen a) s9 (fun z => by omega) (fun _ => ?_) h2p.1 hse)
      iterate 3 refine hR (?_ : R (_, _, _, _, _, _))
      refine hR (zcall_i 0 0 (Nat.le_of_ble_eq_true rfl) (Nat.le_of_ble_eq_true rfl) (m_someOf_1 _ _ _ a s9 hx ha hse (by omega) _ (fun f2 => ?_)))
      iterate 2 refine hR (?_ : R (_, _, _, _, _, _))
      refine hR (zcall_i 0 0 (Nat.le_of_ble_eq_true rfl) (Nat.le_of_ble_eq_true rfl) (m_sizeOf_1 _ _ (num (pick (tW a) s9 (tLen a))) rfl n2 _ _ ?_))
      refine hR (?_ : R (_, _, _, _, _, _))
      refine hR (zcall_i 0 0 (Nat.le_of_ble_eq_true rfl) (Nat.le_of_ble_eq_true rfl) (m_sizeOf_1 _ _ (bst (tW a) (tW b) (tLen a) (tLen b) s9) hbe hbl _ _ ?_))
      refine hR (pk_lt (tLen (bst (tW a) (tW b) (tLen a) (tLen b) s9)) (tLen (num (pick (tW a) s9 (tLen a)))) (fun q => ?_) (fun q => ?_) rfl rfl)
      · exact yes _ _ f2 rfl (Or.inl q)
      refine hR (?_ : R (_, _, _, _, _, _))
      refine hR (zcall_i 0 0 (Nat.le_of_ble_eq_true rfl) (Nat.le_of_ble_eq_true rfl) (m_sizeOf_1 _ _ (num (pick (tW a) s9 (tLen a))) rfl n2 _ _ ?_))
      refine hR (?_ : R (_, _, _, _, _, _))
      refine hR (zcall_i 0 0 (Nat.le_of_ble_eq_true rfl) (Nat.le_of_ble_eq_true rfl) (m_sizeOf_1 _ _ (bst (tW a) (tW b) (tLen a) (tLen b) s9) hbe hbl _ _ ?_))
      refine hR (pk_eq (tLen (num (pick (tW a) s9 (tLen a)))) (tLen (bst (tW a) (tW b) (tLen a) (tLen b) s9)) (fun q2 => ?_) (fun q2 => ?_) rfl rfl).symm
      · iterate 2 refine hR (?_ : R (_, _, _, _, _, _))
        refine hR (pk_le (bst (tW a) (tW b) (tLen a) (tLen b) s9) (num (pick (tW a) s9 (tLen a))) (fun q3 => ?_) (fun q3 => ?_) hbe rfl)
        · exact no _ _ f2 (fun z => by rcases z with z | z <;> omega)
        · exact yes _ _ f2 rfl (Or.inr ⟨q2, q3⟩)
      · exact no _ _ f2 (fun z => by rcases z with z | z <;> omega)
  iterate 4 refine hR (?_ : R (_, _, _, _, _, _))
  refine hR (zcall_i 0 0 (Nat.le_of_ble_eq_true rfl) (Nat.le_of_ble_eq_true rfl) (m_isText_1 _ _ _ _ (fun p0 p1 => ?_) (fun q => ?_)))
  · refine hR (And.intro (fun hc => absurd hc (by decide)) (fun _ => ?_))
    refine hR (?_ : R (_, _, _, _, _, _))
    refine hR (zcall_i 0 0 (Nat.le_of_ble_eq_true rfl) (Nat.le_of_ble_eq_true rfl) (m_isText_1 _ _ _ _ (fun q0 q1 => ?_) (fun q => ?_)))
    · obtain ⟨a, ha, hx⟩ := t_of p0 p1
      obtain ⟨b, hb, hy⟩ := t_of q0 q1
      have hbl := bst_lt (v := tW b) (m := tLen b) (tW_lt a) (tLen_le a) (2 ^ tLen a)
      refine hR (And.intro (fun _ => ?_) (fun hc => absurd hc (by decide)))
      iterate 4 refine hR (?_ : R (_, _, _, _, _, _))
      refine main a b hx ha hy hb ?_ (2 ^ tLen a) 0 _ _ _ _ g25 (by omega) nI0 nI0
      intro be se z6 z7 f hbe
      refine hR (?_ : R (_, _, _, _, _, _))
      refine hR (And.intro (fun hp => ?_) (fun hp => ?_))
      · refine hR (?_ : R (_, _, _, _, _, _))
        refine hR (zcall_i 0 0 (Nat.le_of_ble_eq_true rfl) (Nat.le_of_ble_eq_true rfl) (m_sizeOf_1 _ _ (bst (tW a) (tW b) (tLen a) (tLen b) (2 ^ tLen a)) hbe hbl _ _ ?_))
        exact hR (zret_i rfl (Nat.le_refl _) trivial (h3 _ _ (by rw [vShared_in hx ha hy hb p0 p1 q0 q1, if_pos hp])))
      · iterate 2 refine hR (?_ : R (_, _, _, _, _, _))
        exact hR (zret_i rfl (Nat.le_refl _) trivial (h3 _ _ (by rw [vShared_in hx ha hy hb p0 p1 q0 q1, if_neg hp, hbe])))
    · refine hR (And.intro (fun hc => absurd (by decide) hc) (fun _ => ?_))
      refine hR (?_ : R (_, _, _, _, _, _))
      exact hR (zret_i rfl (Nat.le_refl _) trivial (h3 _ _ (by unfold vShared; rw [if_pos (Or.inr q)])))
  · refine hR (And.intro (fun _ => ?_) (fun hc => absurd (by decide) hc))
    refine hR (?_ : R (_, _, _, _, _, _))
    exact hR (zret_i rfl (Nat.le_refl _) trivial (h3 _ _ (by unfold vShared; rw [if_pos (Or.inl q)])))
