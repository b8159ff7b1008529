/-! TEXTS BY THEIR NUMBERS. -/
theorem zB_nI {g : Nat → Int32} (hg : zB 0 3 g) {i m : Nat} {x : Int32} (hx : x = nI m) (hm : m ≤ 3) : zB 0 3 (upd g i x) := by
  intro j
  unfold upd
  split
  · rw [hx, nI_toInt (by omega)]; omega
  · exact hg j
noncomputable def tSh (n : Nat) : Nat := (4 ^ n - 1) / 3
noncomputable def tLen (t : Nat) : Nat := if t < 1 then 0 else if t < 5 then 1 else if t < 21 then 2 else if t < 85 then 3 else if t < 341 then 4 else if t < 1365 then 5 else 6
noncomputable def tF (t : Nat) : Nat := t - tSh (tLen t)
noncomputable def tW (t k : Nat) : Nat := tF t / 4 ^ (tLen t - 1 - k) % 4
noncomputable def tB (t : Nat) : Nat := t - tSh (tLen t) + 4 ^ tLen t
theorem tLen_le (t : Nat) : tLen t ≤ 6 := by
  unfold tLen
  repeat' split
  all_goals omega
noncomputable def cL : Nat → Nat → Nat → Nat
  | 0, _, n => n
  | k + 1, l, n => if l = 0 then n else cL k ((l - 1) / 4) (n + 1)
theorem cL_eq (t : Nat) (ht : t < 5461) : cL 6 t 0 = tLen t := by
  simp only [cL, tLen]
  repeat' split
  all_goals omega
theorem tB_w (t : Nat) (k : Nat) (hk : k < tLen t) : tB t / 4 ^ (tLen t - 1 - k) % 4 = tW t k := by
  unfold tB tW tF
  generalize t - tSh (tLen t) = f
  have h6 := tLen_le t
  generalize tLen t = n at hk h6 ⊢
  have e : 4 ^ n = 4 ^ (n - 1 - k) * (4 * 4 ^ k) := by
    rw [← Nat.pow_succ', ← Nat.pow_add]
    congr 1
    omega
  rw [e, Nat.add_mul_div_left _ _ (Nat.pos_of_ne_zero (by simp)), Nat.add_mul_mod_self_left]
theorem tSh_v : tSh 0 = 0 ∧ tSh 1 = 1 ∧ tSh 2 = 5 ∧ tSh 3 = 21 ∧ tSh 4 = 85 ∧ tSh 5 = 341 ∧ tSh 6 = 1365 ∧ tSh 7 = 5461 := by decide
theorem tLen_v (t : Nat) (ht : t < 5461) : (t < 1 ∧ tLen t = 0) ∨ (1 ≤ t ∧ t < 5 ∧ tLen t = 1) ∨ (5 ≤ t ∧ t < 21 ∧ tLen t = 2) ∨ (21 ≤ t ∧ t < 85 ∧ tLen t = 3) ∨ (85 ≤ t ∧ t < 341 ∧ tLen t = 4) ∨ (341 ≤ t ∧ t < 1365 ∧ tLen t = 5) ∨ (1365 ≤ t ∧ tLen t = 6) := by
  unfold tLen
  repeat' split
  all_goals omega
theorem tSh_le (t : Nat) (ht : t < 5461) : tSh (tLen t) ≤ t ∧ t < tSh (tLen t + 1) ∧ tB t < 8192 ∧ tF t < 4096 := by
  obtain ⟨e0, e1, e2, e3, e4, e5, e6, e7⟩ := tSh_v
  unfold tB tF
  rcases tLen_v t ht with ⟨h1, h⟩ | ⟨h1, h2, h⟩ | ⟨h1, h2, h⟩ | ⟨h1, h2, h⟩ | ⟨h1, h2, h⟩ | ⟨h1, h2, h⟩ | ⟨h1, h⟩ <;> rw [h] <;> simp only [e0, e1, e2, e3, e4, e5, e6, e7] <;> omega
theorem nI1 : Int32.ofInt 1 = nI 1 := by decide
theorem nI0 : Int32.ofInt 0 = nI 0 := by decide
theorem nI2 : Int32.ofInt 2 = nI 2 := by decide
theorem nI4 : Int32.ofInt 4 = nI 4 := by decide
theorem nI6 : (Int8.ofInt 6).toInt32 = nI 6 := by decide
set_option maxHeartbeats 1000000 in
theorem r_lengthOf (d : Nat) (x : Int32) (t : Nat) (hx : x = nI t) (ht : t < 5461) (w : zW) (Q : zQ) (h : Q (some (.int (nI (tLen t)))) w) : zCl zTab (d + 1) iX11_lengthOf [.int x] w 0 0 Q := by
  refine zCl_i (M := kX11_lengthOf) rfl (Nat.le_of_ble_eq_true rfl) fun R hR => ?_
  have loop : ∀ (k : Nat) (n l i : Int32) (a b j : Nat), l = nI a → n = nI b → i = nI j → j + k = 6 → a < 5461 → cL k a b = tLen t → R (6, [some (.int x), some (.int n), some (.int l), some (.int i)], [], w, 0, 0) := by
    intro k
    induction k with
    | zero =>
      intro n l i a b j hl hn hi hj ha hc
      iterate 2 refine hR (?_ : R (_, _, _, _, _, _))
      refine hR (pk_le 6 j (fun _ => ?_) (fun z => by omega) nI6 hi)
      refine hR (?_ : R (_, _, _, _, _, _))
      have e : n = nI (tLen t) := by rw [hn, ← hc]; rfl
      subst e
      exact hR (zret_i rfl (Nat.le_refl _) trivial h)
    | succ k ih =>
      intro n l i a b j hl hn hi hj ha hc
      iterate 2 refine hR (?_ : R (_, _, _, _, _, _))
      refine hR (pk_le 6 j (fun z => by omega) (fun _ => ?_) nI6 hi)
      refine hR (?_ : R (_, _, _, _, _, _))
      refine hR (pk_le a 0 (fun z => ?_) (fun z => ?_) hl rfl)
      · refine hR (?_ : R (_, _, _, _, _, _))
        have e : n = nI (tLen t) := by
          rw [hn, ← hc]
          unfold cL
          rw [if_pos (by omega)]
        subst e
        exact hR (zret_i rfl (Nat.le_refl _) trivial h)
      · iterate 4 refine hR (?_ : R (_, _, _, _, _, _))
        refine hR (And.intro (by decide) ?_)
        iterate 4 refine hR (?_ : R (_, _, _, _, _, _))
        refine ih _ _ _ ((a - 1) / 4) (b + 1) (j + 1) ?_ ?_ ?_ (by omega) (by omega) ?_
        · rw [hl, nI1, nI4, pk_sub (by omega), pk_div (by omega) (by omega) (by omega)]
        · rw [hn, nI1, nI_add]
        · rw [hi, nI1, nI_add]
        · rw [← hc]
          conv => rhs; unfold cL
          rw [if_neg (by omega)]
  iterate 6 refine hR (?_ : R (_, _, _, _, _, _))
  exact loop 6 _ _ _ t 0 0 hx nI0 nI0 rfl ht (cL_eq t ht)
theorem t_shl : ∀ n, n < 7 → Int32.ofInt 1 <<< ((Int32.ofInt 2 * nI n) &&& 31) = nI (4 ^ n) := by decide +kernel
theorem t_dv : ∀ n, n < 7 → (nI (4 ^ n) - Int32.ofInt 1) / Int32.ofInt 3 = nI (tSh n) := by decide +kernel
theorem r_bitsOf (d : Nat) (x : Int32) (t : Nat) (hx : x = nI t) (ht : t < 5461) (w : zW) (Q : zQ) (h : Q (some (.int (nI (tB t)))) w) : zCl zTab (d + 2) iX11_bitsOf [.int x] w 0 0 Q := by
  have h6 := tLen_le t
  have hs := tSh_le t ht
  refine zCl_i (M := kX11_bitsOf) rfl (Nat.le_of_ble_eq_true rfl) fun R hR => ?_
  refine hR (?_ : R (_, _, _, _, _, _))
  refine hR (zcall_i 0 0 (Nat.le_of_ble_eq_true rfl) (Nat.le_of_ble_eq_true rfl) (r_lengthOf _ _ t hx ht _ _ ?_))
  iterate 12 refine hR (?_ : R (_, _, _, _, _, _))
  refine hR (And.intro (by decide) ?_)
  iterate 3 refine hR (?_ : R (_, _, _, _, _, _))
  have e : x - (Int32.ofInt 1 <<< ((Int32.ofInt 2 * nI (tLen t)) &&& 31) - Int32.ofInt 1) / Int32.ofInt 3 + Int32.ofInt 1 <<< ((Int32.ofInt 2 * nI (tLen t)) &&& 31) = nI (tB t) := by
    rw [t_shl _ (by omega), t_dv _ (by omega), hx, pk_sub hs.1, nI_add]
    rfl
  refine hR (zret_i rfl (Nat.le_refl _) trivial ?_)
  have h2 : ∀ y, y = nI (tB t) → Q (some (.int y)) w := fun y hy => by rw [hy]; exact h
  exact h2 _ e
theorem t_sm : ∀ j, j < 7 → ((nI (2 * j) &&& 31).toBitVec.smod 32).toNat = 2 * j := by decide +kernel
theorem t_4 (j : Nat) : 2 ^ (2 * j) = 4 ^ j := by rw [Nat.pow_mul]
theorem r_wordOfBits (d : Nat) (x y : Int32) (B j : Nat) (hx : x = nI B) (hB : B < 2 ^ 31) (hy : y = nI j) (hj : j < 7) (w : zW) (Q : zQ) (h : Q (some (.int (nI (B / 4 ^ j % 4)))) w) : zCl zTab (d + 1) iX11_wordOfBits [.int x, .int y] w 0 0 Q := by
  refine zCl_i (M := kX11_wordOfBits) rfl (Nat.le_of_ble_eq_true rfl) fun R hR => ?_
  iterate 7 refine hR (?_ : R (_, _, _, _, _, _))
  refine hR (zret_i rfl (Nat.le_refl _) trivial ?_)
  have h2 : ∀ z, z = nI (B / 4 ^ j % 4) → Q (some (.int z)) w := fun z hz => by rw [hz]; exact h
  refine h2 _ ?_
  show (x >>> (Int32.ofInt 2 * y &&& 31)) &&& Int32.ofInt 3 = _
  rw [hx, hy, nI2, pk_mul, pk_shrN hB _ (2 * j) (t_sm j hj), t_4, pk_andN (Nat.lt_of_le_of_lt (Nat.div_le_self _ _) (by omega)) 2 (by decide)]
theorem r_wordAt (d : Nat) (x y : Int32) (t k : Nat) (hx : x = nI t) (ht : t < 5461) (hy : y = nI k) (hk : k < tLen t) (w : zW) (Q : zQ) (h : Q (some (.int (nI (tW t k)))) w) : zCl zTab (d + 3) iX11_wordAt [.int x, .int y] w 0 0 Q := by
  have h6 := tLen_le t
  have hs := tSh_le t ht
  refine zCl_i (M := kX11_wordAt) rfl (Nat.le_of_ble_eq_true rfl) fun R hR => ?_
  refine hR (?_ : R (_, _, _, _, _, _))
  refine hR (zcall_i 0 0 (Nat.le_of_ble_eq_true rfl) (Nat.le_of_ble_eq_true rfl) (r_bitsOf _ _ t hx ht _ _ ?_))
  refine hR (?_ : R (_, _, _, _, _, _))
  refine hR (zcall_i 0 0 (Nat.le_of_ble_eq_true rfl) (Nat.le_of_ble_eq_true rfl) (r_lengthOf _ _ t hx ht _ _ ?_))
  iterate 4 refine hR (?_ : R (_, _, _, _, _, _))
  have hb : tB t < 2 ^ 31 := by omega
  have hj : tLen t - 1 - k < 7 := by omega
  have ey : nI (tLen t) - Int32.ofInt 1 - y = nI (tLen t - 1 - k) := by rw [nI1, hy, pk_sub (by omega), pk_sub (by omega)]
  refine hR (zcall_i 0 0 (Nat.le_of_ble_eq_true rfl) (Nat.le_of_ble_eq_true rfl) (r_wordOfBits _ (nI (tB t)) (nI (tLen t) - Int32.ofInt 1 - y) (tB t) (tLen t - 1 - k) rfl hb ey hj _ _ ?_))
  have h3 : ∀ z, z = nI (tW t k) → Q (some (.int z)) w := fun z hz => by rw [hz]; exact h
  exact hR (zret_i rfl (Nat.le_refl _) trivial (h3 _ (congrArg nI (tB_w t k hk))))
theorem tSh_s : ∀ j, j < 7 → tSh j + 4 ^ j = tSh (j + 1) ∧ tSh j < 10000 ∧ 4 ^ j < 10000 := by decide +kernel
theorem tSz (t : Nat) (ht : t < 5461) (j : Nat) (hj : j < 7) : tSh (j + 1) ≤ t ↔ j < tLen t := by
  obtain ⟨e0, e1, e2, e3, e4, e5, e6, e7⟩ := tSh_v
  have hc : j = 0 ∨ j = 1 ∨ j = 2 ∨ j = 3 ∨ j = 4 ∨ j = 5 ∨ j = 6 := by omega
  rcases tLen_v t ht with ⟨h1, h⟩ | ⟨h1, h2, h⟩ | ⟨h1, h2, h⟩ | ⟨h1, h2, h⟩ | ⟨h1, h2, h⟩ | ⟨h1, h2, h⟩ | ⟨h1, h⟩ <;> rw [h] <;> rcases hc with rfl | rfl | rfl | rfl | rfl | rfl | rfl <;> simp only [e0, e1, e2, e3, e4, e5, e6, e7] <;> omega
theorem tSh7 : ∀ j, j < 8 → tSh j < 10000 := by decide +kernel
set_option maxHeartbeats 1000000 in
theorem p_shorter (d : Nat) (x : Int32) (n : Nat) (hx : x = nI n) (hn : n ≤ 7) (w : zW) (Q : zQ) (h : Q (some (.int (nI (tSh n)))) w) : zCl zTab (d + 1) iX12_shorter [.int x] w 0 0 Q := by
  refine zCl_i (M := kX12_shorter) rfl (Nat.le_of_ble_eq_true rfl) fun R hR => ?_
  have loop : ∀ (m : Nat) (s a k : Int32) (j : Nat), j + m = n → s = nI (tSh j) → a = nI (4 ^ j) → k = nI j → R (6, [some (.int x), some (.int s), some (.int a), some (.int k)], [], w, 0, 0) := by
    intro m
    induction m with
    | zero =>
      intro s a k j hj hs ha hk
      iterate 2 refine hR (?_ : R (_, _, _, _, _, _))
      refine hR (pk_le n j (fun _ => ?_) (fun z => by omega) hx hk)
      refine hR (?_ : R (_, _, _, _, _, _))
      have e : j = n := by omega
      subst e
      subst hs
      exact hR (zret_i rfl (Nat.le_refl _) trivial h)
    | succ m ih =>
      intro s a k j hj hs ha hk
      have h7 := tSh_s j (by omega)
      iterate 2 refine hR (?_ : R (_, _, _, _, _, _))
      refine hR (pk_le n j (fun z => by omega) (fun _ => ?_) hx hk)
      iterate 10 refine hR (?_ : R (_, _, _, _, _, _))
      refine ih _ _ _ (j + 1) (by omega) ?_ ?_ ?_
      · rw [hs, ha, nI_add, h7.1]
      · rw [ha, nI4, pk_mul, Nat.pow_succ]
      · rw [hk, nI1, nI_add]
  iterate 6 refine hR (?_ : R (_, _, _, _, _, _))
  exact loop n _ _ _ 0 (by omega) (by decide) (by decide) nI0
set_option maxHeartbeats 1000000 in
theorem p_sizeOf (d : Nat) (x : Int32) (t : Nat) (hx : x = nI t) (ht : t < 5461) (w : zW) (Q : zQ) (h : Q (some (.int (nI (tLen t)))) w) : zCl zTab (d + 2) iX12_sizeOf [.int x] w 0 0 Q := by
  have h6 := tLen_le t
  refine zCl_i (M := kX12_sizeOf) rfl (Nat.le_of_ble_eq_true rfl) fun R hR => ?_
  have loop : ∀ (m : Nat) (k : Int32) (j : Nat), j + m = tLen t → k = nI j → R (2, [some (.int x), some (.int k)], [], w, 0, 0) := by
    intro m
    induction m with
    | zero =>
      intro k j hj hk
      have hz := tSz t ht j (by omega)
      have h7 := tSh7 (j + 1) (by omega)
      iterate 3 refine hR (?_ : R (_, _, _, _, _, _))
      refine hR (zcall_i 0 0 (Nat.le_of_ble_eq_true rfl) (Nat.le_of_ble_eq_true rfl) (p_shorter _ _ (j + 1) (by rw [hk, nI1, nI_add]) (by omega) _ _ ?_))
      refine hR (?_ : R (_, _, _, _, _, _))
      refine hR (pk_lt t (tSh (j + 1)) (fun _ => ?_) (fun z => by omega) hx rfl)
      refine hR (?_ : R (_, _, _, _, _, _))
      have h3 : ∀ z, z = nI (tLen t) → Q (some (.int z)) w := fun z hz => by rw [hz]; exact h
      exact hR (zret_i rfl (Nat.le_refl _) trivial (h3 _ (by rw [hk]; exact congrArg nI (by omega))))
    | succ m ih =>
      intro k j hj hk
      have hz := tSz t ht j (by omega)
      have h7 := tSh7 (j + 1) (by omega)
      iterate 3 refine hR (?_ : R (_, _, _, _, _, _))
      refine hR (zcall_i 0 0 (Nat.le_of_ble_eq_true rfl) (Nat.le_of_ble_eq_true rfl) (p_shorter _ _ (j + 1) (by rw [hk, nI1, nI_add]) (by omega) _ _ ?_))
      refine hR (?_ : R (_, _, _, _, _, _))
      refine hR (pk_lt t (tSh (j + 1)) (fun z => by omega) (fun _ => ?_) hx rfl)
      iterate 2 refine hR (?_ : R (_, _, _, _, _, _))
      exact ih _ (j + 1) (by omega) (by rw [hk, nI1, nI_add])
  iterate 2 refine hR (?_ : R (_, _, _, _, _, _))
  exact loop (tLen t) _ 0 (by omega) nI0
set_option maxHeartbeats 1000000 in
theorem p_spell25 {c0 c1 c2 c3 c4 c5 c6 c7 c8 c9 c10 c11 c12 c13 : va_E} {x0 x9 x10 x11 x12 x13 x15 x16 x17 x20 x21 x22 x23 x26 x28 x31 x32 x33 x38 x41 x44 : Int32} {x14 : Int64} {g15 g16 g17 g18 g19 g20 g21 g22 g23 g24 g25 g26 g27 g28 g29 g30 g31 g32 g33 g34 g35 g36 g37 g38 g39 g40 g41 g42 g43 g44 : Nat → Int32} {t : zW} (d : Nat) (x : Int32) (t9 : Nat) (hx : x = nI t9) (ht : t9 < 5461) (Q : zQ) (h : ∀ f, (∀ i, i < tLen t9 → f i = nI (tW t9 i)) → (zB 0 3 g25 → zB 0 3 f) → Q none (zMg c0 c1 c2 c3 c4 c5 c6 c7 c8 c9 c10 c11 c12 c13 x0 x9 x10 x11 x12 x13 x15 x16 x17 x20 x21 x22 x23 x26 x28 x31 x32 x33 x38 x41 x44 x14 g15 g16 g17 g18 g19 g20 g21 g22 g23 g24 f g26 g27 g28 g29 g30 g31 g32 g33 g34 g35 g36 g37 g38 g39 g40 g41 g42 g43 g44 t)) : zCl zTab (d + 3) iX12_spell [.int x, .ref 25] (zMg c0 c1 c2 c3 c4 c5 c6 c7 c8 c9 c10 c11 c12 c13 x0 x9 x10 x11 x12 x13 x15 x16 x17 x20 x21 x22 x23 x26 x28 x31 x32 x33 x38 x41 x44 x14 g15 g16 g17 g18 g19 g20 g21 g22 g23 g24 g25 g26 g27 g28 g29 g30 g31 g32 g33 g34 g35 g36 g37 g38 g39 g40 g41 g42 g43 g44 t) 0 0 Q := by
  have h6 := tLen_le t9
  have hs := tSh_le t9 ht
  refine zCl_i (M := kX12_spell) rfl (Nat.le_of_ble_eq_true rfl) fun R hR => ?_
  have loop : ∀ (j : Nat) (l k : Int32) (f : Nat → Int32), j ≤ tLen t9 → l = nI (tF t9 / 4 ^ (tLen t9 - j)) → k.toInt = (j : Int) - 1 → (∀ i, j ≤ i → i < tLen t9 → f i = nI (tW t9 i)) → (zB 0 3 g25 → zB 0 3 f) → R (17, [some (.int x), some (.ref 25), some (.int (nI (tLen t9))), some (.int l), some (.int k)], [], (zMg c0 c1 c2 c3 c4 c5 c6 c7 c8 c9 c10 c11 c12 c13 x0 x9 x10 x11 x12 x13 x15 x16 x17 x20 x21 x22 x23 x26 x28 x31 x32 x33 x38 x41 x44 x14 g15 g16 g17 g18 g19 g20 g21 g22 g23 g24 f g26 g27 g28 g29 g30 g31 g32 g33 g34 g35 g36 g37 g38 g39 g40 g41 g42 g43 g44 t), 0, 0) := by
    intro j
    induction j with
    | zero =>
      intro l k f hj hl hk hf hBf
      refine hR (?_ : R (_, _, _, _, _, _))
      refine hR (And.intro (fun _ => ?_) (fun hc => absurd (zlt_i.mpr (by rw [hk]; decide)) hc))
      exact hR (zret_i rfl (Nat.le_refl _) rfl (h _ (fun i hi => hf i (Nat.zero_le _) hi) hBf))
    | succ j ih =>
      intro l k f hj hl hk hf hBf
      have hkj : k = nI j := zeq_i.mpr (by rw [hk, nI_toInt (by omega)]; omega)
      have hlt : tF t9 / 4 ^ (tLen t9 - (j + 1)) < 4096 := Nat.lt_of_le_of_lt (Nat.div_le_self _ _) hs.2.2.2
      refine hR (?_ : R (_, _, _, _, _, _))
      refine hR (And.intro (fun hc => absurd (zlt_i.mp hc) (by rw [hk]; show ¬ ((_ : Int) < 0); omega)) (fun _ => ?_))
      iterate 4 refine hR (?_ : R (_, _, _, _, _, _))
      refine hR (And.intro (by decide) ?_)
      refine hR (And.intro (by rw [hkj]; exact nI_in (by omega) (by omega)) ?_)
      iterate 2 refine hR (?_ : R (_, _, _, _, _, _))
      refine hR (And.intro (by decide) ?_)
      iterate 3 refine hR (?_ : R (_, _, _, _, _, _))
      refine ih _ _ _ (by omega) ?_ ?_ ?_ (fun hb => zB_nI (hBf hb) (m := tF t9 / 4 ^ (tLen t9 - (j + 1)) % 4) (by rw [hl, nI4, pk_rem (by omega) (by omega) (by omega)]) (by omega))
      · rw [hl, nI4, pk_div (by omega) (by omega) (by omega), Nat.div_div_eq_div_mul, ← Nat.pow_succ, show (tLen t9 - (j + 1)).succ = tLen t9 - j by omega]
      · rw [zadd (by rw [hk]; show (-2147483648 : Int) ≤ _ + -1; omega) (by rw [hk]; show _ + (-1 : Int) < _; omega), hk]
        show _ + (-1 : Int) = _
        omega
      · intro i hi1 hi2
        rw [hkj, nI_clamp (by omega)]
        by_cases hij : i = j
        · subst hij
          rw [pk_us, hl, nI4, pk_rem (by omega) (by omega) (by omega)]
          unfold tW
          rw [show tLen t9 - 1 - i = tLen t9 - (i + 1) by omega]
        · rw [pk_un hij]
          exact hf i (by omega) hi2
  refine hR (?_ : R (_, _, _, _, _, _))
  refine hR (zcall_i 0 0 (Nat.le_of_ble_eq_true rfl) (Nat.le_of_ble_eq_true rfl) (p_sizeOf _ _ t9 hx ht _ _ ?_))
  iterate 3 refine hR (?_ : R (_, _, _, _, _, _))
  refine hR (zcall_i 0 0 (Nat.le_of_ble_eq_true rfl) (Nat.le_of_ble_eq_true rfl) (p_shorter _ _ (tLen t9) rfl (by omega) _ _ ?_))
  iterate 6 refine hR (?_ : R (_, _, _, _, _, _))
  refine loop (tLen t9) _ _ g25 (Nat.le_refl _) ?_ ?_ (fun i h1 h2 => by omega) id
  · rw [hx, pk_sub hs.1, Nat.sub_self]
    show nI (tF t9) = _
    rw [Nat.pow_zero, Nat.div_one]
  · rw [nI1, pk_sub_toInt (by omega) (by omega)]
    omega
set_option maxHeartbeats 1000000 in
theorem p_spell26 {c0 c1 c2 c3 c4 c5 c6 c7 c8 c9 c10 c11 c12 c13 : va_E} {x0 x9 x10 x11 x12 x13 x15 x16 x17 x20 x21 x22 x23 x26 x28 x31 x32 x33 x38 x41 x44 : Int32} {x14 : Int64} {g15 g16 g17 g18 g19 g20 g21 g22 g23 g24 g25 g26 g27 g28 g29 g30 g31 g32 g33 g34 g35 g36 g37 g38 g39 g40 g41 g42 g43 g44 : Nat → Int32} {t : zW} (d : Nat) (x : Int32) (t9 : Nat) (hx : x = nI t9) (ht : t9 < 5461) (Q : zQ) (h : ∀ f, (∀ i, i < tLen t9 → f i = nI (tW t9 i)) → (zB 0 3 g26 → zB 0 3 f) → Q none (zMg c0 c1 c2 c3 c4 c5 c6 c7 c8 c9 c10 c11 c12 c13 x0 x9 x10 x11 x12 x13 x15 x16 x17 x20 x21 x22 x23 x26 x28 x31 x32 x33 x38 x41 x44 x14 g15 g16 g17 g18 g19 g20 g21 g22 g23 g24 g25 f g27 g28 g29 g30 g31 g32 g33 g34 g35 g36 g37 g38 g39 g40 g41 g42 g43 g44 t)) : zCl zTab (d + 3) iX12_spell [.int x, .ref 26] (zMg c0 c1 c2 c3 c4 c5 c6 c7 c8 c9 c10 c11 c12 c13 x0 x9 x10 x11 x12 x13 x15 x16 x17 x20 x21 x22 x23 x26 x28 x31 x32 x33 x38 x41 x44 x14 g15 g16 g17 g18 g19 g20 g21 g22 g23 g24 g25 g26 g27 g28 g29 g30 g31 g32 g33 g34 g35 g36 g37 g38 g39 g40 g41 g42 g43 g44 t) 0 0 Q := by
  have h6 := tLen_le t9
  have hs := tSh_le t9 ht
  refine zCl_i (M := kX12_spell) rfl (Nat.le_of_ble_eq_true rfl) fun R hR => ?_
  have loop : ∀ (j : Nat) (l k : Int32) (f : Nat → Int32), j ≤ tLen t9 → l = nI (tF t9 / 4 ^ (tLen t9 - j)) → k.toInt = (j : Int) - 1 → (∀ i, j ≤ i → i < tLen t9 → f i = nI (tW t9 i)) → (zB 0 3 g26 → zB 0 3 f) → R (17, [some (.int x), some (.ref 26), some (.int (nI (tLen t9))), some (.int l), some (.int k)], [], (zMg c0 c1 c2 c3 c4 c5 c6 c7 c8 c9 c10 c11 c12 c13 x0 x9 x10 x11 x12 x13 x15 x16 x17 x20 x21 x22 x23 x26 x28 x31 x32 x33 x38 x41 x44 x14 g15 g16 g17 g18 g19 g20 g21 g22 g23 g24 g25 f g27 g28 g29 g30 g31 g32 g33 g34 g35 g36 g37 g38 g39 g40 g41 g42 g43 g44 t), 0, 0) := by
    intro j
    induction j with
    | zero =>
      intro l k f hj hl hk hf hBf
      refine hR (?_ : R (_, _, _, _, _, _))
      refine hR (And.intro (fun _ => ?_) (fun hc => absurd (zlt_i.mpr (by rw [hk]; decide)) hc))
      exact hR (zret_i rfl (Nat.le_refl _) rfl (h _ (fun i hi => hf i (Nat.zero_le _) hi) hBf))
    | succ j ih =>
      intro l k f hj hl hk hf hBf
      have hkj : k = nI j := zeq_i.mpr (by rw [hk, nI_toInt (by omega)]; omega)
      have hlt : tF t9 / 4 ^ (tLen t9 - (j + 1)) < 4096 := Nat.lt_of_le_of_lt (Nat.div_le_self _ _) hs.2.2.2
      refine hR (?_ : R (_, _, _, _, _, _))
      refine hR (And.intro (fun hc => absurd (zlt_i.mp hc) (by rw [hk]; show ¬ ((_ : Int) < 0); omega)) (fun _ => ?_))
      iterate 4 refine hR (?_ : R (_, _, _, _, _, _))
      refine hR (And.intro (by decide) ?_)
      refine hR (And.intro (by rw [hkj]; exact nI_in (by omega) (by omega)) ?_)
      iterate 2 refine hR (?_ : R (_, _, _, _, _, _))
      refine hR (And.intro (by decide) ?_)
      iterate 3 refine hR (?_ : R (_, _, _, _, _, _))
      refine ih _ _ _ (by omega) ?_ ?_ ?_ (fun hb => zB_nI (hBf hb) (m := tF t9 / 4 ^ (tLen t9 - (j + 1)) % 4) (by rw [hl, nI4, pk_rem (by omega) (by omega) (by omega)]) (by omega))
      · rw [hl, nI4, pk_div (by omega) (by omega) (by omega), Nat.div_div_eq_div_mul, ← Nat.pow_succ, show (tLen t9 - (j + 1)).succ = tLen t9 - j by omega]
      · rw [zadd (by rw [hk]; show (-2147483648 : Int) ≤ _ + -1; omega) (by rw [hk]; show _ + (-1 : Int) < _; omega), hk]
        show _ + (-1 : Int) = _
        omega
      · intro i hi1 hi2
        rw [hkj, nI_clamp (by omega)]
        by_cases hij : i = j
        · subst hij
          rw [pk_us, hl, nI4, pk_rem (by omega) (by omega) (by omega)]
          unfold tW
          rw [show tLen t9 - 1 - i = tLen t9 - (i + 1) by omega]
        · rw [pk_un hij]
          exact hf i (by omega) hi2
  refine hR (?_ : R (_, _, _, _, _, _))
  refine hR (zcall_i 0 0 (Nat.le_of_ble_eq_true rfl) (Nat.le_of_ble_eq_true rfl) (p_sizeOf _ _ t9 hx ht _ _ ?_))
  iterate 3 refine hR (?_ : R (_, _, _, _, _, _))
  refine hR (zcall_i 0 0 (Nat.le_of_ble_eq_true rfl) (Nat.le_of_ble_eq_true rfl) (p_shorter _ _ (tLen t9) rfl (by omega) _ _ ?_))
  iterate 6 refine hR (?_ : R (_, _, _, _, _, _))
  refine loop (tLen t9) _ _ g26 (Nat.le_refl _) ?_ ?_ (fun i h1 h2 => by omega) id
  · rw [hx, pk_sub hs.1, Nat.sub_self]
    show nI (tF t9) = _
    rw [Nat.pow_zero, Nat.div_one]
  · rw [nI1, pk_sub_toInt (by omega) (by omega)]
    omega
/-! EDIT DISTANCE, and that it is the same from the ends. -/
noncomputable def ed1 (x y : Nat) : Nat := if x = y then 0 else 1
noncomputable def edr (f : List Nat → Nat) (x : Nat) : List Nat → Nat
  | [] => f [] + 1
  | y :: b => min (f b + ed1 x y) (1 + min (f (y :: b)) (edr f x b))
noncomputable def ed : List Nat → List Nat → Nat
  | [], b => b.length
  | x :: a, b => edr (ed a) x b
theorem ed1_le (x y : Nat) : ed1 x y ≤ 1 := by unfold ed1; split <;> omega
theorem ed_nil (b : List Nat) : ed [] b = b.length := rfl
theorem ed_nl : ∀ a : List Nat, ed a [] = a.length
  | [] => rfl
  | x :: a => by show ed a [] + 1 = _; rw [ed_nl a]; rfl
theorem ed_cc (x y : Nat) (a b : List Nat) : ed (x :: a) (y :: b) = min (ed a b + ed1 x y) (1 + min (ed a (y :: b)) (ed (x :: a) b)) := rfl
theorem ed_le : ∀ a b : List Nat, ed a b ≤ a.length + b.length
  | [], b => by rw [ed_nil]; simp
  | x :: a, [] => by rw [ed_nl]; simp
  | x :: a, y :: b => by
    have h1 := ed_le a b
    have h2 := ed1_le x y
    rw [ed_cc]
    simp only [List.length_cons]
    omega
/-- the first words, the last of them first -/
noncomputable def rl (u : Nat → Nat) : Nat → List Nat
  | 0 => []
  | n + 1 => u n :: rl u n
theorem rl_len (u : Nat → Nat) : ∀ n, (rl u n).length = n
  | 0 => rfl
  | n + 1 => congrArg (· + 1) (rl_len u n)
noncomputable def eD (u v : Nat → Nat) (i k : Nat) : Nat := ed (rl u i) (rl v k)
theorem eD_0 (u v : Nat → Nat) (k : Nat) : eD u v 0 k = k := rl_len v k
theorem eD_z (u v : Nat → Nat) (i : Nat) : eD u v i 0 = i := (ed_nl _).trans (rl_len u i)
theorem eD_s (u v : Nat → Nat) (i k : Nat) : eD u v (i + 1) (k + 1) = min (eD u v i k + ed1 (u i) (v k)) (1 + min (eD u v i (k + 1)) (eD u v (i + 1) k)) := rfl
theorem eD_le (u v : Nat → Nat) (i k : Nat) : eD u v i k ≤ i + k := by
  have h := ed_le (rl u i) (rl v k)
  rw [rl_len, rl_len] at h
  exact h
/-! THE CLASS'S DRIFT: rows of seven cells in one int. -/
theorem dz_or (a b : Nat) : nI a ||| nI b = nI (a ||| b) := by
  apply Int32.toBitVec_inj.mp
  rw [Int32.toBitVec_or]
  show BitVec.ofNat 32 a ||| BitVec.ofNat 32 b = BitVec.ofNat 32 (a ||| b)
  exact (BitVec.ofNat_or ..).symm
theorem dz_sum {a j v : Nat} (h : a < 16 ^ j) : nI a ||| nI (v * 16 ^ j) = nI (a + v * 16 ^ j) := by
  rw [dz_or, Nat.or_comm]
  have e : (16 : Nat) ^ j = 2 ^ (4 * j) := by rw [Nat.pow_mul]
  rw [e] at h ⊢
  rw [Nat.mul_comm v, ← Nat.two_pow_add_eq_or_of_lt h, Nat.add_comm]
noncomputable def pkr (f : Nat → Nat) : Nat → Nat
  | 0 => 0
  | j + 1 => pkr f j + f j * 16 ^ j
theorem pkr_lt (f : Nat → Nat) (hf : ∀ j, j < 7 → f j < 16) : ∀ c, c ≤ 7 → pkr f c < 16 ^ c
  | 0, _ => by simp [pkr]
  | c + 1, h => by
    have h1 := pkr_lt f hf c (by omega)
    have h2 := hf c (by omega)
    have h3 : f c * 16 ^ c ≤ 15 * 16 ^ c := Nat.mul_le_mul_right _ (by omega)
    rw [pkr, Nat.pow_succ]
    omega
theorem pkr_get (f : Nat → Nat) (hf : ∀ j, j < 7 → f j < 16) (j : Nat) : ∀ c, c ≤ 7 → j < c → pkr f c / 16 ^ j % 16 = f j
  | 0, _, h => absurd h (Nat.not_lt_zero _)
  | c + 1, hc, hj => by
    have h1 := pkr_lt f hf c (by omega)
    have h2 := hf c (by omega)
    rw [pkr]
    by_cases h : j = c
    · subst h
      rw [Nat.mul_comm, Nat.add_mul_div_left _ _ (Nat.pos_of_ne_zero (by simp)), Nat.div_eq_of_lt h1, Nat.zero_add, Nat.mod_eq_of_lt h2]
    · have e : f c * 16 ^ c = 16 ^ j * (16 * (f c * 16 ^ (c - j - 1))) := by
        have e2 : 16 ^ c = 16 ^ j * (16 * 16 ^ (c - j - 1)) := by
          rw [← Nat.pow_succ', ← Nat.pow_add]
          congr 1
          omega
        rw [e2]
        simp only [Nat.mul_left_comm, Nat.mul_comm, Nat.mul_assoc]
      rw [e, Nat.add_mul_div_left _ _ (Nat.pos_of_ne_zero (by simp)), Nat.add_mul_mod_self_left]
      exact pkr_get f hf j c (by omega) (by omega)
theorem dz_sm : ∀ j, j < 7 → ((nI (4 * j) &&& 31).toBitVec.smod 32).toNat = 4 * j := by decide +kernel
theorem dz_16 (j : Nat) : 2 ^ (4 * j) = 16 ^ j := by rw [Nat.pow_mul]
theorem dz_p7 : ∀ j, j < 8 → 16 ^ j ≤ 268435456 := by decide +kernel
theorem dz_shl {v j : Nat} (hv : v < 16) (hj : j < 7) : nI v <<< (Int32.ofInt 4 * nI j &&& 31) = nI (v * 16 ^ j) := by
  have h1 := dz_p7 j (by omega)
  rw [nI4, pk_mul, pk_shlN _ (4 * j) (dz_sm j hj), dz_16]
  rw [dz_16]
  calc v * 16 ^ j ≤ 15 * 16 ^ j := Nat.mul_le_mul_right _ (by omega)
    _ < 2 ^ 32 := by omega
theorem dz_cell {f : Nat → Nat} (hf : ∀ j, j < 7 → f j < 16) {c j : Nat} (hc : c ≤ 7) (hj : j < c) : (nI (pkr f c) >>> (Int32.ofInt 4 * nI j &&& 31)) &&& (Int8.ofInt 15).toInt32 = nI (f j) := by
  have h1 := pkr_lt f hf c hc
  have h2 := dz_p7 c (by omega)
  rw [nI4, pk_mul, pk_shrN (by omega) _ (4 * j) (dz_sm j (by omega)), dz_16, pk_andN (Nat.lt_of_le_of_lt (Nat.div_le_self _ _) (by omega)) 4 (by decide), show (2 : Nat) ^ 4 = 16 from rfl, pkr_get f hf j c hc hj]
theorem dz_min {a b : Nat} (ha : a < 1000) (hb : b < 1000) : (if nI b < nI a then nI b else nI a) = nI (min a b) := by
  by_cases h : b < a
  · rw [if_pos (nI_lt h (by omega)), Nat.min_eq_right (by omega)]
  · rw [if_neg (nI_nlt (by omega) (by omega)), Nat.min_eq_left (by omega)]
/-- the words from the end -/
noncomputable def ue (t : Nat) : Nat → Nat := fun i => tB t / 4 ^ i % 4
set_option maxHeartbeats 4000000 in
theorem r_driftOf (d : Nat) (x y : Int32) (a b : Nat) (hx : x = nI a) (ha : a < 5461) (hy : y = nI b) (hb : b < 5461) (w : zW) (Q : zQ) (h : Q (some (.int (nI (eD (ue a) (ue b) (tLen a) (tLen b))))) w) : zCl zTab (d + 3) iX11_driftOf [.int x, .int y] w 0 0 Q := by
  have hn := tLen_le a
  have hm := tLen_le b
  have hsa := tSh_le a ha
  have hsb := tSh_le b hb
  have hE : ∀ i, i ≤ 6 → ∀ j, j < 7 → eD (ue a) (ue b) i j < 16 := fun i hi j hj => by
    have := eD_le (ue a) (ue b) i j
    omega
  refine zCl_i (M := kX11_driftOf) rfl (Nat.le_of_ble_eq_true rfl) fun R hR => ?_
  have loopC : ∀ (i9 : Nat), i9 < tLen a → ∀ (r i wd : Int32), r = nI (pkr (eD (ue a) (ue b) i9) (tLen b + 1)) → i = nI (i9 + 1) → wd = nI (ue a i9) → (∀ (nx j lf : Int32) (z8 z12 z13 : Option Value), nx = nI (pkr (eD (ue a) (ue b) (i9 + 1)) (tLen b + 1)) → R (170, [some (.int x), some (.int y), some (.int (nI (tB a))), some (.int (nI (tB b))), some (.int (nI (tLen a))), some (.int (nI (tLen b))), some (.int r), some (.int i), z8, some (.int lf), some (.int nx), some (.int j), z12, z13], [], w, 0, 0)) → ∀ (m9 j9 : Nat) (lf nx j : Int32) (z12 z13 : Option Value), j9 + m9 = tLen b → lf = nI (eD (ue a) (ue b) (i9 + 1) j9) → nx = nI (pkr (eD (ue a) (ue b) (i9 + 1)) (j9 + 1)) → j = nI (j9 + 1) → R (84, [some (.int x), some (.int y), some (.int (nI (tB a))), some (.int (nI (tB b))), some (.int (nI (tLen a))), some (.int (nI (tLen b))), some (.int r), some (.int i), some (.int wd), some (.int lf), some (.int nx), some (.int j), z12, z13], [], w, 0, 0) := by
    intro i9 hi9 r i wd hr hi hwd hexit m9
    have hf0 : ∀ j, j < 7 → eD (ue a) (ue b) i9 j < 16 := hE i9 (by omega)
    have hf1 : ∀ j, j < 7 → eD (ue a) (ue b) (i9 + 1) j < 16 := hE (i9 + 1) (by omega)
    induction m9 with
    | zero =>
      intro j9 lf nx j z12 z13 hj hlf hnx hjj
      iterate 2 refine hR (?_ : R (_, _, _, _, _, _))
      refine hR (pk_lt (tLen b) (j9 + 1) (fun _ => ?_) (fun z => by omega) rfl hjj)
      refine hexit nx j lf _ _ _ ?_
      rw [hnx]
      exact congrArg (fun c => nI (pkr (eD (ue a) (ue b) (i9 + 1)) (c + 1))) (by omega)
    | succ m9 ih =>
      intro j9 lf nx j z12 z13 hj hlf hnx hjj
      have c0 := hf0 j9 (by omega)
      have c1 := hf0 (j9 + 1) (by omega)
      have c2 := hf1 j9 (by omega)
      have c3 := hf1 (j9 + 1) (by omega)
      have cc := ed1_le (ue a i9) (ue b j9)
      have tail : ∀ (ch : Int32) (z13 : Option Value), ch = nI (ed1 (ue a i9) (ue b j9)) → R (111, [some (.int x), some (.int y), some (.int (nI (tB a))), some (.int (nI (tB b))), some (.int (nI (tLen a))), some (.int (nI (tLen b))), some (.int r), some (.int i), some (.int wd), some (.int lf), some (.int nx), some (.int j), some (.int ch), z13], [], w, 0, 0) := by
        intro ch z13 hch
        have e1 : (if (r >>> (Int32.ofInt 4 * j &&& 31) &&& (Int8.ofInt 15).toInt32) < lf then (r >>> (Int32.ofInt 4 * j &&& 31) &&& (Int8.ofInt 15).toInt32) else lf) + Int32.ofInt 1 = nI (min (eD (ue a) (ue b) (i9 + 1) j9) (eD (ue a) (ue b) i9 (j9 + 1)) + 1) := by
          rw [hr, hjj, dz_cell hf0 (by omega) (by omega), hlf, dz_min (by omega) (by omega), nI1, nI_add]
        have e2 : (r >>> (Int32.ofInt 4 * (j - Int32.ofInt 1) &&& 31) &&& (Int8.ofInt 15).toInt32) + ch = nI (eD (ue a) (ue b) i9 j9 + ed1 (ue a i9) (ue b j9)) := by
          rw [hr, hjj, nI1, pk_sub (by omega), Nat.add_sub_cancel, dz_cell hf0 (by omega) (by omega), hch, nI_add]
        have e3 : ∀ p q : Int32, p = nI (eD (ue a) (ue b) i9 j9 + ed1 (ue a i9) (ue b j9)) → q = nI (min (eD (ue a) (ue b) (i9 + 1) j9) (eD (ue a) (ue b) i9 (j9 + 1)) + 1) → (if q < p then q else p) = nI (eD (ue a) (ue b) (i9 + 1) (j9 + 1)) := by
          intro p q hp hq
          rw [hp, hq, dz_min (by omega) (by omega)]
          refine congrArg nI ?_
          rw [eD_s]
          omega
        iterate 8 refine hR (?_ : R (_, _, _, _, _, _))
        refine hR (?_ : R (_, _, _, _, _, _))
        iterate 3 refine hR (?_ : R (_, _, _, _, _, _))
        iterate 12 refine hR (?_ : R (_, _, _, _, _, _))
        refine hR (?_ : R (_, _, _, _, _, _))
        refine hR (?_ : R (_, _, _, _, _, _))
        iterate 8 refine hR (?_ : R (_, _, _, _, _, _))
        iterate 2 refine hR (?_ : R (_, _, _, _, _, _))
        refine ih (j9 + 1) _ _ _ _ _ (by omega) (e3 _ _ e2 e1) ?_ (by rw [hjj, nI1, nI_add])
        rw [e3 _ _ e2 e1, hnx, hjj, dz_shl (by omega) (by omega), dz_sum (pkr_lt _ hf1 _ (by omega))]
        rfl
      iterate 2 refine hR (?_ : R (_, _, _, _, _, _))
      refine hR (pk_lt (tLen b) (j9 + 1) (fun z => by omega) (fun _ => ?_) rfl hjj)
      iterate 5 refine hR (?_ : R (_, _, _, _, _, _))
      refine hR (zcall_i 0 0 (Nat.le_of_ble_eq_true rfl) (Nat.le_of_ble_eq_true rfl) (r_wordOfBits _ (nI (tB b)) (j - Int32.ofInt 1) (tB b) j9 rfl (by omega) (by rw [hjj, nI1, pk_sub (by omega), Nat.add_sub_cancel]) (by omega) _ _ ?_))
      have l1 : ue a i9 < 4 := Nat.mod_lt _ (by omega)
      have l2 : tB b / 4 ^ j9 % 4 < 4 := Nat.mod_lt _ (by omega)
      refine hR (pk_eq (ue a i9) (tB b / 4 ^ j9 % 4) (fun q => ?_) (fun q => ?_) hwd rfl).symm
      · iterate 3 refine hR (?_ : R (_, _, _, _, _, _))
        exact tail _ _ (by rw [nI0]; exact congrArg nI (if_pos q).symm)
      · iterate 2 refine hR (?_ : R (_, _, _, _, _, _))
        exact tail _ _ (by rw [nI1]; exact congrArg nI (if_neg q).symm)
  have loopB : ∀ (m9 i9 : Nat) (r i : Int32) (z8 z9 z10 z11 z12 z13 : Option Value), i9 + m9 = tLen a → r = nI (pkr (eD (ue a) (ue b) i9) (tLen b + 1)) → i = nI (i9 + 1) → R (56, [some (.int x), some (.int y), some (.int (nI (tB a))), some (.int (nI (tB b))), some (.int (nI (tLen a))), some (.int (nI (tLen b))), some (.int r), some (.int i), z8, z9, z10, z11, z12, z13], [], w, 0, 0) := by
    intro m9
    induction m9 with
    | zero =>
      intro i9 r i z8 z9 z10 z11 z12 z13 hj hr hi
      iterate 2 refine hR (?_ : R (_, _, _, _, _, _))
      refine hR (pk_lt (tLen a) (i9 + 1) (fun _ => ?_) (fun z => by omega) rfl hi)
      iterate 7 refine hR (?_ : R (_, _, _, _, _, _))
      have h3 : ∀ z, z = nI (eD (ue a) (ue b) (tLen a) (tLen b)) → Q (some (.int z)) w := fun z hz => by rw [hz]; exact h
      refine hR (zret_i rfl (Nat.le_refl _) trivial (h3 _ ?_))
      have e : i9 = tLen a := by omega
      rw [hr, dz_cell (hE i9 (by omega)) (by omega) (by omega), e]
    | succ m9 ih =>
      intro i9 r i z8 z9 z10 z11 z12 z13 hj hr hi
      iterate 2 refine hR (?_ : R (_, _, _, _, _, _))
      refine hR (pk_lt (tLen a) (i9 + 1) (fun z => by omega) (fun _ => ?_) rfl hi)
      iterate 4 refine hR (?_ : R (_, _, _, _, _, _))
      refine hR (zcall_i 0 0 (Nat.le_of_ble_eq_true rfl) (Nat.le_of_ble_eq_true rfl) (r_wordOfBits _ (nI (tB a)) (i - Int32.ofInt 1) (tB a) i9 rfl (by omega) (by rw [hi, nI1, pk_sub (by omega), Nat.add_sub_cancel]) (by omega) _ _ ?_))
      iterate 7 refine hR (?_ : R (_, _, _, _, _, _))
      refine loopC i9 (by omega) r i _ hr hi rfl ?_ (tLen b) 0 _ _ _ _ _ (by omega) (by rw [hi, eD_z]) ?_ nI1
      · intro nx j lf z8 z12 z13 hnx
        iterate 4 refine hR (?_ : R (_, _, _, _, _, _))
        exact ih (i9 + 1) _ _ _ _ _ _ _ _ (by omega) hnx (by rw [hi, nI1, nI_add])
      · rw [hi]
        refine congrArg nI ?_
        show i9 + 1 = 0 + eD (ue a) (ue b) (i9 + 1) 0 * 16 ^ 0
        rw [eD_z]
        omega
  have loopA : ∀ (m9 j9 : Nat) (r j : Int32), j9 + m9 = tLen b + 1 → r = nI (pkr (eD (ue a) (ue b) 0) j9) → j = nI j9 → R (28, [some (.int x), some (.int y), some (.int (nI (tB a))), some (.int (nI (tB b))), some (.int (nI (tLen a))), some (.int (nI (tLen b))), some (.int r), some (.int j), none, none, none, none, none, none], [], w, 0, 0) := by
    intro m9
    induction m9 with
    | zero =>
      intro j9 r j hj hr hjj
      iterate 2 refine hR (?_ : R (_, _, _, _, _, _))
      refine hR (pk_lt (tLen b) j9 (fun _ => ?_) (fun z => by omega) rfl hjj)
      iterate 2 refine hR (?_ : R (_, _, _, _, _, _))
      refine loopB (tLen a) 0 _ _ _ _ _ _ _ _ (by omega) ?_ nI1
      rw [hr]
      exact congrArg (fun c => nI (pkr (eD (ue a) (ue b) 0) c)) (by omega)
    | succ m9 ih =>
      intro j9 r j hj hr hjj
      iterate 2 refine hR (?_ : R (_, _, _, _, _, _))
      refine hR (pk_lt (tLen b) j9 (fun z => by omega) (fun _ => ?_) rfl hjj)
      iterate 10 refine hR (?_ : R (_, _, _, _, _, _))
      refine ih (j9 + 1) _ _ (by omega) ?_ (by rw [hjj, nI1, nI_add])
      rw [hr, hjj, dz_shl (by omega) (by omega), dz_sum (pkr_lt _ (hE 0 (by omega)) _ (by omega))]
      refine congrArg nI ?_
      show _ = pkr (eD (ue a) (ue b) 0) j9 + eD (ue a) (ue b) 0 j9 * 16 ^ j9
      rw [eD_0]
  refine hR (?_ : R (_, _, _, _, _, _))
  refine hR (zcall_i 0 0 (Nat.le_of_ble_eq_true rfl) (Nat.le_of_ble_eq_true rfl) (r_bitsOf _ _ a hx ha _ _ ?_))
  iterate 2 refine hR (?_ : R (_, _, _, _, _, _))
  refine hR (zcall_i 0 0 (Nat.le_of_ble_eq_true rfl) (Nat.le_of_ble_eq_true rfl) (r_bitsOf _ _ b hy hb _ _ ?_))
  iterate 2 refine hR (?_ : R (_, _, _, _, _, _))
  refine hR (zcall_i 0 0 (Nat.le_of_ble_eq_true rfl) (Nat.le_of_ble_eq_true rfl) (r_lengthOf _ _ a hx ha _ _ ?_))
  iterate 2 refine hR (?_ : R (_, _, _, _, _, _))
  refine hR (zcall_i 0 0 (Nat.le_of_ble_eq_true rfl) (Nat.le_of_ble_eq_true rfl) (r_lengthOf _ _ b hy hb _ _ ?_))
  iterate 5 refine hR (?_ : R (_, _, _, _, _, _))
  exact loopA (tLen b + 1) 0 _ _ (by omega) nI0 nI0
theorem p_lesser (d : Nat) (x y : Int32) (p q : Nat) (hx : x = nI p) (hy : y = nI q) (hp : p < 1000) (hq : q < 1000) (w : zW) (Q : zQ) (h : Q (some (.int (nI (min p q)))) w) : zCl zTab (d + 1) iX12_lesser [.int x, .int y] w 0 0 Q := by
  refine zCl_i (M := kX12_lesser) rfl (Nat.le_of_ble_eq_true rfl) fun R hR => ?_
  have h3 : ∀ z, z = nI (min p q) → Q (some (.int z)) w := fun z hz => by rw [hz]; exact h
  iterate 2 refine hR (?_ : R (_, _, _, _, _, _))
  refine hR (pk_le q p (fun c => ?_) (fun c => ?_) hy hx)
  · refine hR (?_ : R (_, _, _, _, _, _))
    exact hR (zret_i rfl (Nat.le_refl _) trivial (h3 _ (by rw [hy, Nat.min_eq_right c])))
  · iterate 2 refine hR (?_ : R (_, _, _, _, _, _))
    exact hR (zret_i rfl (Nat.le_refl _) trivial (h3 _ (by rw [hx, Nat.min_eq_left (by omega)])))
theorem nI7 : (Int8.ofInt 7).toInt32 = nI 7 := by decide
set_option maxHeartbeats 4000000 in
theorem p_apart {c0 c1 c2 c3 c4 c5 c6 c7 c8 c9 c10 c11 c12 c13 : va_E} {x0 x9 x10 x11 x12 x13 x15 x16 x17 x20 x21 x22 x23 x26 x28 x31 x32 x33 x38 x41 x44 : Int32} {x14 : Int64} {g15 g16 g17 g18 g19 g20 g21 g22 g23 g24 g25 g26 g27 g28 g29 g30 g31 g32 g33 g34 g35 g36 g37 g38 g39 g40 g41 g42 g43 g44 : Nat → Int32} {t : zW} (d : Nat) (x y : Int32) (a b : Nat) (hx : x = nI a) (ha : a < 5461) (hy : y = nI b) (hb : b < 5461) (Q : zQ) (h : ∀ fa fb T, (zB 0 3 g25 → zB 0 3 fa) → (zB 0 3 g26 → zB 0 3 fb) → Q (some (.int (nI (eD (tW a) (tW b) (tLen a) (tLen b))))) (zMg c0 c1 c2 c3 c4 c5 c6 c7 c8 c9 c10 c11 c12 c13 x0 x9 x10 x11 x12 x13 x15 x16 x17 x20 x21 x22 x23 x26 x28 x31 x32 x33 x38 x41 x44 x14 g15 g16 g17 g18 g19 g20 g21 g22 g23 g24 fa fb T g28 g29 g30 g31 g32 g33 g34 g35 g36 g37 g38 g39 g40 g41 g42 g43 g44 t)) : zCl zTab (d + 4) iX12_apart [.ref 14, .int x, .int y] (zMg c0 c1 c2 c3 c4 c5 c6 c7 c8 c9 c10 c11 c12 c13 x0 x9 x10 x11 x12 x13 x15 x16 x17 x20 x21 x22 x23 x26 x28 x31 x32 x33 x38 x41 x44 x14 g15 g16 g17 g18 g19 g20 g21 g22 g23 g24 g25 g26 g27 g28 g29 g30 g31 g32 g33 g34 g35 g36 g37 g38 g39 g40 g41 g42 g43 g44 t) 0 0 Q := by
  have hn := tLen_le a
  have hm := tLen_le b
  refine zCl_i (M := kX12_apart) rfl (Nat.le_of_ble_eq_true rfl) fun R hR => ?_
  have main : ∀ (fa fb : Nat → Int32), (∀ i, i < tLen a → fa i = nI (tW a i)) → (∀ i, i < tLen b → fb i = nI (tW b i)) → (zB 0 3 g25 → zB 0 3 fa) → (zB 0 3 g26 → zB 0 3 fb) → ∀ (z6 z7 : Option Value), R (30, [some (.ref 14), some (.int x), some (.int y), some (.int (nI (tLen a))), some (.int (nI (tLen b))), some (.int (Int32.ofInt 0)), z6, z7], [], (zMg c0 c1 c2 c3 c4 c5 c6 c7 c8 c9 c10 c11 c12 c13 x0 x9 x10 x11 x12 x13 x15 x16 x17 x20 x21 x22 x23 x26 x28 x31 x32 x33 x38 x41 x44 x14 g15 g16 g17 g18 g19 g20 g21 g22 g23 g24 fa fb g27 g28 g29 g30 g31 g32 g33 g34 g35 g36 g37 g38 g39 g40 g41 g42 g43 g44 t), 0, 0) := by
    intro fa fb hfa hfb hBa hBb
    have inner : ∀ (i9 : Nat) (i : Int32), i = nI i9 → i9 ≤ tLen a → (∀ (T : Nat → Int32) (z6 z7 : Option Value), (∀ i', i' ≤ i9 → ∀ k', k' ≤ tLen b → T (7 * i' + k') = nI (eD (tW a) (tW b) i' k')) → R (185, [some (.ref 14), some (.int x), some (.int y), some (.int (nI (tLen a))), some (.int (nI (tLen b))), some (.int i), z6, z7], [], (zMg c0 c1 c2 c3 c4 c5 c6 c7 c8 c9 c10 c11 c12 c13 x0 x9 x10 x11 x12 x13 x15 x16 x17 x20 x21 x22 x23 x26 x28 x31 x32 x33 x38 x41 x44 x14 g15 g16 g17 g18 g19 g20 g21 g22 g23 g24 fa fb T g28 g29 g30 g31 g32 g33 g34 g35 g36 g37 g38 g39 g40 g41 g42 g43 g44 t), 0, 0)) → ∀ (m9 k9 : Nat) (k : Int32) (T : Nat → Int32) (z7 : Option Value), k9 + m9 = tLen b + 1 → k = nI k9 → (∀ i', i' < i9 → ∀ k', k' ≤ tLen b → T (7 * i' + k') = nI (eD (tW a) (tW b) i' k')) → (∀ k', k' < k9 → T (7 * i9 + k') = nI (eD (tW a) (tW b) i9 k')) → R (39, [some (.ref 14), some (.int x), some (.int y), some (.int (nI (tLen a))), some (.int (nI (tLen b))), some (.int i), some (.int k), z7], [], (zMg c0 c1 c2 c3 c4 c5 c6 c7 c8 c9 c10 c11 c12 c13 x0 x9 x10 x11 x12 x13 x15 x16 x17 x20 x21 x22 x23 x26 x28 x31 x32 x33 x38 x41 x44 x14 g15 g16 g17 g18 g19 g20 g21 g22 g23 g24 fa fb T g28 g29 g30 g31 g32 g33 g34 g35 g36 g37 g38 g39 g40 g41 g42 g43 g44 t), 0, 0) := by
      intro i9 i hi hi9 hexit m9
      induction m9 with
      | zero =>
        intro k9 k T z7 hk9 hk h1 h2
        iterate 2 refine hR (?_ : R (_, _, _, _, _, _))
        refine hR (pk_lt (tLen b) k9 (fun _ => ?_) (fun z => by omega) rfl hk)
        refine hexit T _ _ (fun i' hi' k' hk' => ?_)
        by_cases hq : i' = i9
        · subst hq
          exact h2 k' (by omega)
        · exact h1 i' (by omega) k' hk'
      | succ m9 ih =>
        intro k9 k T z7 hk9 hk h1 h2
        have fin : ∀ (bs : Int32), bs = nI (eD (tW a) (tW b) i9 k9) → R (164, [some (.ref 14), some (.int x), some (.int y), some (.int (nI (tLen a))), some (.int (nI (tLen b))), some (.int i), some (.int k), some (.int bs)], [], (zMg c0 c1 c2 c3 c4 c5 c6 c7 c8 c9 c10 c11 c12 c13 x0 x9 x10 x11 x12 x13 x15 x16 x17 x20 x21 x22 x23 x26 x28 x31 x32 x33 x38 x41 x44 x14 g15 g16 g17 g18 g19 g20 g21 g22 g23 g24 fa fb T g28 g29 g30 g31 g32 g33 g34 g35 g36 g37 g38 g39 g40 g41 g42 g43 g44 t), 0, 0) := by
          intro bs hbs
          have ei : (Int8.ofInt 7).toInt32 * i + k = nI (7 * i9 + k9) := by rw [nI7, hi, hk, pk_mul, nI_add]
          iterate 8 refine hR (?_ : R (_, _, _, _, _, _))
          refine hR (And.intro (by rw [ei]; exact nI_in (by omega) (by omega)) ?_)
          iterate 2 refine hR (?_ : R (_, _, _, _, _, _))
          have ec : ((Int8.ofInt 7).toInt32 * i + k).toNatClampNeg = 7 * i9 + k9 := by rw [ei]; exact nI_clamp (by omega)
          refine ih (k9 + 1) _ _ _ (by omega) (by rw [hk, nI1, nI_add]) (fun i' hi' k' hk' => ?_) (fun k' hk' => ?_)
          · rw [ec, pk_un (by omega)]
            exact h1 i' hi' k' hk'
          · rw [ec]
            by_cases hq : k' = k9
            · subst hq
              rw [pk_us, hbs]
            · rw [pk_un (by omega)]
              exact h2 k' (by omega)
        iterate 2 refine hR (?_ : R (_, _, _, _, _, _))
        refine hR (pk_lt (tLen b) k9 (fun z => by omega) (fun _ => ?_) rfl hk)
        refine hR (?_ : R (_, _, _, _, _, _))
        by_cases hi0 : i9 = 0
        · have hiz : i = 0 := by rw [hi, hi0]; rfl
          refine hR (And.intro (fun hc => absurd hiz hc) (fun _ => ?_))
          iterate 2 refine hR (?_ : R (_, _, _, _, _, _))
          iterate 2 refine hR (?_ : R (_, _, _, _, _, _))
          refine hR (And.intro (fun _ => ?_) (fun hc => absurd (by rw [hiz]; decide) hc))
          exact fin _ (by rw [hk, hi0, eD_0])
        have hin : ¬ i = 0 := by rw [hi]; exact nI_ne0 (by omega) (by omega)
        have hil : ¬ i ≤ 0 := by rw [hi]; exact nI_nle (by omega) (by omega)
        refine hR (And.intro (fun _ => ?_) (fun hc => absurd hc hin))
        refine hR (?_ : R (_, _, _, _, _, _))
        by_cases hk0 : k9 = 0
        · have hkz : k = 0 := by rw [hk, hk0]; rfl
          refine hR (And.intro (fun hc => absurd hkz hc) (fun _ => ?_))
          iterate 2 refine hR (?_ : R (_, _, _, _, _, _))
          iterate 2 refine hR (?_ : R (_, _, _, _, _, _))
          refine hR (And.intro (fun hc => absurd hc hil) (fun _ => ?_))
          refine hR (?_ : R (_, _, _, _, _, _))
          refine hR (And.intro (fun _ => ?_) (fun hc => absurd (by rw [hkz]; decide) hc))
          exact fin _ (by rw [hi, hk0, eD_z])
        have hkn : ¬ k = 0 := by rw [hk]; exact nI_ne0 (by omega) (by omega)
        have hkl : ¬ k ≤ 0 := by rw [hk]; exact nI_nle (by omega) (by omega)
        obtain ⟨i8, ei8⟩ : ∃ i8, i9 = i8 + 1 := ⟨i9 - 1, by omega⟩
        obtain ⟨k8, ek8⟩ : ∃ k8, k9 = k8 + 1 := ⟨k9 - 1, by omega⟩
        have d1 := eD_le (tW a) (tW b) i8 k8
        have d2 := eD_le (tW a) (tW b) i8 (k8 + 1)
        have d3 := eD_le (tW a) (tW b) (i8 + 1) k8
        have d4 := ed1_le (tW a i8) (tW b k8)
        have x1 : (Int8.ofInt 7).toInt32 * (i - Int32.ofInt 1) + k - Int32.ofInt 1 = nI (7 * i8 + k8) := by rw [nI7, hi, hk, ei8, ek8, nI1, pk_sub (by omega), Nat.add_sub_cancel, pk_mul, nI_add, pk_sub (by omega)]; exact congrArg nI (by omega)
        have x2 : i - Int32.ofInt 1 = nI i8 := by rw [hi, ei8, nI1, pk_sub (by omega), Nat.add_sub_cancel]
        have x3 : k - Int32.ofInt 1 = nI k8 := by rw [hk, ek8, nI1, pk_sub (by omega), Nat.add_sub_cancel]
        have x4 : (Int8.ofInt 7).toInt32 * (i - Int32.ofInt 1) + k = nI (7 * i8 + (k8 + 1)) := by rw [x2, nI7, hk, ek8, pk_mul, nI_add]
        have x5 : (Int8.ofInt 7).toInt32 * i + k - Int32.ofInt 1 = nI (7 * (i8 + 1) + k8) := by rw [nI7, hi, hk, ei8, ek8, pk_mul, nI_add, nI1, pk_sub (by omega)]; exact congrArg nI (by omega)
        have v1 : T ((Int8.ofInt 7).toInt32 * (i - Int32.ofInt 1) + k - Int32.ofInt 1).toNatClampNeg = nI (eD (tW a) (tW b) i8 k8) := by rw [x1, nI_clamp (by omega)]; exact h1 i8 (by omega) k8 (by omega)
        have v2 : fa (i - Int32.ofInt 1).toNatClampNeg = nI (tW a i8) := by rw [x2, nI_clamp (by omega)]; exact hfa i8 (by omega)
        have v3 : fb (k - Int32.ofInt 1).toNatClampNeg = nI (tW b k8) := by rw [x3, nI_clamp (by omega)]; exact hfb k8 (by omega)
        have v4 : T ((Int8.ofInt 7).toInt32 * (i - Int32.ofInt 1) + k).toNatClampNeg = nI (eD (tW a) (tW b) i8 (k8 + 1)) := by rw [x4, nI_clamp (by omega)]; exact h1 i8 (by omega) (k8 + 1) (by omega)
        have v5 : T ((Int8.ofInt 7).toInt32 * i + k - Int32.ofInt 1).toNatClampNeg = nI (eD (tW a) (tW b) (i8 + 1) k8) := by
          rw [x5, nI_clamp (by omega), ← ei8]
          exact h2 k8 (by omega)
        have rest : ∀ (bs : Int32), bs = nI (eD (tW a) (tW b) i8 k8 + ed1 (tW a i8) (tW b k8)) → R (112, [some (.ref 14), some (.int x), some (.int y), some (.int (nI (tLen a))), some (.int (nI (tLen b))), some (.int i), some (.int k), some (.int bs)], [], (zMg c0 c1 c2 c3 c4 c5 c6 c7 c8 c9 c10 c11 c12 c13 x0 x9 x10 x11 x12 x13 x15 x16 x17 x20 x21 x22 x23 x26 x28 x31 x32 x33 x38 x41 x44 x14 g15 g16 g17 g18 g19 g20 g21 g22 g23 g24 fa fb T g28 g29 g30 g31 g32 g33 g34 g35 g36 g37 g38 g39 g40 g41 g42 g43 g44 t), 0, 0) := by
          intro bs hbs
          refine hR (?_ : R (_, _, _, _, _, _))
          refine hR (And.intro (fun hc => absurd hc hil) (fun _ => ?_))
          refine hR (?_ : R (_, _, _, _, _, _))
          refine hR (And.intro (fun hc => absurd hc hkl) (fun _ => ?_))
          iterate 11 refine hR (?_ : R (_, _, _, _, _, _))
          refine hR (And.intro (by rw [x4]; exact nI_in (by omega) (by omega)) ?_)
          iterate 9 refine hR (?_ : R (_, _, _, _, _, _))
          refine hR (And.intro (by rw [x5]; exact nI_in (by omega) (by omega)) ?_)
          refine hR (zcall_i 0 0 (Nat.le_of_ble_eq_true rfl) (Nat.le_of_ble_eq_true rfl) (p_lesser _ _ _ (eD (tW a) (tW b) i8 (k8 + 1)) (eD (tW a) (tW b) (i8 + 1) k8) v4 v5 (by omega) (by omega) _ _ ?_))
          refine hR (?_ : R (_, _, _, _, _, _))
          refine hR (zcall_i 0 0 (Nat.le_of_ble_eq_true rfl) (Nat.le_of_ble_eq_true rfl) (p_lesser _ _ _ (eD (tW a) (tW b) i8 k8 + ed1 (tW a i8) (tW b k8)) (1 + min (eD (tW a) (tW b) i8 (k8 + 1)) (eD (tW a) (tW b) (i8 + 1) k8)) hbs (by rw [nI1, nI_add]) (by omega) (by omega) _ _ ?_))
          refine hR (?_ : R (_, _, _, _, _, _))
          exact fin _ (by rw [ei8, ek8, eD_s])
        refine hR (And.intro (fun _ => ?_) (fun hc => absurd hc hkn))
        iterate 11 refine hR (?_ : R (_, _, _, _, _, _))
        refine hR (And.intro (by rw [x1]; exact nI_in (by omega) (by omega)) ?_)
        iterate 5 refine hR (?_ : R (_, _, _, _, _, _))
        refine hR (And.intro (by rw [x2]; exact nI_in (by omega) (by omega)) ?_)
        iterate 5 refine hR (?_ : R (_, _, _, _, _, _))
        refine hR (And.intro (by rw [x3]; exact nI_in (by omega) (by omega)) ?_)
        have l1 : tW a i8 < 4 := Nat.mod_lt _ (by omega)
        have l2 : tW b k8 < 4 := Nat.mod_lt _ (by omega)
        refine hR (pk_eq (tW a i8) (tW b k8) (fun q => ?_) (fun q => ?_) v2 v3).symm
        · iterate 4 refine hR (?_ : R (_, _, _, _, _, _))
          exact rest _ (by rw [v1, nI0, nI_add, show ed1 (tW a i8) (tW b k8) = 0 from if_pos q])
        · iterate 3 refine hR (?_ : R (_, _, _, _, _, _))
          exact rest _ (by rw [v1, nI1, nI_add, show ed1 (tW a i8) (tW b k8) = 1 from if_neg q])
    have outer : ∀ (m9 i9 : Nat) (i : Int32) (T : Nat → Int32) (z6 z7 : Option Value), i9 + m9 = tLen a + 1 → i = nI i9 → (∀ i', i' < i9 → ∀ k', k' ≤ tLen b → T (7 * i' + k') = nI (eD (tW a) (tW b) i' k')) → R (30, [some (.ref 14), some (.int x), some (.int y), some (.int (nI (tLen a))), some (.int (nI (tLen b))), some (.int i), z6, z7], [], (zMg c0 c1 c2 c3 c4 c5 c6 c7 c8 c9 c10 c11 c12 c13 x0 x9 x10 x11 x12 x13 x15 x16 x17 x20 x21 x22 x23 x26 x28 x31 x32 x33 x38 x41 x44 x14 g15 g16 g17 g18 g19 g20 g21 g22 g23 g24 fa fb T g28 g29 g30 g31 g32 g33 g34 g35 g36 g37 g38 g39 g40 g41 g42 g43 g44 t), 0, 0) := by
      intro m9
      induction m9 with
      | zero =>
        intro i9 i T z6 z7 hi9 hi h1
        iterate 2 refine hR (?_ : R (_, _, _, _, _, _))
        refine hR (pk_lt (tLen a) i9 (fun _ => ?_) (fun z => by omega) rfl hi)
        have x1 : (Int8.ofInt 7).toInt32 * nI (tLen a) + nI (tLen b) = nI (7 * tLen a + tLen b) := by rw [nI7, pk_mul, nI_add]
        iterate 7 refine hR (?_ : R (_, _, _, _, _, _))
        refine hR (And.intro (by rw [x1]; exact nI_in (by omega) (by omega)) ?_)
        have h3 : ∀ z, z = nI (eD (tW a) (tW b) (tLen a) (tLen b)) → Q (some (.int z)) (zMg c0 c1 c2 c3 c4 c5 c6 c7 c8 c9 c10 c11 c12 c13 x0 x9 x10 x11 x12 x13 x15 x16 x17 x20 x21 x22 x23 x26 x28 x31 x32 x33 x38 x41 x44 x14 g15 g16 g17 g18 g19 g20 g21 g22 g23 g24 fa fb T g28 g29 g30 g31 g32 g33 g34 g35 g36 g37 g38 g39 g40 g41 g42 g43 g44 t) := fun z hz => by rw [hz]; exact h _ _ _ hBa hBb
        refine hR (zret_i rfl (Nat.le_refl _) trivial (h3 _ ?_))
        rw [x1, nI_clamp (by omega)]
        exact h1 (tLen a) (by omega) (tLen b) (by omega)
      | succ m9 ih =>
        intro i9 i T z6 z7 hi9 hi h1
        iterate 2 refine hR (?_ : R (_, _, _, _, _, _))
        refine hR (pk_lt (tLen a) i9 (fun z => by omega) (fun _ => ?_) rfl hi)
        iterate 2 refine hR (?_ : R (_, _, _, _, _, _))
        refine inner i9 i hi (by omega) ?_ (tLen b + 1) 0 _ T _ (by omega) nI0 h1 (fun k' hk' => by omega)
        intro T z6 z7 h5
        iterate 2 refine hR (?_ : R (_, _, _, _, _, _))
        exact ih (i9 + 1) _ T _ _ (by omega) (by rw [hi, nI1, nI_add]) (fun i' hi' k' hk' => h5 i' (by omega) k' hk')
    intro z6 z7
    exact outer (tLen a + 1) 0 _ g27 _ _ (by omega) nI0 (fun i' hi' => by omega)
  refine hR (?_ : R (_, _, _, _, _, _))
  refine hR (zcall_i 0 0 (Nat.le_of_ble_eq_true rfl) (Nat.le_of_ble_eq_true rfl) (p_sizeOf _ _ a hx ha _ _ ?_))
  iterate 2 refine hR (?_ : R (_, _, _, _, _, _))
  refine hR (zcall_i 0 0 (Nat.le_of_ble_eq_true rfl) (Nat.le_of_ble_eq_true rfl) (p_sizeOf _ _ b hy hb _ _ ?_))
  iterate 4 refine hR (?_ : R (_, _, _, _, _, _))
  refine hR (zcall_i 0 0 (Nat.le_of_ble_eq_true rfl) (Nat.le_of_ble_eq_true rfl) (p_spell25 _ _ a hx ha _ (fun fa hfa hBa => ?_)))
  iterate 3 refine hR (?_ : R (_, _, _, _, _, _))
  refine hR (zcall_i 0 0 (Nat.le_of_ble_eq_true rfl) (Nat.le_of_ble_eq_true rfl) (p_spell26 _ _ b hy hb _ (fun fb hfb hBb => ?_)))
  iterate 2 refine hR (?_ : R (_, _, _, _, _, _))
  exact main fa fb hfa hfb hBa hBb _ _
/-! rows copied -/
noncomputable def cpR (g : Nat → Int32) (n fr to c : Nat) : Nat → Int32 := fun j => if n * to ≤ j ∧ j < n * to + c then g (n * fr + (j - n * to)) else g j
theorem cpR_0 (g : Nat → Int32) (n fr to : Nat) : g = cpR g n fr to (0 : Int).toNat := by
  funext j
  unfold cpR
  rw [if_neg (by intro h; have := h.2; have e : (0 : Int).toNat = 0 := rfl; omega)]
theorem cpR_s {g q : Nat → Int32} {n fr to : Nat} {i a b v : Int} (hq : q = cpR g n fr to i.toNat) (h0 : 0 ≤ i) (hne : fr ≠ to) (hi : i < n) (ha : a = n * to + i) (hb : b = n * fr + i) (hv : v = (q b.toNat).toInt) : upd q a.toNat (Int32.ofInt v) = cpR g n fr to (i + 1).toNat := by
  obtain ⟨m, rfl⟩ := Int.eq_ofNat_of_zero_le h0
  have e1 : ((m : Nat) : Int).toNat = m := rfl
  have e2 : (((m : Nat) : Int) + 1).toNat = m + 1 := rfl
  have ea : a.toNat = n * to + m := by rw [ha]; rw [← Int.natCast_mul]; exact (Int.toNat_natCast (n * to + m))
  have eb : b.toNat = n * fr + m := by rw [hb]; rw [← Int.natCast_mul]; exact (Int.toNat_natCast (n * fr + m))
  have hm : m < n := by have : (m : Int) < n := hi; omega
  rw [hv, zoi, ea, eb, e2]
  rw [e1] at hq
  have hout : ¬ (n * to ≤ n * fr + m ∧ n * fr + m < n * to + m) := by
    intro h
    rcases Nat.lt_or_gt_of_ne hne with h2 | h2
    · have := Nat.mul_le_mul_left n (show fr + 1 ≤ to by omega)
      rw [Nat.mul_add, Nat.mul_one] at this
      omega
    · have := Nat.mul_le_mul_left n (show to + 1 ≤ fr by omega)
      rw [Nat.mul_add, Nat.mul_one] at this
      omega
  funext j
  unfold upd
  by_cases hj : j = n * to + m
  · subst hj
    rw [if_pos rfl, hq]
    unfold cpR
    rw [if_neg hout, if_pos (by omega), show n * to + m - n * to = m by omega]
  · rw [if_neg hj, hq]
    unfold cpR
    by_cases hc : n * to ≤ j ∧ j < n * to + m
    · rw [if_pos hc, if_pos (by omega)]
    · rw [if_neg hc, if_neg (by omega)]
theorem cpR_e {g q : Nat → Int32} {n fr to m : Nat} {i : Int} (hq : q = cpR g n fr to i.toNat) (hi : i = m) : q = cpR g n fr to m := by
  rw [hq, hi]; rfl
section MZ
variable {c0 c1 c2 c3 c4 c5 c6 c7 c8 c9 c10 c11 c12 c13 : va_E} {f0 f9 f10 f11 f12 f13 f15 f16 f17 f20 f21 f22 f23 f26 f28 f31 f32 f33 f38 f41 f44 : Int} {x14 : Int64} {g15 g16 g17 g18 g19 g20 g21 g22 g23 g24 g25 g26 g27 g28 g29 g30 g31 g32 g33 g34 g35 g36 g37 g38 g39 g40 g41 g42 g43 g44 : Nat → Int32} {t : zW}
theorem m_copyRow16 (d : Nat) (a2 a3 : Int) (hr0 : 0 ≤ a2 ∧ a2 ≤ 3) (hr1 : 0 ≤ a3 ∧ a3 ≤ 3) (hr2 : a2 ≠ a3) (Q : zQ) (h : ∀ (k16 : Nat → Int32), (k16 = cpR g16 1 a2.toNat a3.toNat 1) → Q (none) (zMi c0 c1 c2 c3 c4 c5 c6 c7 c8 c9 c10 c11 c12 c13 f0 f9 f10 f11 f12 f13 f15 f16 f17 f20 f21 f22 f23 f26 f28 f31 f32 f33 f38 f41 f44 x14 g15 k16 g17 g18 g19 g20 g21 g22 g23 g24 g25 g26 g27 g28 g29 g30 g31 g32 g33 g34 g35 g36 g37 g38 g39 g40 g41 g42 g43 g44 t)) : zCl zTab (d + 1) iX12_copyRow [.ref 16, .int (Int32.ofInt 1), .int (Int32.ofInt a2), .int (Int32.ofInt a3)] (zMi c0 c1 c2 c3 c4 c5 c6 c7 c8 c9 c10 c11 c12 c13 f0 f9 f10 f11 f12 f13 f15 f16 f17 f20 f21 f22 f23 f26 f28 f31 f32 f33 f38 f41 f44 x14 g15 g16 g17 g18 g19 g20 g21 g22 g23 g24 g25 g26 g27 g28 g29 g30 g31 g32 g33 g34 g35 g36 g37 g38 g39 g40 g41 g42 g43 g44 t) 0 0 Q := by
  refine zCl_i (M := kX12_copyRow) rfl (Nat.le_of_ble_eq_true rfl) fun R hR => ?_
  iterate 2 refine hR (?_ : R (_, _, _, _, _, _))
  have lp3 : ∀ (N : Nat) (i : Int) (q16_3 : Nat → Int32), (0 ≤ i ∧ i ≤ 1) → (q16_3 = cpR g16 1 a2.toNat a3.toNat i.toNat) → (1 - i < N) → R (3, [some (.ref 16), some (.int (Int32.ofInt 1)), some (.int (Int32.ofInt a2)), some (.int (Int32.ofInt a3)), some (.int (Int32.ofInt i))], [], (zMi c0 c1 c2 c3 c4 c5 c6 c7 c8 c9 c10 c11 c12 c13 f0 f9 f10 f11 f12 f13 f15 f16 f17 f20 f21 f22 f23 f26 f28 f31 f32 f33 f38 f41 f44 x14 g15 q16_3 g17 g18 g19 g20 g21 g22 g23 g24 g25 g26 g27 g28 g29 g30 g31 g32 g33 g34 g35 g36 g37 g38 g39 g40 g41 g42 g43 g44 t), 0, 0) := by
    intro N
    induction N with
    | zero => intros; omega
    | succ N ih3 =>
      intro i q16_3 hf0_3 hp0_3 hN3
      iterate 2 refine hR (?_ : R (_, _, _, _, _, _))
      refine hR (j_ge (by omega) (by omega) (fun hc1 => ?_) (fun hc1 => ?_))
      · skip
        exact hR (zret_i rfl (Nat.le_refl _) rfl (h _ (cpR_e hp0_3 (by omega))))
      iterate 3 refine hR (?_ : R (_, _, _, _, _, _))
      refine hR (t_mul ?_)
      refine hR (?_ : R (_, _, _, _, _, _))
      refine hR (t_add ?_)
      iterate 3 refine hR (?_ : R (_, _, _, _, _, _))
      refine hR (t_mul ?_)
      refine hR (?_ : R (_, _, _, _, _, _))
      refine hR (t_add ?_)
      refine hR (t_ldE (by omega) (by omega) (Nat.le_of_ble_eq_true rfl) fun v2 ev2 rv2 => ?_)
      refine hR (t_st (by omega) (by omega) (Nat.le_of_ble_eq_true rfl) (?_ : R (_, _, _, (zMi c0 c1 c2 c3 c4 c5 c6 c7 c8 c9 c10 c11 c12 c13 f0 f9 f10 f11 f12 f13 f15 f16 f17 f20 f21 f22 f23 f26 f28 f31 f32 f33 f38 f41 f44 x14 g15 (upd q16_3 ((1 * a3) + i).toNat (Int32.ofInt v2)) g17 g18 g19 g20 g21 g22 g23 g24 g25 g26 g27 g28 g29 g30 g31 g32 g33 g34 g35 g36 g37 g38 g39 g40 g41 g42 g43 g44 t), _, _)))
      refine hR (t_inc ?_)
      refine hR (?_ : R (_, _, _, _, _, _))
      exact ih3 _ _ (by omega) (cpR_s hp0_3 (by omega) (by omega) (by omega) (by omega) (by omega) ev2) (by omega)
  exact lp3 400000000 _ _ (by omega) (cpR_0 _ _ _ _) (by omega)
theorem m_copyRow17 (d : Nat) (a2 a3 : Int) (hr0 : 0 ≤ a2 ∧ a2 ≤ 3) (hr1 : 0 ≤ a3 ∧ a3 ≤ 3) (hr2 : a2 ≠ a3) (Q : zQ) (h : ∀ (k17 : Nat → Int32), (k17 = cpR g17 1 a2.toNat a3.toNat 1) → Q (none) (zMi c0 c1 c2 c3 c4 c5 c6 c7 c8 c9 c10 c11 c12 c13 f0 f9 f10 f11 f12 f13 f15 f16 f17 f20 f21 f22 f23 f26 f28 f31 f32 f33 f38 f41 f44 x14 g15 g16 k17 g18 g19 g20 g21 g22 g23 g24 g25 g26 g27 g28 g29 g30 g31 g32 g33 g34 g35 g36 g37 g38 g39 g40 g41 g42 g43 g44 t)) : zCl zTab (d + 1) iX12_copyRow [.ref 17, .int (Int32.ofInt 1), .int (Int32.ofInt a2), .int (Int32.ofInt a3)] (zMi c0 c1 c2 c3 c4 c5 c6 c7 c8 c9 c10 c11 c12 c13 f0 f9 f10 f11 f12 f13 f15 f16 f17 f20 f21 f22 f23 f26 f28 f31 f32 f33 f38 f41 f44 x14 g15 g16 g17 g18 g19 g20 g21 g22 g23 g24 g25 g26 g27 g28 g29 g30 g31 g32 g33 g34 g35 g36 g37 g38 g39 g40 g41 g42 g43 g44 t) 0 0 Q := by
  refine zCl_i (M := kX12_copyRow) rfl (Nat.le_of_ble_eq_true rfl) fun R hR => ?_
  iterate 2 refine hR (?_ : R (_, _, _, _, _, _))
  have lp3 : ∀ (N : Nat) (i : Int) (q17_3 : Nat → Int32), (0 ≤ i ∧ i ≤ 1) → (q17_3 = cpR g17 1 a2.toNat a3.toNat i.toNat) → (1 - i < N) → R (3, [some (.ref 17), some (.int (Int32.ofInt 1)), some (.int (Int32.ofInt a2)), some (.int (Int32.ofInt a3)), some (.int (Int32.ofInt i))], [], (zMi c0 c1 c2 c3 c4 c5 c6 c7 c8 c9 c10 c11 c12 c13 f0 f9 f10 f11 f12 f13 f15 f16 f17 f20 f21 f22 f23 f26 f28 f31 f32 f33 f38 f41 f44 x14 g15 g16 q17_3 g18 g19 g20 g21 g22 g23 g24 g25 g26 g27 g28 g29 g30 g31 g32 g33 g34 g35 g36 g37 g38 g39 g40 g41 g42 g43 g44 t), 0, 0) := by
    intro N
    induction N with
    | zero => intros; omega
    | succ N ih3 =>
      intro i q17_3 hf0_3 hp0_3 hN3
      iterate 2 refine hR (?_ : R (_, _, _, _, _, _))
      refine hR (j_ge (by omega) (by omega) (fun hc1 => ?_) (fun hc1 => ?_))
      · skip
        exact hR (zret_i rfl (Nat.le_refl _) rfl (h _ (cpR_e hp0_3 (by omega))))
      iterate 3 refine hR (?_ : R (_, _, _, _, _, _))
      refine hR (t_mul ?_)
      refine hR (?_ : R (_, _, _, _, _, _))
      refine hR (t_add ?_)
      iterate 3 refine hR (?_ : R (_, _, _, _, _, _))
      refine hR (t_mul ?_)
      refine hR (?_ : R (_, _, _, _, _, _))
      refine hR (t_add ?_)
      refine hR (t_ldE (by omega) (by omega) (Nat.le_of_ble_eq_true rfl) fun v2 ev2 rv2 => ?_)
      refine hR (t_st (by omega) (by omega) (Nat.le_of_ble_eq_true rfl) (?_ : R (_, _, _, (zMi c0 c1 c2 c3 c4 c5 c6 c7 c8 c9 c10 c11 c12 c13 f0 f9 f10 f11 f12 f13 f15 f16 f17 f20 f21 f22 f23 f26 f28 f31 f32 f33 f38 f41 f44 x14 g15 g16 (upd q17_3 ((1 * a3) + i).toNat (Int32.ofInt v2)) g18 g19 g20 g21 g22 g23 g24 g25 g26 g27 g28 g29 g30 g31 g32 g33 g34 g35 g36 g37 g38 g39 g40 g41 g42 g43 g44 t), _, _)))
      refine hR (t_inc ?_)
      refine hR (?_ : R (_, _, _, _, _, _))
      exact ih3 _ _ (by omega) (cpR_s hp0_3 (by omega) (by omega) (by omega) (by omega) (by omega) ev2) (by omega)
  exact lp3 400000000 _ _ (by omega) (cpR_0 _ _ _ _) (by omega)
theorem m_copyRow18 (d : Nat) (a2 a3 : Int) (hr0 : 0 ≤ a2 ∧ a2 ≤ 3) (hr1 : 0 ≤ a3 ∧ a3 ≤ 3) (hr2 : a2 ≠ a3) (Q : zQ) (h : ∀ (k18 : Nat → Int32), (k18 = cpR g18 1 a2.toNat a3.toNat 1) → Q (none) (zMi c0 c1 c2 c3 c4 c5 c6 c7 c8 c9 c10 c11 c12 c13 f0 f9 f10 f11 f12 f13 f15 f16 f17 f20 f21 f22 f23 f26 f28 f31 f32 f33 f38 f41 f44 x14 g15 g16 g17 k18 g19 g20 g21 g22 g23 g24 g25 g26 g27 g28 g29 g30 g31 g32 g33 g34 g35 g36 g37 g38 g39 g40 g41 g42 g43 g44 t)) : zCl zTab (d + 1) iX12_copyRow [.ref 18, .int (Int32.ofInt 1), .int (Int32.ofInt a2), .int (Int32.ofInt a3)] (zMi c0 c1 c2 c3 c4 c5 c6 c7 c8 c9 c10 c11 c12 c13 f0 f9 f10 f11 f12 f13 f15 f16 f17 f20 f21 f22 f23 f26 f28 f31 f32 f33 f38 f41 f44 x14 g15 g16 g17 g18 g19 g20 g21 g22 g23 g24 g25 g26 g27 g28 g29 g30 g31 g32 g33 g34 g35 g36 g37 g38 g39 g40 g41 g42 g43 g44 t) 0 0 Q := by
  refine zCl_i (M := kX12_copyRow) rfl (Nat.le_of_ble_eq_true rfl) fun R hR => ?_
  iterate 2 refine hR (?_ : R (_, _, _, _, _, _))
  have lp3 : ∀ (N : Nat) (i : Int) (q18_3 : Nat → Int32), (0 ≤ i ∧ i ≤ 1) → (q18_3 = cpR g18 1 a2.toNat a3.toNat i.toNat) → (1 - i < N) → R (3, [some (.ref 18), some (.int (Int32.ofInt 1)), some (.int (Int32.ofInt a2)), some (.int (Int32.ofInt a3)), some (.int (Int32.ofInt i))], [], (zMi c0 c1 c2 c3 c4 c5 c6 c7 c8 c9 c10 c11 c12 c13 f0 f9 f10 f11 f12 f13 f15 f16 f17 f20 f21 f22 f23 f26 f28 f31 f32 f33 f38 f41 f44 x14 g15 g16 g17 q18_3 g19 g20 g21 g22 g23 g24 g25 g26 g27 g28 g29 g30 g31 g32 g33 g34 g35 g36 g37 g38 g39 g40 g41 g42 g43 g44 t), 0, 0) := by
    intro N
    induction N with
    | zero => intros; omega
    | succ N ih3 =>
      intro i q18_3 hf0_3 hp0_3 hN3
      iterate 2 refine hR (?_ : R (_, _, _, _, _, _))
      refine hR (j_ge (by omega) (by omega) (fun hc1 => ?_) (fun hc1 => ?_))
      · skip
        exact hR (zret_i rfl (Nat.le_refl _) rfl (h _ (cpR_e hp0_3 (by omega))))
      iterate 3 refine hR (?_ : R (_, _, _, _, _, _))
      refine hR (t_mul ?_)
      refine hR (?_ : R (_, _, _, _, _, _))
      refine hR (t_add ?_)
      iterate 3 refine hR (?_ : R (_, _, _, _, _, _))
      refine hR (t_mul ?_)
      refine hR (?_ : R (_, _, _, _, _, _))
      refine hR (t_add ?_)
      refine hR (t_ldE (by omega) (by omega) (Nat.le_of_ble_eq_true rfl) fun v2 ev2 rv2 => ?_)
      refine hR (t_st (by omega) (by omega) (Nat.le_of_ble_eq_true rfl) (?_ : R (_, _, _, (zMi c0 c1 c2 c3 c4 c5 c6 c7 c8 c9 c10 c11 c12 c13 f0 f9 f10 f11 f12 f13 f15 f16 f17 f20 f21 f22 f23 f26 f28 f31 f32 f33 f38 f41 f44 x14 g15 g16 g17 (upd q18_3 ((1 * a3) + i).toNat (Int32.ofInt v2)) g19 g20 g21 g22 g23 g24 g25 g26 g27 g28 g29 g30 g31 g32 g33 g34 g35 g36 g37 g38 g39 g40 g41 g42 g43 g44 t), _, _)))
      refine hR (t_inc ?_)
      refine hR (?_ : R (_, _, _, _, _, _))
      exact ih3 _ _ (by omega) (cpR_s hp0_3 (by omega) (by omega) (by omega) (by omega) (by omega) ev2) (by omega)
  exact lp3 400000000 _ _ (by omega) (cpR_0 _ _ _ _) (by omega)
theorem m_copyRow19 (d : Nat) (a2 a3 : Int) (hr0 : 0 ≤ a2 ∧ a2 ≤ 3) (hr1 : 0 ≤ a3 ∧ a3 ≤ 3) (hr2 : a2 ≠ a3) (Q : zQ) (h : ∀ (k19 : Nat → Int32), (k19 = cpR g19 3 a2.toNat a3.toNat 3) → Q (none) (zMi c0 c1 c2 c3 c4 c5 c6 c7 c8 c9 c10 c11 c12 c13 f0 f9 f10 f11 f12 f13 f15 f16 f17 f20 f21 f22 f23 f26 f28 f31 f32 f33 f38 f41 f44 x14 g15 g16 g17 g18 k19 g20 g21 g22 g23 g24 g25 g26 g27 g28 g29 g30 g31 g32 g33 g34 g35 g36 g37 g38 g39 g40 g41 g42 g43 g44 t)) : zCl zTab (d + 1) iX12_copyRow [.ref 19, .int (Int32.ofInt 3), .int (Int32.ofInt a2), .int (Int32.ofInt a3)] (zMi c0 c1 c2 c3 c4 c5 c6 c7 c8 c9 c10 c11 c12 c13 f0 f9 f10 f11 f12 f13 f15 f16 f17 f20 f21 f22 f23 f26 f28 f31 f32 f33 f38 f41 f44 x14 g15 g16 g17 g18 g19 g20 g21 g22 g23 g24 g25 g26 g27 g28 g29 g30 g31 g32 g33 g34 g35 g36 g37 g38 g39 g40 g41 g42 g43 g44 t) 0 0 Q := by
  refine zCl_i (M := kX12_copyRow) rfl (Nat.le_of_ble_eq_true rfl) fun R hR => ?_
  iterate 2 refine hR (?_ : R (_, _, _, _, _, _))
  have lp3 : ∀ (N : Nat) (i : Int) (q19_3 : Nat → Int32), (0 ≤ i ∧ i ≤ 3) → (q19_3 = cpR g19 3 a2.toNat a3.toNat i.toNat) → (3 - i < N) → R (3, [some (.ref 19), some (.int (Int32.ofInt 3)), some (.int (Int32.ofInt a2)), some (.int (Int32.ofInt a3)), some (.int (Int32.ofInt i))], [], (zMi c0 c1 c2 c3 c4 c5 c6 c7 c8 c9 c10 c11 c12 c13 f0 f9 f10 f11 f12 f13 f15 f16 f17 f20 f21 f22 f23 f26 f28 f31 f32 f33 f38 f41 f44 x14 g15 g16 g17 g18 q19_3 g20 g21 g22 g23 g24 g25 g26 g27 g28 g29 g30 g31 g32 g33 g34 g35 g36 g37 g38 g39 g40 g41 g42 g43 g44 t), 0, 0) := by
    intro N
    induction N with
    | zero => intros; omega
    | succ N ih3 =>
      intro i q19_3 hf0_3 hp0_3 hN3
      iterate 2 refine hR (?_ : R (_, _, _, _, _, _))
      refine hR (j_ge (by omega) (by omega) (fun hc1 => ?_) (fun hc1 => ?_))
      · skip
        exact hR (zret_i rfl (Nat.le_refl _) rfl (h _ (cpR_e hp0_3 (by omega))))
      iterate 3 refine hR (?_ : R (_, _, _, _, _, _))
      refine hR (t_mul ?_)
      refine hR (?_ : R (_, _, _, _, _, _))
      refine hR (t_add ?_)
      iterate 3 refine hR (?_ : R (_, _, _, _, _, _))
      refine hR (t_mul ?_)
      refine hR (?_ : R (_, _, _, _, _, _))
      refine hR (t_add ?_)
      refine hR (t_ldE (by omega) (by omega) (Nat.le_of_ble_eq_true rfl) fun v2 ev2 rv2 => ?_)
      refine hR (t_st (by omega) (by omega) (Nat.le_of_ble_eq_true rfl) (?_ : R (_, _, _, (zMi c0 c1 c2 c3 c4 c5 c6 c7 c8 c9 c10 c11 c12 c13 f0 f9 f10 f11 f12 f13 f15 f16 f17 f20 f21 f22 f23 f26 f28 f31 f32 f33 f38 f41 f44 x14 g15 g16 g17 g18 (upd q19_3 ((3 * a3) + i).toNat (Int32.ofInt v2)) g20 g21 g22 g23 g24 g25 g26 g27 g28 g29 g30 g31 g32 g33 g34 g35 g36 g37 g38 g39 g40 g41 g42 g43 g44 t), _, _)))
      refine hR (t_inc ?_)
      refine hR (?_ : R (_, _, _, _, _, _))
      exact ih3 _ _ (by omega) (cpR_s hp0_3 (by omega) (by omega) (by omega) (by omega) (by omega) ev2) (by omega)
  exact lp3 400000000 _ _ (by omega) (cpR_0 _ _ _ _) (by omega)
theorem m_copyRow20 (d : Nat) (a2 a3 : Int) (hr0 : 0 ≤ a2 ∧ a2 ≤ 3) (hr1 : 0 ≤ a3 ∧ a3 ≤ 3) (hr2 : a2 ≠ a3) (Q : zQ) (h : ∀ (k20 : Nat → Int32), (k20 = cpR g20 102 a2.toNat a3.toNat 102) → Q (none) (zMi c0 c1 c2 c3 c4 c5 c6 c7 c8 c9 c10 c11 c12 c13 f0 f9 f10 f11 f12 f13 f15 f16 f17 f20 f21 f22 f23 f26 f28 f31 f32 f33 f38 f41 f44 x14 g15 g16 g17 g18 g19 k20 g21 g22 g23 g24 g25 g26 g27 g28 g29 g30 g31 g32 g33 g34 g35 g36 g37 g38 g39 g40 g41 g42 g43 g44 t)) : zCl zTab (d + 1) iX12_copyRow [.ref 20, .int (Int32.ofInt 102), .int (Int32.ofInt a2), .int (Int32.ofInt a3)] (zMi c0 c1 c2 c3 c4 c5 c6 c7 c8 c9 c10 c11 c12 c13 f0 f9 f10 f11 f12 f13 f15 f16 f17 f20 f21 f22 f23 f26 f28 f31 f32 f33 f38 f41 f44 x14 g15 g16 g17 g18 g19 g20 g21 g22 g23 g24 g25 g26 g27 g28 g29 g30 g31 g32 g33 g34 g35 g36 g37 g38 g39 g40 g41 g42 g43 g44 t) 0 0 Q := by
  refine zCl_i (M := kX12_copyRow) rfl (Nat.le_of_ble_eq_true rfl) fun R hR => ?_
  iterate 2 refine hR (?_ : R (_, _, _, _, _, _))
  have lp3 : ∀ (N : Nat) (i : Int) (q20_3 : Nat → Int32), (0 ≤ i ∧ i ≤ 102) → (q20_3 = cpR g20 102 a2.toNat a3.toNat i.toNat) → (102 - i < N) → R (3, [some (.ref 20), some (.int (Int32.ofInt 102)), some (.int (Int32.ofInt a2)), some (.int (Int32.ofInt a3)), some (.int (Int32.ofInt i))], [], (zMi c0 c1 c2 c3 c4 c5 c6 c7 c8 c9 c10 c11 c12 c13 f0 f9 f10 f11 f12 f13 f15 f16 f17 f20 f21 f22 f23 f26 f28 f31 f32 f33 f38 f41 f44 x14 g15 g16 g17 g18 g19 q20_3 g21 g22 g23 g24 g25 g26 g27 g28 g29 g30 g31 g32 g33 g34 g35 g36 g37 g38 g39 g40 g41 g42 g43 g44 t), 0, 0) := by
    intro N
    induction N with
    | zero => intros; omega
    | succ N ih3 =>
      intro i q20_3 hf0_3 hp0_3 hN3
      iterate 2 refine hR (?_ : R (_, _, _, _, _, _))
      refine hR (j_ge (by omega) (by omega) (fun hc1 => ?_) (fun hc1 => ?_))
      · skip
        exact hR (zret_i rfl (Nat.le_refl _) rfl (h _ (cpR_e hp0_3 (by omega))))
      iterate 3 refine hR (?_ : R (_, _, _, _, _, _))
      refine hR (t_mul ?_)
      refine hR (?_ : R (_, _, _, _, _, _))
      refine hR (t_add ?_)
      iterate 3 refine hR (?_ : R (_, _, _, _, _, _))
      refine hR (t_mul ?_)
      refine hR (?_ : R (_, _, _, _, _, _))
      refine hR (t_add ?_)
      refine hR (t_ldE (by omega) (by omega) (Nat.le_of_ble_eq_true rfl) fun v2 ev2 rv2 => ?_)
      refine hR (t_st (by omega) (by omega) (Nat.le_of_ble_eq_true rfl) (?_ : R (_, _, _, (zMi c0 c1 c2 c3 c4 c5 c6 c7 c8 c9 c10 c11 c12 c13 f0 f9 f10 f11 f12 f13 f15 f16 f17 f20 f21 f22 f23 f26 f28 f31 f32 f33 f38 f41 f44 x14 g15 g16 g17 g18 g19 (upd q20_3 ((102 * a3) + i).toNat (Int32.ofInt v2)) g21 g22 g23 g24 g25 g26 g27 g28 g29 g30 g31 g32 g33 g34 g35 g36 g37 g38 g39 g40 g41 g42 g43 g44 t), _, _)))
      refine hR (t_inc ?_)
      refine hR (?_ : R (_, _, _, _, _, _))
      exact ih3 _ _ (by omega) (cpR_s hp0_3 (by omega) (by omega) (by omega) (by omega) (by omega) ev2) (by omega)
  exact lp3 400000000 _ _ (by omega) (cpR_0 _ _ _ _) (by omega)
theorem m_copyRow21 (d : Nat) (a2 a3 : Int) (hr0 : 0 ≤ a2 ∧ a2 ≤ 3) (hr1 : 0 ≤ a3 ∧ a3 ≤ 3) (hr2 : a2 ≠ a3) (Q : zQ) (h : ∀ (k21 : Nat → Int32), (k21 = cpR g21 242 a2.toNat a3.toNat 242) → Q (none) (zMi c0 c1 c2 c3 c4 c5 c6 c7 c8 c9 c10 c11 c12 c13 f0 f9 f10 f11 f12 f13 f15 f16 f17 f20 f21 f22 f23 f26 f28 f31 f32 f33 f38 f41 f44 x14 g15 g16 g17 g18 g19 g20 k21 g22 g23 g24 g25 g26 g27 g28 g29 g30 g31 g32 g33 g34 g35 g36 g37 g38 g39 g40 g41 g42 g43 g44 t)) : zCl zTab (d + 1) iX12_copyRow [.ref 21, .int (Int32.ofInt 242), .int (Int32.ofInt a2), .int (Int32.ofInt a3)] (zMi c0 c1 c2 c3 c4 c5 c6 c7 c8 c9 c10 c11 c12 c13 f0 f9 f10 f11 f12 f13 f15 f16 f17 f20 f21 f22 f23 f26 f28 f31 f32 f33 f38 f41 f44 x14 g15 g16 g17 g18 g19 g20 g21 g22 g23 g24 g25 g26 g27 g28 g29 g30 g31 g32 g33 g34 g35 g36 g37 g38 g39 g40 g41 g42 g43 g44 t) 0 0 Q := by
  refine zCl_i (M := kX12_copyRow) rfl (Nat.le_of_ble_eq_true rfl) fun R hR => ?_
  iterate 2 refine hR (?_ : R (_, _, _, _, _, _))
  have lp3 : ∀ (N : Nat) (i : Int) (q21_3 : Nat → Int32), (0 ≤ i ∧ i ≤ 242) → (q21_3 = cpR g21 242 a2.toNat a3.toNat i.toNat) → (242 - i < N) → R (3, [some (.ref 21), some (.int (Int32.ofInt 242)), some (.int (Int32.ofInt a2)), some (.int (Int32.ofInt a3)), some (.int (Int32.ofInt i))], [], (zMi c0 c1 c2 c3 c4 c5 c6 c7 c8 c9 c10 c11 c12 c13 f0 f9 f10 f11 f12 f13 f15 f16 f17 f20 f21 f22 f23 f26 f28 f31 f32 f33 f38 f41 f44 x14 g15 g16 g17 g18 g19 g20 q21_3 g22 g23 g24 g25 g26 g27 g28 g29 g30 g31 g32 g33 g34 g35 g36 g37 g38 g39 g40 g41 g42 g43 g44 t), 0, 0) := by
    intro N
    induction N with
    | zero => intros; omega
    | succ N ih3 =>
      intro i q21_3 hf0_3 hp0_3 hN3
      iterate 2 refine hR (?_ : R (_, _, _, _, _, _))
      refine hR (j_ge (by omega) (by omega) (fun hc1 => ?_) (fun hc1 => ?_))
      · skip
        exact hR (zret_i rfl (Nat.le_refl _) rfl (h _ (cpR_e hp0_3 (by omega))))
      iterate 3 refine hR (?_ : R (_, _, _, _, _, _))
      refine hR (t_mul ?_)
      refine hR (?_ : R (_, _, _, _, _, _))
      refine hR (t_add ?_)
      iterate 3 refine hR (?_ : R (_, _, _, _, _, _))
      refine hR (t_mul ?_)
      refine hR (?_ : R (_, _, _, _, _, _))
      refine hR (t_add ?_)
      refine hR (t_ldE (by omega) (by omega) (Nat.le_of_ble_eq_true rfl) fun v2 ev2 rv2 => ?_)
      refine hR (t_st (by omega) (by omega) (Nat.le_of_ble_eq_true rfl) (?_ : R (_, _, _, (zMi c0 c1 c2 c3 c4 c5 c6 c7 c8 c9 c10 c11 c12 c13 f0 f9 f10 f11 f12 f13 f15 f16 f17 f20 f21 f22 f23 f26 f28 f31 f32 f33 f38 f41 f44 x14 g15 g16 g17 g18 g19 g20 (upd q21_3 ((242 * a3) + i).toNat (Int32.ofInt v2)) g22 g23 g24 g25 g26 g27 g28 g29 g30 g31 g32 g33 g34 g35 g36 g37 g38 g39 g40 g41 g42 g43 g44 t), _, _)))
      refine hR (t_inc ?_)
      refine hR (?_ : R (_, _, _, _, _, _))
      exact ih3 _ _ (by omega) (cpR_s hp0_3 (by omega) (by omega) (by omega) (by omega) (by omega) ev2) (by omega)
  exact lp3 400000000 _ _ (by omega) (cpR_0 _ _ _ _) (by omega)
theorem m_copyRow22 (d : Nat) (a2 a3 : Int) (hr0 : 0 ≤ a2 ∧ a2 ≤ 3) (hr1 : 0 ≤ a3 ∧ a3 ≤ 3) (hr2 : a2 ≠ a3) (Q : zQ) (h : ∀ (k22 : Nat → Int32), (k22 = cpR g22 26 a2.toNat a3.toNat 26) → Q (none) (zMi c0 c1 c2 c3 c4 c5 c6 c7 c8 c9 c10 c11 c12 c13 f0 f9 f10 f11 f12 f13 f15 f16 f17 f20 f21 f22 f23 f26 f28 f31 f32 f33 f38 f41 f44 x14 g15 g16 g17 g18 g19 g20 g21 k22 g23 g24 g25 g26 g27 g28 g29 g30 g31 g32 g33 g34 g35 g36 g37 g38 g39 g40 g41 g42 g43 g44 t)) : zCl zTab (d + 1) iX12_copyRow [.ref 22, .int (Int32.ofInt 26), .int (Int32.ofInt a2), .int (Int32.ofInt a3)] (zMi c0 c1 c2 c3 c4 c5 c6 c7 c8 c9 c10 c11 c12 c13 f0 f9 f10 f11 f12 f13 f15 f16 f17 f20 f21 f22 f23 f26 f28 f31 f32 f33 f38 f41 f44 x14 g15 g16 g17 g18 g19 g20 g21 g22 g23 g24 g25 g26 g27 g28 g29 g30 g31 g32 g33 g34 g35 g36 g37 g38 g39 g40 g41 g42 g43 g44 t) 0 0 Q := by
  refine zCl_i (M := kX12_copyRow) rfl (Nat.le_of_ble_eq_true rfl) fun R hR => ?_
  iterate 2 refine hR (?_ : R (_, _, _, _, _, _))
  have lp3 : ∀ (N : Nat) (i : Int) (q22_3 : Nat → Int32), (0 ≤ i ∧ i ≤ 26) → (q22_3 = cpR g22 26 a2.toNat a3.toNat i.toNat) → (26 - i < N) → R (3, [some (.ref 22), some (.int (Int32.ofInt 26)), some (.int (Int32.ofInt a2)), some (.int (Int32.ofInt a3)), some (.int (Int32.ofInt i))], [], (zMi c0 c1 c2 c3 c4 c5 c6 c7 c8 c9 c10 c11 c12 c13 f0 f9 f10 f11 f12 f13 f15 f16 f17 f20 f21 f22 f23 f26 f28 f31 f32 f33 f38 f41 f44 x14 g15 g16 g17 g18 g19 g20 g21 q22_3 g23 g24 g25 g26 g27 g28 g29 g30 g31 g32 g33 g34 g35 g36 g37 g38 g39 g40 g41 g42 g43 g44 t), 0, 0) := by
    intro N
    induction N with
    | zero => intros; omega
    | succ N ih3 =>
      intro i q22_3 hf0_3 hp0_3 hN3
      iterate 2 refine hR (?_ : R (_, _, _, _, _, _))
      refine hR (j_ge (by omega) (by omega) (fun hc1 => ?_) (fun hc1 => ?_))
      · skip
        exact hR (zret_i rfl (Nat.le_refl _) rfl (h _ (cpR_e hp0_3 (by omega))))
      iterate 3 refine hR (?_ : R (_, _, _, _, _, _))
      refine hR (t_mul ?_)
      refine hR (?_ : R (_, _, _, _, _, _))
      refine hR (t_add ?_)
      iterate 3 refine hR (?_ : R (_, _, _, _, _, _))
      refine hR (t_mul ?_)
      refine hR (?_ : R (_, _, _, _, _, _))
      refine hR (t_add ?_)
      refine hR (t_ldE (by omega) (by omega) (Nat.le_of_ble_eq_true rfl) fun v2 ev2 rv2 => ?_)
      refine hR (t_st (by omega) (by omega) (Nat.le_of_ble_eq_true rfl) (?_ : R (_, _, _, (zMi c0 c1 c2 c3 c4 c5 c6 c7 c8 c9 c10 c11 c12 c13 f0 f9 f10 f11 f12 f13 f15 f16 f17 f20 f21 f22 f23 f26 f28 f31 f32 f33 f38 f41 f44 x14 g15 g16 g17 g18 g19 g20 g21 (upd q22_3 ((26 * a3) + i).toNat (Int32.ofInt v2)) g23 g24 g25 g26 g27 g28 g29 g30 g31 g32 g33 g34 g35 g36 g37 g38 g39 g40 g41 g42 g43 g44 t), _, _)))
      refine hR (t_inc ?_)
      refine hR (?_ : R (_, _, _, _, _, _))
      exact ih3 _ _ (by omega) (cpR_s hp0_3 (by omega) (by omega) (by omega) (by omega) (by omega) ev2) (by omega)
  exact lp3 400000000 _ _ (by omega) (cpR_0 _ _ _ _) (by omega)
theorem m_copyAll (d : Nat) (a1 a2 : Int) (hr0 : 0 ≤ a1 ∧ a1 ≤ 3) (hr1 : 0 ≤ a2 ∧ a2 ≤ 3) (hr2 : a1 ≠ a2) (Q : zQ) (h : ∀ (k15 : Nat → Int32) (k16 : Nat → Int32) (k17 : Nat → Int32) (k18 : Nat → Int32) (k19 : Nat → Int32) (k20 : Nat → Int32) (k21 : Nat → Int32) (k22 : Nat → Int32), (k16 = cpR g16 1 a1.toNat a2.toNat 1) → (k17 = cpR g17 1 a1.toNat a2.toNat 1) → (k18 = cpR g18 1 a1.toNat a2.toNat 1) → (k19 = cpR g19 3 a1.toNat a2.toNat 3) → (k20 = cpR g20 102 a1.toNat a2.toNat 102) → (k21 = cpR g21 242 a1.toNat a2.toNat 242) → (k22 = cpR g22 26 a1.toNat a2.toNat 26) → Q (none) (zMi c0 c1 c2 c3 c4 c5 c6 c7 c8 c9 c10 c11 c12 c13 f0 f9 f10 f11 f12 f13 f15 f16 f17 f20 f21 f22 f23 f26 f28 f31 f32 f33 f38 f41 f44 x14 k15 k16 k17 k18 k19 k20 k21 k22 g23 g24 g25 g26 g27 g28 g29 g30 g31 g32 g33 g34 g35 g36 g37 g38 g39 g40 g41 g42 g43 g44 t)) : zCl zTab (d + 2) iX12_copyAll [.ref 14, .int (Int32.ofInt a1), .int (Int32.ofInt a2)] (zMi c0 c1 c2 c3 c4 c5 c6 c7 c8 c9 c10 c11 c12 c13 f0 f9 f10 f11 f12 f13 f15 f16 f17 f20 f21 f22 f23 f26 f28 f31 f32 f33 f38 f41 f44 x14 g15 g16 g17 g18 g19 g20 g21 g22 g23 g24 g25 g26 g27 g28 g29 g30 g31 g32 g33 g34 g35 g36 g37 g38 g39 g40 g41 g42 g43 g44 t) 0 0 Q := by
  refine zCl_i (M := kX12_copyAll) rfl (Nat.le_of_ble_eq_true rfl) fun R hR => ?_
  iterate 2 refine hR (?_ : R (_, _, _, _, _, _))
  have lp2 : ∀ (N : Nat) (i : Int) (q15_2 : Nat → Int32), (0 ≤ i ∧ i ≤ 600) → (600 - i < N) → R (2, [some (.ref 14), some (.int (Int32.ofInt a1)), some (.int (Int32.ofInt a2)), some (.int (Int32.ofInt i))], [], (zMi c0 c1 c2 c3 c4 c5 c6 c7 c8 c9 c10 c11 c12 c13 f0 f9 f10 f11 f12 f13 f15 f16 f17 f20 f21 f22 f23 f26 f28 f31 f32 f33 f38 f41 f44 x14 q15_2 g16 g17 g18 g19 g20 g21 g22 g23 g24 g25 g26 g27 g28 g29 g30 g31 g32 g33 g34 g35 g36 g37 g38 g39 g40 g41 g42 g43 g44 t), 0, 0) := by
    intro N
    induction N with
    | zero => intros; omega
    | succ N ih2 =>
      intro i q15_2 hf0_2 hN2
      refine hR (?_ : R (_, _, _, _, _, _))
      refine hR (t_c 600 (by decide) ?_)
      refine hR (j_ge (by omega) (by omega) (fun hc1 => ?_) (fun hc1 => ?_))
      rotate_left
      · skip
        iterate 2 refine hR (?_ : R (_, _, _, _, _, _))
        refine hR (t_c 600 (by decide) ?_)
        refine hR (?_ : R (_, _, _, _, _, _))
        refine hR (t_mul ?_)
        refine hR (?_ : R (_, _, _, _, _, _))
        refine hR (t_add ?_)
        iterate 2 refine hR (?_ : R (_, _, _, _, _, _))
        refine hR (t_c 600 (by decide) ?_)
        refine hR (?_ : R (_, _, _, _, _, _))
        refine hR (t_mul ?_)
        refine hR (?_ : R (_, _, _, _, _, _))
        refine hR (t_add ?_)
        refine hR (t_ldo (by omega) (by omega) (Nat.le_of_ble_eq_true rfl) fun v16 rv16 => ?_)
        refine hR (t_stx (by omega) (by omega) (Nat.le_of_ble_eq_true rfl) fun k15_17 => (?_ : R (_, _, _, (zMi c0 c1 c2 c3 c4 c5 c6 c7 c8 c9 c10 c11 c12 c13 f0 f9 f10 f11 f12 f13 f15 f16 f17 f20 f21 f22 f23 f26 f28 f31 f32 f33 f38 f41 f44 x14 k15_17 g16 g17 g18 g19 g20 g21 g22 g23 g24 g25 g26 g27 g28 g29 g30 g31 g32 g33 g34 g35 g36 g37 g38 g39 g40 g41 g42 g43 g44 t), _, _)))
        refine hR (t_inc ?_)
        refine hR (?_ : R (_, _, _, _, _, _))
        exact ih2 _ _ (by omega) (by omega)
      iterate 5 refine hR (?_ : R (_, _, _, _, _, _))
      refine hR (zcall_i 0 0 (Nat.le_of_ble_eq_true rfl) (Nat.le_of_ble_eq_true rfl) (m_copyRow16 _ a1 a2 (by omega) (by omega) (by omega) _ fun k16_2 hp3 => ?_))
      refine (?_ : R (_, _, [], (zMi c0 c1 c2 c3 c4 c5 c6 c7 c8 c9 c10 c11 c12 c13 f0 f9 f10 f11 f12 f13 f15 f16 f17 f20 f21 f22 f23 f26 f28 f31 f32 f33 f38 f41 f44 x14 q15_2 k16_2 g17 g18 g19 g20 g21 g22 g23 g24 g25 g26 g27 g28 g29 g30 g31 g32 g33 g34 g35 g36 g37 g38 g39 g40 g41 g42 g43 g44 t), 0, 0))
      iterate 5 refine hR (?_ : R (_, _, _, _, _, _))
      refine hR (zcall_i 0 0 (Nat.le_of_ble_eq_true rfl) (Nat.le_of_ble_eq_true rfl) (m_copyRow17 _ a1 a2 (by omega) (by omega) (by omega) _ fun k17_4 hp5 => ?_))
      refine (?_ : R (_, _, [], (zMi c0 c1 c2 c3 c4 c5 c6 c7 c8 c9 c10 c11 c12 c13 f0 f9 f10 f11 f12 f13 f15 f16 f17 f20 f21 f22 f23 f26 f28 f31 f32 f33 f38 f41 f44 x14 q15_2 k16_2 k17_4 g18 g19 g20 g21 g22 g23 g24 g25 g26 g27 g28 g29 g30 g31 g32 g33 g34 g35 g36 g37 g38 g39 g40 g41 g42 g43 g44 t), 0, 0))
      iterate 5 refine hR (?_ : R (_, _, _, _, _, _))
      refine hR (zcall_i 0 0 (Nat.le_of_ble_eq_true rfl) (Nat.le_of_ble_eq_true rfl) (m_copyRow18 _ a1 a2 (by omega) (by omega) (by omega) _ fun k18_6 hp7 => ?_))
      refine (?_ : R (_, _, [], (zMi c0 c1 c2 c3 c4 c5 c6 c7 c8 c9 c10 c11 c12 c13 f0 f9 f10 f11 f12 f13 f15 f16 f17 f20 f21 f22 f23 f26 f28 f31 f32 f33 f38 f41 f44 x14 q15_2 k16_2 k17_4 k18_6 g19 g20 g21 g22 g23 g24 g25 g26 g27 g28 g29 g30 g31 g32 g33 g34 g35 g36 g37 g38 g39 g40 g41 g42 g43 g44 t), 0, 0))
      iterate 5 refine hR (?_ : R (_, _, _, _, _, _))
      refine hR (zcall_i 0 0 (Nat.le_of_ble_eq_true rfl) (Nat.le_of_ble_eq_true rfl) (m_copyRow19 _ a1 a2 (by omega) (by omega) (by omega) _ fun k19_8 hp9 => ?_))
      refine (?_ : R (_, _, [], (zMi c0 c1 c2 c3 c4 c5 c6 c7 c8 c9 c10 c11 c12 c13 f0 f9 f10 f11 f12 f13 f15 f16 f17 f20 f21 f22 f23 f26 f28 f31 f32 f33 f38 f41 f44 x14 q15_2 k16_2 k17_4 k18_6 k19_8 g20 g21 g22 g23 g24 g25 g26 g27 g28 g29 g30 g31 g32 g33 g34 g35 g36 g37 g38 g39 g40 g41 g42 g43 g44 t), 0, 0))
      iterate 2 refine hR (?_ : R (_, _, _, _, _, _))
      refine hR (t_c 102 (by decide) ?_)
      iterate 2 refine hR (?_ : R (_, _, _, _, _, _))
      refine hR (zcall_i 0 0 (Nat.le_of_ble_eq_true rfl) (Nat.le_of_ble_eq_true rfl) (m_copyRow20 _ a1 a2 (by omega) (by omega) (by omega) _ fun k20_10 hp11 => ?_))
      refine (?_ : R (_, _, [], (zMi c0 c1 c2 c3 c4 c5 c6 c7 c8 c9 c10 c11 c12 c13 f0 f9 f10 f11 f12 f13 f15 f16 f17 f20 f21 f22 f23 f26 f28 f31 f32 f33 f38 f41 f44 x14 q15_2 k16_2 k17_4 k18_6 k19_8 k20_10 g21 g22 g23 g24 g25 g26 g27 g28 g29 g30 g31 g32 g33 g34 g35 g36 g37 g38 g39 g40 g41 g42 g43 g44 t), 0, 0))
      iterate 2 refine hR (?_ : R (_, _, _, _, _, _))
      refine hR (t_c 242 (by decide) ?_)
      iterate 2 refine hR (?_ : R (_, _, _, _, _, _))
      refine hR (zcall_i 0 0 (Nat.le_of_ble_eq_true rfl) (Nat.le_of_ble_eq_true rfl) (m_copyRow21 _ a1 a2 (by omega) (by omega) (by omega) _ fun k21_12 hp13 => ?_))
      refine (?_ : R (_, _, [], (zMi c0 c1 c2 c3 c4 c5 c6 c7 c8 c9 c10 c11 c12 c13 f0 f9 f10 f11 f12 f13 f15 f16 f17 f20 f21 f22 f23 f26 f28 f31 f32 f33 f38 f41 f44 x14 q15_2 k16_2 k17_4 k18_6 k19_8 k20_10 k21_12 g22 g23 g24 g25 g26 g27 g28 g29 g30 g31 g32 g33 g34 g35 g36 g37 g38 g39 g40 g41 g42 g43 g44 t), 0, 0))
      iterate 2 refine hR (?_ : R (_, _, _, _, _, _))
      refine hR (t_c 26 (by decide) ?_)
      iterate 2 refine hR (?_ : R (_, _, _, _, _, _))
      refine hR (zcall_i 0 0 (Nat.le_of_ble_eq_true rfl) (Nat.le_of_ble_eq_true rfl) (m_copyRow22 _ a1 a2 (by omega) (by omega) (by omega) _ fun k22_14 hp15 => ?_))
      refine (?_ : R (_, _, [], (zMi c0 c1 c2 c3 c4 c5 c6 c7 c8 c9 c10 c11 c12 c13 f0 f9 f10 f11 f12 f13 f15 f16 f17 f20 f21 f22 f23 f26 f28 f31 f32 f33 f38 f41 f44 x14 q15_2 k16_2 k17_4 k18_6 k19_8 k20_10 k21_12 k22_14 g23 g24 g25 g26 g27 g28 g29 g30 g31 g32 g33 g34 g35 g36 g37 g38 g39 g40 g41 g42 g43 g44 t), 0, 0))
      exact hR (zret_i rfl (Nat.le_refl _) rfl (h _ _ _ _ _ _ _ _ hp3 hp5 hp7 hp9 hp11 hp13 hp15))
  exact lp2 400000000 _ _ (by omega) (by omega)
end MZ
/-! a book's row, a year's row -/
noncomputable def bkR (T : Nat → Int32) : Prop := (0 ≤ (T 0).toInt ∧ (T 0).toInt ≤ 5460) ∧ (0 ≤ (T 1).toInt ∧ (T 1).toInt ≤ 5) ∧ (∀ j, 2 ≤ j → j < 6 → 0 ≤ (T j).toInt ∧ (T j).toInt ≤ 3) ∧ (∀ j, 6 ≤ j → j < 11 → 0 ≤ (T j).toInt ∧ (T j).toInt ≤ 4) ∧ (∀ j, j < 20 → (0 ≤ (T (11 + 2 * j)).toInt ∧ (T (11 + 2 * j)).toInt ≤ 4) ∧ (0 ≤ (T (12 + 2 * j)).toInt ∧ (T (12 + 2 * j)).toInt ≤ 6) ∧ ((T (11 + 2 * j)).toInt = 0 → (T (12 + 2 * j)).toInt ≤ 3) ∧ (1 ≤ (T (11 + 2 * j)).toInt → (T (11 + 2 * j)).toInt ≤ 3 → 1 ≤ (T (12 + 2 * j)).toInt))
noncomputable def bkOK (g : Nat → Int32) : Prop := ∀ b, b < 8 → bkR (fun j => g (51 * b + j))
theorem bk_ix {g : Nat → Int32} {f a v : Int} (hf : 0 ≤ f) (ha : 0 ≤ a) (h : v = (g (51 * f + a).toNat).toInt) : v = (g (51 * f.toNat + a.toNat)).toInt := by
  rw [h, show (51 * f + a).toNat = 51 * f.toNat + a.toNat by omega]
theorem bk_of0 {g : Nat → Int32} {f v : Int} (hg : bkOK g) (hf : 0 ≤ f) (hf1 : f ≤ 7) (h : v = (g (51 * f.toNat + 0)).toInt) : 0 ≤ v ∧ v ≤ 5460 := by
  rw [h]; exact (hg f.toNat (by omega)).1
theorem bk_of1 {g : Nat → Int32} {f v : Int} (hg : bkOK g) (hf : 0 ≤ f) (hf1 : f ≤ 7) (h : v = (g (51 * f.toNat + 1)).toInt) : 0 ≤ v ∧ v ≤ 5 := by
  rw [h]; exact (hg f.toNat (by omega)).2.1
theorem bk_ofK {g : Nat → Int32} {f a v : Int} (hg : bkOK g) (hf : 0 ≤ f) (hf1 : f ≤ 7) (ha : 2 ≤ a) (ha1 : a ≤ 5) (h : v = (g (51 * f.toNat + a.toNat)).toInt) : 0 ≤ v ∧ v ≤ 3 := by
  rw [h]; exact (hg f.toNat (by omega)).2.2.1 a.toNat (by omega) (by omega)
theorem bk_ofM {g : Nat → Int32} {f a v : Int} (hg : bkOK g) (hf : 0 ≤ f) (hf1 : f ≤ 7) (ha : 6 ≤ a) (ha1 : a ≤ 10) (h : v = (g (51 * f.toNat + a.toNat)).toInt) : 0 ≤ v ∧ v ≤ 4 := by
  rw [h]; exact (hg f.toNat (by omega)).2.2.2.1 a.toNat (by omega) (by omega)
theorem bk_ofS {g : Nat → Int32} {f a v : Int} (hg : bkOK g) (hf : 0 ≤ f) (hf1 : f ≤ 7) (ha : 11 ≤ a) (ha1 : a ≤ 50) (h : v = (g (51 * f.toNat + a.toNat)).toInt) : 0 ≤ v ∧ v ≤ 6 := by
  obtain ⟨k1, k2, -, -⟩ := (hg f.toNat (by omega)).2.2.2.2 ((a.toNat - 11) / 2) (by omega)
  dsimp only at k1 k2
  rcases Nat.mod_two_eq_zero_or_one (a.toNat - 11) with z | z
  · have e2 : 11 + 2 * ((a.toNat - 11) / 2) = a.toNat := by omega
    rw [e2] at k1
    rw [h]; omega
  · have e2 : 12 + 2 * ((a.toNat - 11) / 2) = a.toNat := by omega
    rw [e2] at k2
    rw [h]; omega
theorem zp4_b {i : Int} (h0 : 0 ≤ i) (h1 : i ≤ 6) : (4 : Int) ^ i.toNat ≤ 4096 := by
  have h : i = 0 ∨ i = 1 ∨ i = 2 ∨ i = 3 ∨ i = 4 ∨ i = 5 ∨ i = 6 := by omega
  rcases h with rfl | rfl | rfl | rfl | rfl | rfl | rfl <;> decide
theorem bk_st {g : Nat → Int32} (hg : bkOK g) {b r k : Nat} (hb : b < 8) (hr : r ≤ 4) (hk : k ≤ 3) : (0 ≤ (g (51 * b + (11 + 8 * r + 2 * k))).toInt ∧ (g (51 * b + (11 + 8 * r + 2 * k))).toInt ≤ 4) ∧ (0 ≤ (g (51 * b + (12 + 8 * r + 2 * k))).toInt ∧ (g (51 * b + (12 + 8 * r + 2 * k))).toInt ≤ 6) ∧ ((g (51 * b + (11 + 8 * r + 2 * k))).toInt = 0 → (g (51 * b + (12 + 8 * r + 2 * k))).toInt ≤ 3) ∧ (1 ≤ (g (51 * b + (11 + 8 * r + 2 * k))).toInt → (g (51 * b + (11 + 8 * r + 2 * k))).toInt ≤ 3 → 1 ≤ (g (51 * b + (12 + 8 * r + 2 * k))).toInt) := by
  obtain ⟨-, -, -, -, h4⟩ := hg b hb
  have h := h4 (4 * r + k) (by omega)
  rw [show 11 + 8 * r + 2 * k = 11 + 2 * (4 * r + k) by omega, show 12 + 8 * r + 2 * k = 12 + 2 * (4 * r + k) by omega]
  exact h
theorem zp4_s {i fg w : Int} (hi : 0 ≤ i) (h : fg < 4 ^ i.toNat) (hw : w ≤ 3) : 4 * fg + w < 4 ^ (i + 1).toNat := by
  rw [show (i + 1).toNat = i.toNat + 1 by omega, Int.pow_succ]
  omega
theorem zp4_e {i a fg : Int} (h : fg < 4 ^ i.toNat) (e : i = a) : fg < 4 ^ a.toNat := by rw [← e]; exact h
theorem tSh_b {i : Int} (h0 : 0 ≤ i) (h1 : i ≤ 6) : (tSh i.toNat : Int) + 4 ^ i.toNat ≤ 5461 := by
  have h : i = 0 ∨ i = 1 ∨ i = 2 ∨ i = 3 ∨ i = 4 ∨ i = 5 ∨ i = 6 := by omega
  rcases h with rfl | rfl | rfl | rfl | rfl | rfl | rfl <;> decide
theorem nI_oi {a : Int} (h : 0 ≤ a) : Int32.ofInt a = nI a.toNat := by
  rw [← Int.toNat_of_nonneg h]; rfl
theorem m_shorter (d : Nat) (a1 : Int) (w : zW) (hr0 : 0 ≤ a1 ∧ a1 ≤ 7) (Q : zQ) (h : ∀ (v : Int), (v = (tSh a1.toNat : Int)) → (0 ≤ v ∧ v ≤ 5461) → Q (some (.int (Int32.ofInt v))) w) : zCl zTab (d + 1) iX12_shorter [.int (Int32.ofInt a1)] w 0 0 Q := by
  refine p_shorter d _ a1.toNat (nI_oi hr0.1) (by omega) w Q ?_
  have h8 := tSh7 a1.toNat (by omega)
  have h9 : tSh a1.toNat ≤ 5461 := by
    have h : a1 = 0 ∨ a1 = 1 ∨ a1 = 2 ∨ a1 = 3 ∨ a1 = 4 ∨ a1 = 5 ∨ a1 = 6 ∨ a1 = 7 := by omega
    rcases h with rfl | rfl | rfl | rfl | rfl | rfl | rfl | rfl <;> decide
  exact h (tSh a1.toNat : Int) rfl (by omega)
theorem m_sizeOf (d : Nat) (a1 : Int) (w : zW) (hr0 : 0 ≤ a1 ∧ a1 ≤ 5460) (Q : zQ) (h : ∀ (v : Int), (v = (tLen a1.toNat : Int)) → (0 ≤ v ∧ v ≤ 6) → Q (some (.int (Int32.ofInt v))) w) : zCl zTab (d + 2) iX12_sizeOf [.int (Int32.ofInt a1)] w 0 0 Q := by
  refine p_sizeOf d _ a1.toNat (nI_oi hr0.1) (by omega) w Q ?_
  have h6 := tLen_le a1.toNat
  exact h (tLen a1.toNat : Int) rfl (by omega)
section MZ
variable {c0 c1 c2 c3 c4 c5 c6 c7 c8 c9 c10 c11 c12 c13 : va_E} {f0 f9 f10 f11 f12 f13 f15 f16 f17 f20 f21 f22 f23 f26 f28 f31 f32 f33 f38 f41 f44 : Int} {x14 : Int64} {g15 g16 g17 g18 g19 g20 g21 g22 g23 g24 g25 g26 g27 g28 g29 g30 g31 g32 g33 g34 g35 g36 g37 g38 g39 g40 g41 g42 g43 g44 : Nat → Int32} {t : zW}
theorem m_apart (d : Nat) (a1 a2 : Int) (hb25 : zB 0 3 g25) (hb26 : zB 0 3 g26) (hr2 : 0 ≤ a1 ∧ a1 ≤ 5460) (hr3 : 0 ≤ a2 ∧ a2 ≤ 5460) (Q : zQ) (h : ∀ (v : Int) (k25 : Nat → Int32) (k26 : Nat → Int32) (k27 : Nat → Int32), zB 0 3 k25 → zB 0 3 k26 → (v = (eD (tW a1.toNat) (tW a2.toNat) (tLen a1.toNat) (tLen a2.toNat) : Int)) → (0 ≤ v ∧ v ≤ 12) → Q (some (.int (Int32.ofInt v))) (zMi c0 c1 c2 c3 c4 c5 c6 c7 c8 c9 c10 c11 c12 c13 f0 f9 f10 f11 f12 f13 f15 f16 f17 f20 f21 f22 f23 f26 f28 f31 f32 f33 f38 f41 f44 x14 g15 g16 g17 g18 g19 g20 g21 g22 g23 g24 k25 k26 k27 g28 g29 g30 g31 g32 g33 g34 g35 g36 g37 g38 g39 g40 g41 g42 g43 g44 t)) : zCl zTab (d + 4) iX12_apart [.ref 14, .int (Int32.ofInt a1), .int (Int32.ofInt a2)] (zMi c0 c1 c2 c3 c4 c5 c6 c7 c8 c9 c10 c11 c12 c13 f0 f9 f10 f11 f12 f13 f15 f16 f17 f20 f21 f22 f23 f26 f28 f31 f32 f33 f38 f41 f44 x14 g15 g16 g17 g18 g19 g20 g21 g22 g23 g24 g25 g26 g27 g28 g29 g30 g31 g32 g33 g34 g35 g36 g37 g38 g39 g40 g41 g42 g43 g44 t) 0 0 Q := by
  refine p_apart d _ _ a1.toNat a2.toNat (nI_oi (by omega)) (by omega) (nI_oi (by omega)) (by omega) Q ?_
  intro fa fb T h1 h2
  have h3 := eD_le (tW a1.toNat) (tW a2.toNat) (tLen a1.toNat) (tLen a2.toNat)
  have h4 := tLen_le a1.toNat
  have h5 := tLen_le a2.toNat
  exact h (eD (tW a1.toNat) (tW a2.toNat) (tLen a1.toNat) (tLen a2.toNat) : Int) fa fb T (h1 hb25) (h2 hb26) rfl (by omega)
theorem m_spell25 (d : Nat) (a1 : Int) (hb25 : zB 0 3 g25) (hr1 : 0 ≤ a1 ∧ a1 ≤ 5460) (Q : zQ) (h : ∀ (k25 : Nat → Int32), zB 0 3 k25 → Q (none) (zMi c0 c1 c2 c3 c4 c5 c6 c7 c8 c9 c10 c11 c12 c13 f0 f9 f10 f11 f12 f13 f15 f16 f17 f20 f21 f22 f23 f26 f28 f31 f32 f33 f38 f41 f44 x14 g15 g16 g17 g18 g19 g20 g21 g22 g23 g24 k25 g26 g27 g28 g29 g30 g31 g32 g33 g34 g35 g36 g37 g38 g39 g40 g41 g42 g43 g44 t)) : zCl zTab (d + 3) iX12_spell [.int (Int32.ofInt a1), .ref 25] (zMi c0 c1 c2 c3 c4 c5 c6 c7 c8 c9 c10 c11 c12 c13 f0 f9 f10 f11 f12 f13 f15 f16 f17 f20 f21 f22 f23 f26 f28 f31 f32 f33 f38 f41 f44 x14 g15 g16 g17 g18 g19 g20 g21 g22 g23 g24 g25 g26 g27 g28 g29 g30 g31 g32 g33 g34 g35 g36 g37 g38 g39 g40 g41 g42 g43 g44 t) 0 0 Q := by
  exact p_spell25 d _ a1.toNat (nI_oi hr1.1) (by omega) Q fun f _ hB => h f (hB hb25)
theorem m_ofK (d : Nat) (a1 : Int) (hr0 : bkOK g20) (hr1 : 0 ≤ f20 ∧ f20 ≤ 1) (hr2 : 2 ≤ a1 ∧ a1 ≤ 5) (Q : zQ) (h : ∀ (v : Int), (v = (g20 (51 * f20.toNat + a1.toNat)).toInt) → (0 ≤ v ∧ v ≤ 3) → Q (some (.int (Int32.ofInt v))) (zMi c0 c1 c2 c3 c4 c5 c6 c7 c8 c9 c10 c11 c12 c13 f0 f9 f10 f11 f12 f13 f15 f16 f17 f20 f21 f22 f23 f26 f28 f31 f32 f33 f38 f41 f44 x14 g15 g16 g17 g18 g19 g20 g21 g22 g23 g24 g25 g26 g27 g28 g29 g30 g31 g32 g33 g34 g35 g36 g37 g38 g39 g40 g41 g42 g43 g44 t)) : zCl zTab (d + 1) iX12_of [.ref 14, .int (Int32.ofInt a1)] (zMi c0 c1 c2 c3 c4 c5 c6 c7 c8 c9 c10 c11 c12 c13 f0 f9 f10 f11 f12 f13 f15 f16 f17 f20 f21 f22 f23 f26 f28 f31 f32 f33 f38 f41 f44 x14 g15 g16 g17 g18 g19 g20 g21 g22 g23 g24 g25 g26 g27 g28 g29 g30 g31 g32 g33 g34 g35 g36 g37 g38 g39 g40 g41 g42 g43 g44 t) 0 0 Q := by
  refine zCl_i (M := kX12_of) rfl (Nat.le_of_ble_eq_true rfl) fun R hR => ?_
  iterate 2 refine hR (?_ : R (_, _, _, _, _, _))
  refine hR (t_c 51 (by decide) ?_)
  iterate 2 refine hR (?_ : R (_, _, _, _, _, _))
  refine hR (t_mul ?_)
  refine hR (?_ : R (_, _, _, _, _, _))
  refine hR (t_add ?_)
  refine hR (t_ldE (by omega) (by omega) (Nat.le_of_ble_eq_true rfl) fun v1 ev1 rv1 => ?_)
  exact hR (zret_i rfl (Nat.le_refl _) trivial (h _ (bk_ix (by omega) (by omega) ev1) (bk_ofK hr0 (by omega) (by omega) (by omega) (by omega) (bk_ix (by omega) (by omega) ev1))))
theorem m_ofM (d : Nat) (a1 : Int) (hr0 : bkOK g20) (hr1 : 0 ≤ f20 ∧ f20 ≤ 1) (hr2 : 6 ≤ a1 ∧ a1 ≤ 10) (Q : zQ) (h : ∀ (v : Int), (v = (g20 (51 * f20.toNat + a1.toNat)).toInt) → (0 ≤ v ∧ v ≤ 4) → Q (some (.int (Int32.ofInt v))) (zMi c0 c1 c2 c3 c4 c5 c6 c7 c8 c9 c10 c11 c12 c13 f0 f9 f10 f11 f12 f13 f15 f16 f17 f20 f21 f22 f23 f26 f28 f31 f32 f33 f38 f41 f44 x14 g15 g16 g17 g18 g19 g20 g21 g22 g23 g24 g25 g26 g27 g28 g29 g30 g31 g32 g33 g34 g35 g36 g37 g38 g39 g40 g41 g42 g43 g44 t)) : zCl zTab (d + 1) iX12_of [.ref 14, .int (Int32.ofInt a1)] (zMi c0 c1 c2 c3 c4 c5 c6 c7 c8 c9 c10 c11 c12 c13 f0 f9 f10 f11 f12 f13 f15 f16 f17 f20 f21 f22 f23 f26 f28 f31 f32 f33 f38 f41 f44 x14 g15 g16 g17 g18 g19 g20 g21 g22 g23 g24 g25 g26 g27 g28 g29 g30 g31 g32 g33 g34 g35 g36 g37 g38 g39 g40 g41 g42 g43 g44 t) 0 0 Q := by
  refine zCl_i (M := kX12_of) rfl (Nat.le_of_ble_eq_true rfl) fun R hR => ?_
  iterate 2 refine hR (?_ : R (_, _, _, _, _, _))
  refine hR (t_c 51 (by decide) ?_)
  iterate 2 refine hR (?_ : R (_, _, _, _, _, _))
  refine hR (t_mul ?_)
  refine hR (?_ : R (_, _, _, _, _, _))
  refine hR (t_add ?_)
  refine hR (t_ldE (by omega) (by omega) (Nat.le_of_ble_eq_true rfl) fun v1 ev1 rv1 => ?_)
  exact hR (zret_i rfl (Nat.le_refl _) trivial (h _ (bk_ix (by omega) (by omega) ev1) (bk_ofM hr0 (by omega) (by omega) (by omega) (by omega) (bk_ix (by omega) (by omega) ev1))))
theorem m_ofS (d : Nat) (a1 : Int) (hr0 : bkOK g20) (hr1 : 0 ≤ f20 ∧ f20 ≤ 1) (hr2 : 11 ≤ a1 ∧ a1 ≤ 50) (Q : zQ) (h : ∀ (v : Int), (v = (g20 (51 * f20.toNat + a1.toNat)).toInt) → (0 ≤ v ∧ v ≤ 6) → Q (some (.int (Int32.ofInt v))) (zMi c0 c1 c2 c3 c4 c5 c6 c7 c8 c9 c10 c11 c12 c13 f0 f9 f10 f11 f12 f13 f15 f16 f17 f20 f21 f22 f23 f26 f28 f31 f32 f33 f38 f41 f44 x14 g15 g16 g17 g18 g19 g20 g21 g22 g23 g24 g25 g26 g27 g28 g29 g30 g31 g32 g33 g34 g35 g36 g37 g38 g39 g40 g41 g42 g43 g44 t)) : zCl zTab (d + 1) iX12_of [.ref 14, .int (Int32.ofInt a1)] (zMi c0 c1 c2 c3 c4 c5 c6 c7 c8 c9 c10 c11 c12 c13 f0 f9 f10 f11 f12 f13 f15 f16 f17 f20 f21 f22 f23 f26 f28 f31 f32 f33 f38 f41 f44 x14 g15 g16 g17 g18 g19 g20 g21 g22 g23 g24 g25 g26 g27 g28 g29 g30 g31 g32 g33 g34 g35 g36 g37 g38 g39 g40 g41 g42 g43 g44 t) 0 0 Q := by
  refine zCl_i (M := kX12_of) rfl (Nat.le_of_ble_eq_true rfl) fun R hR => ?_
  iterate 2 refine hR (?_ : R (_, _, _, _, _, _))
  refine hR (t_c 51 (by decide) ?_)
  iterate 2 refine hR (?_ : R (_, _, _, _, _, _))
  refine hR (t_mul ?_)
  refine hR (?_ : R (_, _, _, _, _, _))
  refine hR (t_add ?_)
  refine hR (t_ldE (by omega) (by omega) (Nat.le_of_ble_eq_true rfl) fun v1 ev1 rv1 => ?_)
  exact hR (zret_i rfl (Nat.le_refl _) trivial (h _ (bk_ix (by omega) (by omega) ev1) (bk_ofS hr0 (by omega) (by omega) (by omega) (by omega) (bk_ix (by omega) (by omega) ev1))))
theorem m_of0 (d : Nat) (hr0 : bkOK g20) (hr1 : 0 ≤ f20 ∧ f20 ≤ 1) (Q : zQ) (h : ∀ (v : Int), (v = (g20 (51 * f20.toNat + 0)).toInt) → (0 ≤ v ∧ v ≤ 5460) → Q (some (.int (Int32.ofInt v))) (zMi c0 c1 c2 c3 c4 c5 c6 c7 c8 c9 c10 c11 c12 c13 f0 f9 f10 f11 f12 f13 f15 f16 f17 f20 f21 f22 f23 f26 f28 f31 f32 f33 f38 f41 f44 x14 g15 g16 g17 g18 g19 g20 g21 g22 g23 g24 g25 g26 g27 g28 g29 g30 g31 g32 g33 g34 g35 g36 g37 g38 g39 g40 g41 g42 g43 g44 t)) : zCl zTab (d + 1) iX12_of [.ref 14, .int (Int32.ofInt 0)] (zMi c0 c1 c2 c3 c4 c5 c6 c7 c8 c9 c10 c11 c12 c13 f0 f9 f10 f11 f12 f13 f15 f16 f17 f20 f21 f22 f23 f26 f28 f31 f32 f33 f38 f41 f44 x14 g15 g16 g17 g18 g19 g20 g21 g22 g23 g24 g25 g26 g27 g28 g29 g30 g31 g32 g33 g34 g35 g36 g37 g38 g39 g40 g41 g42 g43 g44 t) 0 0 Q := by
  refine zCl_i (M := kX12_of) rfl (Nat.le_of_ble_eq_true rfl) fun R hR => ?_
  iterate 2 refine hR (?_ : R (_, _, _, _, _, _))
  refine hR (t_c 51 (by decide) ?_)
  iterate 2 refine hR (?_ : R (_, _, _, _, _, _))
  refine hR (t_mul ?_)
  refine hR (?_ : R (_, _, _, _, _, _))
  refine hR (t_add ?_)
  refine hR (t_ldE (by omega) (by omega) (Nat.le_of_ble_eq_true rfl) fun v1 ev1 rv1 => ?_)
  exact hR (zret_i rfl (Nat.le_refl _) trivial (h _ (bk_ix (a := 0) (by omega) (by omega) ev1) (bk_of0 hr0 (by omega) (by omega) (bk_ix (a := 0) (by omega) (by omega) ev1))))
theorem m_of1 (d : Nat) (hr0 : bkOK g20) (hr1 : 0 ≤ f20 ∧ f20 ≤ 1) (Q : zQ) (h : ∀ (v : Int), (v = (g20 (51 * f20.toNat + 1)).toInt) → (0 ≤ v ∧ v ≤ 5) → Q (some (.int (Int32.ofInt v))) (zMi c0 c1 c2 c3 c4 c5 c6 c7 c8 c9 c10 c11 c12 c13 f0 f9 f10 f11 f12 f13 f15 f16 f17 f20 f21 f22 f23 f26 f28 f31 f32 f33 f38 f41 f44 x14 g15 g16 g17 g18 g19 g20 g21 g22 g23 g24 g25 g26 g27 g28 g29 g30 g31 g32 g33 g34 g35 g36 g37 g38 g39 g40 g41 g42 g43 g44 t)) : zCl zTab (d + 1) iX12_of [.ref 14, .int (Int32.ofInt 1)] (zMi c0 c1 c2 c3 c4 c5 c6 c7 c8 c9 c10 c11 c12 c13 f0 f9 f10 f11 f12 f13 f15 f16 f17 f20 f21 f22 f23 f26 f28 f31 f32 f33 f38 f41 f44 x14 g15 g16 g17 g18 g19 g20 g21 g22 g23 g24 g25 g26 g27 g28 g29 g30 g31 g32 g33 g34 g35 g36 g37 g38 g39 g40 g41 g42 g43 g44 t) 0 0 Q := by
  refine zCl_i (M := kX12_of) rfl (Nat.le_of_ble_eq_true rfl) fun R hR => ?_
  iterate 2 refine hR (?_ : R (_, _, _, _, _, _))
  refine hR (t_c 51 (by decide) ?_)
  iterate 2 refine hR (?_ : R (_, _, _, _, _, _))
  refine hR (t_mul ?_)
  refine hR (?_ : R (_, _, _, _, _, _))
  refine hR (t_add ?_)
  refine hR (t_ldE (by omega) (by omega) (Nat.le_of_ble_eq_true rfl) fun v1 ev1 rv1 => ?_)
  exact hR (zret_i rfl (Nat.le_refl _) trivial (h _ (bk_ix (a := 1) (by omega) (by omega) ev1) (bk_of1 hr0 (by omega) (by omega) (bk_ix (a := 1) (by omega) (by omega) ev1))))
theorem m_hand (d : Nat) (a1 : Int) (hb19 : zB 0 2 g19) (hr1 : bkOK g20) (hr2 : -2147483648 ≤ a1 ∧ a1 ≤ 2147483647) (Q : zQ) (h : ∀ (v : Int) (y20 : Int) (y22 : Int) (y23 : Int), ((v = 1 ∧ 0 ≤ a1 ∧ a1 ≤ 1 ∧ a1 < (g19 0).toInt ∧ y20 = a1 ∧ 0 ≤ y22 ∧ y22 ≤ 5460 ∧ 0 ≤ y23 ∧ y23 ≤ 5) ∨ (v = 0 ∧ (a1 < 0 ∨ (g19 0).toInt ≤ a1))) → Q (some (.int (Int32.ofInt v))) (zMi c0 c1 c2 c3 c4 c5 c6 c7 c8 c9 c10 c11 c12 c13 f0 f9 f10 f11 f12 f13 f15 f16 f17 y20 f21 y22 y23 f26 f28 f31 f32 f33 f38 f41 f44 x14 g15 g16 g17 g18 g19 g20 g21 g22 g23 g24 g25 g26 g27 g28 g29 g30 g31 g32 g33 g34 g35 g36 g37 g38 g39 g40 g41 g42 g43 g44 t)) : zCl zTab (d + 3) iX12_hand [.ref 14, .int (Int32.ofInt a1)] (zMi c0 c1 c2 c3 c4 c5 c6 c7 c8 c9 c10 c11 c12 c13 f0 f9 f10 f11 f12 f13 f15 f16 f17 f20 f21 f22 f23 f26 f28 f31 f32 f33 f38 f41 f44 x14 g15 g16 g17 g18 g19 g20 g21 g22 g23 g24 g25 g26 g27 g28 g29 g30 g31 g32 g33 g34 g35 g36 g37 g38 g39 g40 g41 g42 g43 g44 t) 0 0 Q := by
  refine zCl_i (M := kX12_hand) rfl (Nat.le_of_ble_eq_true rfl) fun R hR => ?_
  iterate 3 refine hR (?_ : R (_, _, _, _, _, _))
  refine hR (zcall_i 0 0 (Nat.le_of_ble_eq_true rfl) (Nat.le_of_ble_eq_true rfl) (m_is _ 0 a1 hb19 (by omega) (by omega) _ fun v1 hp2 => ?_))
  refine (?_ : R (_, _, (.int (Int32.ofInt v1)) :: [], (zMi c0 c1 c2 c3 c4 c5 c6 c7 c8 c9 c10 c11 c12 c13 f0 f9 f10 f11 f12 f13 f15 f16 f17 f20 f21 f22 f23 f26 f28 f31 f32 f33 f38 f41 f44 x14 g15 g16 g17 g18 g19 g20 g21 g22 g23 g24 g25 g26 g27 g28 g29 g30 g31 g32 g33 g34 g35 g36 g37 g38 g39 g40 g41 g42 g43 g44 t), 0, 0))
  have hp2x : (v1 = 1 ∧ 0 ≤ a1 ∧ a1 < (g19 0).toInt ∧ a1 ≤ 1) ∨ (v1 = 0 ∧ (a1 < 0 ∨ (g19 0).toInt ≤ a1)) := hp2
  refine hR (k_ne (by omega) (fun hc3 => ?_) (fun hc3 => ?_))
  rotate_left
  · skip
    refine hR (?_ : R (_, _, _, _, _, _))
    exact hR (zret_i rfl (Nat.le_refl _) (zbo (by omega)) (h _ _ _ _ (by omega)))
  iterate 2 refine hR (?_ : R (_, _, _, _, _, _))
  refine hR (?_ : R (_, _, _, (zMi c0 c1 c2 c3 c4 c5 c6 c7 c8 c9 c10 c11 c12 c13 f0 f9 f10 f11 f12 f13 f15 f16 f17 a1 f21 f22 f23 f26 f28 f31 f32 f33 f38 f41 f44 x14 g15 g16 g17 g18 g19 g20 g21 g22 g23 g24 g25 g26 g27 g28 g29 g30 g31 g32 g33 g34 g35 g36 g37 g38 g39 g40 g41 g42 g43 g44 t), _, _))
  iterate 3 refine hR (?_ : R (_, _, _, _, _, _))
  refine hR (zcall_i 0 0 (Nat.le_of_ble_eq_true rfl) (Nat.le_of_ble_eq_true rfl) (m_of0 _ hr1 (by omega) _ fun v4 hp5 hp6 => ?_))
  refine (?_ : R (_, _, (.int (Int32.ofInt v4)) :: (.ref 14) :: [], (zMi c0 c1 c2 c3 c4 c5 c6 c7 c8 c9 c10 c11 c12 c13 f0 f9 f10 f11 f12 f13 f15 f16 f17 a1 f21 f22 f23 f26 f28 f31 f32 f33 f38 f41 f44 x14 g15 g16 g17 g18 g19 g20 g21 g22 g23 g24 g25 g26 g27 g28 g29 g30 g31 g32 g33 g34 g35 g36 g37 g38 g39 g40 g41 g42 g43 g44 t), 0, 0))
  refine hR (?_ : R (_, _, _, (zMi c0 c1 c2 c3 c4 c5 c6 c7 c8 c9 c10 c11 c12 c13 f0 f9 f10 f11 f12 f13 f15 f16 f17 a1 f21 v4 f23 f26 f28 f31 f32 f33 f38 f41 f44 x14 g15 g16 g17 g18 g19 g20 g21 g22 g23 g24 g25 g26 g27 g28 g29 g30 g31 g32 g33 g34 g35 g36 g37 g38 g39 g40 g41 g42 g43 g44 t), _, _))
  iterate 3 refine hR (?_ : R (_, _, _, _, _, _))
  refine hR (zcall_i 0 0 (Nat.le_of_ble_eq_true rfl) (Nat.le_of_ble_eq_true rfl) (m_of1 _ hr1 (by omega) _ fun v7 hp8 hp9 => ?_))
  refine (?_ : R (_, _, (.int (Int32.ofInt v7)) :: (.ref 14) :: [], (zMi c0 c1 c2 c3 c4 c5 c6 c7 c8 c9 c10 c11 c12 c13 f0 f9 f10 f11 f12 f13 f15 f16 f17 a1 f21 v4 f23 f26 f28 f31 f32 f33 f38 f41 f44 x14 g15 g16 g17 g18 g19 g20 g21 g22 g23 g24 g25 g26 g27 g28 g29 g30 g31 g32 g33 g34 g35 g36 g37 g38 g39 g40 g41 g42 g43 g44 t), 0, 0))
  refine hR (?_ : R (_, _, _, (zMi c0 c1 c2 c3 c4 c5 c6 c7 c8 c9 c10 c11 c12 c13 f0 f9 f10 f11 f12 f13 f15 f16 f17 a1 f21 v4 v7 f26 f28 f31 f32 f33 f38 f41 f44 x14 g15 g16 g17 g18 g19 g20 g21 g22 g23 g24 g25 g26 g27 g28 g29 g30 g31 g32 g33 g34 g35 g36 g37 g38 g39 g40 g41 g42 g43 g44 t), _, _))
  refine hR (?_ : R (_, _, _, _, _, _))
  exact hR (zret_i rfl (Nat.le_refl _) (zbo (by omega)) (h _ _ _ _ (by omega)))
theorem m_numberOf (d : Nat) (a1 : Int) (hb25 : zB 0 3 g25) (hr1 : 0 ≤ a1 ∧ a1 ≤ 6) (Q : zQ) (h : ∀ (v : Int), (0 ≤ v ∧ v ≤ 5460) → Q (some (.int (Int32.ofInt v))) (zMi c0 c1 c2 c3 c4 c5 c6 c7 c8 c9 c10 c11 c12 c13 f0 f9 f10 f11 f12 f13 f15 f16 f17 f20 f21 f22 f23 f26 f28 f31 f32 f33 f38 f41 f44 x14 g15 g16 g17 g18 g19 g20 g21 g22 g23 g24 g25 g26 g27 g28 g29 g30 g31 g32 g33 g34 g35 g36 g37 g38 g39 g40 g41 g42 g43 g44 t)) : zCl zTab (d + 2) iX12_numberOf [.ref 14, .int (Int32.ofInt a1)] (zMi c0 c1 c2 c3 c4 c5 c6 c7 c8 c9 c10 c11 c12 c13 f0 f9 f10 f11 f12 f13 f15 f16 f17 f20 f21 f22 f23 f26 f28 f31 f32 f33 f38 f41 f44 x14 g15 g16 g17 g18 g19 g20 g21 g22 g23 g24 g25 g26 g27 g28 g29 g30 g31 g32 g33 g34 g35 g36 g37 g38 g39 g40 g41 g42 g43 g44 t) 0 0 Q := by
  refine zCl_i (M := kX12_numberOf) rfl (Nat.le_of_ble_eq_true rfl) fun R hR => ?_
  iterate 4 refine hR (?_ : R (_, _, _, _, _, _))
  have lp4 : ∀ (N : Nat) (fg : Int) (i : Int), (0 ≤ fg ∧ fg ≤ 100000) → (0 ≤ i ∧ i ≤ a1) → (fg < 4 ^ i.toNat) → (a1 - i < N) → R (4, [some (.ref 14), some (.int (Int32.ofInt a1)), some (.int (Int32.ofInt fg)), some (.int (Int32.ofInt i))], [], (zMi c0 c1 c2 c3 c4 c5 c6 c7 c8 c9 c10 c11 c12 c13 f0 f9 f10 f11 f12 f13 f15 f16 f17 f20 f21 f22 f23 f26 f28 f31 f32 f33 f38 f41 f44 x14 g15 g16 g17 g18 g19 g20 g21 g22 g23 g24 g25 g26 g27 g28 g29 g30 g31 g32 g33 g34 g35 g36 g37 g38 g39 g40 g41 g42 g43 g44 t), 0, 0) := by
    intro N
    induction N with
    | zero => intros; omega
    | succ N ih4 =>
      intro fg i hf0_4 hf1_4 hp0_4 hN4
      iterate 2 refine hR (?_ : R (_, _, _, _, _, _))
      refine hR (j_ge (by omega) (by omega) (fun hc1 => ?_) (fun hc1 => ?_))
      · skip
        refine hR (?_ : R (_, _, _, _, _, _))
        refine hR (zcall_i 0 0 (Nat.le_of_ble_eq_true rfl) (Nat.le_of_ble_eq_true rfl) (m_shorter _ a1 _ (by omega) _ fun v2 hp3 hp4 => ?_))
        refine (?_ : R (_, _, (.int (Int32.ofInt v2)) :: [], (zMi c0 c1 c2 c3 c4 c5 c6 c7 c8 c9 c10 c11 c12 c13 f0 f9 f10 f11 f12 f13 f15 f16 f17 f20 f21 f22 f23 f26 f28 f31 f32 f33 f38 f41 f44 x14 g15 g16 g17 g18 g19 g20 g21 g22 g23 g24 g25 g26 g27 g28 g29 g30 g31 g32 g33 g34 g35 g36 g37 g38 g39 g40 g41 g42 g43 g44 t), 0, 0))
        have hz1 := tSh_b (i := a1) (by omega) (by omega)
        have hz2 := zp4_e hp0_4 (show i = a1 by omega)
        refine hR (?_ : R (_, _, _, _, _, _))
        refine hR (t_add ?_)
        exact hR (zret_i rfl (Nat.le_refl _) trivial (h _ (by omega)))
      have hz0 := zp4_b (i := i) (by omega) (by omega)
      iterate 2 refine hR (?_ : R (_, _, _, _, _, _))
      refine hR (t_mul ?_)
      iterate 3 refine hR (?_ : R (_, _, _, _, _, _))
      refine hR (t_ldB hb25 (by omega) (by omega) (Nat.le_of_ble_eq_true rfl) fun v5 ev5 lv5 uv5 => ?_)
      clear ev5
      refine hR (t_add ?_)
      refine hR (?_ : R (_, _, _, _, _, _))
      refine hR (t_inc ?_)
      refine hR (?_ : R (_, _, _, _, _, _))
      exact ih4 _ _ (by omega) (by omega) (zp4_s (by omega) hp0_4 (by omega)) (by omega)
  exact lp4 400000000 _ _ (by omega) (by omega) (by decide) (by omega)
theorem m_swap (d : Nat) (a1 a2 : Int) (hb25 : zB 0 3 g25) (hr1 : 0 ≤ a1 ∧ a1 ≤ 6) (hr2 : 0 ≤ a2 ∧ a2 ≤ 6) (Q : zQ) (h : ∀ (k25 : Nat → Int32), zB 0 3 k25 → Q (none) (zMi c0 c1 c2 c3 c4 c5 c6 c7 c8 c9 c10 c11 c12 c13 f0 f9 f10 f11 f12 f13 f15 f16 f17 f20 f21 f22 f23 f26 f28 f31 f32 f33 f38 f41 f44 x14 g15 g16 g17 g18 g19 g20 g21 g22 g23 g24 k25 g26 g27 g28 g29 g30 g31 g32 g33 g34 g35 g36 g37 g38 g39 g40 g41 g42 g43 g44 t)) : zCl zTab (d + 1) iX12_swap [.ref 14, .int (Int32.ofInt a1), .int (Int32.ofInt a2)] (zMi c0 c1 c2 c3 c4 c5 c6 c7 c8 c9 c10 c11 c12 c13 f0 f9 f10 f11 f12 f13 f15 f16 f17 f20 f21 f22 f23 f26 f28 f31 f32 f33 f38 f41 f44 x14 g15 g16 g17 g18 g19 g20 g21 g22 g23 g24 g25 g26 g27 g28 g29 g30 g31 g32 g33 g34 g35 g36 g37 g38 g39 g40 g41 g42 g43 g44 t) 0 0 Q := by
  refine zCl_i (M := kX12_swap) rfl (Nat.le_of_ble_eq_true rfl) fun R hR => ?_
  iterate 3 refine hR (?_ : R (_, _, _, _, _, _))
  refine hR (t_ldB hb25 (by omega) (by omega) (Nat.le_of_ble_eq_true rfl) fun v1 ev1 lv1 uv1 => ?_)
  clear ev1
  iterate 7 refine hR (?_ : R (_, _, _, _, _, _))
  refine hR (t_ldB hb25 (by omega) (by omega) (Nat.le_of_ble_eq_true rfl) fun v2 ev2 lv2 uv2 => ?_)
  clear ev2
  refine hR (t_stB hb25 (by omega) (by omega) (by omega) (by omega) (by omega) (by omega) (Nat.le_of_ble_eq_true rfl) fun k25_3 hk25_3 => (?_ : R (_, _, _, (zMi c0 c1 c2 c3 c4 c5 c6 c7 c8 c9 c10 c11 c12 c13 f0 f9 f10 f11 f12 f13 f15 f16 f17 f20 f21 f22 f23 f26 f28 f31 f32 f33 f38 f41 f44 x14 g15 g16 g17 g18 g19 g20 g21 g22 g23 g24 k25_3 g26 g27 g28 g29 g30 g31 g32 g33 g34 g35 g36 g37 g38 g39 g40 g41 g42 g43 g44 t), _, _)))
  iterate 4 refine hR (?_ : R (_, _, _, _, _, _))
  refine hR (t_stB hk25_3 (by omega) (by omega) (by omega) (by omega) (by omega) (by omega) (Nat.le_of_ble_eq_true rfl) fun k25_4 hk25_4 => (?_ : R (_, _, _, (zMi c0 c1 c2 c3 c4 c5 c6 c7 c8 c9 c10 c11 c12 c13 f0 f9 f10 f11 f12 f13 f15 f16 f17 f20 f21 f22 f23 f26 f28 f31 f32 f33 f38 f41 f44 x14 g15 g16 g17 g18 g19 g20 g21 g22 g23 g24 k25_4 g26 g27 g28 g29 g30 g31 g32 g33 g34 g35 g36 g37 g38 g39 g40 g41 g42 g43 g44 t), _, _)))
  exact hR (zret_i rfl (Nat.le_refl _) rfl (h _ hk25_4))
theorem m_shift (d : Nat) (a1 : Int) (hb25 : zB 0 3 g25) (hr1 : bkOK g20) (hr2 : 0 ≤ f20 ∧ f20 ≤ 1) (hr3 : 0 ≤ a1 ∧ a1 ≤ 3) (hr4 : 0 ≤ f26 ∧ f26 ≤ 6) (Q : zQ) (h : ∀ (k25 : Nat → Int32), zB 0 3 k25 → Q (none) (zMi c0 c1 c2 c3 c4 c5 c6 c7 c8 c9 c10 c11 c12 c13 f0 f9 f10 f11 f12 f13 f15 f16 f17 f20 f21 f22 f23 f26 f28 f31 f32 f33 f38 f41 f44 x14 g15 g16 g17 g18 g19 g20 g21 g22 g23 g24 k25 g26 g27 g28 g29 g30 g31 g32 g33 g34 g35 g36 g37 g38 g39 g40 g41 g42 g43 g44 t)) : zCl zTab (d + 2) iX12_shift [.ref 14, .int (Int32.ofInt a1)] (zMi c0 c1 c2 c3 c4 c5 c6 c7 c8 c9 c10 c11 c12 c13 f0 f9 f10 f11 f12 f13 f15 f16 f17 f20 f21 f22 f23 f26 f28 f31 f32 f33 f38 f41 f44 x14 g15 g16 g17 g18 g19 g20 g21 g22 g23 g24 g25 g26 g27 g28 g29 g30 g31 g32 g33 g34 g35 g36 g37 g38 g39 g40 g41 g42 g43 g44 t) 0 0 Q := by
  refine zCl_i (M := kX12_shift) rfl (Nat.le_of_ble_eq_true rfl) fun R hR => ?_
  iterate 2 refine hR (?_ : R (_, _, _, _, _, _))
  have lp2 : ∀ (N : Nat) (i : Int) (q25_2 : Nat → Int32), (0 ≤ i ∧ i ≤ f26) → (zB 0 3 q25_2) → (f26 - i < N) → R (2, [some (.ref 14), some (.int (Int32.ofInt a1)), some (.int (Int32.ofInt i))], [], (zMi c0 c1 c2 c3 c4 c5 c6 c7 c8 c9 c10 c11 c12 c13 f0 f9 f10 f11 f12 f13 f15 f16 f17 f20 f21 f22 f23 f26 f28 f31 f32 f33 f38 f41 f44 x14 g15 g16 g17 g18 g19 g20 g21 g22 g23 g24 q25_2 g26 g27 g28 g29 g30 g31 g32 g33 g34 g35 g36 g37 g38 g39 g40 g41 g42 g43 g44 t), 0, 0) := by
    intro N
    induction N with
    | zero => intros; omega
    | succ N ih2 =>
      intro i q25_2 hf0_2 hq25_2 hN2
      iterate 3 refine hR (?_ : R (_, _, _, _, _, _))
      refine hR (j_ge (by omega) (by omega) (fun hc1 => ?_) (fun hc1 => ?_))
      · skip
        exact hR (zret_i rfl (Nat.le_refl _) rfl (h _ hq25_2))
      iterate 6 refine hR (?_ : R (_, _, _, _, _, _))
      refine hR (t_ldB hq25_2 (by omega) (by omega) (Nat.le_of_ble_eq_true rfl) fun v2 ev2 lv2 uv2 => ?_)
      clear ev2
      refine hR (?_ : R (_, _, _, _, _, _))
      refine hR (j_ne (by omega) (by omega) (fun hc3 => ?_) (fun hc3 => ?_))
      · skip
        iterate 3 refine hR (?_ : R (_, _, _, _, _, _))
        refine hR (t_ldB hq25_2 (by omega) (by omega) (Nat.le_of_ble_eq_true rfl) fun v4 ev4 lv4 uv4 => ?_)
        clear ev4
        refine hR (t_stB hq25_2 (by omega) (by omega) (by omega) (by omega) (by omega) (by omega) (Nat.le_of_ble_eq_true rfl) fun k25_5 hk25_5 => (?_ : R (_, _, _, (zMi c0 c1 c2 c3 c4 c5 c6 c7 c8 c9 c10 c11 c12 c13 f0 f9 f10 f11 f12 f13 f15 f16 f17 f20 f21 f22 f23 f26 f28 f31 f32 f33 f38 f41 f44 x14 g15 g16 g17 g18 g19 g20 g21 g22 g23 g24 k25_5 g26 g27 g28 g29 g30 g31 g32 g33 g34 g35 g36 g37 g38 g39 g40 g41 g42 g43 g44 t), _, _)))
        refine hR (t_inc ?_)
        refine hR (?_ : R (_, _, _, _, _, _))
        exact ih2 _ _ (by omega) hk25_5 (by omega)
      iterate 3 refine hR (?_ : R (_, _, _, _, _, _))
      refine hR (t_add ?_)
      refine hR (zcall_i 0 0 (Nat.le_of_ble_eq_true rfl) (Nat.le_of_ble_eq_true rfl) (m_ofK _ (2 + a1) hr1 (by omega) (by omega) _ fun v6 hp7 hp8 => ?_))
      refine (?_ : R (_, _, (.int (Int32.ofInt v6)) :: (.int (Int32.ofInt i)) :: (.ref 25) :: [], (zMi c0 c1 c2 c3 c4 c5 c6 c7 c8 c9 c10 c11 c12 c13 f0 f9 f10 f11 f12 f13 f15 f16 f17 f20 f21 f22 f23 f26 f28 f31 f32 f33 f38 f41 f44 x14 g15 g16 g17 g18 g19 g20 g21 g22 g23 g24 q25_2 g26 g27 g28 g29 g30 g31 g32 g33 g34 g35 g36 g37 g38 g39 g40 g41 g42 g43 g44 t), 0, 0))
      refine hR (?_ : R (_, _, _, _, _, _))
      refine hR (t_stB hq25_2 (by omega) (by omega) (by omega) (by omega) (by omega) (by omega) (Nat.le_of_ble_eq_true rfl) fun k25_9 hk25_9 => (?_ : R (_, _, _, (zMi c0 c1 c2 c3 c4 c5 c6 c7 c8 c9 c10 c11 c12 c13 f0 f9 f10 f11 f12 f13 f15 f16 f17 f20 f21 f22 f23 f26 f28 f31 f32 f33 f38 f41 f44 x14 g15 g16 g17 g18 g19 g20 g21 g22 g23 g24 k25_9 g26 g27 g28 g29 g30 g31 g32 g33 g34 g35 g36 g37 g38 g39 g40 g41 g42 g43 g44 t), _, _)))
      refine hR (t_inc ?_)
      refine hR (?_ : R (_, _, _, _, _, _))
      exact ih2 _ _ (by omega) hk25_9 (by omega)
  exact lp2 400000000 _ _ (by omega) hb25 (by omega)
theorem m_drop (d : Nat) (a1 : Int) (hb25 : zB 0 3 g25) (hr1 : 1 ≤ a1 ∧ a1 ≤ 6) (hr2 : 0 ≤ f26 ∧ f26 ≤ 6) (Q : zQ) (h : ∀ (y26 : Int) (k25 : Nat → Int32), zB 0 3 k25 → (0 ≤ y26 ∧ y26 ≤ 6) → Q (none) (zMi c0 c1 c2 c3 c4 c5 c6 c7 c8 c9 c10 c11 c12 c13 f0 f9 f10 f11 f12 f13 f15 f16 f17 f20 f21 f22 f23 y26 f28 f31 f32 f33 f38 f41 f44 x14 g15 g16 g17 g18 g19 g20 g21 g22 g23 g24 k25 g26 g27 g28 g29 g30 g31 g32 g33 g34 g35 g36 g37 g38 g39 g40 g41 g42 g43 g44 t)) : zCl zTab (d + 1) iX12_drop [.ref 14, .int (Int32.ofInt a1)] (zMi c0 c1 c2 c3 c4 c5 c6 c7 c8 c9 c10 c11 c12 c13 f0 f9 f10 f11 f12 f13 f15 f16 f17 f20 f21 f22 f23 f26 f28 f31 f32 f33 f38 f41 f44 x14 g15 g16 g17 g18 g19 g20 g21 g22 g23 g24 g25 g26 g27 g28 g29 g30 g31 g32 g33 g34 g35 g36 g37 g38 g39 g40 g41 g42 g43 g44 t) 0 0 Q := by
  refine zCl_i (M := kX12_drop) rfl (Nat.le_of_ble_eq_true rfl) fun R hR => ?_
  iterate 3 refine hR (?_ : R (_, _, _, _, _, _))
  refine hR (j_gt (by omega) (by omega) (fun hc1 => ?_) (fun hc1 => ?_))
  · skip
    exact hR (zret_i rfl (Nat.le_refl _) rfl (h _ _ hb25 (by omega)))
  iterate 2 refine hR (?_ : R (_, _, _, _, _, _))
  have lp10 : ∀ (N : Nat) (i : Int) (q25_10 : Nat → Int32), (a1 ≤ i ∧ i ≤ f26) → (zB 0 3 q25_10) → (f26 - i < N) → R (10, [some (.ref 14), some (.int (Int32.ofInt a1)), some (.int (Int32.ofInt i))], [], (zMi c0 c1 c2 c3 c4 c5 c6 c7 c8 c9 c10 c11 c12 c13 f0 f9 f10 f11 f12 f13 f15 f16 f17 f20 f21 f22 f23 f26 f28 f31 f32 f33 f38 f41 f44 x14 g15 g16 g17 g18 g19 g20 g21 g22 g23 g24 q25_10 g26 g27 g28 g29 g30 g31 g32 g33 g34 g35 g36 g37 g38 g39 g40 g41 g42 g43 g44 t), 0, 0) := by
    intro N
    induction N with
    | zero => intros; omega
    | succ N ih10 =>
      intro i q25_10 hf0_10 hq25_10 hN10
      iterate 3 refine hR (?_ : R (_, _, _, _, _, _))
      refine hR (j_ge (by omega) (by omega) (fun hc2 => ?_) (fun hc2 => ?_))
      · skip
        iterate 4 refine hR (?_ : R (_, _, _, _, _, _))
        refine hR (t_sub ?_)
        refine hR (?_ : R (_, _, _, (zMi c0 c1 c2 c3 c4 c5 c6 c7 c8 c9 c10 c11 c12 c13 f0 f9 f10 f11 f12 f13 f15 f16 f17 f20 f21 f22 f23 (f26 - 1) f28 f31 f32 f33 f38 f41 f44 x14 g15 g16 g17 g18 g19 g20 g21 g22 g23 g24 q25_10 g26 g27 g28 g29 g30 g31 g32 g33 g34 g35 g36 g37 g38 g39 g40 g41 g42 g43 g44 t), _, _))
        exact hR (zret_i rfl (Nat.le_refl _) rfl (h _ _ hq25_10 (by omega)))
      iterate 4 refine hR (?_ : R (_, _, _, _, _, _))
      refine hR (t_sub ?_)
      iterate 3 refine hR (?_ : R (_, _, _, _, _, _))
      refine hR (t_ldB hq25_10 (by omega) (by omega) (Nat.le_of_ble_eq_true rfl) fun v3 ev3 lv3 uv3 => ?_)
      clear ev3
      refine hR (t_stB hq25_10 (by omega) (by omega) (by omega) (by omega) (by omega) (by omega) (Nat.le_of_ble_eq_true rfl) fun k25_4 hk25_4 => (?_ : R (_, _, _, (zMi c0 c1 c2 c3 c4 c5 c6 c7 c8 c9 c10 c11 c12 c13 f0 f9 f10 f11 f12 f13 f15 f16 f17 f20 f21 f22 f23 f26 f28 f31 f32 f33 f38 f41 f44 x14 g15 g16 g17 g18 g19 g20 g21 g22 g23 g24 k25_4 g26 g27 g28 g29 g30 g31 g32 g33 g34 g35 g36 g37 g38 g39 g40 g41 g42 g43 g44 t), _, _)))
      refine hR (t_inc ?_)
      refine hR (?_ : R (_, _, _, _, _, _))
      exact ih10 _ _ (by omega) hk25_4 (by omega)
  exact lp10 400000000 _ _ (by omega) hb25 (by omega)
theorem m_twice (d : Nat) (a1 : Int) (hb25 : zB 0 3 g25) (hr1 : 1 ≤ a1 ∧ a1 ≤ 6) (hr2 : 0 ≤ f26 ∧ f26 ≤ 6) (Q : zQ) (h : ∀ (y26 : Int) (k25 : Nat → Int32), zB 0 3 k25 → (0 ≤ y26 ∧ y26 ≤ 6) → Q (none) (zMi c0 c1 c2 c3 c4 c5 c6 c7 c8 c9 c10 c11 c12 c13 f0 f9 f10 f11 f12 f13 f15 f16 f17 f20 f21 f22 f23 y26 f28 f31 f32 f33 f38 f41 f44 x14 g15 g16 g17 g18 g19 g20 g21 g22 g23 g24 k25 g26 g27 g28 g29 g30 g31 g32 g33 g34 g35 g36 g37 g38 g39 g40 g41 g42 g43 g44 t)) : zCl zTab (d + 1) iX12_twice [.ref 14, .int (Int32.ofInt a1)] (zMi c0 c1 c2 c3 c4 c5 c6 c7 c8 c9 c10 c11 c12 c13 f0 f9 f10 f11 f12 f13 f15 f16 f17 f20 f21 f22 f23 f26 f28 f31 f32 f33 f38 f41 f44 x14 g15 g16 g17 g18 g19 g20 g21 g22 g23 g24 g25 g26 g27 g28 g29 g30 g31 g32 g33 g34 g35 g36 g37 g38 g39 g40 g41 g42 g43 g44 t) 0 0 Q := by
  refine zCl_i (M := kX12_twice) rfl (Nat.le_of_ble_eq_true rfl) fun R hR => ?_
  iterate 3 refine hR (?_ : R (_, _, _, _, _, _))
  refine hR (j_gt (by omega) (by omega) (fun hc1 => ?_) (fun hc1 => ?_))
  · skip
    exact hR (zret_i rfl (Nat.le_refl _) rfl (h _ _ hb25 (by omega)))
  iterate 2 refine hR (?_ : R (_, _, _, _, _, _))
  refine hR (t_c 6 (by decide) ?_)
  refine hR (j_ge (by omega) (by omega) (fun hc2 => ?_) (fun hc2 => ?_))
  · skip
    exact hR (zret_i rfl (Nat.le_refl _) rfl (h _ _ hb25 (by omega)))
  iterate 3 refine hR (?_ : R (_, _, _, _, _, _))
  have lp22 : ∀ (N : Nat) (i : Int) (q25_22 : Nat → Int32), (0 ≤ i ∧ i ≤ f26) → (zB 0 3 q25_22) → (i < N) → R (22, [some (.ref 14), some (.int (Int32.ofInt a1)), some (.int (Int32.ofInt i))], [], (zMi c0 c1 c2 c3 c4 c5 c6 c7 c8 c9 c10 c11 c12 c13 f0 f9 f10 f11 f12 f13 f15 f16 f17 f20 f21 f22 f23 f26 f28 f31 f32 f33 f38 f41 f44 x14 g15 g16 g17 g18 g19 g20 g21 g22 g23 g24 q25_22 g26 g27 g28 g29 g30 g31 g32 g33 g34 g35 g36 g37 g38 g39 g40 g41 g42 g43 g44 t), 0, 0) := by
    intro N
    induction N with
    | zero => intros; omega
    | succ N ih22 =>
      intro i q25_22 hf0_22 hq25_22 hN22
      iterate 2 refine hR (?_ : R (_, _, _, _, _, _))
      refine hR (j_lt (by omega) (by omega) (fun hc3 => ?_) (fun hc3 => ?_))
      · skip
        iterate 4 refine hR (?_ : R (_, _, _, _, _, _))
        refine hR (t_add ?_)
        refine hR (?_ : R (_, _, _, (zMi c0 c1 c2 c3 c4 c5 c6 c7 c8 c9 c10 c11 c12 c13 f0 f9 f10 f11 f12 f13 f15 f16 f17 f20 f21 f22 f23 (f26 + 1) f28 f31 f32 f33 f38 f41 f44 x14 g15 g16 g17 g18 g19 g20 g21 g22 g23 g24 q25_22 g26 g27 g28 g29 g30 g31 g32 g33 g34 g35 g36 g37 g38 g39 g40 g41 g42 g43 g44 t), _, _))
        exact hR (zret_i rfl (Nat.le_refl _) rfl (h _ _ hq25_22 (by omega)))
      iterate 7 refine hR (?_ : R (_, _, _, _, _, _))
      refine hR (t_sub ?_)
      refine hR (t_ldB hq25_22 (by omega) (by omega) (Nat.le_of_ble_eq_true rfl) fun v4 ev4 lv4 uv4 => ?_)
      clear ev4
      refine hR (t_stB hq25_22 (by omega) (by omega) (by omega) (by omega) (by omega) (by omega) (Nat.le_of_ble_eq_true rfl) fun k25_5 hk25_5 => (?_ : R (_, _, _, (zMi c0 c1 c2 c3 c4 c5 c6 c7 c8 c9 c10 c11 c12 c13 f0 f9 f10 f11 f12 f13 f15 f16 f17 f20 f21 f22 f23 f26 f28 f31 f32 f33 f38 f41 f44 x14 g15 g16 g17 g18 g19 g20 g21 g22 g23 g24 k25_5 g26 g27 g28 g29 g30 g31 g32 g33 g34 g35 g36 g37 g38 g39 g40 g41 g42 g43 g44 t), _, _)))
      refine hR (t_inc ?_)
      refine hR (?_ : R (_, _, _, _, _, _))
      exact ih22 _ _ (by omega) hk25_5 (by omega)
  exact lp22 400000000 _ _ (by omega) hb25 (by omega)
theorem m_step (d : Nat) (a1 a2 : Int) (hb25 : zB 0 3 g25) (hr1 : bkOK g20) (hr2 : 0 ≤ f20 ∧ f20 ≤ 1) (hr3 : 0 ≤ a1 ∧ a1 ≤ 4) (hr4 : 0 ≤ a2 ∧ a2 ≤ 6 ∧ (a1 = 0 → a2 ≤ 3) ∧ (1 ≤ a1 → a1 ≤ 3 → 1 ≤ a2)) (hr5 : 0 ≤ f26 ∧ f26 ≤ 6) (Q : zQ) (h : ∀ (y26 : Int) (k25 : Nat → Int32), zB 0 3 k25 → (0 ≤ y26 ∧ y26 ≤ 6) → Q (none) (zMi c0 c1 c2 c3 c4 c5 c6 c7 c8 c9 c10 c11 c12 c13 f0 f9 f10 f11 f12 f13 f15 f16 f17 f20 f21 f22 f23 y26 f28 f31 f32 f33 f38 f41 f44 x14 g15 g16 g17 g18 g19 g20 g21 g22 g23 g24 k25 g26 g27 g28 g29 g30 g31 g32 g33 g34 g35 g36 g37 g38 g39 g40 g41 g42 g43 g44 t)) : zCl zTab (d + 3) iX12_step [.ref 14, .int (Int32.ofInt a1), .int (Int32.ofInt a2)] (zMi c0 c1 c2 c3 c4 c5 c6 c7 c8 c9 c10 c11 c12 c13 f0 f9 f10 f11 f12 f13 f15 f16 f17 f20 f21 f22 f23 f26 f28 f31 f32 f33 f38 f41 f44 x14 g15 g16 g17 g18 g19 g20 g21 g22 g23 g24 g25 g26 g27 g28 g29 g30 g31 g32 g33 g34 g35 g36 g37 g38 g39 g40 g41 g42 g43 g44 t) 0 0 Q := by
  refine zCl_i (M := kX12_step) rfl (Nat.le_of_ble_eq_true rfl) fun R hR => ?_
  refine hR (?_ : R (_, _, _, _, _, _))
  refine hR (?_ : _ ∧ _)
  rw [zti (e := a1) (by omega) (by omega)]
  refine ⟨fun hs1 => ?_, fun hs1 => ?_⟩
  · skip
    iterate 5 refine hR (?_ : R (_, _, _, _, _, _))
    refine hR (t_sub ?_)
    refine hR (?_ : R (_, _, _, _, _, _))
    have lp77 : ∀ (N : Nat) (i : Int) (j : Int) (q25_77 : Nat → Int32), (0 ≤ i ∧ i ≤ 6) → (-1 ≤ j ∧ j ≤ f26 - 1) → (i + j = f26 - 1) → (zB 0 3 q25_77) → (j - i + 7 < N) → R (77, [some (.ref 14), some (.int (Int32.ofInt a1)), some (.int (Int32.ofInt a2)), some (.int (Int32.ofInt i)), some (.int (Int32.ofInt j))], [], (zMi c0 c1 c2 c3 c4 c5 c6 c7 c8 c9 c10 c11 c12 c13 f0 f9 f10 f11 f12 f13 f15 f16 f17 f20 f21 f22 f23 f26 f28 f31 f32 f33 f38 f41 f44 x14 g15 g16 g17 g18 g19 g20 g21 g22 g23 g24 q25_77 g26 g27 g28 g29 g30 g31 g32 g33 g34 g35 g36 g37 g38 g39 g40 g41 g42 g43 g44 t), 0, 0) := by
      intro N
      induction N with
      | zero => intros; omega
      | succ N ih77 =>
        intro i j q25_77 hf0_77 hf1_77 hp0_77 hq25_77 hN77
        iterate 2 refine hR (?_ : R (_, _, _, _, _, _))
        refine hR (j_ge (by omega) (by omega) (fun hc2 => ?_) (fun hc2 => ?_))
        · skip
          exact hR (zret_i rfl (Nat.le_refl _) rfl (h _ _ hq25_77 (by omega)))
        iterate 3 refine hR (?_ : R (_, _, _, _, _, _))
        refine hR (zcall_i 0 0 (Nat.le_of_ble_eq_true rfl) (Nat.le_of_ble_eq_true rfl) (m_swap _ i j hq25_77 (by omega) (by omega) _ fun k25_3 hp4 => ?_))
        refine (?_ : R (_, _, [], (zMi c0 c1 c2 c3 c4 c5 c6 c7 c8 c9 c10 c11 c12 c13 f0 f9 f10 f11 f12 f13 f15 f16 f17 f20 f21 f22 f23 f26 f28 f31 f32 f33 f38 f41 f44 x14 g15 g16 g17 g18 g19 g20 g21 g22 g23 g24 k25_3 g26 g27 g28 g29 g30 g31 g32 g33 g34 g35 g36 g37 g38 g39 g40 g41 g42 g43 g44 t), 0, 0))
        refine hR (t_inc ?_)
        refine hR (t_inc ?_)
        refine hR (?_ : R (_, _, _, _, _, _))
        exact ih77 _ _ _ (by omega) (by omega) (by omega) hp4 (by omega)
    exact lp77 400000000 _ _ _ (by omega) (by omega) (by omega) hb25 (by omega)
  · skip
    have hs1d : a1 = 0 ∨ a1 = 1 ∨ a1 = 2 ∨ a1 = 3 := by omega
    rcases hs1d with hs1e | hs1e | hs1e | hs1e
    · refine ⟨31, by rw [hs1e]; rfl, (?_ : R (_, _, _, _, _, _))⟩
      iterate 2 refine hR (?_ : R (_, _, _, _, _, _))
      refine hR (zcall_i 0 0 (Nat.le_of_ble_eq_true rfl) (Nat.le_of_ble_eq_true rfl) (m_shift _ a2 hb25 hr1 (by omega) (by omega) (by omega) _ fun k25_5 hp6 => ?_))
      refine (?_ : R (_, _, [], (zMi c0 c1 c2 c3 c4 c5 c6 c7 c8 c9 c10 c11 c12 c13 f0 f9 f10 f11 f12 f13 f15 f16 f17 f20 f21 f22 f23 f26 f28 f31 f32 f33 f38 f41 f44 x14 g15 g16 g17 g18 g19 g20 g21 g22 g23 g24 k25_5 g26 g27 g28 g29 g30 g31 g32 g33 g34 g35 g36 g37 g38 g39 g40 g41 g42 g43 g44 t), 0, 0))
      exact hR (zret_i rfl (Nat.le_refl _) rfl (h _ _ hp6 (by omega)))
    · refine ⟨37, by rw [hs1e]; rfl, (?_ : R (_, _, _, _, _, _))⟩
      iterate 2 refine hR (?_ : R (_, _, _, _, _, _))
      refine hR (zcall_i 0 0 (Nat.le_of_ble_eq_true rfl) (Nat.le_of_ble_eq_true rfl) (m_drop _ a2 hb25 (by omega) (by omega) _ fun y26_7 k25_8 hp9 hp10 => ?_))
      refine (?_ : R (_, _, [], (zMi c0 c1 c2 c3 c4 c5 c6 c7 c8 c9 c10 c11 c12 c13 f0 f9 f10 f11 f12 f13 f15 f16 f17 f20 f21 f22 f23 y26_7 f28 f31 f32 f33 f38 f41 f44 x14 g15 g16 g17 g18 g19 g20 g21 g22 g23 g24 k25_8 g26 g27 g28 g29 g30 g31 g32 g33 g34 g35 g36 g37 g38 g39 g40 g41 g42 g43 g44 t), 0, 0))
      exact hR (zret_i rfl (Nat.le_refl _) rfl (h _ _ hp9 (by omega)))
    · refine ⟨43, by rw [hs1e]; rfl, (?_ : R (_, _, _, _, _, _))⟩
      iterate 2 refine hR (?_ : R (_, _, _, _, _, _))
      refine hR (zcall_i 0 0 (Nat.le_of_ble_eq_true rfl) (Nat.le_of_ble_eq_true rfl) (m_twice _ a2 hb25 (by omega) (by omega) _ fun y26_11 k25_12 hp13 hp14 => ?_))
      refine (?_ : R (_, _, [], (zMi c0 c1 c2 c3 c4 c5 c6 c7 c8 c9 c10 c11 c12 c13 f0 f9 f10 f11 f12 f13 f15 f16 f17 f20 f21 f22 f23 y26_11 f28 f31 f32 f33 f38 f41 f44 x14 g15 g16 g17 g18 g19 g20 g21 g22 g23 g24 k25_12 g26 g27 g28 g29 g30 g31 g32 g33 g34 g35 g36 g37 g38 g39 g40 g41 g42 g43 g44 t), 0, 0))
      exact hR (zret_i rfl (Nat.le_refl _) rfl (h _ _ hp13 (by omega)))
    · refine ⟨49, by rw [hs1e]; rfl, (?_ : R (_, _, _, _, _, _))⟩
      iterate 3 refine hR (?_ : R (_, _, _, _, _, _))
      refine hR (j_ge (by omega) (by omega) (fun hc15 => ?_) (fun hc15 => ?_))
      · skip
        exact hR (zret_i rfl (Nat.le_refl _) rfl (h _ _ hb25 (by omega)))
      iterate 3 refine hR (?_ : R (_, _, _, _, _, _))
      refine hR (t_sub ?_)
      refine hR (?_ : R (_, _, _, _, _, _))
      refine hR (zcall_i 0 0 (Nat.le_of_ble_eq_true rfl) (Nat.le_of_ble_eq_true rfl) (m_swap _ (a2 - 1) a2 hb25 (by omega) (by omega) _ fun k25_16 hp17 => ?_))
      refine (?_ : R (_, _, [], (zMi c0 c1 c2 c3 c4 c5 c6 c7 c8 c9 c10 c11 c12 c13 f0 f9 f10 f11 f12 f13 f15 f16 f17 f20 f21 f22 f23 f26 f28 f31 f32 f33 f38 f41 f44 x14 g15 g16 g17 g18 g19 g20 g21 g22 g23 g24 k25_16 g26 g27 g28 g29 g30 g31 g32 g33 g34 g35 g36 g37 g38 g39 g40 g41 g42 g43 g44 t), 0, 0))
      exact hR (zret_i rfl (Nat.le_refl _) rfl (h _ _ hp17 (by omega)))
theorem m_readBy (d : Nat) (a1 a2 : Int) (hb25 : zB 0 3 g25) (hr1 : 0 ≤ a1 ∧ a1 ≤ 5460) (hr2 : bkOK g20) (hr3 : 0 ≤ f20 ∧ f20 ≤ 1) (hr4 : 0 ≤ a2 ∧ a2 ≤ 4) (Q : zQ) (h : ∀ (v : Int) (y26 : Int) (k25 : Nat → Int32), zB 0 3 k25 → (0 ≤ v ∧ v ≤ 5460) → Q (some (.int (Int32.ofInt v))) (zMi c0 c1 c2 c3 c4 c5 c6 c7 c8 c9 c10 c11 c12 c13 f0 f9 f10 f11 f12 f13 f15 f16 f17 f20 f21 f22 f23 y26 f28 f31 f32 f33 f38 f41 f44 x14 g15 g16 g17 g18 g19 g20 g21 g22 g23 g24 k25 g26 g27 g28 g29 g30 g31 g32 g33 g34 g35 g36 g37 g38 g39 g40 g41 g42 g43 g44 t)) : zCl zTab (d + 4) iX12_readBy [.ref 14, .int (Int32.ofInt a1), .int (Int32.ofInt a2)] (zMi c0 c1 c2 c3 c4 c5 c6 c7 c8 c9 c10 c11 c12 c13 f0 f9 f10 f11 f12 f13 f15 f16 f17 f20 f21 f22 f23 f26 f28 f31 f32 f33 f38 f41 f44 x14 g15 g16 g17 g18 g19 g20 g21 g22 g23 g24 g25 g26 g27 g28 g29 g30 g31 g32 g33 g34 g35 g36 g37 g38 g39 g40 g41 g42 g43 g44 t) 0 0 Q := by
  refine zCl_i (M := kX12_readBy) rfl (Nat.le_of_ble_eq_true rfl) fun R hR => ?_
  iterate 3 refine hR (?_ : R (_, _, _, _, _, _))
  refine hR (zcall_i 0 0 (Nat.le_of_ble_eq_true rfl) (Nat.le_of_ble_eq_true rfl) (m_spell25 _ a1 hb25 (by omega) _ fun k25_1 hp2 => ?_))
  refine (?_ : R (_, _, [], (zMi c0 c1 c2 c3 c4 c5 c6 c7 c8 c9 c10 c11 c12 c13 f0 f9 f10 f11 f12 f13 f15 f16 f17 f20 f21 f22 f23 f26 f28 f31 f32 f33 f38 f41 f44 x14 g15 g16 g17 g18 g19 g20 g21 g22 g23 g24 k25_1 g26 g27 g28 g29 g30 g31 g32 g33 g34 g35 g36 g37 g38 g39 g40 g41 g42 g43 g44 t), 0, 0))
  iterate 2 refine hR (?_ : R (_, _, _, _, _, _))
  refine hR (zcall_i 0 0 (Nat.le_of_ble_eq_true rfl) (Nat.le_of_ble_eq_true rfl) (m_sizeOf _ a1 _ (by omega) _ fun v3 hp4 hp5 => ?_))
  refine (?_ : R (_, _, (.int (Int32.ofInt v3)) :: (.ref 14) :: [], (zMi c0 c1 c2 c3 c4 c5 c6 c7 c8 c9 c10 c11 c12 c13 f0 f9 f10 f11 f12 f13 f15 f16 f17 f20 f21 f22 f23 f26 f28 f31 f32 f33 f38 f41 f44 x14 g15 g16 g17 g18 g19 g20 g21 g22 g23 g24 k25_1 g26 g27 g28 g29 g30 g31 g32 g33 g34 g35 g36 g37 g38 g39 g40 g41 g42 g43 g44 t), 0, 0))
  refine hR (?_ : R (_, _, _, (zMi c0 c1 c2 c3 c4 c5 c6 c7 c8 c9 c10 c11 c12 c13 f0 f9 f10 f11 f12 f13 f15 f16 f17 f20 f21 f22 f23 v3 f28 f31 f32 f33 f38 f41 f44 x14 g15 g16 g17 g18 g19 g20 g21 g22 g23 g24 k25_1 g26 g27 g28 g29 g30 g31 g32 g33 g34 g35 g36 g37 g38 g39 g40 g41 g42 g43 g44 t), _, _))
  iterate 2 refine hR (?_ : R (_, _, _, _, _, _))
  have lp18 : ∀ (N : Nat) (i : Int) (o4_18 : Option Value) (e26_18 : Int) (q25_18 : Nat → Int32), (zc2 o4_18 = false) → (0 ≤ i ∧ i ≤ 4) → (0 ≤ e26_18 ∧ e26_18 ≤ 6) → (zB 0 3 q25_18) → (4 - i < N) → R (18, [some (.ref 14), some (.int (Int32.ofInt a1)), some (.int (Int32.ofInt a2)), some (.int (Int32.ofInt i)), o4_18], [], (zMi c0 c1 c2 c3 c4 c5 c6 c7 c8 c9 c10 c11 c12 c13 f0 f9 f10 f11 f12 f13 f15 f16 f17 f20 f21 f22 f23 e26_18 f28 f31 f32 f33 f38 f41 f44 x14 g15 g16 g17 g18 g19 g20 g21 g22 g23 g24 q25_18 g26 g27 g28 g29 g30 g31 g32 g33 g34 g35 g36 g37 g38 g39 g40 g41 g42 g43 g44 t), 0, 0) := by
    intro N
    induction N with
    | zero => intros; omega
    | succ N ih18 =>
      intro i o4_18 e26_18 q25_18 hzo4_18 hf0_18 hp0_18 hq25_18 hN18
      iterate 2 refine hR (?_ : R (_, _, _, _, _, _))
      refine hR (t_c 6 (by decide) ?_)
      refine hR (?_ : R (_, _, _, _, _, _))
      refine hR (t_add ?_)
      refine hR (zcall_i 0 0 (Nat.le_of_ble_eq_true rfl) (Nat.le_of_ble_eq_true rfl) (m_ofM _ (6 + a2) hr2 (by omega) (by omega) _ fun v6 hp7 hp8 => ?_))
      refine (?_ : R (_, _, (.int (Int32.ofInt v6)) :: (.int (Int32.ofInt i)) :: [], (zMi c0 c1 c2 c3 c4 c5 c6 c7 c8 c9 c10 c11 c12 c13 f0 f9 f10 f11 f12 f13 f15 f16 f17 f20 f21 f22 f23 e26_18 f28 f31 f32 f33 f38 f41 f44 x14 g15 g16 g17 g18 g19 g20 g21 g22 g23 g24 q25_18 g26 g27 g28 g29 g30 g31 g32 g33 g34 g35 g36 g37 g38 g39 g40 g41 g42 g43 g44 t), 0, 0))
      refine hR (j_ge (by omega) (by omega) (fun hc9 => ?_) (fun hc9 => ?_))
      · skip
        iterate 3 refine hR (?_ : R (_, _, _, _, _, _))
        refine hR (zcall_i 0 0 (Nat.le_of_ble_eq_true rfl) (Nat.le_of_ble_eq_true rfl) (m_numberOf _ e26_18 hq25_18 (by omega) _ fun v10 hp11 => ?_))
        refine (?_ : R (_, _, (.int (Int32.ofInt v10)) :: [], (zMi c0 c1 c2 c3 c4 c5 c6 c7 c8 c9 c10 c11 c12 c13 f0 f9 f10 f11 f12 f13 f15 f16 f17 f20 f21 f22 f23 e26_18 f28 f31 f32 f33 f38 f41 f44 x14 g15 g16 g17 g18 g19 g20 g21 g22 g23 g24 q25_18 g26 g27 g28 g29 g30 g31 g32 g33 g34 g35 g36 g37 g38 g39 g40 g41 g42 g43 g44 t), 0, 0))
        exact hR (zret_i rfl (Nat.le_refl _) trivial (h _ _ _ hq25_18 (by omega)))
      refine hR (t_c 11 (by decide) ?_)
      refine hR (t_c 8 (by decide) ?_)
      refine hR (?_ : R (_, _, _, _, _, _))
      refine hR (t_mul ?_)
      refine hR (t_add ?_)
      iterate 2 refine hR (?_ : R (_, _, _, _, _, _))
      refine hR (t_mul ?_)
      refine hR (t_add ?_)
      iterate 4 refine hR (?_ : R (_, _, _, _, _, _))
      refine hR (zcall_i 0 0 (Nat.le_of_ble_eq_true rfl) (Nat.le_of_ble_eq_true rfl) (m_ofS _ ((11 + (8 * a2)) + (2 * i)) hr2 (by omega) (by omega) _ fun v12 hp13 hp14 => ?_))
      refine (?_ : R (_, _, (.int (Int32.ofInt v12)) :: (.ref 14) :: [], (zMi c0 c1 c2 c3 c4 c5 c6 c7 c8 c9 c10 c11 c12 c13 f0 f9 f10 f11 f12 f13 f15 f16 f17 f20 f21 f22 f23 e26_18 f28 f31 f32 f33 f38 f41 f44 x14 g15 g16 g17 g18 g19 g20 g21 g22 g23 g24 q25_18 g26 g27 g28 g29 g30 g31 g32 g33 g34 g35 g36 g37 g38 g39 g40 g41 g42 g43 g44 t), 0, 0))
      iterate 3 refine hR (?_ : R (_, _, _, _, _, _))
      refine hR (t_add ?_)
      refine hR (zcall_i 0 0 (Nat.le_of_ble_eq_true rfl) (Nat.le_of_ble_eq_true rfl) (m_ofS _ (((11 + (8 * a2)) + (2 * i)) + 1) hr2 (by omega) (by omega) _ fun v15 hp16 hp17 => ?_))
      refine (?_ : R (_, _, (.int (Int32.ofInt v15)) :: (.int (Int32.ofInt v12)) :: (.ref 14) :: [], (zMi c0 c1 c2 c3 c4 c5 c6 c7 c8 c9 c10 c11 c12 c13 f0 f9 f10 f11 f12 f13 f15 f16 f17 f20 f21 f22 f23 e26_18 f28 f31 f32 f33 f38 f41 f44 x14 g15 g16 g17 g18 g19 g20 g21 g22 g23 g24 q25_18 g26 g27 g28 g29 g30 g31 g32 g33 g34 g35 g36 g37 g38 g39 g40 g41 g42 g43 g44 t), 0, 0))
      have hst := bk_st hr2 (b := f20.toNat) (r := a2.toNat) (k := i.toNat) (by omega) (by omega) (by omega)
      have hs1 : v12 = (g20 (51 * f20.toNat + (11 + 8 * a2.toNat + 2 * i.toNat))).toInt := by rw [hp13]; congr 2; omega
      have hs2 : v15 = (g20 (51 * f20.toNat + (12 + 8 * a2.toNat + 2 * i.toNat))).toInt := by rw [hp16]; congr 2; omega
      refine hR (zcall_i 0 0 (Nat.le_of_ble_eq_true rfl) (Nat.le_of_ble_eq_true rfl) (m_step _ v12 v15 hq25_18 hr2 (by omega) (by omega) (by omega) (by omega) _ fun y26_18 k25_19 hp20 hp21 => ?_))
      refine (?_ : R (_, _, [], (zMi c0 c1 c2 c3 c4 c5 c6 c7 c8 c9 c10 c11 c12 c13 f0 f9 f10 f11 f12 f13 f15 f16 f17 f20 f21 f22 f23 y26_18 f28 f31 f32 f33 f38 f41 f44 x14 g15 g16 g17 g18 g19 g20 g21 g22 g23 g24 k25_19 g26 g27 g28 g29 g30 g31 g32 g33 g34 g35 g36 g37 g38 g39 g40 g41 g42 g43 g44 t), 0, 0))
      refine hR (t_inc ?_)
      refine hR (?_ : R (_, _, _, _, _, _))
      exact ih18 _ _ _ _ (by rfl) (by omega) (by omega) hp20 (by omega)
  exact lp18 400000000 _ _ _ _ (by rfl) (by omega) (by omega) hp2 (by omega)
end MZ
theorem zshl_r {e : Int} (h0 : 0 ≤ e) (h1 : e ≤ 5) : ∃ v : Int, 1 ≤ v ∧ v ≤ 32 ∧ Int32.ofInt 1 <<< (Int32.ofInt e &&& 31) = Int32.ofInt v := by
  have h : e = 0 ∨ e = 1 ∨ e = 2 ∨ e = 3 ∨ e = 4 ∨ e = 5 := by omega
  rcases h with rfl | rfl | rfl | rfl | rfl | rfl
  · exact ⟨1, by omega, by omega, by decide⟩
  · exact ⟨2, by omega, by omega, by decide⟩
  · exact ⟨4, by omega, by omega, by decide⟩
  · exact ⟨8, by omega, by omega, by decide⟩
  · exact ⟨16, by omega, by omega, by decide⟩
  · exact ⟨32, by omega, by omega, by decide⟩
noncomputable def yrR (T : Nat → Int32) : Prop := (0 ≤ (T 0).toInt ∧ (T 0).toInt ≤ 40) ∧ (∀ k, k < 40 → (0 ≤ (T (1 + 3 * k)).toInt ∧ (T (1 + 3 * k)).toInt ≤ 5) ∧ ((T (1 + 3 * k)).toInt ≤ 4 → 0 ≤ (T (2 + 3 * k)).toInt ∧ (T (2 + 3 * k)).toInt ≤ 3) ∧ ((T (1 + 3 * k)).toInt = 1 → 0 ≤ (T (3 + 3 * k)).toInt ∧ (T (3 + 3 * k)).toInt ≤ 3) ∧ ((T (1 + 3 * k)).toInt = 0 → 0 ≤ (T (3 + 3 * k)).toInt ∧ (T (3 + 3 * k)).toInt ≤ 4))
noncomputable def yrOK (g : Nat → Int32) : Prop := ∀ b, b < 8 → yrR (fun j => g (121 * b + j))
noncomputable def siOK (g : Nat → Int32) : Prop := ∀ b, b < 8 → 0 ≤ (g (13 * b)).toInt ∧ (g (13 * b)).toInt ≤ 6
theorem yr_i0 {g : Nat → Int32} {f v : Int} (hf : 0 ≤ f) (h : v = (g (121 * f).toNat).toInt) : v = (g (121 * f.toNat)).toInt := by
  rw [h, show (121 * f).toNat = 121 * f.toNat by omega]
theorem yr_0 {g : Nat → Int32} {f v : Int} (hg : yrOK g) (hf : 0 ≤ f) (hf1 : f ≤ 7) (h : v = (g (121 * f.toNat)).toInt) : 0 ≤ v ∧ v ≤ 40 := by
  rw [h]; exact (hg f.toNat (by omega)).1
theorem yr_i {g : Nat → Int32} {f a c v : Int} (hf : 0 ≤ f) (ha : 0 ≤ a) (h : v = (g (121 * f + 1 + 3 * a + c).toNat).toInt) (n : Nat) (hc : c + 1 = n) : v = (g (121 * f.toNat + (n + 3 * a.toNat))).toInt := by
  rw [h, show (121 * f + 1 + 3 * a + c).toNat = 121 * f.toNat + (n + 3 * a.toNat) by omega]
theorem yr_d {g : Nat → Int32} (hg : yrOK g) {b k : Nat} (hb : b < 8) (hk : k < 40) : (0 ≤ (g (121 * b + (1 + 3 * k))).toInt ∧ (g (121 * b + (1 + 3 * k))).toInt ≤ 5) ∧ ((g (121 * b + (1 + 3 * k))).toInt ≤ 4 → 0 ≤ (g (121 * b + (2 + 3 * k))).toInt ∧ (g (121 * b + (2 + 3 * k))).toInt ≤ 3) ∧ ((g (121 * b + (1 + 3 * k))).toInt = 1 → 0 ≤ (g (121 * b + (3 + 3 * k))).toInt ∧ (g (121 * b + (3 + 3 * k))).toInt ≤ 3) ∧ ((g (121 * b + (1 + 3 * k))).toInt = 0 → 0 ≤ (g (121 * b + (3 + 3 * k))).toInt ∧ (g (121 * b + (3 + 3 * k))).toInt ≤ 4) := (hg b hb).2 k hk
theorem zushr_r (x : Int32) : ∃ v : Int, 0 ≤ v ∧ v ≤ 65535 ∧ (x.toUInt32 >>> ((Int32.ofInt 16).toUInt32 &&& Int32.toUInt32 31)).toInt32 = Int32.ofInt v := by
  have h := pk_ushr x (Int32.ofInt 16) 16 (by decide)
  have hx : x.toBitVec.toNat < 2 ^ 32 := x.toBitVec.isLt
  generalize (x.toUInt32 >>> ((Int32.ofInt 16).toUInt32 &&& Int32.toUInt32 31)).toInt32 = y at h ⊢
  have hy : y.toBitVec.toNat ≤ 65535 := by rw [h]; omega
  refine ⟨(y.toBitVec.toNat : Int), by omega, by omega, ?_⟩
  have e : y = nI y.toBitVec.toNat := by
    apply Int32.toBitVec_inj.mp
    apply BitVec.eq_of_toNat_eq
    rw [pk_tn (by omega)]
  rw [nI_oi (by omega), Int.toNat_natCast]
  exact e
section MZ
variable {c0 c1 c2 c3 c4 c5 c6 c7 c8 c9 c10 c11 c12 c13 : va_E} {f0 f9 f10 f11 f12 f13 f15 f16 f17 f20 f21 f22 f23 f26 f28 f31 f32 f33 f38 f41 f44 : Int} {x14 : Int64} {g15 g16 g17 g18 g19 g20 g21 g22 g23 g24 g25 g26 g27 g28 g29 g30 g31 g32 g33 g34 g35 g36 g37 g38 g39 g40 g41 g42 g43 g44 : Nat → Int32} {t : zW}
theorem m_deeds (d : Nat) (hr0 : yrOK g21) (hr1 : 0 ≤ f28 ∧ f28 ≤ 1) (Q : zQ) (h : ∀ (v : Int), (v = (g21 (121 * f28.toNat)).toInt) → (0 ≤ v ∧ v ≤ 40) → Q (some (.int (Int32.ofInt v))) (zMi c0 c1 c2 c3 c4 c5 c6 c7 c8 c9 c10 c11 c12 c13 f0 f9 f10 f11 f12 f13 f15 f16 f17 f20 f21 f22 f23 f26 f28 f31 f32 f33 f38 f41 f44 x14 g15 g16 g17 g18 g19 g20 g21 g22 g23 g24 g25 g26 g27 g28 g29 g30 g31 g32 g33 g34 g35 g36 g37 g38 g39 g40 g41 g42 g43 g44 t)) : zCl zTab (d + 1) iX12_deeds [.ref 14] (zMi c0 c1 c2 c3 c4 c5 c6 c7 c8 c9 c10 c11 c12 c13 f0 f9 f10 f11 f12 f13 f15 f16 f17 f20 f21 f22 f23 f26 f28 f31 f32 f33 f38 f41 f44 x14 g15 g16 g17 g18 g19 g20 g21 g22 g23 g24 g25 g26 g27 g28 g29 g30 g31 g32 g33 g34 g35 g36 g37 g38 g39 g40 g41 g42 g43 g44 t) 0 0 Q := by
  refine zCl_i (M := kX12_deeds) rfl (Nat.le_of_ble_eq_true rfl) fun R hR => ?_
  iterate 2 refine hR (?_ : R (_, _, _, _, _, _))
  refine hR (t_c 121 (by decide) ?_)
  iterate 2 refine hR (?_ : R (_, _, _, _, _, _))
  refine hR (t_mul ?_)
  refine hR (t_ldE (by omega) (by omega) (Nat.le_of_ble_eq_true rfl) fun v1 ev1 rv1 => ?_)
  exact hR (zret_i rfl (Nat.le_refl _) trivial (h _ (yr_i0 (by omega) ev1) (yr_0 hr0 (by omega) (by omega) (yr_i0 (by omega) ev1))))
theorem m_deedOf0 (d : Nat) (a1 : Int) (hr0 : 0 ≤ f28 ∧ f28 ≤ 1) (hr1 : 0 ≤ a1 ∧ a1 ≤ 39) (Q : zQ) (h : ∀ (v : Int), (v = (g21 (121 * f28.toNat + (1 + 3 * a1.toNat))).toInt) → Q (some (.int (Int32.ofInt v))) (zMi c0 c1 c2 c3 c4 c5 c6 c7 c8 c9 c10 c11 c12 c13 f0 f9 f10 f11 f12 f13 f15 f16 f17 f20 f21 f22 f23 f26 f28 f31 f32 f33 f38 f41 f44 x14 g15 g16 g17 g18 g19 g20 g21 g22 g23 g24 g25 g26 g27 g28 g29 g30 g31 g32 g33 g34 g35 g36 g37 g38 g39 g40 g41 g42 g43 g44 t)) : zCl zTab (d + 1) iX12_deedOf [.ref 14, .int (Int32.ofInt a1), .int (Int32.ofInt 0)] (zMi c0 c1 c2 c3 c4 c5 c6 c7 c8 c9 c10 c11 c12 c13 f0 f9 f10 f11 f12 f13 f15 f16 f17 f20 f21 f22 f23 f26 f28 f31 f32 f33 f38 f41 f44 x14 g15 g16 g17 g18 g19 g20 g21 g22 g23 g24 g25 g26 g27 g28 g29 g30 g31 g32 g33 g34 g35 g36 g37 g38 g39 g40 g41 g42 g43 g44 t) 0 0 Q := by
  refine zCl_i (M := kX12_deedOf) rfl (Nat.le_of_ble_eq_true rfl) fun R hR => ?_
  iterate 2 refine hR (?_ : R (_, _, _, _, _, _))
  refine hR (t_c 121 (by decide) ?_)
  iterate 2 refine hR (?_ : R (_, _, _, _, _, _))
  refine hR (t_mul ?_)
  refine hR (?_ : R (_, _, _, _, _, _))
  refine hR (t_add ?_)
  iterate 2 refine hR (?_ : R (_, _, _, _, _, _))
  refine hR (t_mul ?_)
  refine hR (t_add ?_)
  refine hR (?_ : R (_, _, _, _, _, _))
  refine hR (t_add ?_)
  refine hR (t_ldE (by omega) (by omega) (Nat.le_of_ble_eq_true rfl) fun v1 ev1 rv1 => ?_)
  exact hR (zret_i rfl (Nat.le_refl _) trivial (h _ (yr_i (by omega) (by omega) ev1 1 rfl)))
theorem m_deedOf1 (d : Nat) (a1 : Int) (hr0 : 0 ≤ f28 ∧ f28 ≤ 1) (hr1 : 0 ≤ a1 ∧ a1 ≤ 39) (Q : zQ) (h : ∀ (v : Int), (v = (g21 (121 * f28.toNat + (2 + 3 * a1.toNat))).toInt) → Q (some (.int (Int32.ofInt v))) (zMi c0 c1 c2 c3 c4 c5 c6 c7 c8 c9 c10 c11 c12 c13 f0 f9 f10 f11 f12 f13 f15 f16 f17 f20 f21 f22 f23 f26 f28 f31 f32 f33 f38 f41 f44 x14 g15 g16 g17 g18 g19 g20 g21 g22 g23 g24 g25 g26 g27 g28 g29 g30 g31 g32 g33 g34 g35 g36 g37 g38 g39 g40 g41 g42 g43 g44 t)) : zCl zTab (d + 1) iX12_deedOf [.ref 14, .int (Int32.ofInt a1), .int (Int32.ofInt 1)] (zMi c0 c1 c2 c3 c4 c5 c6 c7 c8 c9 c10 c11 c12 c13 f0 f9 f10 f11 f12 f13 f15 f16 f17 f20 f21 f22 f23 f26 f28 f31 f32 f33 f38 f41 f44 x14 g15 g16 g17 g18 g19 g20 g21 g22 g23 g24 g25 g26 g27 g28 g29 g30 g31 g32 g33 g34 g35 g36 g37 g38 g39 g40 g41 g42 g43 g44 t) 0 0 Q := by
  refine zCl_i (M := kX12_deedOf) rfl (Nat.le_of_ble_eq_true rfl) fun R hR => ?_
  iterate 2 refine hR (?_ : R (_, _, _, _, _, _))
  refine hR (t_c 121 (by decide) ?_)
  iterate 2 refine hR (?_ : R (_, _, _, _, _, _))
  refine hR (t_mul ?_)
  refine hR (?_ : R (_, _, _, _, _, _))
  refine hR (t_add ?_)
  iterate 2 refine hR (?_ : R (_, _, _, _, _, _))
  refine hR (t_mul ?_)
  refine hR (t_add ?_)
  refine hR (?_ : R (_, _, _, _, _, _))
  refine hR (t_add ?_)
  refine hR (t_ldE (by omega) (by omega) (Nat.le_of_ble_eq_true rfl) fun v1 ev1 rv1 => ?_)
  exact hR (zret_i rfl (Nat.le_refl _) trivial (h _ (yr_i (by omega) (by omega) ev1 2 rfl)))
theorem m_deedOf2 (d : Nat) (a1 : Int) (hr0 : 0 ≤ f28 ∧ f28 ≤ 1) (hr1 : 0 ≤ a1 ∧ a1 ≤ 39) (Q : zQ) (h : ∀ (v : Int), (v = (g21 (121 * f28.toNat + (3 + 3 * a1.toNat))).toInt) → Q (some (.int (Int32.ofInt v))) (zMi c0 c1 c2 c3 c4 c5 c6 c7 c8 c9 c10 c11 c12 c13 f0 f9 f10 f11 f12 f13 f15 f16 f17 f20 f21 f22 f23 f26 f28 f31 f32 f33 f38 f41 f44 x14 g15 g16 g17 g18 g19 g20 g21 g22 g23 g24 g25 g26 g27 g28 g29 g30 g31 g32 g33 g34 g35 g36 g37 g38 g39 g40 g41 g42 g43 g44 t)) : zCl zTab (d + 1) iX12_deedOf [.ref 14, .int (Int32.ofInt a1), .int (Int32.ofInt 2)] (zMi c0 c1 c2 c3 c4 c5 c6 c7 c8 c9 c10 c11 c12 c13 f0 f9 f10 f11 f12 f13 f15 f16 f17 f20 f21 f22 f23 f26 f28 f31 f32 f33 f38 f41 f44 x14 g15 g16 g17 g18 g19 g20 g21 g22 g23 g24 g25 g26 g27 g28 g29 g30 g31 g32 g33 g34 g35 g36 g37 g38 g39 g40 g41 g42 g43 g44 t) 0 0 Q := by
  refine zCl_i (M := kX12_deedOf) rfl (Nat.le_of_ble_eq_true rfl) fun R hR => ?_
  iterate 2 refine hR (?_ : R (_, _, _, _, _, _))
  refine hR (t_c 121 (by decide) ?_)
  iterate 2 refine hR (?_ : R (_, _, _, _, _, _))
  refine hR (t_mul ?_)
  refine hR (?_ : R (_, _, _, _, _, _))
  refine hR (t_add ?_)
  iterate 2 refine hR (?_ : R (_, _, _, _, _, _))
  refine hR (t_mul ?_)
  refine hR (t_add ?_)
  refine hR (?_ : R (_, _, _, _, _, _))
  refine hR (t_add ?_)
  refine hR (t_ldE (by omega) (by omega) (Nat.le_of_ble_eq_true rfl) fun v1 ev1 rv1 => ?_)
  exact hR (zret_i rfl (Nat.le_refl _) trivial (h _ (yr_i (by omega) (by omega) ev1 3 rfl)))
theorem m_deedOf (d : Nat) (a1 a2 : Int) (hr0 : 0 ≤ f28 ∧ f28 ≤ 1) (hr1 : 0 ≤ a1 ∧ a1 ≤ 39) (hr2 : 0 ≤ a2 ∧ a2 ≤ 2) (Q : zQ) (h : ∀ (v : Int), Q (some (.int (Int32.ofInt v))) (zMi c0 c1 c2 c3 c4 c5 c6 c7 c8 c9 c10 c11 c12 c13 f0 f9 f10 f11 f12 f13 f15 f16 f17 f20 f21 f22 f23 f26 f28 f31 f32 f33 f38 f41 f44 x14 g15 g16 g17 g18 g19 g20 g21 g22 g23 g24 g25 g26 g27 g28 g29 g30 g31 g32 g33 g34 g35 g36 g37 g38 g39 g40 g41 g42 g43 g44 t)) : zCl zTab (d + 1) iX12_deedOf [.ref 14, .int (Int32.ofInt a1), .int (Int32.ofInt a2)] (zMi c0 c1 c2 c3 c4 c5 c6 c7 c8 c9 c10 c11 c12 c13 f0 f9 f10 f11 f12 f13 f15 f16 f17 f20 f21 f22 f23 f26 f28 f31 f32 f33 f38 f41 f44 x14 g15 g16 g17 g18 g19 g20 g21 g22 g23 g24 g25 g26 g27 g28 g29 g30 g31 g32 g33 g34 g35 g36 g37 g38 g39 g40 g41 g42 g43 g44 t) 0 0 Q := by
  refine zCl_i (M := kX12_deedOf) rfl (Nat.le_of_ble_eq_true rfl) fun R hR => ?_
  iterate 2 refine hR (?_ : R (_, _, _, _, _, _))
  refine hR (t_c 121 (by decide) ?_)
  iterate 2 refine hR (?_ : R (_, _, _, _, _, _))
  refine hR (t_mul ?_)
  refine hR (?_ : R (_, _, _, _, _, _))
  refine hR (t_add ?_)
  iterate 2 refine hR (?_ : R (_, _, _, _, _, _))
  refine hR (t_mul ?_)
  refine hR (t_add ?_)
  refine hR (?_ : R (_, _, _, _, _, _))
  refine hR (t_add ?_)
  refine hR (t_ldo (by omega) (by omega) (Nat.le_of_ble_eq_true rfl) fun v1 rv1 => ?_)
  exact hR (zret_i rfl (Nat.le_refl _) trivial (h _))
theorem m_hasYear (d : Nat) (a1 : Int) (hb19 : zB 0 2 g19) (hr1 : -2147483648 ≤ a1 ∧ a1 ≤ 2147483647) (Q : zQ) (h : ∀ (v : Int) (y28 : Int), (y28 = a1) → ((v = 1 ∧ 0 ≤ a1 ∧ a1 ≤ 1 ∧ a1 < (g19 1).toInt) ∨ (v = 0 ∧ (a1 < 0 ∨ (g19 1).toInt ≤ a1))) → Q (some (.int (Int32.ofInt v))) (zMi c0 c1 c2 c3 c4 c5 c6 c7 c8 c9 c10 c11 c12 c13 f0 f9 f10 f11 f12 f13 f15 f16 f17 f20 f21 f22 f23 f26 y28 f31 f32 f33 f38 f41 f44 x14 g15 g16 g17 g18 g19 g20 g21 g22 g23 g24 g25 g26 g27 g28 g29 g30 g31 g32 g33 g34 g35 g36 g37 g38 g39 g40 g41 g42 g43 g44 t)) : zCl zTab (d + 3) iX12_hasYear [.ref 14, .int (Int32.ofInt a1)] (zMi c0 c1 c2 c3 c4 c5 c6 c7 c8 c9 c10 c11 c12 c13 f0 f9 f10 f11 f12 f13 f15 f16 f17 f20 f21 f22 f23 f26 f28 f31 f32 f33 f38 f41 f44 x14 g15 g16 g17 g18 g19 g20 g21 g22 g23 g24 g25 g26 g27 g28 g29 g30 g31 g32 g33 g34 g35 g36 g37 g38 g39 g40 g41 g42 g43 g44 t) 0 0 Q := by
  refine zCl_i (M := kX12_hasYear) rfl (Nat.le_of_ble_eq_true rfl) fun R hR => ?_
  iterate 2 refine hR (?_ : R (_, _, _, _, _, _))
  refine hR (?_ : R (_, _, _, (zMi c0 c1 c2 c3 c4 c5 c6 c7 c8 c9 c10 c11 c12 c13 f0 f9 f10 f11 f12 f13 f15 f16 f17 f20 f21 f22 f23 f26 a1 f31 f32 f33 f38 f41 f44 x14 g15 g16 g17 g18 g19 g20 g21 g22 g23 g24 g25 g26 g27 g28 g29 g30 g31 g32 g33 g34 g35 g36 g37 g38 g39 g40 g41 g42 g43 g44 t), _, _))
  iterate 3 refine hR (?_ : R (_, _, _, _, _, _))
  refine hR (zcall_i 0 0 (Nat.le_of_ble_eq_true rfl) (Nat.le_of_ble_eq_true rfl) (m_is _ 1 a1 hb19 (by omega) (by omega) _ fun v1 hp2 => ?_))
  refine (?_ : R (_, _, (.int (Int32.ofInt v1)) :: [], (zMi c0 c1 c2 c3 c4 c5 c6 c7 c8 c9 c10 c11 c12 c13 f0 f9 f10 f11 f12 f13 f15 f16 f17 f20 f21 f22 f23 f26 a1 f31 f32 f33 f38 f41 f44 x14 g15 g16 g17 g18 g19 g20 g21 g22 g23 g24 g25 g26 g27 g28 g29 g30 g31 g32 g33 g34 g35 g36 g37 g38 g39 g40 g41 g42 g43 g44 t), 0, 0))
  have hp2x : (v1 = 1 ∧ 0 ≤ a1 ∧ a1 < (g19 1).toInt ∧ a1 ≤ 1) ∨ (v1 = 0 ∧ (a1 < 0 ∨ (g19 1).toInt ≤ a1)) := hp2
  exact hR (zret_i rfl (Nat.le_refl _) (zbo (by omega)) (h _ _ (by omega) (by omega)))
theorem m_deed (d : Nat) (a1 a2 a3 : Int) (hb19 : zB 0 2 g19) (hr1 : yrOK g21) (hr2 : -2147483648 ≤ a1 ∧ a1 ≤ 2147483647) (hr3 : -2147483648 ≤ a2 ∧ a2 ≤ 2147483647) (hr4 : -2147483648 ≤ a3 ∧ a3 ≤ 2147483647) (Q : zQ) (h : ∀ (v : Int) (y0 : Int) (y28 : Int), Q (some (.int (Int32.ofInt v))) (zMi c0 c1 c2 c3 c4 c5 c6 c7 c8 c9 c10 c11 c12 c13 y0 f9 f10 f11 f12 f13 f15 f16 f17 f20 f21 f22 f23 f26 y28 f31 f32 f33 f38 f41 f44 x14 g15 g16 g17 g18 g19 g20 g21 g22 g23 g24 g25 g26 g27 g28 g29 g30 g31 g32 g33 g34 g35 g36 g37 g38 g39 g40 g41 g42 g43 g44 t)) : zCl zTab (d + 4) iX12_deed [.ref 14, .int (Int32.ofInt a1), .int (Int32.ofInt a2), .int (Int32.ofInt a3)] (zMi c0 c1 c2 c3 c4 c5 c6 c7 c8 c9 c10 c11 c12 c13 f0 f9 f10 f11 f12 f13 f15 f16 f17 f20 f21 f22 f23 f26 f28 f31 f32 f33 f38 f41 f44 x14 g15 g16 g17 g18 g19 g20 g21 g22 g23 g24 g25 g26 g27 g28 g29 g30 g31 g32 g33 g34 g35 g36 g37 g38 g39 g40 g41 g42 g43 g44 t) 0 0 Q := by
  refine zCl_i (M := kX12_deed) rfl (Nat.le_of_ble_eq_true rfl) fun R hR => ?_
  iterate 2 refine hR (?_ : R (_, _, _, _, _, _))
  refine hR (?_ : R (_, _, _, (zMi c0 c1 c2 c3 c4 c5 c6 c7 c8 c9 c10 c11 c12 c13 0 f9 f10 f11 f12 f13 f15 f16 f17 f20 f21 f22 f23 f26 f28 f31 f32 f33 f38 f41 f44 x14 g15 g16 g17 g18 g19 g20 g21 g22 g23 g24 g25 g26 g27 g28 g29 g30 g31 g32 g33 g34 g35 g36 g37 g38 g39 g40 g41 g42 g43 g44 t), _, _))
  iterate 2 refine hR (?_ : R (_, _, _, _, _, _))
  refine hR (zcall_i 0 0 (Nat.le_of_ble_eq_true rfl) (Nat.le_of_ble_eq_true rfl) (m_hasYear _ a1 hb19 (by omega) _ fun v1 y28_2 hp3 hp4 => ?_))
  refine (?_ : R (_, _, (.int (Int32.ofInt v1)) :: [], (zMi c0 c1 c2 c3 c4 c5 c6 c7 c8 c9 c10 c11 c12 c13 0 f9 f10 f11 f12 f13 f15 f16 f17 f20 f21 f22 f23 f26 y28_2 f31 f32 f33 f38 f41 f44 x14 g15 g16 g17 g18 g19 g20 g21 g22 g23 g24 g25 g26 g27 g28 g29 g30 g31 g32 g33 g34 g35 g36 g37 g38 g39 g40 g41 g42 g43 g44 t), 0, 0))
  refine hR (k_ne (by omega) (fun hc5 => ?_) (fun hc5 => ?_))
  rotate_left
  · skip
    refine hR (t_c (-2) (by decide) ?_)
    exact hR (zret_i rfl (Nat.le_refl _) trivial (h _ _ _))
  iterate 2 refine hR (?_ : R (_, _, _, _, _, _))
  refine hR (j_ne (by omega) (by omega) (fun hc6 => ?_) (fun hc6 => ?_))
  rotate_left
  · skip
    refine hR (?_ : R (_, _, _, _, _, _))
    refine hR (k_ne (by omega) (fun hc17 => ?_) (fun hc17 => ?_))
    · skip
      refine hR (t_c (-2) (by decide) ?_)
      exact hR (zret_i rfl (Nat.le_refl _) trivial (h _ _ _))
    refine hR (?_ : R (_, _, _, _, _, _))
    refine hR (zcall_i 0 0 (Nat.le_of_ble_eq_true rfl) (Nat.le_of_ble_eq_true rfl) (m_deeds _ hr1 (by omega) _ fun v18 hp19 hp20 => ?_))
    refine (?_ : R (_, _, (.int (Int32.ofInt v18)) :: [], (zMi c0 c1 c2 c3 c4 c5 c6 c7 c8 c9 c10 c11 c12 c13 0 f9 f10 f11 f12 f13 f15 f16 f17 f20 f21 f22 f23 f26 y28_2 f31 f32 f33 f38 f41 f44 x14 g15 g16 g17 g18 g19 g20 g21 g22 g23 g24 g25 g26 g27 g28 g29 g30 g31 g32 g33 g34 g35 g36 g37 g38 g39 g40 g41 g42 g43 g44 t), 0, 0))
    refine hR (?_ : R (_, _, _, _, _, _))
    exact hR (zret_i rfl (Nat.le_refl _) trivial (h _ _ _))
  iterate 3 refine hR (?_ : R (_, _, _, _, _, _))
  refine hR (zcall_i 0 0 (Nat.le_of_ble_eq_true rfl) (Nat.le_of_ble_eq_true rfl) (m_deeds _ hr1 (by omega) _ fun v7 hp8 hp9 => ?_))
  refine (?_ : R (_, _, (.int (Int32.ofInt v7)) :: (.int (Int32.ofInt 0)) :: (.int (Int32.ofInt a2)) :: [], (zMi c0 c1 c2 c3 c4 c5 c6 c7 c8 c9 c10 c11 c12 c13 0 f9 f10 f11 f12 f13 f15 f16 f17 f20 f21 f22 f23 f26 y28_2 f31 f32 f33 f38 f41 f44 x14 g15 g16 g17 g18 g19 g20 g21 g22 g23 g24 g25 g26 g27 g28 g29 g30 g31 g32 g33 g34 g35 g36 g37 g38 g39 g40 g41 g42 g43 g44 t), 0, 0))
  refine hR (?_ : R (_, _, _, _, _, _))
  refine hR (t_sub ?_)
  refine hR (zcall_i 0 0 (Nat.le_of_ble_eq_true rfl) (Nat.le_of_ble_eq_true rfl) (m_in _ a2 0 (v7 - 1) _ (by omega) (by omega) (by omega) _ fun v10 hp11 => ?_))
  refine (?_ : R (_, _, (.int (Int32.ofInt v10)) :: [], (zMi c0 c1 c2 c3 c4 c5 c6 c7 c8 c9 c10 c11 c12 c13 0 f9 f10 f11 f12 f13 f15 f16 f17 f20 f21 f22 f23 f26 y28_2 f31 f32 f33 f38 f41 f44 x14 g15 g16 g17 g18 g19 g20 g21 g22 g23 g24 g25 g26 g27 g28 g29 g30 g31 g32 g33 g34 g35 g36 g37 g38 g39 g40 g41 g42 g43 g44 t), 0, 0))
  refine hR (k_eq (by omega) (fun hc12 => ?_) (fun hc12 => ?_))
  · skip
    refine hR (t_c (-2) (by decide) ?_)
    exact hR (zret_i rfl (Nat.le_refl _) trivial (h _ _ _))
  iterate 3 refine hR (?_ : R (_, _, _, _, _, _))
  refine hR (zcall_i 0 0 (Nat.le_of_ble_eq_true rfl) (Nat.le_of_ble_eq_true rfl) (m_in _ a3 0 2 _ (by omega) (by omega) (by omega) _ fun v13 hp14 => ?_))
  refine (?_ : R (_, _, (.int (Int32.ofInt v13)) :: [], (zMi c0 c1 c2 c3 c4 c5 c6 c7 c8 c9 c10 c11 c12 c13 0 f9 f10 f11 f12 f13 f15 f16 f17 f20 f21 f22 f23 f26 y28_2 f31 f32 f33 f38 f41 f44 x14 g15 g16 g17 g18 g19 g20 g21 g22 g23 g24 g25 g26 g27 g28 g29 g30 g31 g32 g33 g34 g35 g36 g37 g38 g39 g40 g41 g42 g43 g44 t), 0, 0))
  refine hR (k_eq (by omega) (fun hc15 => ?_) (fun hc15 => ?_))
  · skip
    refine hR (t_c (-2) (by decide) ?_)
    exact hR (zret_i rfl (Nat.le_refl _) trivial (h _ _ _))
  iterate 3 refine hR (?_ : R (_, _, _, _, _, _))
  refine hR (zcall_i 0 0 (Nat.le_of_ble_eq_true rfl) (Nat.le_of_ble_eq_true rfl) (m_deedOf _ a2 a3 (by omega) (by omega) (by omega) _ fun v16 => ?_))
  refine (?_ : R (_, _, (.int (Int32.ofInt v16)) :: [], (zMi c0 c1 c2 c3 c4 c5 c6 c7 c8 c9 c10 c11 c12 c13 0 f9 f10 f11 f12 f13 f15 f16 f17 f20 f21 f22 f23 f26 y28_2 f31 f32 f33 f38 f41 f44 x14 g15 g16 g17 g18 g19 g20 g21 g22 g23 g24 g25 g26 g27 g28 g29 g30 g31 g32 g33 g34 g35 g36 g37 g38 g39 g40 g41 g42 g43 g44 t), 0, 0))
  refine hR (?_ : R (_, _, _, _, _, _))
  exact hR (zret_i rfl (Nat.le_refl _) trivial (h _ _ _))
theorem m_begin (d : Nat) (hb28 : zB 0 5460 g28) (hr1 : 0 ≤ f22 ∧ f22 ≤ 5460) (Q : zQ) (h : ∀ (y31 : Int) (y32 : Int) (y33 : Int) (k28 : Nat → Int32) (k29 : Nat → Int32), zB 0 5460 k28 → (y31 = 0 ∧ y32 = 0 ∧ y33 = 0) → Q (none) (zMi c0 c1 c2 c3 c4 c5 c6 c7 c8 c9 c10 c11 c12 c13 f0 f9 f10 f11 f12 f13 f15 f16 f17 f20 f21 f22 f23 f26 f28 y31 y32 y33 f38 f41 f44 x14 g15 g16 g17 g18 g19 g20 g21 g22 g23 g24 g25 g26 g27 k28 k29 g30 g31 g32 g33 g34 g35 g36 g37 g38 g39 g40 g41 g42 g43 g44 t)) : zCl zTab (d + 1) iX12_begin [.ref 14] (zMi c0 c1 c2 c3 c4 c5 c6 c7 c8 c9 c10 c11 c12 c13 f0 f9 f10 f11 f12 f13 f15 f16 f17 f20 f21 f22 f23 f26 f28 f31 f32 f33 f38 f41 f44 x14 g15 g16 g17 g18 g19 g20 g21 g22 g23 g24 g25 g26 g27 g28 g29 g30 g31 g32 g33 g34 g35 g36 g37 g38 g39 g40 g41 g42 g43 g44 t) 0 0 Q := by
  refine zCl_i (M := kX12_begin) rfl (Nat.le_of_ble_eq_true rfl) fun R hR => ?_
  iterate 2 refine hR (?_ : R (_, _, _, _, _, _))
  have lp2 : ∀ (N : Nat) (i : Int) (q28_2 : Nat → Int32), (0 ≤ i ∧ i ≤ 4) → (zB 0 5460 q28_2) → (4 - i < N) → R (2, [some (.ref 14), some (.int (Int32.ofInt i))], [], (zMi c0 c1 c2 c3 c4 c5 c6 c7 c8 c9 c10 c11 c12 c13 f0 f9 f10 f11 f12 f13 f15 f16 f17 f20 f21 f22 f23 f26 f28 f31 f32 f33 f38 f41 f44 x14 g15 g16 g17 g18 g19 g20 g21 g22 g23 g24 g25 g26 g27 q28_2 g29 g30 g31 g32 g33 g34 g35 g36 g37 g38 g39 g40 g41 g42 g43 g44 t), 0, 0) := by
    intro N
    induction N with
    | zero => intros; omega
    | succ N ih2 =>
      intro i q28_2 hf0_2 hq28_2 hN2
      iterate 2 refine hR (?_ : R (_, _, _, _, _, _))
      refine hR (j_ge (by omega) (by omega) (fun hc1 => ?_) (fun hc1 => ?_))
      rotate_left
      · skip
        iterate 5 refine hR (?_ : R (_, _, _, _, _, _))
        refine hR (t_stB hq28_2 (by omega) (by omega) (by omega) (by omega) (by omega) (by omega) (Nat.le_of_ble_eq_true rfl) fun k28_4 hk28_4 => (?_ : R (_, _, _, (zMi c0 c1 c2 c3 c4 c5 c6 c7 c8 c9 c10 c11 c12 c13 f0 f9 f10 f11 f12 f13 f15 f16 f17 f20 f21 f22 f23 f26 f28 f31 f32 f33 f38 f41 f44 x14 g15 g16 g17 g18 g19 g20 g21 g22 g23 g24 g25 g26 g27 k28_4 g29 g30 g31 g32 g33 g34 g35 g36 g37 g38 g39 g40 g41 g42 g43 g44 t), _, _)))
        refine hR (t_inc ?_)
        refine hR (?_ : R (_, _, _, _, _, _))
        exact ih2 _ _ (by omega) hk28_4 (by omega)
      iterate 2 refine hR (?_ : R (_, _, _, _, _, _))
      have lp25 : ∀ (N : Nat) (i : Int) (q29_25 : Nat → Int32), (0 ≤ i ∧ i ≤ 5) → (5 - i < N) → R (25, [some (.ref 14), some (.int (Int32.ofInt i))], [], (zMi c0 c1 c2 c3 c4 c5 c6 c7 c8 c9 c10 c11 c12 c13 f0 f9 f10 f11 f12 f13 f15 f16 f17 f20 f21 f22 f23 f26 f28 f31 f32 f33 f38 f41 f44 x14 g15 g16 g17 g18 g19 g20 g21 g22 g23 g24 g25 g26 g27 q28_2 q29_25 g30 g31 g32 g33 g34 g35 g36 g37 g38 g39 g40 g41 g42 g43 g44 t), 0, 0) := by
        intro N
        induction N with
        | zero => intros; omega
        | succ N ih25 =>
          intro i q29_25 hf0_25 hN25
          iterate 2 refine hR (?_ : R (_, _, _, _, _, _))
          refine hR (j_ge (by omega) (by omega) (fun hc2 => ?_) (fun hc2 => ?_))
          rotate_left
          · skip
            iterate 4 refine hR (?_ : R (_, _, _, _, _, _))
            refine hR (t_stx (by omega) (by omega) (Nat.le_of_ble_eq_true rfl) fun k29_3 => (?_ : R (_, _, _, (zMi c0 c1 c2 c3 c4 c5 c6 c7 c8 c9 c10 c11 c12 c13 f0 f9 f10 f11 f12 f13 f15 f16 f17 f20 f21 f22 f23 f26 f28 f31 f32 f33 f38 f41 f44 x14 g15 g16 g17 g18 g19 g20 g21 g22 g23 g24 g25 g26 g27 q28_2 k29_3 g30 g31 g32 g33 g34 g35 g36 g37 g38 g39 g40 g41 g42 g43 g44 t), _, _)))
            refine hR (t_inc ?_)
            refine hR (?_ : R (_, _, _, _, _, _))
            exact ih25 _ _ (by omega) (by omega)
          iterate 2 refine hR (?_ : R (_, _, _, _, _, _))
          refine hR (?_ : R (_, _, _, (zMi c0 c1 c2 c3 c4 c5 c6 c7 c8 c9 c10 c11 c12 c13 f0 f9 f10 f11 f12 f13 f15 f16 f17 f20 f21 f22 f23 f26 f28 0 f32 f33 f38 f41 f44 x14 g15 g16 g17 g18 g19 g20 g21 g22 g23 g24 g25 g26 g27 q28_2 q29_25 g30 g31 g32 g33 g34 g35 g36 g37 g38 g39 g40 g41 g42 g43 g44 t), _, _))
          iterate 2 refine hR (?_ : R (_, _, _, _, _, _))
          refine hR (?_ : R (_, _, _, (zMi c0 c1 c2 c3 c4 c5 c6 c7 c8 c9 c10 c11 c12 c13 f0 f9 f10 f11 f12 f13 f15 f16 f17 f20 f21 f22 f23 f26 f28 0 0 f33 f38 f41 f44 x14 g15 g16 g17 g18 g19 g20 g21 g22 g23 g24 g25 g26 g27 q28_2 q29_25 g30 g31 g32 g33 g34 g35 g36 g37 g38 g39 g40 g41 g42 g43 g44 t), _, _))
          iterate 2 refine hR (?_ : R (_, _, _, _, _, _))
          refine hR (?_ : R (_, _, _, (zMi c0 c1 c2 c3 c4 c5 c6 c7 c8 c9 c10 c11 c12 c13 f0 f9 f10 f11 f12 f13 f15 f16 f17 f20 f21 f22 f23 f26 f28 0 0 0 f38 f41 f44 x14 g15 g16 g17 g18 g19 g20 g21 g22 g23 g24 g25 g26 g27 q28_2 q29_25 g30 g31 g32 g33 g34 g35 g36 g37 g38 g39 g40 g41 g42 g43 g44 t), _, _))
          exact hR (zret_i rfl (Nat.le_refl _) rfl (h _ _ _ _ _ hq28_2 (by omega)))
      exact lp25 400000000 _ _ (by omega) (by omega)
  exact lp2 400000000 _ _ (by omega) hb28 (by omega)
theorem m_reads (d : Nat) (a1 a2 : Int) (hb25 : zB 0 3 g25) (hb28 : zB 0 5460 g28) (hr2 : bkOK g20) (hr3 : 0 ≤ f20 ∧ f20 ≤ 1) (hr4 : 0 ≤ f23 ∧ f23 ≤ 5) (hr5 : 0 ≤ a1 ∧ a1 ≤ 3) (hr6 : -2147483648 ≤ a2 ∧ a2 ≤ 2147483647) (Q : zQ) (h : ∀ (v : Int) (y26 : Int) (y33 : Int) (k25 : Nat → Int32) (k28 : Nat → Int32) (k29 : Nat → Int32), zB 0 3 k25 → zB 0 5460 k28 → (v = 0 ∨ v = 1) → Q (some (.int (Int32.ofInt v))) (zMi c0 c1 c2 c3 c4 c5 c6 c7 c8 c9 c10 c11 c12 c13 f0 f9 f10 f11 f12 f13 f15 f16 f17 f20 f21 f22 f23 y26 f28 f31 f32 y33 f38 f41 f44 x14 g15 g16 g17 g18 g19 g20 g21 g22 g23 g24 k25 g26 g27 k28 k29 g30 g31 g32 g33 g34 g35 g36 g37 g38 g39 g40 g41 g42 g43 g44 t)) : zCl zTab (d + 5) iX12_reads [.ref 14, .int (Int32.ofInt a1), .int (Int32.ofInt a2)] (zMi c0 c1 c2 c3 c4 c5 c6 c7 c8 c9 c10 c11 c12 c13 f0 f9 f10 f11 f12 f13 f15 f16 f17 f20 f21 f22 f23 f26 f28 f31 f32 f33 f38 f41 f44 x14 g15 g16 g17 g18 g19 g20 g21 g22 g23 g24 g25 g26 g27 g28 g29 g30 g31 g32 g33 g34 g35 g36 g37 g38 g39 g40 g41 g42 g43 g44 t) 0 0 Q := by
  refine zCl_i (M := kX12_reads) rfl (Nat.le_of_ble_eq_true rfl) fun R hR => ?_
  iterate 2 refine hR (?_ : R (_, _, _, _, _, _))
  refine hR (zcall_i 0 0 (Nat.le_of_ble_eq_true rfl) (Nat.le_of_ble_eq_true rfl) (m_isReader _ a2 (by omega) (by omega) _ fun v1 hp2 => ?_))
  refine (?_ : R (_, _, (.int (Int32.ofInt v1)) :: [], (zMi c0 c1 c2 c3 c4 c5 c6 c7 c8 c9 c10 c11 c12 c13 f0 f9 f10 f11 f12 f13 f15 f16 f17 f20 f21 f22 f23 f26 f28 f31 f32 f33 f38 f41 f44 x14 g15 g16 g17 g18 g19 g20 g21 g22 g23 g24 g25 g26 g27 g28 g29 g30 g31 g32 g33 g34 g35 g36 g37 g38 g39 g40 g41 g42 g43 g44 t), 0, 0))
  refine hR (k_ne (by omega) (fun hc3 => ?_) (fun hc3 => ?_))
  rotate_left
  · skip
    refine hR (?_ : R (_, _, _, _, _, _))
    exact hR (zret_i rfl (Nat.le_refl _) (zbo (by omega)) (h _ _ _ _ _ _ hb25 hb28 (by omega)))
  iterate 6 refine hR (?_ : R (_, _, _, _, _, _))
  refine hR (zcall_i 0 0 (Nat.le_of_ble_eq_true rfl) (Nat.le_of_ble_eq_true rfl) (m_has _ f33 a1 _ _ fun v4 hp5 => ?_))
  refine (?_ : R (_, _, (.int (Int32.ofInt v4)) :: (.int (Int32.ofInt a1)) :: (.ref 28) :: [], (zMi c0 c1 c2 c3 c4 c5 c6 c7 c8 c9 c10 c11 c12 c13 f0 f9 f10 f11 f12 f13 f15 f16 f17 f20 f21 f22 f23 f26 f28 f31 f32 f33 f38 f41 f44 x14 g15 g16 g17 g18 g19 g20 g21 g22 g23 g24 g25 g26 g27 g28 g29 g30 g31 g32 g33 g34 g35 g36 g37 g38 g39 g40 g41 g42 g43 g44 t), 0, 0))
  refine hR (k_eq (by omega) (fun hc6 => ?_) (fun hc6 => ?_))
  rotate_left
  · skip
    iterate 3 refine hR (?_ : R (_, _, _, _, _, _))
    refine hR (t_ldB hb28 (by omega) (by omega) (Nat.le_of_ble_eq_true rfl) fun v19 ev19 lv19 uv19 => ?_)
    clear ev19
    refine hR (?_ : R (_, _, _, _, _, _))
    refine hR (t_stB hb28 (by omega) (by omega) (by omega) (by omega) (by omega) (by omega) (Nat.le_of_ble_eq_true rfl) fun k28_20 hk28_20 => (?_ : R (_, _, _, (zMi c0 c1 c2 c3 c4 c5 c6 c7 c8 c9 c10 c11 c12 c13 f0 f9 f10 f11 f12 f13 f15 f16 f17 f20 f21 f22 f23 f26 f28 f31 f32 f33 f38 f41 f44 x14 g15 g16 g17 g18 g19 g20 g21 g22 g23 g24 g25 g26 g27 k28_20 g29 g30 g31 g32 g33 g34 g35 g36 g37 g38 g39 g40 g41 g42 g43 g44 t), _, _)))
    iterate 5 refine hR (?_ : R (_, _, _, _, _, _))
    obtain ⟨v21, lv21, uv21, qv21⟩ := zshl_r (e := a1) (by omega) (by omega)
    refine hR (t_c v21 qv21 ?_)
    refine hR (?_ : R (_, _, _, _, _, _))
    refine hR (t_o fun v22 rv22 => ?_)
    refine hR (t_o fun v23 rv23 => ?_)
    refine hR (?_ : R (_, _, _, (zMi c0 c1 c2 c3 c4 c5 c6 c7 c8 c9 c10 c11 c12 c13 f0 f9 f10 f11 f12 f13 f15 f16 f17 f20 f21 f22 f23 f26 f28 f31 f32 v23 f38 f41 f44 x14 g15 g16 g17 g18 g19 g20 g21 g22 g23 g24 g25 g26 g27 k28_20 g29 g30 g31 g32 g33 g34 g35 g36 g37 g38 g39 g40 g41 g42 g43 g44 t), _, _))
    iterate 4 refine hR (?_ : R (_, _, _, _, _, _))
    refine hR (t_ldo (by omega) (by omega) (Nat.le_of_ble_eq_true rfl) fun v24 rv24 => ?_)
    refine hR (?_ : R (_, _, _, _, _, _))
    refine hR (t_add ?_)
    refine hR (t_stx (by omega) (by omega) (Nat.le_of_ble_eq_true rfl) fun k29_25 => (?_ : R (_, _, _, (zMi c0 c1 c2 c3 c4 c5 c6 c7 c8 c9 c10 c11 c12 c13 f0 f9 f10 f11 f12 f13 f15 f16 f17 f20 f21 f22 f23 f26 f28 f31 f32 v23 f38 f41 f44 x14 g15 g16 g17 g18 g19 g20 g21 g22 g23 g24 g25 g26 g27 k28_20 k29_25 g30 g31 g32 g33 g34 g35 g36 g37 g38 g39 g40 g41 g42 g43 g44 t), _, _)))
    refine hR (?_ : R (_, _, _, _, _, _))
    exact hR (zret_i rfl (Nat.le_refl _) (zbo (by omega)) (h _ _ _ _ _ _ hb25 hk28_20 (by omega)))
  iterate 4 refine hR (?_ : R (_, _, _, _, _, _))
  refine hR (t_ldB hb28 (by omega) (by omega) (Nat.le_of_ble_eq_true rfl) fun v7 ev7 lv7 uv7 => ?_)
  clear ev7
  refine hR (?_ : R (_, _, _, _, _, _))
  refine hR (zcall_i 0 0 (Nat.le_of_ble_eq_true rfl) (Nat.le_of_ble_eq_true rfl) (m_readBy _ v7 a2 hb25 (by omega) hr2 (by omega) (by omega) _ fun v8 y26_9 k25_10 hp11 hp12 => ?_))
  refine (?_ : R (_, _, (.int (Int32.ofInt v8)) :: (.int (Int32.ofInt a1)) :: (.ref 28) :: [], (zMi c0 c1 c2 c3 c4 c5 c6 c7 c8 c9 c10 c11 c12 c13 f0 f9 f10 f11 f12 f13 f15 f16 f17 f20 f21 f22 f23 y26_9 f28 f31 f32 f33 f38 f41 f44 x14 g15 g16 g17 g18 g19 g20 g21 g22 g23 g24 k25_10 g26 g27 g28 g29 g30 g31 g32 g33 g34 g35 g36 g37 g38 g39 g40 g41 g42 g43 g44 t), 0, 0))
  refine hR (t_stB hb28 (by omega) (by omega) (by omega) (by omega) (by omega) (by omega) (Nat.le_of_ble_eq_true rfl) fun k28_13 hk28_13 => (?_ : R (_, _, _, (zMi c0 c1 c2 c3 c4 c5 c6 c7 c8 c9 c10 c11 c12 c13 f0 f9 f10 f11 f12 f13 f15 f16 f17 f20 f21 f22 f23 y26_9 f28 f31 f32 f33 f38 f41 f44 x14 g15 g16 g17 g18 g19 g20 g21 g22 g23 g24 k25_10 g26 g27 k28_13 g29 g30 g31 g32 g33 g34 g35 g36 g37 g38 g39 g40 g41 g42 g43 g44 t), _, _)))
  iterate 5 refine hR (?_ : R (_, _, _, _, _, _))
  obtain ⟨v14, lv14, uv14, qv14⟩ := zshl_r (e := a1) (by omega) (by omega)
  refine hR (t_c v14 qv14 ?_)
  refine hR (?_ : R (_, _, _, _, _, _))
  refine hR (t_o fun v15 rv15 => ?_)
  refine hR (t_o fun v16 rv16 => ?_)
  refine hR (?_ : R (_, _, _, (zMi c0 c1 c2 c3 c4 c5 c6 c7 c8 c9 c10 c11 c12 c13 f0 f9 f10 f11 f12 f13 f15 f16 f17 f20 f21 f22 f23 y26_9 f28 f31 f32 v16 f38 f41 f44 x14 g15 g16 g17 g18 g19 g20 g21 g22 g23 g24 k25_10 g26 g27 k28_13 g29 g30 g31 g32 g33 g34 g35 g36 g37 g38 g39 g40 g41 g42 g43 g44 t), _, _))
  iterate 4 refine hR (?_ : R (_, _, _, _, _, _))
  refine hR (t_ldo (by omega) (by omega) (Nat.le_of_ble_eq_true rfl) fun v17 rv17 => ?_)
  refine hR (?_ : R (_, _, _, _, _, _))
  refine hR (t_add ?_)
  refine hR (t_stx (by omega) (by omega) (Nat.le_of_ble_eq_true rfl) fun k29_18 => (?_ : R (_, _, _, (zMi c0 c1 c2 c3 c4 c5 c6 c7 c8 c9 c10 c11 c12 c13 f0 f9 f10 f11 f12 f13 f15 f16 f17 f20 f21 f22 f23 y26_9 f28 f31 f32 v16 f38 f41 f44 x14 g15 g16 g17 g18 g19 g20 g21 g22 g23 g24 k25_10 g26 g27 k28_13 k29_18 g30 g31 g32 g33 g34 g35 g36 g37 g38 g39 g40 g41 g42 g43 g44 t), _, _)))
  refine hR (?_ : R (_, _, _, _, _, _))
  exact hR (zret_i rfl (Nat.le_refl _) (zbo (by omega)) (h _ _ _ _ _ _ hp11 hk28_13 (by omega)))
theorem m_hushes (d : Nat) (a1 : Int) (hr0 : 0 ≤ a1 ∧ a1 ≤ 3) (Q : zQ) (h : ∀ (v : Int) (y33 : Int), (v = 0 ∨ v = 1) → Q (some (.int (Int32.ofInt v))) (zMi c0 c1 c2 c3 c4 c5 c6 c7 c8 c9 c10 c11 c12 c13 f0 f9 f10 f11 f12 f13 f15 f16 f17 f20 f21 f22 f23 f26 f28 f31 f32 y33 f38 f41 f44 x14 g15 g16 g17 g18 g19 g20 g21 g22 g23 g24 g25 g26 g27 g28 g29 g30 g31 g32 g33 g34 g35 g36 g37 g38 g39 g40 g41 g42 g43 g44 t)) : zCl zTab (d + 2) iX12_hushes [.ref 14, .int (Int32.ofInt a1)] (zMi c0 c1 c2 c3 c4 c5 c6 c7 c8 c9 c10 c11 c12 c13 f0 f9 f10 f11 f12 f13 f15 f16 f17 f20 f21 f22 f23 f26 f28 f31 f32 f33 f38 f41 f44 x14 g15 g16 g17 g18 g19 g20 g21 g22 g23 g24 g25 g26 g27 g28 g29 g30 g31 g32 g33 g34 g35 g36 g37 g38 g39 g40 g41 g42 g43 g44 t) 0 0 Q := by
  refine zCl_i (M := kX12_hushes) rfl (Nat.le_of_ble_eq_true rfl) fun R hR => ?_
  iterate 3 refine hR (?_ : R (_, _, _, _, _, _))
  refine hR (zcall_i 0 0 (Nat.le_of_ble_eq_true rfl) (Nat.le_of_ble_eq_true rfl) (m_has _ f33 a1 _ _ fun v1 hp2 => ?_))
  refine (?_ : R (_, _, (.int (Int32.ofInt v1)) :: [], (zMi c0 c1 c2 c3 c4 c5 c6 c7 c8 c9 c10 c11 c12 c13 f0 f9 f10 f11 f12 f13 f15 f16 f17 f20 f21 f22 f23 f26 f28 f31 f32 f33 f38 f41 f44 x14 g15 g16 g17 g18 g19 g20 g21 g22 g23 g24 g25 g26 g27 g28 g29 g30 g31 g32 g33 g34 g35 g36 g37 g38 g39 g40 g41 g42 g43 g44 t), 0, 0))
  refine hR (k_ne (by omega) (fun hc3 => ?_) (fun hc3 => ?_))
  · skip
    iterate 7 refine hR (?_ : R (_, _, _, _, _, _))
    obtain ⟨v4, lv4, uv4, qv4⟩ := zshl_r (e := a1) (by omega) (by omega)
    refine hR (t_c v4 qv4 ?_)
    refine hR (t_o fun v5 rv5 => ?_)
    refine hR (?_ : R (_, _, _, (zMi c0 c1 c2 c3 c4 c5 c6 c7 c8 c9 c10 c11 c12 c13 f0 f9 f10 f11 f12 f13 f15 f16 f17 f20 f21 f22 f23 f26 f28 f31 f32 v5 f38 f41 f44 x14 g15 g16 g17 g18 g19 g20 g21 g22 g23 g24 g25 g26 g27 g28 g29 g30 g31 g32 g33 g34 g35 g36 g37 g38 g39 g40 g41 g42 g43 g44 t), _, _))
    refine hR (?_ : R (_, _, _, _, _, _))
    exact hR (zret_i rfl (Nat.le_refl _) (zbo (by omega)) (h _ _ (by omega)))
  iterate 8 refine hR (?_ : R (_, _, _, _, _, _))
  obtain ⟨v6, lv6, uv6, qv6⟩ := zshl_r (e := a1) (by omega) (by omega)
  refine hR (t_c v6 qv6 ?_)
  refine hR (t_o fun v7 rv7 => ?_)
  refine hR (?_ : R (_, _, _, (zMi c0 c1 c2 c3 c4 c5 c6 c7 c8 c9 c10 c11 c12 c13 f0 f9 f10 f11 f12 f13 f15 f16 f17 f20 f21 f22 f23 f26 f28 f31 f32 v7 f38 f41 f44 x14 g15 g16 g17 g18 g19 g20 g21 g22 g23 g24 g25 g26 g27 g28 g29 g30 g31 g32 g33 g34 g35 g36 g37 g38 g39 g40 g41 g42 g43 g44 t), _, _))
  refine hR (?_ : R (_, _, _, _, _, _))
  exact hR (zret_i rfl (Nat.le_refl _) (zbo (by omega)) (h _ _ (by omega)))
theorem m_goesOn (d : Nat)  (Q : zQ) (h : ∀ (v : Int) (y31 : Int), (v = 0 ∨ v = 1) → Q (some (.int (Int32.ofInt v))) (zMi c0 c1 c2 c3 c4 c5 c6 c7 c8 c9 c10 c11 c12 c13 f0 f9 f10 f11 f12 f13 f15 f16 f17 f20 f21 f22 f23 f26 f28 y31 f32 f33 f38 f41 f44 x14 g15 g16 g17 g18 g19 g20 g21 g22 g23 g24 g25 g26 g27 g28 g29 g30 g31 g32 g33 g34 g35 g36 g37 g38 g39 g40 g41 g42 g43 g44 t)) : zCl zTab (d + 1) iX12_goesOn [.ref 14] (zMi c0 c1 c2 c3 c4 c5 c6 c7 c8 c9 c10 c11 c12 c13 f0 f9 f10 f11 f12 f13 f15 f16 f17 f20 f21 f22 f23 f26 f28 f31 f32 f33 f38 f41 f44 x14 g15 g16 g17 g18 g19 g20 g21 g22 g23 g24 g25 g26 g27 g28 g29 g30 g31 g32 g33 g34 g35 g36 g37 g38 g39 g40 g41 g42 g43 g44 t) 0 0 Q := by
  refine zCl_i (M := kX12_goesOn) rfl (Nat.le_of_ble_eq_true rfl) fun R hR => ?_
  iterate 2 refine hR (?_ : R (_, _, _, _, _, _))
  refine hR (t_c 99 (by decide) ?_)
  refine hR (j_any ?_ ?_)
  · skip
    iterate 6 refine hR (?_ : R (_, _, _, _, _, _))
    refine hR (k_eq (by omega) (fun _ => ?_) (fun hc => by omega))
    refine hR (?_ : R (_, _, _, _, _, _))
    refine hR (t_add ?_)
    refine hR (?_ : R (_, _, _, (zMi c0 c1 c2 c3 c4 c5 c6 c7 c8 c9 c10 c11 c12 c13 f0 f9 f10 f11 f12 f13 f15 f16 f17 f20 f21 f22 f23 f26 f28 (f31 + 0) f32 f33 f38 f41 f44 x14 g15 g16 g17 g18 g19 g20 g21 g22 g23 g24 g25 g26 g27 g28 g29 g30 g31 g32 g33 g34 g35 g36 g37 g38 g39 g40 g41 g42 g43 g44 t), _, _))
    refine hR (?_ : R (_, _, _, _, _, _))
    exact hR (zret_i rfl (Nat.le_refl _) (zbo (by omega)) (h _ _ (by omega)))
  iterate 7 refine hR (?_ : R (_, _, _, _, _, _))
  refine hR (k_eq (by omega) (fun hc => by omega) (fun _ => ?_))
  iterate 2 refine hR (?_ : R (_, _, _, _, _, _))
  refine hR (t_add ?_)
  refine hR (?_ : R (_, _, _, (zMi c0 c1 c2 c3 c4 c5 c6 c7 c8 c9 c10 c11 c12 c13 f0 f9 f10 f11 f12 f13 f15 f16 f17 f20 f21 f22 f23 f26 f28 (f31 + 1) f32 f33 f38 f41 f44 x14 g15 g16 g17 g18 g19 g20 g21 g22 g23 g24 g25 g26 g27 g28 g29 g30 g31 g32 g33 g34 g35 g36 g37 g38 g39 g40 g41 g42 g43 g44 t), _, _))
  refine hR (?_ : R (_, _, _, _, _, _))
  exact hR (zret_i rfl (Nat.le_refl _) (zbo (by omega)) (h _ _ (by omega)))
theorem m_does (d : Nat) (a1 : Int) (hb25 : zB 0 3 g25) (hb28 : zB 0 5460 g28) (hr2 : bkOK g20) (hr3 : yrOK g21) (hr4 : 0 ≤ f20 ∧ f20 ≤ 1) (hr5 : 0 ≤ f23 ∧ f23 ≤ 5) (hr6 : 0 ≤ f28 ∧ f28 ≤ 1) (hr7 : 0 ≤ f22 ∧ f22 ≤ 5460) (hr8 : 0 ≤ f32 ∧ f32 ≤ 3) (hr9 : 0 ≤ a1 ∧ a1 ≤ 39) (Q : zQ) (h : ∀ (v : Int) (y26 : Int) (y31 : Int) (y32 : Int) (y33 : Int) (k25 : Nat → Int32) (k28 : Nat → Int32) (k29 : Nat → Int32), zB 0 3 k25 → zB 0 5460 k28 → (v = 0 ∨ v = 1) → (0 ≤ y32 ∧ y32 ≤ 3) → Q (some (.int (Int32.ofInt v))) (zMi c0 c1 c2 c3 c4 c5 c6 c7 c8 c9 c10 c11 c12 c13 f0 f9 f10 f11 f12 f13 f15 f16 f17 f20 f21 f22 f23 y26 f28 y31 y32 y33 f38 f41 f44 x14 g15 g16 g17 g18 g19 g20 g21 g22 g23 g24 k25 g26 g27 k28 k29 g30 g31 g32 g33 g34 g35 g36 g37 g38 g39 g40 g41 g42 g43 g44 t)) : zCl zTab (d + 6) iX12_does [.ref 14, .int (Int32.ofInt a1)] (zMi c0 c1 c2 c3 c4 c5 c6 c7 c8 c9 c10 c11 c12 c13 f0 f9 f10 f11 f12 f13 f15 f16 f17 f20 f21 f22 f23 f26 f28 f31 f32 f33 f38 f41 f44 x14 g15 g16 g17 g18 g19 g20 g21 g22 g23 g24 g25 g26 g27 g28 g29 g30 g31 g32 g33 g34 g35 g36 g37 g38 g39 g40 g41 g42 g43 g44 t) 0 0 Q := by
  refine zCl_i (M := kX12_does) rfl (Nat.le_of_ble_eq_true rfl) fun R hR => ?_
  have hyx := yr_d hr3 (b := f28.toNat) (k := a1.toNat) (by omega) (by omega)
  iterate 3 refine hR (?_ : R (_, _, _, _, _, _))
  refine hR (zcall_i 0 0 (Nat.le_of_ble_eq_true rfl) (Nat.le_of_ble_eq_true rfl) (m_deedOf1 _ a1 (by omega) (by omega) _ fun v1 hp2 => ?_))
  refine (?_ : R (_, _, (.int (Int32.ofInt v1)) :: [], (zMi c0 c1 c2 c3 c4 c5 c6 c7 c8 c9 c10 c11 c12 c13 f0 f9 f10 f11 f12 f13 f15 f16 f17 f20 f21 f22 f23 f26 f28 f31 f32 f33 f38 f41 f44 x14 g15 g16 g17 g18 g19 g20 g21 g22 g23 g24 g25 g26 g27 g28 g29 g30 g31 g32 g33 g34 g35 g36 g37 g38 g39 g40 g41 g42 g43 g44 t), 0, 0))
  iterate 4 refine hR (?_ : R (_, _, _, _, _, _))
  refine hR (zcall_i 0 0 (Nat.le_of_ble_eq_true rfl) (Nat.le_of_ble_eq_true rfl) (m_deedOf0 _ a1 (by omega) (by omega) _ fun v3 hp4 => ?_))
  refine (?_ : R (_, _, (.int (Int32.ofInt v3)) :: [], (zMi c0 c1 c2 c3 c4 c5 c6 c7 c8 c9 c10 c11 c12 c13 f0 f9 f10 f11 f12 f13 f15 f16 f17 f20 f21 f22 f23 f26 f28 f31 f32 f33 f38 f41 f44 x14 g15 g16 g17 g18 g19 g20 g21 g22 g23 g24 g25 g26 g27 g28 g29 g30 g31 g32 g33 g34 g35 g36 g37 g38 g39 g40 g41 g42 g43 g44 t), 0, 0))
  refine hR (?_ : _ ∧ _)
  rw [zti (e := v3) (by omega) (by omega)]
  refine ⟨fun hs5 => ?_, fun hs5 => ?_⟩
  · skip
    refine hR (?_ : R (_, _, _, _, _, _))
    refine hR (zcall_i 0 0 (Nat.le_of_ble_eq_true rfl) (Nat.le_of_ble_eq_true rfl) (m_goesOn _ _ fun v6 y31_7 hp8 => ?_))
    refine (?_ : R (_, _, (.int (Int32.ofInt v6)) :: [], (zMi c0 c1 c2 c3 c4 c5 c6 c7 c8 c9 c10 c11 c12 c13 f0 f9 f10 f11 f12 f13 f15 f16 f17 f20 f21 f22 f23 f26 f28 y31_7 f32 f33 f38 f41 f44 x14 g15 g16 g17 g18 g19 g20 g21 g22 g23 g24 g25 g26 g27 g28 g29 g30 g31 g32 g33 g34 g35 g36 g37 g38 g39 g40 g41 g42 g43 g44 t), 0, 0))
    exact hR (zret_i rfl (Nat.le_refl _) (zbo (by omega)) (h _ _ _ _ _ _ _ _ hb25 hb28 (by omega) (by omega)))
  · skip
    have hs5d : v3 = 0 ∨ v3 = 1 ∨ v3 = 2 ∨ v3 = 3 ∨ v3 = 4 := by omega
    rcases hs5d with hs5e | hs5e | hs5e | hs5e | hs5e
    · refine ⟨35, by rw [hs5e]; rfl, (?_ : R (_, _, _, _, _, _))⟩
      iterate 5 refine hR (?_ : R (_, _, _, _, _, _))
      refine hR (zcall_i 0 0 (Nat.le_of_ble_eq_true rfl) (Nat.le_of_ble_eq_true rfl) (m_deedOf2 _ a1 (by omega) (by omega) _ fun v9 hp10 => ?_))
      refine (?_ : R (_, _, (.int (Int32.ofInt v9)) :: (.int (Int32.ofInt v1)) :: (.ref 14) :: [], (zMi c0 c1 c2 c3 c4 c5 c6 c7 c8 c9 c10 c11 c12 c13 f0 f9 f10 f11 f12 f13 f15 f16 f17 f20 f21 f22 f23 f26 f28 f31 f32 f33 f38 f41 f44 x14 g15 g16 g17 g18 g19 g20 g21 g22 g23 g24 g25 g26 g27 g28 g29 g30 g31 g32 g33 g34 g35 g36 g37 g38 g39 g40 g41 g42 g43 g44 t), 0, 0))
      refine hR (zcall_i 0 0 (Nat.le_of_ble_eq_true rfl) (Nat.le_of_ble_eq_true rfl) (m_reads _ v1 v9 hb25 hb28 hr2 (by omega) (by omega) (by omega) (by omega) _ fun v11 y26_12 y33_13 k25_14 k28_15 k29_16 hp17 hp18 hp19 => ?_))
      refine (?_ : R (_, _, (.int (Int32.ofInt v11)) :: [], (zMi c0 c1 c2 c3 c4 c5 c6 c7 c8 c9 c10 c11 c12 c13 f0 f9 f10 f11 f12 f13 f15 f16 f17 f20 f21 f22 f23 y26_12 f28 f31 f32 y33_13 f38 f41 f44 x14 g15 g16 g17 g18 g19 g20 g21 g22 g23 g24 k25_14 g26 g27 k28_15 k29_16 g30 g31 g32 g33 g34 g35 g36 g37 g38 g39 g40 g41 g42 g43 g44 t), 0, 0))
      exact hR (zret_i rfl (Nat.le_refl _) (zbo (by omega)) (h _ _ _ _ _ _ _ _ hp17 hp18 (by omega) (by omega)))
    · refine ⟨47, by rw [hs5e]; rfl, (?_ : R (_, _, _, _, _, _))⟩
      iterate 5 refine hR (?_ : R (_, _, _, _, _, _))
      refine hR (zcall_i 0 0 (Nat.le_of_ble_eq_true rfl) (Nat.le_of_ble_eq_true rfl) (m_deedOf2 _ a1 (by omega) (by omega) _ fun v20 hp21 => ?_))
      refine (?_ : R (_, _, (.int (Int32.ofInt v20)) :: (.ref 28) :: [], (zMi c0 c1 c2 c3 c4 c5 c6 c7 c8 c9 c10 c11 c12 c13 f0 f9 f10 f11 f12 f13 f15 f16 f17 f20 f21 f22 f23 f26 f28 f31 f32 f33 f38 f41 f44 x14 g15 g16 g17 g18 g19 g20 g21 g22 g23 g24 g25 g26 g27 g28 g29 g30 g31 g32 g33 g34 g35 g36 g37 g38 g39 g40 g41 g42 g43 g44 t), 0, 0))
      iterate 3 refine hR (?_ : R (_, _, _, _, _, _))
      refine hR (t_ldB hb28 (by omega) (by omega) (Nat.le_of_ble_eq_true rfl) fun v22 ev22 lv22 uv22 => ?_)
      clear ev22
      refine hR (t_stB hb28 (by omega) (by omega) (by omega) (by omega) (by omega) (by omega) (Nat.le_of_ble_eq_true rfl) fun k28_23 hk28_23 => (?_ : R (_, _, _, (zMi c0 c1 c2 c3 c4 c5 c6 c7 c8 c9 c10 c11 c12 c13 f0 f9 f10 f11 f12 f13 f15 f16 f17 f20 f21 f22 f23 f26 f28 f31 f32 f33 f38 f41 f44 x14 g15 g16 g17 g18 g19 g20 g21 g22 g23 g24 g25 g26 g27 k28_23 g29 g30 g31 g32 g33 g34 g35 g36 g37 g38 g39 g40 g41 g42 g43 g44 t), _, _)))
      refine hR (?_ : R (_, _, _, _, _, _))
      exact hR (zret_i rfl (Nat.le_refl _) (zbo (by omega)) (h _ _ _ _ _ _ _ _ hb25 hk28_23 (by omega) (by omega)))
    · refine ⟨66, by rw [hs5e]; rfl, (?_ : R (_, _, _, _, _, _))⟩
      iterate 2 refine hR (?_ : R (_, _, _, _, _, _))
      refine hR (?_ : R (_, _, _, (zMi c0 c1 c2 c3 c4 c5 c6 c7 c8 c9 c10 c11 c12 c13 f0 f9 f10 f11 f12 f13 f15 f16 f17 f20 f21 f22 f23 f26 f28 f31 v1 f33 f38 f41 f44 x14 g15 g16 g17 g18 g19 g20 g21 g22 g23 g24 g25 g26 g27 g28 g29 g30 g31 g32 g33 g34 g35 g36 g37 g38 g39 g40 g41 g42 g43 g44 t), _, _))
      refine hR (?_ : R (_, _, _, _, _, _))
      exact hR (zret_i rfl (Nat.le_refl _) (zbo (by omega)) (h _ _ _ _ _ _ _ _ hb25 hb28 (by omega) (by omega)))
    · refine ⟨73, by rw [hs5e]; rfl, (?_ : R (_, _, _, _, _, _))⟩
      iterate 6 refine hR (?_ : R (_, _, _, _, _, _))
      refine hR (j_ne (by omega) (by omega) (fun hc24 => ?_) (fun hc24 => ?_))
      · skip
        iterate 2 refine hR (?_ : R (_, _, _, _, _, _))
        refine hR (t_stB hb28 (by omega) (by omega) (by omega) (by omega) (by omega) (by omega) (Nat.le_of_ble_eq_true rfl) fun k28_25 hk28_25 => (?_ : R (_, _, _, (zMi c0 c1 c2 c3 c4 c5 c6 c7 c8 c9 c10 c11 c12 c13 f0 f9 f10 f11 f12 f13 f15 f16 f17 f20 f21 f22 f23 f26 f28 f31 f32 f33 f38 f41 f44 x14 g15 g16 g17 g18 g19 g20 g21 g22 g23 g24 g25 g26 g27 k28_25 g29 g30 g31 g32 g33 g34 g35 g36 g37 g38 g39 g40 g41 g42 g43 g44 t), _, _)))
        iterate 3 refine hR (?_ : R (_, _, _, _, _, _))
        refine hR (j_eq (by omega) (by omega) (fun hc26 => ?_) (fun hc26 => ?_))
        · skip
          refine hR (?_ : R (_, _, _, _, _, _))
          exact hR (zret_i rfl (Nat.le_refl _) (zbo (by omega)) (h _ _ _ _ _ _ _ _ hb25 hk28_25 (by omega) (by omega)))
        iterate 2 refine hR (?_ : R (_, _, _, _, _, _))
        exact hR (zret_i rfl (Nat.le_refl _) (zbo (by omega)) (h _ _ _ _ _ _ _ _ hb25 hk28_25 (by omega) (by omega)))
      iterate 3 refine hR (?_ : R (_, _, _, _, _, _))
      refine hR (t_ldB hb28 (by omega) (by omega) (Nat.le_of_ble_eq_true rfl) fun v27 ev27 lv27 uv27 => ?_)
      clear ev27
      refine hR (?_ : R (_, _, _, _, _, _))
      refine hR (t_stB hb28 (by omega) (by omega) (by omega) (by omega) (by omega) (by omega) (Nat.le_of_ble_eq_true rfl) fun k28_28 hk28_28 => (?_ : R (_, _, _, (zMi c0 c1 c2 c3 c4 c5 c6 c7 c8 c9 c10 c11 c12 c13 f0 f9 f10 f11 f12 f13 f15 f16 f17 f20 f21 f22 f23 f26 f28 f31 f32 f33 f38 f41 f44 x14 g15 g16 g17 g18 g19 g20 g21 g22 g23 g24 g25 g26 g27 k28_28 g29 g30 g31 g32 g33 g34 g35 g36 g37 g38 g39 g40 g41 g42 g43 g44 t), _, _)))
      iterate 3 refine hR (?_ : R (_, _, _, _, _, _))
      refine hR (j_eq (by omega) (by omega) (fun hc29 => ?_) (fun hc29 => ?_))
      · skip
        refine hR (?_ : R (_, _, _, _, _, _))
        exact hR (zret_i rfl (Nat.le_refl _) (zbo (by omega)) (h _ _ _ _ _ _ _ _ hb25 hk28_28 (by omega) (by omega)))
      iterate 2 refine hR (?_ : R (_, _, _, _, _, _))
      exact hR (zret_i rfl (Nat.le_refl _) (zbo (by omega)) (h _ _ _ _ _ _ _ _ hb25 hk28_28 (by omega) (by omega)))
    · refine ⟨114, by rw [hs5e]; rfl, (?_ : R (_, _, _, _, _, _))⟩
      iterate 2 refine hR (?_ : R (_, _, _, _, _, _))
      refine hR (zcall_i 0 0 (Nat.le_of_ble_eq_true rfl) (Nat.le_of_ble_eq_true rfl) (m_hushes _ v1 (by omega) _ fun v30 y33_31 hp32 => ?_))
      refine (?_ : R (_, _, (.int (Int32.ofInt v30)) :: [], (zMi c0 c1 c2 c3 c4 c5 c6 c7 c8 c9 c10 c11 c12 c13 f0 f9 f10 f11 f12 f13 f15 f16 f17 f20 f21 f22 f23 f26 f28 f31 f32 y33_31 f38 f41 f44 x14 g15 g16 g17 g18 g19 g20 g21 g22 g23 g24 g25 g26 g27 g28 g29 g30 g31 g32 g33 g34 g35 g36 g37 g38 g39 g40 g41 g42 g43 g44 t), 0, 0))
      exact hR (zret_i rfl (Nat.le_refl _) (zbo (by omega)) (h _ _ _ _ _ _ _ _ hb25 hb28 (by omega) (by omega)))
theorem m_play1 (d : Nat) (a1 : Int) (hb25 : zB 0 3 g25) (hb28 : zB 0 5460 g28) (hr2 : bkOK g20) (hr3 : yrOK g21) (hr4 : 0 ≤ f20 ∧ f20 ≤ 1) (hr5 : 0 ≤ f23 ∧ f23 ≤ 5) (hr6 : 0 ≤ f28 ∧ f28 ≤ 1) (hr7 : 0 ≤ f22 ∧ f22 ≤ 5460) (hr8 : 0 ≤ a1 ∧ a1 ≤ 40) (Q : zQ) (h : ∀ (v : Int) (y26 : Int) (y31 : Int) (y32 : Int) (y33 : Int) (k25 : Nat → Int32) (k28 : Nat → Int32) (k29 : Nat → Int32), zB 0 3 k25 → zB 0 5460 k28 → (0 ≤ v ∧ v ≤ a1) → (0 ≤ y32 ∧ y32 ≤ 3) → Q (some (.int (Int32.ofInt v))) (zMi c0 c1 c2 c3 c4 c5 c6 c7 c8 c9 c10 c11 c12 c13 f0 f9 f10 f11 f12 f13 f15 f16 f17 f20 f21 f22 f23 y26 f28 y31 y32 y33 f38 f41 f44 x14 g15 g16 g17 g18 g19 g20 g21 g22 g23 g24 k25 g26 g27 k28 k29 g30 g31 g32 g33 g34 g35 g36 g37 g38 g39 g40 g41 g42 g43 g44 t)) : zCl zTab (d + 7) iX12_play [.ref 14, .int (Int32.ofInt a1)] (zMi c0 c1 c2 c3 c4 c5 c6 c7 c8 c9 c10 c11 c12 c13 f0 f9 f10 f11 f12 f13 f15 f16 f17 f20 f21 f22 f23 f26 f28 f31 f32 f33 f38 f41 f44 x14 g15 g16 g17 g18 g19 g20 g21 g22 g23 g24 g25 g26 g27 g28 g29 g30 g31 g32 g33 g34 g35 g36 g37 g38 g39 g40 g41 g42 g43 g44 t) 0 0 Q := by
  refine zCl_i (M := kX12_play) rfl (Nat.le_of_ble_eq_true rfl) fun R hR => ?_
  refine hR (?_ : R (_, _, _, _, _, _))
  refine hR (zcall_i 0 0 (Nat.le_of_ble_eq_true rfl) (Nat.le_of_ble_eq_true rfl) (m_begin _ hb28 (by omega) _ fun y31_1 y32_2 y33_3 k28_4 k29_5 hp6 hp7 => ?_))
  refine (?_ : R (_, _, [], (zMi c0 c1 c2 c3 c4 c5 c6 c7 c8 c9 c10 c11 c12 c13 f0 f9 f10 f11 f12 f13 f15 f16 f17 f20 f21 f22 f23 f26 f28 y31_1 y32_2 y33_3 f38 f41 f44 x14 g15 g16 g17 g18 g19 g20 g21 g22 g23 g24 g25 g26 g27 k28_4 k29_5 g30 g31 g32 g33 g34 g35 g36 g37 g38 g39 g40 g41 g42 g43 g44 t), 0, 0))
  iterate 2 refine hR (?_ : R (_, _, _, _, _, _))
  have lp6 : ∀ (N : Nat) (i : Int) (e26_6 : Int) (e31_6 : Int) (e32_6 : Int) (e33_6 : Int) (q25_6 : Nat → Int32) (q28_6 : Nat → Int32) (q29_6 : Nat → Int32), (0 ≤ i ∧ i ≤ a1) → (0 ≤ e32_6 ∧ e32_6 ≤ 3) → (zB 0 3 q25_6) → (zB 0 5460 q28_6) → (a1 - i < N) → R (6, [some (.ref 14), some (.int (Int32.ofInt a1)), some (.int (Int32.ofInt i))], [], (zMi c0 c1 c2 c3 c4 c5 c6 c7 c8 c9 c10 c11 c12 c13 f0 f9 f10 f11 f12 f13 f15 f16 f17 f20 f21 f22 f23 e26_6 f28 e31_6 e32_6 e33_6 f38 f41 f44 x14 g15 g16 g17 g18 g19 g20 g21 g22 g23 g24 q25_6 g26 g27 q28_6 q29_6 g30 g31 g32 g33 g34 g35 g36 g37 g38 g39 g40 g41 g42 g43 g44 t), 0, 0) := by
    intro N
    induction N with
    | zero => intros; omega
    | succ N ih6 =>
      intro i e26_6 e31_6 e32_6 e33_6 q25_6 q28_6 q29_6 hf0_6 hp0_6 hq25_6 hq28_6 hN6
      iterate 2 refine hR (?_ : R (_, _, _, _, _, _))
      refine hR (j_ge (by omega) (by omega) (fun hc8 => ?_) (fun hc8 => ?_))
      · skip
        refine hR (?_ : R (_, _, _, _, _, _))
        exact hR (zret_i rfl (Nat.le_refl _) trivial (h _ _ _ _ _ _ _ _ hq25_6 hq28_6 (by omega) (by omega)))
      iterate 2 refine hR (?_ : R (_, _, _, _, _, _))
      refine hR (zcall_i 0 0 (Nat.le_of_ble_eq_true rfl) (Nat.le_of_ble_eq_true rfl) (m_does _ i hq25_6 hq28_6 hr2 hr3 (by omega) (by omega) (by omega) (by omega) (by omega) (by omega) _ fun v9 y26_10 y31_11 y32_12 y33_13 k25_14 k28_15 k29_16 hp17 hp18 hp19 hp20 => ?_))
      refine (?_ : R (_, _, (.int (Int32.ofInt v9)) :: [], (zMi c0 c1 c2 c3 c4 c5 c6 c7 c8 c9 c10 c11 c12 c13 f0 f9 f10 f11 f12 f13 f15 f16 f17 f20 f21 f22 f23 y26_10 f28 y31_11 y32_12 y33_13 f38 f41 f44 x14 g15 g16 g17 g18 g19 g20 g21 g22 g23 g24 k25_14 g26 g27 k28_15 k29_16 g30 g31 g32 g33 g34 g35 g36 g37 g38 g39 g40 g41 g42 g43 g44 t), 0, 0))
      refine hR (k_eq (by omega) (fun hc21 => ?_) (fun hc21 => ?_))
      · skip
        refine hR (?_ : R (_, _, _, _, _, _))
        exact hR (zret_i rfl (Nat.le_refl _) trivial (h _ _ _ _ _ _ _ _ hp17 hp18 (by omega) (by omega)))
      refine hR (t_inc ?_)
      refine hR (?_ : R (_, _, _, _, _, _))
      exact ih6 _ _ _ _ _ _ _ _ (by omega) (by omega) hp17 hp18 (by omega)
  exact lp6 400000000 _ _ _ _ _ _ _ _ (by omega) (by omega) hb25 hp6 (by omega)
theorem m_layAll (d : Nat) (a1 a2 : Int) (hb19 : zB 0 2 g19) (hr1 : bkOK g20) (hr2 : -2147483648 ≤ a1 ∧ a1 ≤ 2147483647) (hr3 : -2147483648 ≤ a2 ∧ a2 ≤ 2147483647) (Q : zQ) (h : ∀ (v : Int) (y20 : Int) (y22 : Int) (y23 : Int) (y28 : Int), ((v = 1 ∧ 0 ≤ y28 ∧ y28 ≤ 1 ∧ 0 ≤ y20 ∧ y20 ≤ 1 ∧ 0 ≤ y22 ∧ y22 ≤ 5460 ∧ 0 ≤ y23 ∧ y23 ≤ 5) ∨ v = 0) → Q (some (.int (Int32.ofInt v))) (zMi c0 c1 c2 c3 c4 c5 c6 c7 c8 c9 c10 c11 c12 c13 f0 f9 f10 f11 f12 f13 f15 f16 f17 y20 f21 y22 y23 f26 y28 f31 f32 f33 f38 f41 f44 x14 g15 g16 g17 g18 g19 g20 g21 g22 g23 g24 g25 g26 g27 g28 g29 g30 g31 g32 g33 g34 g35 g36 g37 g38 g39 g40 g41 g42 g43 g44 t)) : zCl zTab (d + 4) iX12_layAll [.ref 14, .int (Int32.ofInt a1), .int (Int32.ofInt a2)] (zMi c0 c1 c2 c3 c4 c5 c6 c7 c8 c9 c10 c11 c12 c13 f0 f9 f10 f11 f12 f13 f15 f16 f17 f20 f21 f22 f23 f26 f28 f31 f32 f33 f38 f41 f44 x14 g15 g16 g17 g18 g19 g20 g21 g22 g23 g24 g25 g26 g27 g28 g29 g30 g31 g32 g33 g34 g35 g36 g37 g38 g39 g40 g41 g42 g43 g44 t) 0 0 Q := by
  refine zCl_i (M := kX12_layAll) rfl (Nat.le_of_ble_eq_true rfl) fun R hR => ?_
  iterate 2 refine hR (?_ : R (_, _, _, _, _, _))
  refine hR (zcall_i 0 0 (Nat.le_of_ble_eq_true rfl) (Nat.le_of_ble_eq_true rfl) (m_hasYear _ a2 hb19 (by omega) _ fun v1 y28_2 hp3 hp4 => ?_))
  refine (?_ : R (_, _, (.int (Int32.ofInt v1)) :: [], (zMi c0 c1 c2 c3 c4 c5 c6 c7 c8 c9 c10 c11 c12 c13 f0 f9 f10 f11 f12 f13 f15 f16 f17 f20 f21 f22 f23 f26 y28_2 f31 f32 f33 f38 f41 f44 x14 g15 g16 g17 g18 g19 g20 g21 g22 g23 g24 g25 g26 g27 g28 g29 g30 g31 g32 g33 g34 g35 g36 g37 g38 g39 g40 g41 g42 g43 g44 t), 0, 0))
  refine hR (k_eq (by omega) (fun hc5 => ?_) (fun hc5 => ?_))
  · skip
    refine hR (?_ : R (_, _, _, _, _, _))
    exact hR (zret_i rfl (Nat.le_refl _) (zbo (by omega)) (h _ _ _ _ _ (by omega)))
  iterate 2 refine hR (?_ : R (_, _, _, _, _, _))
  refine hR (zcall_i 0 0 (Nat.le_of_ble_eq_true rfl) (Nat.le_of_ble_eq_true rfl) (m_hand _ a1 hb19 hr1 (by omega) _ fun v6 y20_7 y22_8 y23_9 hp10 => ?_))
  refine (?_ : R (_, _, (.int (Int32.ofInt v6)) :: [], (zMi c0 c1 c2 c3 c4 c5 c6 c7 c8 c9 c10 c11 c12 c13 f0 f9 f10 f11 f12 f13 f15 f16 f17 y20_7 f21 y22_8 y23_9 f26 y28_2 f31 f32 f33 f38 f41 f44 x14 g15 g16 g17 g18 g19 g20 g21 g22 g23 g24 g25 g26 g27 g28 g29 g30 g31 g32 g33 g34 g35 g36 g37 g38 g39 g40 g41 g42 g43 g44 t), 0, 0))
  refine hR (k_eq (by omega) (fun hc11 => ?_) (fun hc11 => ?_))
  · skip
    refine hR (?_ : R (_, _, _, _, _, _))
    exact hR (zret_i rfl (Nat.le_refl _) (zbo (by omega)) (h _ _ _ _ _ (by omega)))
  iterate 2 refine hR (?_ : R (_, _, _, _, _, _))
  exact hR (zret_i rfl (Nat.le_refl _) (zbo (by omega)) (h _ _ _ _ _ (by omega)))
theorem m_stop (d : Nat) (a1 a2 : Int) (hb19 : zB 0 2 g19) (hb25 : zB 0 3 g25) (hb28 : zB 0 5460 g28) (hr3 : bkOK g20) (hr4 : yrOK g21) (hr5 : -2147483648 ≤ a1 ∧ a1 ≤ 2147483647) (hr6 : -2147483648 ≤ a2 ∧ a2 ≤ 2147483647) (Q : zQ) (h : ∀ (v : Int) (y0 : Int) (y20 : Int) (y22 : Int) (y23 : Int) (y26 : Int) (y28 : Int) (y31 : Int) (y32 : Int) (y33 : Int) (k25 : Nat → Int32) (k28 : Nat → Int32) (k29 : Nat → Int32), zB 0 3 k25 → zB 0 5460 k28 → Q (some (.int (Int32.ofInt v))) (zMi c0 c1 c2 c3 c4 c5 c6 c7 c8 c9 c10 c11 c12 c13 y0 f9 f10 f11 f12 f13 f15 f16 f17 y20 f21 y22 y23 y26 y28 y31 y32 y33 f38 f41 f44 x14 g15 g16 g17 g18 g19 g20 g21 g22 g23 g24 k25 g26 g27 k28 k29 g30 g31 g32 g33 g34 g35 g36 g37 g38 g39 g40 g41 g42 g43 g44 t)) : zCl zTab (d + 8) iX12_stop [.ref 14, .int (Int32.ofInt a1), .int (Int32.ofInt a2)] (zMi c0 c1 c2 c3 c4 c5 c6 c7 c8 c9 c10 c11 c12 c13 f0 f9 f10 f11 f12 f13 f15 f16 f17 f20 f21 f22 f23 f26 f28 f31 f32 f33 f38 f41 f44 x14 g15 g16 g17 g18 g19 g20 g21 g22 g23 g24 g25 g26 g27 g28 g29 g30 g31 g32 g33 g34 g35 g36 g37 g38 g39 g40 g41 g42 g43 g44 t) 0 0 Q := by
  refine zCl_i (M := kX12_stop) rfl (Nat.le_of_ble_eq_true rfl) fun R hR => ?_
  iterate 2 refine hR (?_ : R (_, _, _, _, _, _))
  refine hR (?_ : R (_, _, _, (zMi c0 c1 c2 c3 c4 c5 c6 c7 c8 c9 c10 c11 c12 c13 0 f9 f10 f11 f12 f13 f15 f16 f17 f20 f21 f22 f23 f26 f28 f31 f32 f33 f38 f41 f44 x14 g15 g16 g17 g18 g19 g20 g21 g22 g23 g24 g25 g26 g27 g28 g29 g30 g31 g32 g33 g34 g35 g36 g37 g38 g39 g40 g41 g42 g43 g44 t), _, _))
  iterate 3 refine hR (?_ : R (_, _, _, _, _, _))
  refine hR (zcall_i 0 0 (Nat.le_of_ble_eq_true rfl) (Nat.le_of_ble_eq_true rfl) (m_layAll _ a1 a2 hb19 hr3 (by omega) (by omega) _ fun v1 y20_2 y22_3 y23_4 y28_5 hp6 => ?_))
  refine (?_ : R (_, _, (.int (Int32.ofInt v1)) :: [], (zMi c0 c1 c2 c3 c4 c5 c6 c7 c8 c9 c10 c11 c12 c13 0 f9 f10 f11 f12 f13 f15 f16 f17 y20_2 f21 y22_3 y23_4 f26 y28_5 f31 f32 f33 f38 f41 f44 x14 g15 g16 g17 g18 g19 g20 g21 g22 g23 g24 g25 g26 g27 g28 g29 g30 g31 g32 g33 g34 g35 g36 g37 g38 g39 g40 g41 g42 g43 g44 t), 0, 0))
  refine hR (k_eq (by omega) (fun hc7 => ?_) (fun hc7 => ?_))
  · skip
    refine hR (?_ : R (_, _, _, _, _, _))
    exact hR (zret_i rfl (Nat.le_refl _) trivial (h _ _ _ _ _ _ _ _ _ _ _ _ _ hb25 hb28))
  iterate 2 refine hR (?_ : R (_, _, _, _, _, _))
  refine hR (zcall_i 0 0 (Nat.le_of_ble_eq_true rfl) (Nat.le_of_ble_eq_true rfl) (m_deeds _ hr4 (by omega) _ fun v8 hp9 hp10 => ?_))
  refine (?_ : R (_, _, (.int (Int32.ofInt v8)) :: (.ref 14) :: [], (zMi c0 c1 c2 c3 c4 c5 c6 c7 c8 c9 c10 c11 c12 c13 0 f9 f10 f11 f12 f13 f15 f16 f17 y20_2 f21 y22_3 y23_4 f26 y28_5 f31 f32 f33 f38 f41 f44 x14 g15 g16 g17 g18 g19 g20 g21 g22 g23 g24 g25 g26 g27 g28 g29 g30 g31 g32 g33 g34 g35 g36 g37 g38 g39 g40 g41 g42 g43 g44 t), 0, 0))
  refine hR (zcall_i 0 0 (Nat.le_of_ble_eq_true rfl) (Nat.le_of_ble_eq_true rfl) (m_play1 _ v8 hb25 hb28 hr3 hr4 (by omega) (by omega) (by omega) (by omega) (by omega) _ fun v11 y26_12 y31_13 y32_14 y33_15 k25_16 k28_17 k29_18 hp19 hp20 hp21 hp22 => ?_))
  refine (?_ : R (_, _, (.int (Int32.ofInt v11)) :: [], (zMi c0 c1 c2 c3 c4 c5 c6 c7 c8 c9 c10 c11 c12 c13 0 f9 f10 f11 f12 f13 f15 f16 f17 y20_2 f21 y22_3 y23_4 y26_12 y28_5 y31_13 y32_14 y33_15 f38 f41 f44 x14 g15 g16 g17 g18 g19 g20 g21 g22 g23 g24 k25_16 g26 g27 k28_17 k29_18 g30 g31 g32 g33 g34 g35 g36 g37 g38 g39 g40 g41 g42 g43 g44 t), 0, 0))
  refine hR (?_ : R (_, _, _, _, _, _))
  exact hR (zret_i rfl (Nat.le_refl _) trivial (h _ _ _ _ _ _ _ _ _ _ _ _ _ hp19 hp20))
theorem m_ofState (d : Nat) (a1 : Int) (hb25 : zB 0 3 g25) (hb26 : zB 0 3 g26) (hb28 : zB 0 5460 g28) (hr3 : -2147483648 ≤ a1 ∧ a1 ≤ 2147483647) (hr4 : 0 ≤ f23 ∧ f23 ≤ 5) (hr5 : 0 ≤ f22 ∧ f22 ≤ 5460) (hr6 : 0 ≤ f32 ∧ f32 ≤ 3) (Q : zQ) (h : ∀ (v : Int) (k25 : Nat → Int32) (k26 : Nat → Int32) (k27 : Nat → Int32), zB 0 3 k25 → zB 0 3 k26 → Q (some (.int (Int32.ofInt v))) (zMi c0 c1 c2 c3 c4 c5 c6 c7 c8 c9 c10 c11 c12 c13 f0 f9 f10 f11 f12 f13 f15 f16 f17 f20 f21 f22 f23 f26 f28 f31 f32 f33 f38 f41 f44 x14 g15 g16 g17 g18 g19 g20 g21 g22 g23 g24 k25 k26 k27 g28 g29 g30 g31 g32 g33 g34 g35 g36 g37 g38 g39 g40 g41 g42 g43 g44 t)) : zCl zTab (d + 5) iX12_ofState [.ref 14, .int (Int32.ofInt a1)] (zMi c0 c1 c2 c3 c4 c5 c6 c7 c8 c9 c10 c11 c12 c13 f0 f9 f10 f11 f12 f13 f15 f16 f17 f20 f21 f22 f23 f26 f28 f31 f32 f33 f38 f41 f44 x14 g15 g16 g17 g18 g19 g20 g21 g22 g23 g24 g25 g26 g27 g28 g29 g30 g31 g32 g33 g34 g35 g36 g37 g38 g39 g40 g41 g42 g43 g44 t) 0 0 Q := by
  refine zCl_i (M := kX12_ofState) rfl (Nat.le_of_ble_eq_true rfl) fun R hR => ?_
  refine hR (?_ : R (_, _, _, _, _, _))
  refine hR (t_c 10 (by decide) ?_)
  refine hR (t_c 13 (by decide) ?_)
  refine hR (zcall_i 0 0 (Nat.le_of_ble_eq_true rfl) (Nat.le_of_ble_eq_true rfl) (m_in _ a1 10 13 _ (by omega) (by omega) (by omega) _ fun v1 hp2 => ?_))
  refine (?_ : R (_, _, (.int (Int32.ofInt v1)) :: [], (zMi c0 c1 c2 c3 c4 c5 c6 c7 c8 c9 c10 c11 c12 c13 f0 f9 f10 f11 f12 f13 f15 f16 f17 f20 f21 f22 f23 f26 f28 f31 f32 f33 f38 f41 f44 x14 g15 g16 g17 g18 g19 g20 g21 g22 g23 g24 g25 g26 g27 g28 g29 g30 g31 g32 g33 g34 g35 g36 g37 g38 g39 g40 g41 g42 g43 g44 t), 0, 0))
  refine hR (k_eq (by omega) (fun hc3 => ?_) (fun hc3 => ?_))
  rotate_left
  · skip
    iterate 3 refine hR (?_ : R (_, _, _, _, _, _))
    refine hR (t_c 10 (by decide) ?_)
    refine hR (t_sub ?_)
    refine hR (t_ldB hb28 (by omega) (by omega) (Nat.le_of_ble_eq_true rfl) fun v60 ev60 lv60 uv60 => ?_)
    clear ev60
    exact hR (zret_i rfl (Nat.le_refl _) trivial (h _ _ _ _ hb25 hb26))
  refine hR (?_ : R (_, _, _, _, _, _))
  refine hR (t_c 20 (by decide) ?_)
  refine hR (t_c 19 (by decide) ?_)
  iterate 2 refine hR (?_ : R (_, _, _, _, _, _))
  refine hR (t_add ?_)
  refine hR (zcall_i 0 0 (Nat.le_of_ble_eq_true rfl) (Nat.le_of_ble_eq_true rfl) (m_in _ a1 20 (19 + f23) _ (by omega) (by omega) (by omega) _ fun v4 hp5 => ?_))
  refine (?_ : R (_, _, (.int (Int32.ofInt v4)) :: [], (zMi c0 c1 c2 c3 c4 c5 c6 c7 c8 c9 c10 c11 c12 c13 f0 f9 f10 f11 f12 f13 f15 f16 f17 f20 f21 f22 f23 f26 f28 f31 f32 f33 f38 f41 f44 x14 g15 g16 g17 g18 g19 g20 g21 g22 g23 g24 g25 g26 g27 g28 g29 g30 g31 g32 g33 g34 g35 g36 g37 g38 g39 g40 g41 g42 g43 g44 t), 0, 0))
  refine hR (k_eq (by omega) (fun hc6 => ?_) (fun hc6 => ?_))
  rotate_left
  · skip
    iterate 3 refine hR (?_ : R (_, _, _, _, _, _))
    refine hR (t_c 20 (by decide) ?_)
    refine hR (t_sub ?_)
    refine hR (t_ldo (by omega) (by omega) (Nat.le_of_ble_eq_true rfl) fun v59 rv59 => ?_)
    exact hR (zret_i rfl (Nat.le_refl _) trivial (h _ _ _ _ hb25 hb26))
  iterate 6 refine hR (?_ : R (_, _, _, _, _, _))
  have lp54 : ∀ (N : Nat) (su : Int) (wo : Int) (c : Int) (q25_54 : Nat → Int32) (q26_54 : Nat → Int32) (q27_54 : Nat → Int32), (0 ≤ wo ∧ wo ≤ 3) → (0 ≤ c ∧ c ≤ 4) → (zB 0 3 q25_54) → (zB 0 3 q26_54) → (4 - c < N) → R (54, [some (.ref 14), some (.int (Int32.ofInt a1)), some (.int (Int32.ofInt su)), some (.int (Int32.ofInt wo)), some (.int (Int32.ofInt c))], [], (zMi c0 c1 c2 c3 c4 c5 c6 c7 c8 c9 c10 c11 c12 c13 f0 f9 f10 f11 f12 f13 f15 f16 f17 f20 f21 f22 f23 f26 f28 f31 f32 f33 f38 f41 f44 x14 g15 g16 g17 g18 g19 g20 g21 g22 g23 g24 q25_54 q26_54 q27_54 g28 g29 g30 g31 g32 g33 g34 g35 g36 g37 g38 g39 g40 g41 g42 g43 g44 t), 0, 0) := by
    intro N
    induction N with
    | zero => intros; omega
    | succ N ih54 =>
      intro su wo c q25_54 q26_54 q27_54 hf0_54 hf1_54 hq25_54 hq26_54 hN54
      iterate 2 refine hR (?_ : R (_, _, _, _, _, _))
      refine hR (j_ge (by omega) (by omega) (fun hc7 => ?_) (fun hc7 => ?_))
      · skip
        refine hR (?_ : R (_, _, _, _, _, _))
        refine hR (?_ : _ ∧ _)
        rw [zti (e := a1) (by omega) (by omega)]
        refine ⟨fun hs8 => ?_, fun hs8 => ?_⟩
        · skip
          refine hR (t_c (-2) (by decide) ?_)
          exact hR (zret_i rfl (Nat.le_refl _) trivial (h _ _ _ _ hq25_54 hq26_54))
        · skip
          have hs8d : a1 = 0 ∨ a1 = 1 ∨ a1 = 2 ∨ a1 = 3 ∨ a1 = 4 ∨ a1 = 5 := by omega
          rcases hs8d with hs8e | hs8e | hs8e | hs8e | hs8e | hs8e
          · refine ⟨39, by rw [hs8e]; rfl, (?_ : R (_, _, _, _, _, _))⟩
            iterate 2 refine hR (?_ : R (_, _, _, _, _, _))
            exact hR (zret_i rfl (Nat.le_refl _) trivial (h _ _ _ _ hq25_54 hq26_54))
          · refine ⟨44, by rw [hs8e]; rfl, (?_ : R (_, _, _, _, _, _))⟩
            iterate 2 refine hR (?_ : R (_, _, _, _, _, _))
            exact hR (zret_i rfl (Nat.le_refl _) trivial (h _ _ _ _ hq25_54 hq26_54))
          · refine ⟨49, by rw [hs8e]; rfl, (?_ : R (_, _, _, _, _, _))⟩
            refine hR (?_ : R (_, _, _, _, _, _))
            exact hR (zret_i rfl (Nat.le_refl _) trivial (h _ _ _ _ hq25_54 hq26_54))
          · refine ⟨51, by rw [hs8e]; rfl, (?_ : R (_, _, _, _, _, _))⟩
            refine hR (?_ : R (_, _, _, _, _, _))
            exact hR (zret_i rfl (Nat.le_refl _) trivial (h _ _ _ _ hq25_54 hq26_54))
          · refine ⟨53, by rw [hs8e]; rfl, (?_ : R (_, _, _, _, _, _))⟩
            iterate 4 refine hR (?_ : R (_, _, _, _, _, _))
            refine hR (t_ldB hb28 (by omega) (by omega) (Nat.le_of_ble_eq_true rfl) fun v9 ev9 lv9 uv9 => ?_)
            clear ev9
            iterate 2 refine hR (?_ : R (_, _, _, _, _, _))
            refine hR (zcall_i 0 0 (Nat.le_of_ble_eq_true rfl) (Nat.le_of_ble_eq_true rfl) (m_apart _ v9 f22 hq25_54 hq26_54 (by omega) (by omega) _ fun v10 k25_11 k26_12 k27_13 hp14 hp15 hp16 hp17 => ?_))
            refine (?_ : R (_, _, (.int (Int32.ofInt v10)) :: [], (zMi c0 c1 c2 c3 c4 c5 c6 c7 c8 c9 c10 c11 c12 c13 f0 f9 f10 f11 f12 f13 f15 f16 f17 f20 f21 f22 f23 f26 f28 f31 f32 f33 f38 f41 f44 x14 g15 g16 g17 g18 g19 g20 g21 g22 g23 g24 k25_11 k26_12 k27_13 g28 g29 g30 g31 g32 g33 g34 g35 g36 g37 g38 g39 g40 g41 g42 g43 g44 t), 0, 0))
            exact hR (zret_i rfl (Nat.le_refl _) trivial (h _ _ _ _ hp14 hp15))
          · refine ⟨68, by rw [hs8e]; rfl, (?_ : R (_, _, _, _, _, _))⟩
            iterate 2 refine hR (?_ : R (_, _, _, _, _, _))
            exact hR (zret_i rfl (Nat.le_refl _) trivial (h _ _ _ _ hq25_54 hq26_54))
      iterate 4 refine hR (?_ : R (_, _, _, _, _, _))
      refine hR (t_ldB hb28 (by omega) (by omega) (Nat.le_of_ble_eq_true rfl) fun v18 ev18 lv18 uv18 => ?_)
      clear ev18
      iterate 4 refine hR (?_ : R (_, _, _, _, _, _))
      refine hR (t_ldB hb28 (by omega) (by omega) (Nat.le_of_ble_eq_true rfl) fun v19 ev19 lv19 uv19 => ?_)
      clear ev19
      refine hR (j_eq (by omega) (by omega) (fun hc20 => ?_) (fun hc20 => ?_))
      · skip
        refine hR (?_ : R (_, _, _, _, _, _))
        refine hR (t_add ?_)
        iterate 5 refine hR (?_ : R (_, _, _, _, _, _))
        refine hR (t_ldB hb28 (by omega) (by omega) (Nat.le_of_ble_eq_true rfl) fun v21 ev21 lv21 uv21 => ?_)
        clear ev21
        iterate 2 refine hR (?_ : R (_, _, _, _, _, _))
        refine hR (zcall_i 0 0 (Nat.le_of_ble_eq_true rfl) (Nat.le_of_ble_eq_true rfl) (m_apart _ v21 f22 hq25_54 hq26_54 (by omega) (by omega) _ fun v22 k25_23 k26_24 k27_25 hp26 hp27 hp28 hp29 => ?_))
        refine (?_ : R (_, _, (.int (Int32.ofInt v22)) :: [], (zMi c0 c1 c2 c3 c4 c5 c6 c7 c8 c9 c10 c11 c12 c13 f0 f9 f10 f11 f12 f13 f15 f16 f17 f20 f21 f22 f23 f26 f28 f31 f32 f33 f38 f41 f44 x14 g15 g16 g17 g18 g19 g20 g21 g22 g23 g24 k25_23 k26_24 k27_25 g28 g29 g30 g31 g32 g33 g34 g35 g36 g37 g38 g39 g40 g41 g42 g43 g44 t), 0, 0))
        iterate 4 refine hR (?_ : R (_, _, _, _, _, _))
        refine hR (t_ldB hb28 (by omega) (by omega) (Nat.le_of_ble_eq_true rfl) fun v30 ev30 lv30 uv30 => ?_)
        clear ev30
        iterate 2 refine hR (?_ : R (_, _, _, _, _, _))
        refine hR (zcall_i 0 0 (Nat.le_of_ble_eq_true rfl) (Nat.le_of_ble_eq_true rfl) (m_apart _ v30 f22 hp26 hp27 (by omega) (by omega) _ fun v31 k25_32 k26_33 k27_34 hp35 hp36 hp37 hp38 => ?_))
        refine (?_ : R (_, _, (.int (Int32.ofInt v31)) :: (.int (Int32.ofInt v22)) :: [], (zMi c0 c1 c2 c3 c4 c5 c6 c7 c8 c9 c10 c11 c12 c13 f0 f9 f10 f11 f12 f13 f15 f16 f17 f20 f21 f22 f23 f26 f28 f31 f32 f33 f38 f41 f44 x14 g15 g16 g17 g18 g19 g20 g21 g22 g23 g24 k25_32 k26_33 k27_34 g28 g29 g30 g31 g32 g33 g34 g35 g36 g37 g38 g39 g40 g41 g42 g43 g44 t), 0, 0))
        refine hR (j_le (by omega) (by omega) (fun hc39 => ?_) (fun hc39 => ?_))
        · skip
          iterate 2 refine hR (?_ : R (_, _, _, _, _, _))
          refine hR (t_inc ?_)
          refine hR (?_ : R (_, _, _, _, _, _))
          exact ih54 _ _ _ _ _ _ (by omega) (by omega) hp35 hp36 (by omega)
        iterate 3 refine hR (?_ : R (_, _, _, _, _, _))
        refine hR (t_inc ?_)
        refine hR (?_ : R (_, _, _, _, _, _))
        exact ih54 _ _ _ _ _ _ (by omega) (by omega) hp35 hp36 (by omega)
      iterate 2 refine hR (?_ : R (_, _, _, _, _, _))
      refine hR (t_add ?_)
      iterate 5 refine hR (?_ : R (_, _, _, _, _, _))
      refine hR (t_ldB hb28 (by omega) (by omega) (Nat.le_of_ble_eq_true rfl) fun v40 ev40 lv40 uv40 => ?_)
      clear ev40
      iterate 2 refine hR (?_ : R (_, _, _, _, _, _))
      refine hR (zcall_i 0 0 (Nat.le_of_ble_eq_true rfl) (Nat.le_of_ble_eq_true rfl) (m_apart _ v40 f22 hq25_54 hq26_54 (by omega) (by omega) _ fun v41 k25_42 k26_43 k27_44 hp45 hp46 hp47 hp48 => ?_))
      refine (?_ : R (_, _, (.int (Int32.ofInt v41)) :: [], (zMi c0 c1 c2 c3 c4 c5 c6 c7 c8 c9 c10 c11 c12 c13 f0 f9 f10 f11 f12 f13 f15 f16 f17 f20 f21 f22 f23 f26 f28 f31 f32 f33 f38 f41 f44 x14 g15 g16 g17 g18 g19 g20 g21 g22 g23 g24 k25_42 k26_43 k27_44 g28 g29 g30 g31 g32 g33 g34 g35 g36 g37 g38 g39 g40 g41 g42 g43 g44 t), 0, 0))
      iterate 4 refine hR (?_ : R (_, _, _, _, _, _))
      refine hR (t_ldB hb28 (by omega) (by omega) (Nat.le_of_ble_eq_true rfl) fun v49 ev49 lv49 uv49 => ?_)
      clear ev49
      iterate 2 refine hR (?_ : R (_, _, _, _, _, _))
      refine hR (zcall_i 0 0 (Nat.le_of_ble_eq_true rfl) (Nat.le_of_ble_eq_true rfl) (m_apart _ v49 f22 hp45 hp46 (by omega) (by omega) _ fun v50 k25_51 k26_52 k27_53 hp54 hp55 hp56 hp57 => ?_))
      refine (?_ : R (_, _, (.int (Int32.ofInt v50)) :: (.int (Int32.ofInt v41)) :: [], (zMi c0 c1 c2 c3 c4 c5 c6 c7 c8 c9 c10 c11 c12 c13 f0 f9 f10 f11 f12 f13 f15 f16 f17 f20 f21 f22 f23 f26 f28 f31 f32 f33 f38 f41 f44 x14 g15 g16 g17 g18 g19 g20 g21 g22 g23 g24 k25_51 k26_52 k27_53 g28 g29 g30 g31 g32 g33 g34 g35 g36 g37 g38 g39 g40 g41 g42 g43 g44 t), 0, 0))
      refine hR (j_le (by omega) (by omega) (fun hc58 => ?_) (fun hc58 => ?_))
      · skip
        iterate 2 refine hR (?_ : R (_, _, _, _, _, _))
        refine hR (t_inc ?_)
        refine hR (?_ : R (_, _, _, _, _, _))
        exact ih54 _ _ _ _ _ _ (by omega) (by omega) hp54 hp55 (by omega)
      iterate 3 refine hR (?_ : R (_, _, _, _, _, _))
      refine hR (t_inc ?_)
      refine hR (?_ : R (_, _, _, _, _, _))
      exact ih54 _ _ _ _ _ _ (by omega) (by omega) hp54 hp55 (by omega)
  exact lp54 400000000 _ _ _ _ _ _ (by omega) (by omega) hb25 hb26 (by omega)
theorem m_state (d : Nat) (a1 a2 a3 a4 : Int) (hb19 : zB 0 2 g19) (hb25 : zB 0 3 g25) (hb26 : zB 0 3 g26) (hb28 : zB 0 5460 g28) (hr4 : bkOK g20) (hr5 : yrOK g21) (hr6 : -2147483648 ≤ a1 ∧ a1 ≤ 2147483647) (hr7 : -2147483648 ≤ a2 ∧ a2 ≤ 2147483647) (hr8 : -2147483648 ≤ a3 ∧ a3 ≤ 2147483647) (hr9 : -2147483648 ≤ a4 ∧ a4 ≤ 2147483647) (Q : zQ) (h : ∀ (v : Int) (y0 : Int) (y20 : Int) (y22 : Int) (y23 : Int) (y26 : Int) (y28 : Int) (y31 : Int) (y32 : Int) (y33 : Int) (k25 : Nat → Int32) (k26 : Nat → Int32) (k27 : Nat → Int32) (k28 : Nat → Int32) (k29 : Nat → Int32), zB 0 3 k25 → zB 0 3 k26 → zB 0 5460 k28 → Q (some (.int (Int32.ofInt v))) (zMi c0 c1 c2 c3 c4 c5 c6 c7 c8 c9 c10 c11 c12 c13 y0 f9 f10 f11 f12 f13 f15 f16 f17 y20 f21 y22 y23 y26 y28 y31 y32 y33 f38 f41 f44 x14 g15 g16 g17 g18 g19 g20 g21 g22 g23 g24 k25 k26 k27 k28 k29 g30 g31 g32 g33 g34 g35 g36 g37 g38 g39 g40 g41 g42 g43 g44 t)) : zCl zTab (d + 8) iX12_state [.ref 14, .int (Int32.ofInt a1), .int (Int32.ofInt a2), .int (Int32.ofInt a3), .int (Int32.ofInt a4)] (zMi c0 c1 c2 c3 c4 c5 c6 c7 c8 c9 c10 c11 c12 c13 f0 f9 f10 f11 f12 f13 f15 f16 f17 f20 f21 f22 f23 f26 f28 f31 f32 f33 f38 f41 f44 x14 g15 g16 g17 g18 g19 g20 g21 g22 g23 g24 g25 g26 g27 g28 g29 g30 g31 g32 g33 g34 g35 g36 g37 g38 g39 g40 g41 g42 g43 g44 t) 0 0 Q := by
  refine zCl_i (M := kX12_state) rfl (Nat.le_of_ble_eq_true rfl) fun R hR => ?_
  iterate 2 refine hR (?_ : R (_, _, _, _, _, _))
  refine hR (?_ : R (_, _, _, (zMi c0 c1 c2 c3 c4 c5 c6 c7 c8 c9 c10 c11 c12 c13 0 f9 f10 f11 f12 f13 f15 f16 f17 f20 f21 f22 f23 f26 f28 f31 f32 f33 f38 f41 f44 x14 g15 g16 g17 g18 g19 g20 g21 g22 g23 g24 g25 g26 g27 g28 g29 g30 g31 g32 g33 g34 g35 g36 g37 g38 g39 g40 g41 g42 g43 g44 t), _, _))
  iterate 3 refine hR (?_ : R (_, _, _, _, _, _))
  refine hR (zcall_i 0 0 (Nat.le_of_ble_eq_true rfl) (Nat.le_of_ble_eq_true rfl) (m_layAll _ a1 a2 hb19 hr4 (by omega) (by omega) _ fun v1 y20_2 y22_3 y23_4 y28_5 hp6 => ?_))
  refine (?_ : R (_, _, (.int (Int32.ofInt v1)) :: [], (zMi c0 c1 c2 c3 c4 c5 c6 c7 c8 c9 c10 c11 c12 c13 0 f9 f10 f11 f12 f13 f15 f16 f17 y20_2 f21 y22_3 y23_4 f26 y28_5 f31 f32 f33 f38 f41 f44 x14 g15 g16 g17 g18 g19 g20 g21 g22 g23 g24 g25 g26 g27 g28 g29 g30 g31 g32 g33 g34 g35 g36 g37 g38 g39 g40 g41 g42 g43 g44 t), 0, 0))
  refine hR (k_eq (by omega) (fun hc7 => ?_) (fun hc7 => ?_))
  · skip
    refine hR (t_c (-2) (by decide) ?_)
    exact hR (zret_i rfl (Nat.le_refl _) trivial (h _ _ _ _ _ _ _ _ _ _ _ _ _ _ _ hb25 hb26 hb28))
  iterate 3 refine hR (?_ : R (_, _, _, _, _, _))
  refine hR (zcall_i 0 0 (Nat.le_of_ble_eq_true rfl) (Nat.le_of_ble_eq_true rfl) (m_deeds _ hr5 (by omega) _ fun v8 hp9 hp10 => ?_))
  refine (?_ : R (_, _, (.int (Int32.ofInt v8)) :: (.int (Int32.ofInt 0)) :: (.int (Int32.ofInt a3)) :: [], (zMi c0 c1 c2 c3 c4 c5 c6 c7 c8 c9 c10 c11 c12 c13 0 f9 f10 f11 f12 f13 f15 f16 f17 y20_2 f21 y22_3 y23_4 f26 y28_5 f31 f32 f33 f38 f41 f44 x14 g15 g16 g17 g18 g19 g20 g21 g22 g23 g24 g25 g26 g27 g28 g29 g30 g31 g32 g33 g34 g35 g36 g37 g38 g39 g40 g41 g42 g43 g44 t), 0, 0))
  refine hR (zcall_i 0 0 (Nat.le_of_ble_eq_true rfl) (Nat.le_of_ble_eq_true rfl) (m_in _ a3 0 v8 _ (by omega) (by omega) (by omega) _ fun v11 hp12 => ?_))
  refine (?_ : R (_, _, (.int (Int32.ofInt v11)) :: [], (zMi c0 c1 c2 c3 c4 c5 c6 c7 c8 c9 c10 c11 c12 c13 0 f9 f10 f11 f12 f13 f15 f16 f17 y20_2 f21 y22_3 y23_4 f26 y28_5 f31 f32 f33 f38 f41 f44 x14 g15 g16 g17 g18 g19 g20 g21 g22 g23 g24 g25 g26 g27 g28 g29 g30 g31 g32 g33 g34 g35 g36 g37 g38 g39 g40 g41 g42 g43 g44 t), 0, 0))
  refine hR (k_eq (by omega) (fun hc13 => ?_) (fun hc13 => ?_))
  · skip
    refine hR (t_c (-2) (by decide) ?_)
    exact hR (zret_i rfl (Nat.le_refl _) trivial (h _ _ _ _ _ _ _ _ _ _ _ _ _ _ _ hb25 hb26 hb28))
  iterate 2 refine hR (?_ : R (_, _, _, _, _, _))
  refine hR (zcall_i 0 0 (Nat.le_of_ble_eq_true rfl) (Nat.le_of_ble_eq_true rfl) (m_play1 _ a3 hb25 hb28 hr4 hr5 (by omega) (by omega) (by omega) (by omega) (by omega) _ fun v14 y26_15 y31_16 y32_17 y33_18 k25_19 k28_20 k29_21 hp22 hp23 hp24 hp25 => ?_))
  refine (?_ : R (_, _, (.int (Int32.ofInt v14)) :: [], (zMi c0 c1 c2 c3 c4 c5 c6 c7 c8 c9 c10 c11 c12 c13 0 f9 f10 f11 f12 f13 f15 f16 f17 y20_2 f21 y22_3 y23_4 y26_15 y28_5 y31_16 y32_17 y33_18 f38 f41 f44 x14 g15 g16 g17 g18 g19 g20 g21 g22 g23 g24 k25_19 g26 g27 k28_20 k29_21 g30 g31 g32 g33 g34 g35 g36 g37 g38 g39 g40 g41 g42 g43 g44 t), 0, 0))
  refine hR (?_ : R (_, _, _, _, _, _))
  refine hR (j_ne (by omega) (by omega) (fun hc26 => ?_) (fun hc26 => ?_))
  · skip
    refine hR (t_c (-2) (by decide) ?_)
    exact hR (zret_i rfl (Nat.le_refl _) trivial (h _ _ _ _ _ _ _ _ _ _ _ _ _ _ _ hp22 hb26 hp23))
  iterate 2 refine hR (?_ : R (_, _, _, _, _, _))
  refine hR (zcall_i 0 0 (Nat.le_of_ble_eq_true rfl) (Nat.le_of_ble_eq_true rfl) (m_ofState _ a4 hp22 hb26 hp23 (by omega) (by omega) (by omega) (by omega) _ fun v27 k25_28 k26_29 k27_30 hp31 hp32 => ?_))
  refine (?_ : R (_, _, (.int (Int32.ofInt v27)) :: [], (zMi c0 c1 c2 c3 c4 c5 c6 c7 c8 c9 c10 c11 c12 c13 0 f9 f10 f11 f12 f13 f15 f16 f17 y20_2 f21 y22_3 y23_4 y26_15 y28_5 y31_16 y32_17 y33_18 f38 f41 f44 x14 g15 g16 g17 g18 g19 g20 g21 g22 g23 g24 k25_28 k26_29 k27_30 k28_20 k29_21 g30 g31 g32 g33 g34 g35 g36 g37 g38 g39 g40 g41 g42 g43 g44 t), 0, 0))
  refine hR (?_ : R (_, _, _, _, _, _))
  exact hR (zret_i rfl (Nat.le_refl _) trivial (h _ _ _ _ _ _ _ _ _ _ _ _ _ _ _ hp31 hp32 hp23))
theorem m_draw (d : Nat) (a1 : Int) (hr0 : 1 ≤ a1 ∧ a1 ≤ 8) (Q : zQ) (h : ∀ (v : Int) (y44 : Int), (0 ≤ v ∧ v < a1) → Q (some (.int (Int32.ofInt v))) (zMi c0 c1 c2 c3 c4 c5 c6 c7 c8 c9 c10 c11 c12 c13 f0 f9 f10 f11 f12 f13 f15 f16 f17 f20 f21 f22 f23 f26 f28 f31 f32 f33 f38 f41 y44 x14 g15 g16 g17 g18 g19 g20 g21 g22 g23 g24 g25 g26 g27 g28 g29 g30 g31 g32 g33 g34 g35 g36 g37 g38 g39 g40 g41 g42 g43 g44 t)) : zCl zTab (d + 1) iX12_draw [.ref 14, .int (Int32.ofInt a1)] (zMi c0 c1 c2 c3 c4 c5 c6 c7 c8 c9 c10 c11 c12 c13 f0 f9 f10 f11 f12 f13 f15 f16 f17 f20 f21 f22 f23 f26 f28 f31 f32 f33 f38 f41 f44 x14 g15 g16 g17 g18 g19 g20 g21 g22 g23 g24 g25 g26 g27 g28 g29 g30 g31 g32 g33 g34 g35 g36 g37 g38 g39 g40 g41 g42 g43 g44 t) 0 0 Q := by
  refine zCl_i (M := kX12_draw) rfl (Nat.le_of_ble_eq_true rfl) fun R hR => ?_
  iterate 3 refine hR (?_ : R (_, _, _, _, _, _))
  refine hR (t_c 1103515245 (by decide) ?_)
  refine hR (t_mul ?_)
  refine hR (t_c 12345 (by decide) ?_)
  refine hR (t_add ?_)
  refine hR (?_ : R (_, _, _, (zMi c0 c1 c2 c3 c4 c5 c6 c7 c8 c9 c10 c11 c12 c13 f0 f9 f10 f11 f12 f13 f15 f16 f17 f20 f21 f22 f23 f26 f28 f31 f32 f33 f38 f41 ((f44 * 1103515245) + 12345) x14 g15 g16 g17 g18 g19 g20 g21 g22 g23 g24 g25 g26 g27 g28 g29 g30 g31 g32 g33 g34 g35 g36 g37 g38 g39 g40 g41 g42 g43 g44 t), _, _))
  iterate 2 refine hR (?_ : R (_, _, _, _, _, _))
  refine hR (t_c 16 (by decide) ?_)
  obtain ⟨v1, lv1, uv1, qv1⟩ := zushr_r (Int32.ofInt ((f44 * 1103515245) + 12345))
  refine hR (t_c v1 qv1 ?_)
  refine hR (?_ : R (_, _, _, _, _, _))
  refine hR (t_remv (by omega) (by omega) (by omega) (by omega) fun v2 ev2 lv2 uv2 => ?_)
  clear ev2
  exact hR (zret_i rfl (Nat.le_refl _) trivial (h _ _ (by omega)))
theorem m_drawDeed (d : Nat) (hb25 : zB 0 3 g25) (hb28 : zB 0 5460 g28) (hr2 : bkOK g20) (hr3 : 0 ≤ f20 ∧ f20 ≤ 1) (hr4 : 0 ≤ f23 ∧ f23 ≤ 5) (Q : zQ) (h : ∀ (y26 : Int) (y31 : Int) (y33 : Int) (y44 : Int) (k25 : Nat → Int32) (k28 : Nat → Int32) (k29 : Nat → Int32), zB 0 3 k25 → zB 0 5460 k28 → Q (none) (zMi c0 c1 c2 c3 c4 c5 c6 c7 c8 c9 c10 c11 c12 c13 f0 f9 f10 f11 f12 f13 f15 f16 f17 f20 f21 f22 f23 y26 f28 y31 f32 y33 f38 f41 y44 x14 g15 g16 g17 g18 g19 g20 g21 g22 g23 g24 k25 g26 g27 k28 k29 g30 g31 g32 g33 g34 g35 g36 g37 g38 g39 g40 g41 g42 g43 g44 t)) : zCl zTab (d + 6) iX12_drawDeed [.ref 14] (zMi c0 c1 c2 c3 c4 c5 c6 c7 c8 c9 c10 c11 c12 c13 f0 f9 f10 f11 f12 f13 f15 f16 f17 f20 f21 f22 f23 f26 f28 f31 f32 f33 f38 f41 f44 x14 g15 g16 g17 g18 g19 g20 g21 g22 g23 g24 g25 g26 g27 g28 g29 g30 g31 g32 g33 g34 g35 g36 g37 g38 g39 g40 g41 g42 g43 g44 t) 0 0 Q := by
  refine zCl_i (M := kX12_drawDeed) rfl (Nat.le_of_ble_eq_true rfl) fun R hR => ?_
  iterate 2 refine hR (?_ : R (_, _, _, _, _, _))
  refine hR (zcall_i 0 0 (Nat.le_of_ble_eq_true rfl) (Nat.le_of_ble_eq_true rfl) (m_draw _ 4 (by omega) _ fun v1 y44_2 hp3 => ?_))
  refine (?_ : R (_, _, (.int (Int32.ofInt v1)) :: [], (zMi c0 c1 c2 c3 c4 c5 c6 c7 c8 c9 c10 c11 c12 c13 f0 f9 f10 f11 f12 f13 f15 f16 f17 f20 f21 f22 f23 f26 f28 f31 f32 f33 f38 f41 y44_2 x14 g15 g16 g17 g18 g19 g20 g21 g22 g23 g24 g25 g26 g27 g28 g29 g30 g31 g32 g33 g34 g35 g36 g37 g38 g39 g40 g41 g42 g43 g44 t), 0, 0))
  iterate 2 refine hR (?_ : R (_, _, _, _, _, _))
  refine hR (t_c 8 (by decide) ?_)
  refine hR (zcall_i 0 0 (Nat.le_of_ble_eq_true rfl) (Nat.le_of_ble_eq_true rfl) (m_draw _ 8 (by omega) _ fun v4 y44_5 hp6 => ?_))
  refine (?_ : R (_, _, (.int (Int32.ofInt v4)) :: [], (zMi c0 c1 c2 c3 c4 c5 c6 c7 c8 c9 c10 c11 c12 c13 f0 f9 f10 f11 f12 f13 f15 f16 f17 f20 f21 f22 f23 f26 f28 f31 f32 f33 f38 f41 y44_5 x14 g15 g16 g17 g18 g19 g20 g21 g22 g23 g24 g25 g26 g27 g28 g29 g30 g31 g32 g33 g34 g35 g36 g37 g38 g39 g40 g41 g42 g43 g44 t), 0, 0))
  iterate 3 refine hR (?_ : R (_, _, _, _, _, _))
  refine hR (j_ge (by omega) (by omega) (fun hc7 => ?_) (fun hc7 => ?_))
  · skip
    iterate 2 refine hR (?_ : R (_, _, _, _, _, _))
    refine hR (j_ne (by omega) (by omega) (fun hc8 => ?_) (fun hc8 => ?_))
    rotate_left
    · skip
      iterate 4 refine hR (?_ : R (_, _, _, _, _, _))
      refine hR (zcall_i 0 0 (Nat.le_of_ble_eq_true rfl) (Nat.le_of_ble_eq_true rfl) (m_draw _ 4 (by omega) _ fun v17 y44_18 hp19 => ?_))
      refine (?_ : R (_, _, (.int (Int32.ofInt v17)) :: (.ref 28) :: [], (zMi c0 c1 c2 c3 c4 c5 c6 c7 c8 c9 c10 c11 c12 c13 f0 f9 f10 f11 f12 f13 f15 f16 f17 f20 f21 f22 f23 f26 f28 f31 f32 f33 f38 f41 y44_18 x14 g15 g16 g17 g18 g19 g20 g21 g22 g23 g24 g25 g26 g27 g28 g29 g30 g31 g32 g33 g34 g35 g36 g37 g38 g39 g40 g41 g42 g43 g44 t), 0, 0))
      iterate 3 refine hR (?_ : R (_, _, _, _, _, _))
      refine hR (t_ldB hb28 (by omega) (by omega) (Nat.le_of_ble_eq_true rfl) fun v20 ev20 lv20 uv20 => ?_)
      clear ev20
      refine hR (t_stB hb28 (by omega) (by omega) (by omega) (by omega) (by omega) (by omega) (Nat.le_of_ble_eq_true rfl) fun k28_21 hk28_21 => (?_ : R (_, _, _, (zMi c0 c1 c2 c3 c4 c5 c6 c7 c8 c9 c10 c11 c12 c13 f0 f9 f10 f11 f12 f13 f15 f16 f17 f20 f21 f22 f23 f26 f28 f31 f32 f33 f38 f41 y44_18 x14 g15 g16 g17 g18 g19 g20 g21 g22 g23 g24 g25 g26 g27 k28_21 g29 g30 g31 g32 g33 g34 g35 g36 g37 g38 g39 g40 g41 g42 g43 g44 t), _, _)))
      refine hR (?_ : R (_, _, _, _, _, _))
      exact hR (zret_i rfl (Nat.le_refl _) rfl (h _ _ _ _ _ _ _ hb25 hk28_21))
    refine hR (?_ : R (_, _, _, _, _, _))
    refine hR (t_c 6 (by decide) ?_)
    refine hR (j_ne (by omega) (by omega) (fun hc9 => ?_) (fun hc9 => ?_))
    rotate_left
    · skip
      iterate 2 refine hR (?_ : R (_, _, _, _, _, _))
      refine hR (zcall_i 0 0 (Nat.le_of_ble_eq_true rfl) (Nat.le_of_ble_eq_true rfl) (m_hushes _ v1 (by omega) _ fun v14 y33_15 hp16 => ?_))
      refine (?_ : R (_, _, (.int (Int32.ofInt v14)) :: [], (zMi c0 c1 c2 c3 c4 c5 c6 c7 c8 c9 c10 c11 c12 c13 f0 f9 f10 f11 f12 f13 f15 f16 f17 f20 f21 f22 f23 f26 f28 f31 f32 y33_15 f38 f41 y44_5 x14 g15 g16 g17 g18 g19 g20 g21 g22 g23 g24 g25 g26 g27 g28 g29 g30 g31 g32 g33 g34 g35 g36 g37 g38 g39 g40 g41 g42 g43 g44 t), 0, 0))
      iterate 2 refine hR (?_ : R (_, _, _, _, _, _))
      exact hR (zret_i rfl (Nat.le_refl _) rfl (h _ _ _ _ _ _ _ hb25 hb28))
    refine hR (?_ : R (_, _, _, _, _, _))
    refine hR (t_c 7 (by decide) ?_)
    refine hR (j_ne (by omega) (by omega) (fun hc10 => ?_) (fun hc10 => ?_))
    · skip
      exact hR (zret_i rfl (Nat.le_refl _) rfl (h _ _ _ _ _ _ _ hb25 hb28))
    refine hR (?_ : R (_, _, _, _, _, _))
    refine hR (zcall_i 0 0 (Nat.le_of_ble_eq_true rfl) (Nat.le_of_ble_eq_true rfl) (m_goesOn _ _ fun v11 y31_12 hp13 => ?_))
    refine (?_ : R (_, _, (.int (Int32.ofInt v11)) :: [], (zMi c0 c1 c2 c3 c4 c5 c6 c7 c8 c9 c10 c11 c12 c13 f0 f9 f10 f11 f12 f13 f15 f16 f17 f20 f21 f22 f23 f26 f28 y31_12 f32 f33 f38 f41 y44_5 x14 g15 g16 g17 g18 g19 g20 g21 g22 g23 g24 g25 g26 g27 g28 g29 g30 g31 g32 g33 g34 g35 g36 g37 g38 g39 g40 g41 g42 g43 g44 t), 0, 0))
    refine hR (?_ : R (_, _, _, _, _, _))
    exact hR (zret_i rfl (Nat.le_refl _) rfl (h _ _ _ _ _ _ _ hb25 hb28))
  iterate 2 refine hR (?_ : R (_, _, _, _, _, _))
  refine hR (k_le (by omega) (fun hc22 => ?_) (fun hc22 => ?_))
  rotate_left
  · skip
    iterate 5 refine hR (?_ : R (_, _, _, _, _, _))
    refine hR (zcall_i 0 0 (Nat.le_of_ble_eq_true rfl) (Nat.le_of_ble_eq_true rfl) (m_draw _ f23 (by omega) _ fun v37 y44_38 hp39 => ?_))
    refine (?_ : R (_, _, (.int (Int32.ofInt v37)) :: (.int (Int32.ofInt v1)) :: (.ref 14) :: [], (zMi c0 c1 c2 c3 c4 c5 c6 c7 c8 c9 c10 c11 c12 c13 f0 f9 f10 f11 f12 f13 f15 f16 f17 f20 f21 f22 f23 f26 f28 f31 f32 f33 f38 f41 y44_38 x14 g15 g16 g17 g18 g19 g20 g21 g22 g23 g24 g25 g26 g27 g28 g29 g30 g31 g32 g33 g34 g35 g36 g37 g38 g39 g40 g41 g42 g43 g44 t), 0, 0))
    refine hR (zcall_i 0 0 (Nat.le_of_ble_eq_true rfl) (Nat.le_of_ble_eq_true rfl) (m_reads _ v1 v37 hb25 hb28 hr2 (by omega) (by omega) (by omega) (by omega) _ fun v40 y26_41 y33_42 k25_43 k28_44 k29_45 hp46 hp47 hp48 => ?_))
    refine (?_ : R (_, _, (.int (Int32.ofInt v40)) :: [], (zMi c0 c1 c2 c3 c4 c5 c6 c7 c8 c9 c10 c11 c12 c13 f0 f9 f10 f11 f12 f13 f15 f16 f17 f20 f21 f22 f23 y26_41 f28 f31 f32 y33_42 f38 f41 y44_38 x14 g15 g16 g17 g18 g19 g20 g21 g22 g23 g24 k25_43 g26 g27 k28_44 k29_45 g30 g31 g32 g33 g34 g35 g36 g37 g38 g39 g40 g41 g42 g43 g44 t), 0, 0))
    iterate 2 refine hR (?_ : R (_, _, _, _, _, _))
    exact hR (zret_i rfl (Nat.le_refl _) rfl (h _ _ _ _ _ _ _ hp46 hp47))
  iterate 2 refine hR (?_ : R (_, _, _, _, _, _))
  refine hR (j_ne (by omega) (by omega) (fun hc23 => ?_) (fun hc23 => ?_))
  rotate_left
  · skip
    iterate 4 refine hR (?_ : R (_, _, _, _, _, _))
    refine hR (zcall_i 0 0 (Nat.le_of_ble_eq_true rfl) (Nat.le_of_ble_eq_true rfl) (m_draw _ 4 (by omega) _ fun v32 y44_33 hp34 => ?_))
    refine (?_ : R (_, _, (.int (Int32.ofInt v32)) :: (.ref 28) :: [], (zMi c0 c1 c2 c3 c4 c5 c6 c7 c8 c9 c10 c11 c12 c13 f0 f9 f10 f11 f12 f13 f15 f16 f17 f20 f21 f22 f23 f26 f28 f31 f32 f33 f38 f41 y44_33 x14 g15 g16 g17 g18 g19 g20 g21 g22 g23 g24 g25 g26 g27 g28 g29 g30 g31 g32 g33 g34 g35 g36 g37 g38 g39 g40 g41 g42 g43 g44 t), 0, 0))
    iterate 3 refine hR (?_ : R (_, _, _, _, _, _))
    refine hR (t_ldB hb28 (by omega) (by omega) (Nat.le_of_ble_eq_true rfl) fun v35 ev35 lv35 uv35 => ?_)
    clear ev35
    refine hR (t_stB hb28 (by omega) (by omega) (by omega) (by omega) (by omega) (by omega) (Nat.le_of_ble_eq_true rfl) fun k28_36 hk28_36 => (?_ : R (_, _, _, (zMi c0 c1 c2 c3 c4 c5 c6 c7 c8 c9 c10 c11 c12 c13 f0 f9 f10 f11 f12 f13 f15 f16 f17 f20 f21 f22 f23 f26 f28 f31 f32 f33 f38 f41 y44_33 x14 g15 g16 g17 g18 g19 g20 g21 g22 g23 g24 g25 g26 g27 k28_36 g29 g30 g31 g32 g33 g34 g35 g36 g37 g38 g39 g40 g41 g42 g43 g44 t), _, _)))
    refine hR (?_ : R (_, _, _, _, _, _))
    exact hR (zret_i rfl (Nat.le_refl _) rfl (h _ _ _ _ _ _ _ hb25 hk28_36))
  refine hR (?_ : R (_, _, _, _, _, _))
  refine hR (t_c 6 (by decide) ?_)
  refine hR (j_ne (by omega) (by omega) (fun hc24 => ?_) (fun hc24 => ?_))
  rotate_left
  · skip
    iterate 2 refine hR (?_ : R (_, _, _, _, _, _))
    refine hR (zcall_i 0 0 (Nat.le_of_ble_eq_true rfl) (Nat.le_of_ble_eq_true rfl) (m_hushes _ v1 (by omega) _ fun v29 y33_30 hp31 => ?_))
    refine (?_ : R (_, _, (.int (Int32.ofInt v29)) :: [], (zMi c0 c1 c2 c3 c4 c5 c6 c7 c8 c9 c10 c11 c12 c13 f0 f9 f10 f11 f12 f13 f15 f16 f17 f20 f21 f22 f23 f26 f28 f31 f32 y33_30 f38 f41 y44_5 x14 g15 g16 g17 g18 g19 g20 g21 g22 g23 g24 g25 g26 g27 g28 g29 g30 g31 g32 g33 g34 g35 g36 g37 g38 g39 g40 g41 g42 g43 g44 t), 0, 0))
    iterate 2 refine hR (?_ : R (_, _, _, _, _, _))
    exact hR (zret_i rfl (Nat.le_refl _) rfl (h _ _ _ _ _ _ _ hb25 hb28))
  refine hR (?_ : R (_, _, _, _, _, _))
  refine hR (t_c 7 (by decide) ?_)
  refine hR (j_ne (by omega) (by omega) (fun hc25 => ?_) (fun hc25 => ?_))
  · skip
    exact hR (zret_i rfl (Nat.le_refl _) rfl (h _ _ _ _ _ _ _ hb25 hb28))
  refine hR (?_ : R (_, _, _, _, _, _))
  refine hR (zcall_i 0 0 (Nat.le_of_ble_eq_true rfl) (Nat.le_of_ble_eq_true rfl) (m_goesOn _ _ fun v26 y31_27 hp28 => ?_))
  refine (?_ : R (_, _, (.int (Int32.ofInt v26)) :: [], (zMi c0 c1 c2 c3 c4 c5 c6 c7 c8 c9 c10 c11 c12 c13 f0 f9 f10 f11 f12 f13 f15 f16 f17 f20 f21 f22 f23 f26 f28 y31_27 f32 f33 f38 f41 y44_5 x14 g15 g16 g17 g18 g19 g20 g21 g22 g23 g24 g25 g26 g27 g28 g29 g30 g31 g32 g33 g34 g35 g36 g37 g38 g39 g40 g41 g42 g43 g44 t), 0, 0))
  refine hR (?_ : R (_, _, _, _, _, _))
  exact hR (zret_i rfl (Nat.le_refl _) rfl (h _ _ _ _ _ _ _ hb25 hb28))
theorem m_drawn (d : Nat) (a1 a2 a3 a4 : Int) (hb19 : zB 0 2 g19) (hb25 : zB 0 3 g25) (hb26 : zB 0 3 g26) (hb28 : zB 0 5460 g28) (hr4 : bkOK g20) (hr5 : -2147483648 ≤ a1 ∧ a1 ≤ 2147483647) (hr6 : -2147483648 ≤ a2 ∧ a2 ≤ 2147483647) (hr7 : -2147483648 ≤ a3 ∧ a3 ≤ 2147483647) (hr8 : -2147483648 ≤ a4 ∧ a4 ≤ 2147483647) (Q : zQ) (h : ∀ (v : Int) (y0 : Int) (y20 : Int) (y22 : Int) (y23 : Int) (y26 : Int) (y31 : Int) (y32 : Int) (y33 : Int) (y44 : Int) (k25 : Nat → Int32) (k26 : Nat → Int32) (k27 : Nat → Int32) (k28 : Nat → Int32) (k29 : Nat → Int32), zB 0 3 k25 → zB 0 3 k26 → zB 0 5460 k28 → Q (some (.int (Int32.ofInt v))) (zMi c0 c1 c2 c3 c4 c5 c6 c7 c8 c9 c10 c11 c12 c13 y0 f9 f10 f11 f12 f13 f15 f16 f17 y20 f21 y22 y23 y26 f28 y31 y32 y33 f38 f41 y44 x14 g15 g16 g17 g18 g19 g20 g21 g22 g23 g24 k25 k26 k27 k28 k29 g30 g31 g32 g33 g34 g35 g36 g37 g38 g39 g40 g41 g42 g43 g44 t)) : zCl zTab (d + 7) iX12_drawn [.ref 14, .int (Int32.ofInt a1), .int (Int32.ofInt a2), .int (Int32.ofInt a3), .int (Int32.ofInt a4)] (zMi c0 c1 c2 c3 c4 c5 c6 c7 c8 c9 c10 c11 c12 c13 f0 f9 f10 f11 f12 f13 f15 f16 f17 f20 f21 f22 f23 f26 f28 f31 f32 f33 f38 f41 f44 x14 g15 g16 g17 g18 g19 g20 g21 g22 g23 g24 g25 g26 g27 g28 g29 g30 g31 g32 g33 g34 g35 g36 g37 g38 g39 g40 g41 g42 g43 g44 t) 0 0 Q := by
  refine zCl_i (M := kX12_drawn) rfl (Nat.le_of_ble_eq_true rfl) fun R hR => ?_
  iterate 2 refine hR (?_ : R (_, _, _, _, _, _))
  refine hR (?_ : R (_, _, _, (zMi c0 c1 c2 c3 c4 c5 c6 c7 c8 c9 c10 c11 c12 c13 0 f9 f10 f11 f12 f13 f15 f16 f17 f20 f21 f22 f23 f26 f28 f31 f32 f33 f38 f41 f44 x14 g15 g16 g17 g18 g19 g20 g21 g22 g23 g24 g25 g26 g27 g28 g29 g30 g31 g32 g33 g34 g35 g36 g37 g38 g39 g40 g41 g42 g43 g44 t), _, _))
  iterate 2 refine hR (?_ : R (_, _, _, _, _, _))
  refine hR (t_c 60 (by decide) ?_)
  refine hR (zcall_i 0 0 (Nat.le_of_ble_eq_true rfl) (Nat.le_of_ble_eq_true rfl) (m_in _ a3 0 60 _ (by omega) (by omega) (by omega) _ fun v1 hp2 => ?_))
  refine (?_ : R (_, _, (.int (Int32.ofInt v1)) :: [], (zMi c0 c1 c2 c3 c4 c5 c6 c7 c8 c9 c10 c11 c12 c13 0 f9 f10 f11 f12 f13 f15 f16 f17 f20 f21 f22 f23 f26 f28 f31 f32 f33 f38 f41 f44 x14 g15 g16 g17 g18 g19 g20 g21 g22 g23 g24 g25 g26 g27 g28 g29 g30 g31 g32 g33 g34 g35 g36 g37 g38 g39 g40 g41 g42 g43 g44 t), 0, 0))
  refine hR (k_eq (by omega) (fun hc3 => ?_) (fun hc3 => ?_))
  · skip
    refine hR (t_c (-2) (by decide) ?_)
    exact hR (zret_i rfl (Nat.le_refl _) trivial (h _ _ _ _ _ _ _ _ _ _ _ _ _ _ _ hb25 hb26 hb28))
  iterate 2 refine hR (?_ : R (_, _, _, _, _, _))
  refine hR (zcall_i 0 0 (Nat.le_of_ble_eq_true rfl) (Nat.le_of_ble_eq_true rfl) (m_hand _ a1 hb19 hr4 (by omega) _ fun v4 y20_5 y22_6 y23_7 hp8 => ?_))
  refine (?_ : R (_, _, (.int (Int32.ofInt v4)) :: [], (zMi c0 c1 c2 c3 c4 c5 c6 c7 c8 c9 c10 c11 c12 c13 0 f9 f10 f11 f12 f13 f15 f16 f17 y20_5 f21 y22_6 y23_7 f26 f28 f31 f32 f33 f38 f41 f44 x14 g15 g16 g17 g18 g19 g20 g21 g22 g23 g24 g25 g26 g27 g28 g29 g30 g31 g32 g33 g34 g35 g36 g37 g38 g39 g40 g41 g42 g43 g44 t), 0, 0))
  refine hR (k_ne (by omega) (fun hc9 => ?_) (fun hc9 => ?_))
  rotate_left
  · skip
    refine hR (t_c (-2) (by decide) ?_)
    exact hR (zret_i rfl (Nat.le_refl _) trivial (h _ _ _ _ _ _ _ _ _ _ _ _ _ _ _ hb25 hb26 hb28))
  iterate 2 refine hR (?_ : R (_, _, _, _, _, _))
  refine hR (?_ : R (_, _, _, (zMi c0 c1 c2 c3 c4 c5 c6 c7 c8 c9 c10 c11 c12 c13 0 f9 f10 f11 f12 f13 f15 f16 f17 y20_5 f21 y22_6 y23_7 f26 f28 f31 f32 f33 f38 f41 a2 x14 g15 g16 g17 g18 g19 g20 g21 g22 g23 g24 g25 g26 g27 g28 g29 g30 g31 g32 g33 g34 g35 g36 g37 g38 g39 g40 g41 g42 g43 g44 t), _, _))
  refine hR (?_ : R (_, _, _, _, _, _))
  refine hR (zcall_i 0 0 (Nat.le_of_ble_eq_true rfl) (Nat.le_of_ble_eq_true rfl) (m_begin _ hb28 (by omega) _ fun y31_10 y32_11 y33_12 k28_13 k29_14 hp15 hp16 => ?_))
  refine (?_ : R (_, _, [], (zMi c0 c1 c2 c3 c4 c5 c6 c7 c8 c9 c10 c11 c12 c13 0 f9 f10 f11 f12 f13 f15 f16 f17 y20_5 f21 y22_6 y23_7 f26 f28 y31_10 y32_11 y33_12 f38 f41 a2 x14 g15 g16 g17 g18 g19 g20 g21 g22 g23 g24 g25 g26 g27 k28_13 k29_14 g30 g31 g32 g33 g34 g35 g36 g37 g38 g39 g40 g41 g42 g43 g44 t), 0, 0))
  iterate 2 refine hR (?_ : R (_, _, _, _, _, _))
  have lp38 : ∀ (N : Nat) (i : Int) (e26_38 : Int) (e31_38 : Int) (e33_38 : Int) (e44_38 : Int) (q25_38 : Nat → Int32) (q28_38 : Nat → Int32) (q29_38 : Nat → Int32), (0 ≤ i ∧ i ≤ a3) → (zB 0 3 q25_38) → (zB 0 5460 q28_38) → (a3 - i < N) → R (38, [some (.ref 14), some (.int (Int32.ofInt a1)), some (.int (Int32.ofInt a2)), some (.int (Int32.ofInt a3)), some (.int (Int32.ofInt a4)), some (.int (Int32.ofInt i))], [], (zMi c0 c1 c2 c3 c4 c5 c6 c7 c8 c9 c10 c11 c12 c13 0 f9 f10 f11 f12 f13 f15 f16 f17 y20_5 f21 y22_6 y23_7 e26_38 f28 e31_38 y32_11 e33_38 f38 f41 e44_38 x14 g15 g16 g17 g18 g19 g20 g21 g22 g23 g24 q25_38 g26 g27 q28_38 q29_38 g30 g31 g32 g33 g34 g35 g36 g37 g38 g39 g40 g41 g42 g43 g44 t), 0, 0) := by
    intro N
    induction N with
    | zero => intros; omega
    | succ N ih38 =>
      intro i e26_38 e31_38 e33_38 e44_38 q25_38 q28_38 q29_38 hf0_38 hq25_38 hq28_38 hN38
      iterate 2 refine hR (?_ : R (_, _, _, _, _, _))
      refine hR (j_ge (by omega) (by omega) (fun hc17 => ?_) (fun hc17 => ?_))
      · skip
        iterate 2 refine hR (?_ : R (_, _, _, _, _, _))
        refine hR (zcall_i 0 0 (Nat.le_of_ble_eq_true rfl) (Nat.le_of_ble_eq_true rfl) (m_ofState _ a4 hq25_38 hb26 hq28_38 (by omega) (by omega) (by omega) (by omega) _ fun v18 k25_19 k26_20 k27_21 hp22 hp23 => ?_))
        refine (?_ : R (_, _, (.int (Int32.ofInt v18)) :: [], (zMi c0 c1 c2 c3 c4 c5 c6 c7 c8 c9 c10 c11 c12 c13 0 f9 f10 f11 f12 f13 f15 f16 f17 y20_5 f21 y22_6 y23_7 e26_38 f28 e31_38 y32_11 e33_38 f38 f41 e44_38 x14 g15 g16 g17 g18 g19 g20 g21 g22 g23 g24 k25_19 k26_20 k27_21 q28_38 q29_38 g30 g31 g32 g33 g34 g35 g36 g37 g38 g39 g40 g41 g42 g43 g44 t), 0, 0))
        exact hR (zret_i rfl (Nat.le_refl _) trivial (h _ _ _ _ _ _ _ _ _ _ _ _ _ _ _ hp22 hp23 hq28_38))
      refine hR (?_ : R (_, _, _, _, _, _))
      refine hR (zcall_i 0 0 (Nat.le_of_ble_eq_true rfl) (Nat.le_of_ble_eq_true rfl) (m_drawDeed _ hq25_38 hq28_38 hr4 (by omega) (by omega) _ fun y26_24 y31_25 y33_26 y44_27 k25_28 k28_29 k29_30 hp31 hp32 => ?_))
      refine (?_ : R (_, _, [], (zMi c0 c1 c2 c3 c4 c5 c6 c7 c8 c9 c10 c11 c12 c13 0 f9 f10 f11 f12 f13 f15 f16 f17 y20_5 f21 y22_6 y23_7 y26_24 f28 y31_25 y32_11 y33_26 f38 f41 y44_27 x14 g15 g16 g17 g18 g19 g20 g21 g22 g23 g24 k25_28 g26 g27 k28_29 k29_30 g30 g31 g32 g33 g34 g35 g36 g37 g38 g39 g40 g41 g42 g43 g44 t), 0, 0))
      refine hR (t_inc ?_)
      refine hR (?_ : R (_, _, _, _, _, _))
      exact ih38 _ _ _ _ _ _ _ _ (by omega) hp31 hp32 (by omega)
  exact lp38 400000000 _ _ _ _ _ _ _ _ (by omega) hb25 hp15 (by omega)
theorem m_book (d : Nat) (a1 a2 : Int) (hb19 : zB 0 2 g19) (hr1 : bkOK g20) (hr2 : -2147483648 ≤ a1 ∧ a1 ≤ 2147483647) (hr3 : -2147483648 ≤ a2 ∧ a2 ≤ 2147483647) (Q : zQ) (h : ∀ (v : Int) (y0 : Int) (y20 : Int) (y22 : Int) (y23 : Int), Q (some (.int (Int32.ofInt v))) (zMi c0 c1 c2 c3 c4 c5 c6 c7 c8 c9 c10 c11 c12 c13 y0 f9 f10 f11 f12 f13 f15 f16 f17 y20 f21 y22 y23 f26 f28 f31 f32 f33 f38 f41 f44 x14 g15 g16 g17 g18 g19 g20 g21 g22 g23 g24 g25 g26 g27 g28 g29 g30 g31 g32 g33 g34 g35 g36 g37 g38 g39 g40 g41 g42 g43 g44 t)) : zCl zTab (d + 4) iX12_book [.ref 14, .int (Int32.ofInt a1), .int (Int32.ofInt a2)] (zMi c0 c1 c2 c3 c4 c5 c6 c7 c8 c9 c10 c11 c12 c13 f0 f9 f10 f11 f12 f13 f15 f16 f17 f20 f21 f22 f23 f26 f28 f31 f32 f33 f38 f41 f44 x14 g15 g16 g17 g18 g19 g20 g21 g22 g23 g24 g25 g26 g27 g28 g29 g30 g31 g32 g33 g34 g35 g36 g37 g38 g39 g40 g41 g42 g43 g44 t) 0 0 Q := by
  refine zCl_i (M := kX12_book) rfl (Nat.le_of_ble_eq_true rfl) fun R hR => ?_
  iterate 2 refine hR (?_ : R (_, _, _, _, _, _))
  refine hR (?_ : R (_, _, _, (zMi c0 c1 c2 c3 c4 c5 c6 c7 c8 c9 c10 c11 c12 c13 0 f9 f10 f11 f12 f13 f15 f16 f17 f20 f21 f22 f23 f26 f28 f31 f32 f33 f38 f41 f44 x14 g15 g16 g17 g18 g19 g20 g21 g22 g23 g24 g25 g26 g27 g28 g29 g30 g31 g32 g33 g34 g35 g36 g37 g38 g39 g40 g41 g42 g43 g44 t), _, _))
  iterate 2 refine hR (?_ : R (_, _, _, _, _, _))
  refine hR (zcall_i 0 0 (Nat.le_of_ble_eq_true rfl) (Nat.le_of_ble_eq_true rfl) (m_hand _ a1 hb19 hr1 (by omega) _ fun v1 y20_2 y22_3 y23_4 hp5 => ?_))
  refine (?_ : R (_, _, (.int (Int32.ofInt v1)) :: [], (zMi c0 c1 c2 c3 c4 c5 c6 c7 c8 c9 c10 c11 c12 c13 0 f9 f10 f11 f12 f13 f15 f16 f17 y20_2 f21 y22_3 y23_4 f26 f28 f31 f32 f33 f38 f41 f44 x14 g15 g16 g17 g18 g19 g20 g21 g22 g23 g24 g25 g26 g27 g28 g29 g30 g31 g32 g33 g34 g35 g36 g37 g38 g39 g40 g41 g42 g43 g44 t), 0, 0))
  refine hR (k_ne (by omega) (fun hc6 => ?_) (fun hc6 => ?_))
  rotate_left
  · skip
    refine hR (?_ : R (_, _, _, _, _, _))
    exact hR (zret_i rfl (Nat.le_refl _) trivial (h _ _ _ _ _))
  refine hR (?_ : R (_, _, _, _, _, _))
  refine hR (t_c 10 (by decide) ?_)
  refine hR (t_c 13 (by decide) ?_)
  refine hR (zcall_i 0 0 (Nat.le_of_ble_eq_true rfl) (Nat.le_of_ble_eq_true rfl) (m_in _ a2 10 13 _ (by omega) (by omega) (by omega) _ fun v7 hp8 => ?_))
  refine (?_ : R (_, _, (.int (Int32.ofInt v7)) :: [], (zMi c0 c1 c2 c3 c4 c5 c6 c7 c8 c9 c10 c11 c12 c13 0 f9 f10 f11 f12 f13 f15 f16 f17 y20_2 f21 y22_3 y23_4 f26 f28 f31 f32 f33 f38 f41 f44 x14 g15 g16 g17 g18 g19 g20 g21 g22 g23 g24 g25 g26 g27 g28 g29 g30 g31 g32 g33 g34 g35 g36 g37 g38 g39 g40 g41 g42 g43 g44 t), 0, 0))
  refine hR (k_eq (by omega) (fun hc9 => ?_) (fun hc9 => ?_))
  rotate_left
  · skip
    iterate 3 refine hR (?_ : R (_, _, _, _, _, _))
    refine hR (t_add ?_)
    refine hR (t_c 10 (by decide) ?_)
    refine hR (t_sub ?_)
    refine hR (zcall_i 0 0 (Nat.le_of_ble_eq_true rfl) (Nat.le_of_ble_eq_true rfl) (m_ofK _ ((2 + a2) - 10) hr1 (by omega) (by omega) _ fun v28 hp29 hp30 => ?_))
    refine (?_ : R (_, _, (.int (Int32.ofInt v28)) :: [], (zMi c0 c1 c2 c3 c4 c5 c6 c7 c8 c9 c10 c11 c12 c13 0 f9 f10 f11 f12 f13 f15 f16 f17 y20_2 f21 y22_3 y23_4 f26 f28 f31 f32 f33 f38 f41 f44 x14 g15 g16 g17 g18 g19 g20 g21 g22 g23 g24 g25 g26 g27 g28 g29 g30 g31 g32 g33 g34 g35 g36 g37 g38 g39 g40 g41 g42 g43 g44 t), 0, 0))
    exact hR (zret_i rfl (Nat.le_refl _) trivial (h _ _ _ _ _))
  refine hR (?_ : R (_, _, _, _, _, _))
  refine hR (t_c 20 (by decide) ?_)
  refine hR (t_c 19 (by decide) ?_)
  iterate 2 refine hR (?_ : R (_, _, _, _, _, _))
  refine hR (t_add ?_)
  refine hR (zcall_i 0 0 (Nat.le_of_ble_eq_true rfl) (Nat.le_of_ble_eq_true rfl) (m_in _ a2 20 (19 + y23_4) _ (by omega) (by omega) (by omega) _ fun v10 hp11 => ?_))
  refine (?_ : R (_, _, (.int (Int32.ofInt v10)) :: [], (zMi c0 c1 c2 c3 c4 c5 c6 c7 c8 c9 c10 c11 c12 c13 0 f9 f10 f11 f12 f13 f15 f16 f17 y20_2 f21 y22_3 y23_4 f26 f28 f31 f32 f33 f38 f41 f44 x14 g15 g16 g17 g18 g19 g20 g21 g22 g23 g24 g25 g26 g27 g28 g29 g30 g31 g32 g33 g34 g35 g36 g37 g38 g39 g40 g41 g42 g43 g44 t), 0, 0))
  refine hR (k_eq (by omega) (fun hc12 => ?_) (fun hc12 => ?_))
  rotate_left
  · skip
    refine hR (?_ : R (_, _, _, _, _, _))
    refine hR (t_c 6 (by decide) ?_)
    refine hR (?_ : R (_, _, _, _, _, _))
    refine hR (t_add ?_)
    refine hR (t_c 20 (by decide) ?_)
    refine hR (t_sub ?_)
    refine hR (zcall_i 0 0 (Nat.le_of_ble_eq_true rfl) (Nat.le_of_ble_eq_true rfl) (m_ofM _ ((6 + a2) - 20) hr1 (by omega) (by omega) _ fun v25 hp26 hp27 => ?_))
    refine (?_ : R (_, _, (.int (Int32.ofInt v25)) :: [], (zMi c0 c1 c2 c3 c4 c5 c6 c7 c8 c9 c10 c11 c12 c13 0 f9 f10 f11 f12 f13 f15 f16 f17 y20_2 f21 y22_3 y23_4 f26 f28 f31 f32 f33 f38 f41 f44 x14 g15 g16 g17 g18 g19 g20 g21 g22 g23 g24 g25 g26 g27 g28 g29 g30 g31 g32 g33 g34 g35 g36 g37 g38 g39 g40 g41 g42 g43 g44 t), 0, 0))
    exact hR (zret_i rfl (Nat.le_refl _) trivial (h _ _ _ _ _))
  refine hR (?_ : R (_, _, _, _, _, _))
  refine hR (t_c 30 (by decide) ?_)
  refine hR (t_c 29 (by decide) ?_)
  refine hR (t_c 10 (by decide) ?_)
  iterate 2 refine hR (?_ : R (_, _, _, _, _, _))
  refine hR (t_mul ?_)
  refine hR (t_add ?_)
  refine hR (zcall_i 0 0 (Nat.le_of_ble_eq_true rfl) (Nat.le_of_ble_eq_true rfl) (m_in _ a2 30 (29 + (10 * y23_4)) _ (by omega) (by omega) (by omega) _ fun v13 hp14 => ?_))
  refine (?_ : R (_, _, (.int (Int32.ofInt v13)) :: [], (zMi c0 c1 c2 c3 c4 c5 c6 c7 c8 c9 c10 c11 c12 c13 0 f9 f10 f11 f12 f13 f15 f16 f17 y20_2 f21 y22_3 y23_4 f26 f28 f31 f32 f33 f38 f41 f44 x14 g15 g16 g17 g18 g19 g20 g21 g22 g23 g24 g25 g26 g27 g28 g29 g30 g31 g32 g33 g34 g35 g36 g37 g38 g39 g40 g41 g42 g43 g44 t), 0, 0))
  refine hR (k_eq (by omega) (fun hc15 => ?_) (fun hc15 => ?_))
  · skip
    refine hR (?_ : R (_, _, _, _, _, _))
    refine hR (k_ne (by omega) (fun hc16 => ?_) (fun hc16 => ?_))
    rotate_left
    · skip
      iterate 3 refine hR (?_ : R (_, _, _, _, _, _))
      exact hR (zret_i rfl (Nat.le_refl _) trivial (h _ _ _ _ _))
    iterate 2 refine hR (?_ : R (_, _, _, _, _, _))
    refine hR (j_ne (by omega) (by omega) (fun hc17 => ?_) (fun hc17 => ?_))
    · skip
      refine hR (?_ : R (_, _, _, _, _, _))
      exact hR (zret_i rfl (Nat.le_refl _) trivial (h _ _ _ _ _))
    iterate 3 refine hR (?_ : R (_, _, _, _, _, _))
    exact hR (zret_i rfl (Nat.le_refl _) trivial (h _ _ _ _ _))
  refine hR (?_ : R (_, _, _, _, _, _))
  refine hR (t_c 30 (by decide) ?_)
  refine hR (t_sub ?_)
  refine hR (t_c 10 (by decide) ?_)
  refine hR (t_div (by omega) (by omega) (by omega) (by omega) ?_)
  iterate 2 refine hR (?_ : R (_, _, _, _, _, _))
  refine hR (t_c 10 (by decide) ?_)
  refine hR (t_rem (by omega) (by omega) (by omega) (by omega) ?_)
  iterate 4 refine hR (?_ : R (_, _, _, _, _, _))
  refine hR (t_c 6 (by decide) ?_)
  refine hR (?_ : R (_, _, _, _, _, _))
  refine hR (t_add ?_)
  refine hR (zcall_i 0 0 (Nat.le_of_ble_eq_true rfl) (Nat.le_of_ble_eq_true rfl) (m_ofM _ (6 + ((a2 - 30) / 10)) hr1 (by omega) (by omega) _ fun v18 hp19 hp20 => ?_))
  refine (?_ : R (_, _, (.int (Int32.ofInt v18)) :: (.int (Int32.ofInt 2)) :: (.int (Int32.ofInt (a2 % 10))) :: [], (zMi c0 c1 c2 c3 c4 c5 c6 c7 c8 c9 c10 c11 c12 c13 0 f9 f10 f11 f12 f13 f15 f16 f17 y20_2 f21 y22_3 y23_4 f26 f28 f31 f32 f33 f38 f41 f44 x14 g15 g16 g17 g18 g19 g20 g21 g22 g23 g24 g25 g26 g27 g28 g29 g30 g31 g32 g33 g34 g35 g36 g37 g38 g39 g40 g41 g42 g43 g44 t), 0, 0))
  refine hR (t_mul ?_)
  refine hR (j_ge (by omega) (by omega) (fun hc21 => ?_) (fun hc21 => ?_))
  · skip
    refine hR (?_ : R (_, _, _, _, _, _))
    exact hR (zret_i rfl (Nat.le_refl _) trivial (h _ _ _ _ _))
  refine hR (?_ : R (_, _, _, _, _, _))
  refine hR (t_c 11 (by decide) ?_)
  refine hR (t_c 8 (by decide) ?_)
  refine hR (?_ : R (_, _, _, _, _, _))
  refine hR (t_mul ?_)
  refine hR (t_add ?_)
  refine hR (?_ : R (_, _, _, _, _, _))
  refine hR (t_add ?_)
  refine hR (zcall_i 0 0 (Nat.le_of_ble_eq_true rfl) (Nat.le_of_ble_eq_true rfl) (m_ofS _ ((11 + (8 * ((a2 - 30) / 10))) + (a2 % 10)) hr1 (by omega) (by omega) _ fun v22 hp23 hp24 => ?_))
  refine (?_ : R (_, _, (.int (Int32.ofInt v22)) :: [], (zMi c0 c1 c2 c3 c4 c5 c6 c7 c8 c9 c10 c11 c12 c13 0 f9 f10 f11 f12 f13 f15 f16 f17 y20_2 f21 y22_3 y23_4 f26 f28 f31 f32 f33 f38 f41 f44 x14 g15 g16 g17 g18 g19 g20 g21 g22 g23 g24 g25 g26 g27 g28 g29 g30 g31 g32 g33 g34 g35 g36 g37 g38 g39 g40 g41 g42 g43 g44 t), 0, 0))
  refine hR (?_ : R (_, _, _, _, _, _))
  exact hR (zret_i rfl (Nat.le_refl _) trivial (h _ _ _ _ _))
theorem m_read (d : Nat) (a1 a2 a3 : Int) (hb19 : zB 0 2 g19) (hb25 : zB 0 3 g25) (hr2 : bkOK g20) (hr3 : -2147483648 ≤ a1 ∧ a1 ≤ 2147483647) (hr4 : -2147483648 ≤ a2 ∧ a2 ≤ 2147483647) (hr5 : -2147483648 ≤ a3 ∧ a3 ≤ 2147483647) (Q : zQ) (h : ∀ (v : Int) (y0 : Int) (y20 : Int) (y22 : Int) (y23 : Int) (y26 : Int) (k25 : Nat → Int32), zB 0 3 k25 → Q (some (.int (Int32.ofInt v))) (zMi c0 c1 c2 c3 c4 c5 c6 c7 c8 c9 c10 c11 c12 c13 y0 f9 f10 f11 f12 f13 f15 f16 f17 y20 f21 y22 y23 y26 f28 f31 f32 f33 f38 f41 f44 x14 g15 g16 g17 g18 g19 g20 g21 g22 g23 g24 k25 g26 g27 g28 g29 g30 g31 g32 g33 g34 g35 g36 g37 g38 g39 g40 g41 g42 g43 g44 t)) : zCl zTab (d + 5) iX12_read [.ref 14, .int (Int32.ofInt a1), .int (Int32.ofInt a2), .int (Int32.ofInt a3)] (zMi c0 c1 c2 c3 c4 c5 c6 c7 c8 c9 c10 c11 c12 c13 f0 f9 f10 f11 f12 f13 f15 f16 f17 f20 f21 f22 f23 f26 f28 f31 f32 f33 f38 f41 f44 x14 g15 g16 g17 g18 g19 g20 g21 g22 g23 g24 g25 g26 g27 g28 g29 g30 g31 g32 g33 g34 g35 g36 g37 g38 g39 g40 g41 g42 g43 g44 t) 0 0 Q := by
  refine zCl_i (M := kX12_read) rfl (Nat.le_of_ble_eq_true rfl) fun R hR => ?_
  iterate 2 refine hR (?_ : R (_, _, _, _, _, _))
  refine hR (?_ : R (_, _, _, (zMi c0 c1 c2 c3 c4 c5 c6 c7 c8 c9 c10 c11 c12 c13 0 f9 f10 f11 f12 f13 f15 f16 f17 f20 f21 f22 f23 f26 f28 f31 f32 f33 f38 f41 f44 x14 g15 g16 g17 g18 g19 g20 g21 g22 g23 g24 g25 g26 g27 g28 g29 g30 g31 g32 g33 g34 g35 g36 g37 g38 g39 g40 g41 g42 g43 g44 t), _, _))
  iterate 2 refine hR (?_ : R (_, _, _, _, _, _))
  refine hR (zcall_i 0 0 (Nat.le_of_ble_eq_true rfl) (Nat.le_of_ble_eq_true rfl) (m_hand _ a1 hb19 hr2 (by omega) _ fun v1 y20_2 y22_3 y23_4 hp5 => ?_))
  refine (?_ : R (_, _, (.int (Int32.ofInt v1)) :: [], (zMi c0 c1 c2 c3 c4 c5 c6 c7 c8 c9 c10 c11 c12 c13 0 f9 f10 f11 f12 f13 f15 f16 f17 y20_2 f21 y22_3 y23_4 f26 f28 f31 f32 f33 f38 f41 f44 x14 g15 g16 g17 g18 g19 g20 g21 g22 g23 g24 g25 g26 g27 g28 g29 g30 g31 g32 g33 g34 g35 g36 g37 g38 g39 g40 g41 g42 g43 g44 t), 0, 0))
  refine hR (k_eq (by omega) (fun hc6 => ?_) (fun hc6 => ?_))
  · skip
    refine hR (?_ : R (_, _, _, _, _, _))
    exact hR (zret_i rfl (Nat.le_refl _) trivial (h _ _ _ _ _ _ _ hb25))
  refine hR (?_ : R (_, _, _, _, _, _))
  refine hR (zcall_i 0 0 (Nat.le_of_ble_eq_true rfl) (Nat.le_of_ble_eq_true rfl) (m_isText _ a2 _ (by omega) _ fun v7 hp8 => ?_))
  refine (?_ : R (_, _, (.int (Int32.ofInt v7)) :: [], (zMi c0 c1 c2 c3 c4 c5 c6 c7 c8 c9 c10 c11 c12 c13 0 f9 f10 f11 f12 f13 f15 f16 f17 y20_2 f21 y22_3 y23_4 f26 f28 f31 f32 f33 f38 f41 f44 x14 g15 g16 g17 g18 g19 g20 g21 g22 g23 g24 g25 g26 g27 g28 g29 g30 g31 g32 g33 g34 g35 g36 g37 g38 g39 g40 g41 g42 g43 g44 t), 0, 0))
  refine hR (k_eq (by omega) (fun hc9 => ?_) (fun hc9 => ?_))
  · skip
    refine hR (?_ : R (_, _, _, _, _, _))
    exact hR (zret_i rfl (Nat.le_refl _) trivial (h _ _ _ _ _ _ _ hb25))
  iterate 2 refine hR (?_ : R (_, _, _, _, _, _))
  refine hR (zcall_i 0 0 (Nat.le_of_ble_eq_true rfl) (Nat.le_of_ble_eq_true rfl) (m_isReader _ a3 (by omega) (by omega) _ fun v10 hp11 => ?_))
  refine (?_ : R (_, _, (.int (Int32.ofInt v10)) :: [], (zMi c0 c1 c2 c3 c4 c5 c6 c7 c8 c9 c10 c11 c12 c13 0 f9 f10 f11 f12 f13 f15 f16 f17 y20_2 f21 y22_3 y23_4 f26 f28 f31 f32 f33 f38 f41 f44 x14 g15 g16 g17 g18 g19 g20 g21 g22 g23 g24 g25 g26 g27 g28 g29 g30 g31 g32 g33 g34 g35 g36 g37 g38 g39 g40 g41 g42 g43 g44 t), 0, 0))
  refine hR (k_eq (by omega) (fun hc12 => ?_) (fun hc12 => ?_))
  · skip
    refine hR (?_ : R (_, _, _, _, _, _))
    exact hR (zret_i rfl (Nat.le_refl _) trivial (h _ _ _ _ _ _ _ hb25))
  iterate 3 refine hR (?_ : R (_, _, _, _, _, _))
  refine hR (zcall_i 0 0 (Nat.le_of_ble_eq_true rfl) (Nat.le_of_ble_eq_true rfl) (m_readBy _ a2 a3 hb25 (by omega) hr2 (by omega) (by omega) _ fun v13 y26_14 k25_15 hp16 hp17 => ?_))
  refine (?_ : R (_, _, (.int (Int32.ofInt v13)) :: [], (zMi c0 c1 c2 c3 c4 c5 c6 c7 c8 c9 c10 c11 c12 c13 0 f9 f10 f11 f12 f13 f15 f16 f17 y20_2 f21 y22_3 y23_4 y26_14 f28 f31 f32 f33 f38 f41 f44 x14 g15 g16 g17 g18 g19 g20 g21 g22 g23 g24 k25_15 g26 g27 g28 g29 g30 g31 g32 g33 g34 g35 g36 g37 g38 g39 g40 g41 g42 g43 g44 t), 0, 0))
  refine hR (?_ : R (_, _, _, _, _, _))
  exact hR (zret_i rfl (Nat.le_refl _) trivial (h _ _ _ _ _ _ _ hp16))
theorem m_word (d : Nat) (a1 a2 : Int) (hb25 : zB 0 3 g25) (hr1 : -2147483648 ≤ a1 ∧ a1 ≤ 2147483647) (hr2 : -2147483648 ≤ a2 ∧ a2 ≤ 2147483647) (Q : zQ) (h : ∀ (v : Int) (y0 : Int) (k25 : Nat → Int32), zB 0 3 k25 → Q (some (.int (Int32.ofInt v))) (zMi c0 c1 c2 c3 c4 c5 c6 c7 c8 c9 c10 c11 c12 c13 y0 f9 f10 f11 f12 f13 f15 f16 f17 f20 f21 f22 f23 f26 f28 f31 f32 f33 f38 f41 f44 x14 g15 g16 g17 g18 g19 g20 g21 g22 g23 g24 k25 g26 g27 g28 g29 g30 g31 g32 g33 g34 g35 g36 g37 g38 g39 g40 g41 g42 g43 g44 t)) : zCl zTab (d + 4) iX12_word [.ref 14, .int (Int32.ofInt a1), .int (Int32.ofInt a2)] (zMi c0 c1 c2 c3 c4 c5 c6 c7 c8 c9 c10 c11 c12 c13 f0 f9 f10 f11 f12 f13 f15 f16 f17 f20 f21 f22 f23 f26 f28 f31 f32 f33 f38 f41 f44 x14 g15 g16 g17 g18 g19 g20 g21 g22 g23 g24 g25 g26 g27 g28 g29 g30 g31 g32 g33 g34 g35 g36 g37 g38 g39 g40 g41 g42 g43 g44 t) 0 0 Q := by
  refine zCl_i (M := kX12_word) rfl (Nat.le_of_ble_eq_true rfl) fun R hR => ?_
  iterate 2 refine hR (?_ : R (_, _, _, _, _, _))
  refine hR (?_ : R (_, _, _, (zMi c0 c1 c2 c3 c4 c5 c6 c7 c8 c9 c10 c11 c12 c13 0 f9 f10 f11 f12 f13 f15 f16 f17 f20 f21 f22 f23 f26 f28 f31 f32 f33 f38 f41 f44 x14 g15 g16 g17 g18 g19 g20 g21 g22 g23 g24 g25 g26 g27 g28 g29 g30 g31 g32 g33 g34 g35 g36 g37 g38 g39 g40 g41 g42 g43 g44 t), _, _))
  refine hR (?_ : R (_, _, _, _, _, _))
  refine hR (zcall_i 0 0 (Nat.le_of_ble_eq_true rfl) (Nat.le_of_ble_eq_true rfl) (m_isText _ a1 _ (by omega) _ fun v1 hp2 => ?_))
  refine (?_ : R (_, _, (.int (Int32.ofInt v1)) :: [], (zMi c0 c1 c2 c3 c4 c5 c6 c7 c8 c9 c10 c11 c12 c13 0 f9 f10 f11 f12 f13 f15 f16 f17 f20 f21 f22 f23 f26 f28 f31 f32 f33 f38 f41 f44 x14 g15 g16 g17 g18 g19 g20 g21 g22 g23 g24 g25 g26 g27 g28 g29 g30 g31 g32 g33 g34 g35 g36 g37 g38 g39 g40 g41 g42 g43 g44 t), 0, 0))
  refine hR (k_eq (by omega) (fun hc3 => ?_) (fun hc3 => ?_))
  · skip
    refine hR (?_ : R (_, _, _, _, _, _))
    exact hR (zret_i rfl (Nat.le_refl _) trivial (h _ _ _ hb25))
  iterate 3 refine hR (?_ : R (_, _, _, _, _, _))
  refine hR (zcall_i 0 0 (Nat.le_of_ble_eq_true rfl) (Nat.le_of_ble_eq_true rfl) (m_sizeOf _ a1 _ (by omega) _ fun v4 hp5 hp6 => ?_))
  refine (?_ : R (_, _, (.int (Int32.ofInt v4)) :: (.int (Int32.ofInt ((-1)))) :: (.int (Int32.ofInt a2)) :: [], (zMi c0 c1 c2 c3 c4 c5 c6 c7 c8 c9 c10 c11 c12 c13 0 f9 f10 f11 f12 f13 f15 f16 f17 f20 f21 f22 f23 f26 f28 f31 f32 f33 f38 f41 f44 x14 g15 g16 g17 g18 g19 g20 g21 g22 g23 g24 g25 g26 g27 g28 g29 g30 g31 g32 g33 g34 g35 g36 g37 g38 g39 g40 g41 g42 g43 g44 t), 0, 0))
  refine hR (?_ : R (_, _, _, _, _, _))
  refine hR (t_sub ?_)
  refine hR (zcall_i 0 0 (Nat.le_of_ble_eq_true rfl) (Nat.le_of_ble_eq_true rfl) (m_in _ a2 ((-1)) (v4 - 1) _ (by omega) (by omega) (by omega) _ fun v7 hp8 => ?_))
  refine (?_ : R (_, _, (.int (Int32.ofInt v7)) :: [], (zMi c0 c1 c2 c3 c4 c5 c6 c7 c8 c9 c10 c11 c12 c13 0 f9 f10 f11 f12 f13 f15 f16 f17 f20 f21 f22 f23 f26 f28 f31 f32 f33 f38 f41 f44 x14 g15 g16 g17 g18 g19 g20 g21 g22 g23 g24 g25 g26 g27 g28 g29 g30 g31 g32 g33 g34 g35 g36 g37 g38 g39 g40 g41 g42 g43 g44 t), 0, 0))
  refine hR (k_ne (by omega) (fun hc9 => ?_) (fun hc9 => ?_))
  rotate_left
  · skip
    refine hR (?_ : R (_, _, _, _, _, _))
    exact hR (zret_i rfl (Nat.le_refl _) trivial (h _ _ _ hb25))
  iterate 3 refine hR (?_ : R (_, _, _, _, _, _))
  refine hR (zcall_i 0 0 (Nat.le_of_ble_eq_true rfl) (Nat.le_of_ble_eq_true rfl) (m_spell25 _ a1 hb25 (by omega) _ fun k25_10 hp11 => ?_))
  refine (?_ : R (_, _, [], (zMi c0 c1 c2 c3 c4 c5 c6 c7 c8 c9 c10 c11 c12 c13 0 f9 f10 f11 f12 f13 f15 f16 f17 f20 f21 f22 f23 f26 f28 f31 f32 f33 f38 f41 f44 x14 g15 g16 g17 g18 g19 g20 g21 g22 g23 g24 k25_10 g26 g27 g28 g29 g30 g31 g32 g33 g34 g35 g36 g37 g38 g39 g40 g41 g42 g43 g44 t), 0, 0))
  iterate 2 refine hR (?_ : R (_, _, _, _, _, _))
  refine hR (j_ne (by omega) (by omega) (fun hc12 => ?_) (fun hc12 => ?_))
  · skip
    iterate 3 refine hR (?_ : R (_, _, _, _, _, _))
    refine hR (t_ldB hp11 (by omega) (by omega) (Nat.le_of_ble_eq_true rfl) fun v13 ev13 lv13 uv13 => ?_)
    clear ev13
    exact hR (zret_i rfl (Nat.le_refl _) trivial (h _ _ _ hp11))
  refine hR (?_ : R (_, _, _, _, _, _))
  refine hR (zcall_i 0 0 (Nat.le_of_ble_eq_true rfl) (Nat.le_of_ble_eq_true rfl) (m_sizeOf _ a1 _ (by omega) _ fun v14 hp15 hp16 => ?_))
  refine (?_ : R (_, _, (.int (Int32.ofInt v14)) :: [], (zMi c0 c1 c2 c3 c4 c5 c6 c7 c8 c9 c10 c11 c12 c13 0 f9 f10 f11 f12 f13 f15 f16 f17 f20 f21 f22 f23 f26 f28 f31 f32 f33 f38 f41 f44 x14 g15 g16 g17 g18 g19 g20 g21 g22 g23 g24 k25_10 g26 g27 g28 g29 g30 g31 g32 g33 g34 g35 g36 g37 g38 g39 g40 g41 g42 g43 g44 t), 0, 0))
  refine hR (?_ : R (_, _, _, _, _, _))
  exact hR (zret_i rfl (Nat.le_refl _) trivial (h _ _ _ hp11))
theorem m_drift (d : Nat) (a1 a2 : Int) (hb25 : zB 0 3 g25) (hb26 : zB 0 3 g26) (hr2 : -2147483648 ≤ a1 ∧ a1 ≤ 2147483647) (hr3 : -2147483648 ≤ a2 ∧ a2 ≤ 2147483647) (Q : zQ) (h : ∀ (v : Int) (y0 : Int) (k25 : Nat → Int32) (k26 : Nat → Int32) (k27 : Nat → Int32), zB 0 3 k25 → zB 0 3 k26 → Q (some (.int (Int32.ofInt v))) (zMi c0 c1 c2 c3 c4 c5 c6 c7 c8 c9 c10 c11 c12 c13 y0 f9 f10 f11 f12 f13 f15 f16 f17 f20 f21 f22 f23 f26 f28 f31 f32 f33 f38 f41 f44 x14 g15 g16 g17 g18 g19 g20 g21 g22 g23 g24 k25 k26 k27 g28 g29 g30 g31 g32 g33 g34 g35 g36 g37 g38 g39 g40 g41 g42 g43 g44 t)) : zCl zTab (d + 5) iX12_drift [.ref 14, .int (Int32.ofInt a1), .int (Int32.ofInt a2)] (zMi c0 c1 c2 c3 c4 c5 c6 c7 c8 c9 c10 c11 c12 c13 f0 f9 f10 f11 f12 f13 f15 f16 f17 f20 f21 f22 f23 f26 f28 f31 f32 f33 f38 f41 f44 x14 g15 g16 g17 g18 g19 g20 g21 g22 g23 g24 g25 g26 g27 g28 g29 g30 g31 g32 g33 g34 g35 g36 g37 g38 g39 g40 g41 g42 g43 g44 t) 0 0 Q := by
  refine zCl_i (M := kX12_drift) rfl (Nat.le_of_ble_eq_true rfl) fun R hR => ?_
  iterate 2 refine hR (?_ : R (_, _, _, _, _, _))
  refine hR (?_ : R (_, _, _, (zMi c0 c1 c2 c3 c4 c5 c6 c7 c8 c9 c10 c11 c12 c13 0 f9 f10 f11 f12 f13 f15 f16 f17 f20 f21 f22 f23 f26 f28 f31 f32 f33 f38 f41 f44 x14 g15 g16 g17 g18 g19 g20 g21 g22 g23 g24 g25 g26 g27 g28 g29 g30 g31 g32 g33 g34 g35 g36 g37 g38 g39 g40 g41 g42 g43 g44 t), _, _))
  refine hR (?_ : R (_, _, _, _, _, _))
  refine hR (zcall_i 0 0 (Nat.le_of_ble_eq_true rfl) (Nat.le_of_ble_eq_true rfl) (m_isText _ a1 _ (by omega) _ fun v1 hp2 => ?_))
  refine (?_ : R (_, _, (.int (Int32.ofInt v1)) :: [], (zMi c0 c1 c2 c3 c4 c5 c6 c7 c8 c9 c10 c11 c12 c13 0 f9 f10 f11 f12 f13 f15 f16 f17 f20 f21 f22 f23 f26 f28 f31 f32 f33 f38 f41 f44 x14 g15 g16 g17 g18 g19 g20 g21 g22 g23 g24 g25 g26 g27 g28 g29 g30 g31 g32 g33 g34 g35 g36 g37 g38 g39 g40 g41 g42 g43 g44 t), 0, 0))
  refine hR (k_eq (by omega) (fun hc3 => ?_) (fun hc3 => ?_))
  · skip
    refine hR (?_ : R (_, _, _, _, _, _))
    exact hR (zret_i rfl (Nat.le_refl _) trivial (h _ _ _ _ _ hb25 hb26))
  refine hR (?_ : R (_, _, _, _, _, _))
  refine hR (zcall_i 0 0 (Nat.le_of_ble_eq_true rfl) (Nat.le_of_ble_eq_true rfl) (m_isText _ a2 _ (by omega) _ fun v4 hp5 => ?_))
  refine (?_ : R (_, _, (.int (Int32.ofInt v4)) :: [], (zMi c0 c1 c2 c3 c4 c5 c6 c7 c8 c9 c10 c11 c12 c13 0 f9 f10 f11 f12 f13 f15 f16 f17 f20 f21 f22 f23 f26 f28 f31 f32 f33 f38 f41 f44 x14 g15 g16 g17 g18 g19 g20 g21 g22 g23 g24 g25 g26 g27 g28 g29 g30 g31 g32 g33 g34 g35 g36 g37 g38 g39 g40 g41 g42 g43 g44 t), 0, 0))
  refine hR (k_eq (by omega) (fun hc6 => ?_) (fun hc6 => ?_))
  · skip
    refine hR (?_ : R (_, _, _, _, _, _))
    exact hR (zret_i rfl (Nat.le_refl _) trivial (h _ _ _ _ _ hb25 hb26))
  iterate 3 refine hR (?_ : R (_, _, _, _, _, _))
  refine hR (zcall_i 0 0 (Nat.le_of_ble_eq_true rfl) (Nat.le_of_ble_eq_true rfl) (m_apart _ a1 a2 hb25 hb26 (by omega) (by omega) _ fun v7 k25_8 k26_9 k27_10 hp11 hp12 hp13 hp14 => ?_))
  refine (?_ : R (_, _, (.int (Int32.ofInt v7)) :: [], (zMi c0 c1 c2 c3 c4 c5 c6 c7 c8 c9 c10 c11 c12 c13 0 f9 f10 f11 f12 f13 f15 f16 f17 f20 f21 f22 f23 f26 f28 f31 f32 f33 f38 f41 f44 x14 g15 g16 g17 g18 g19 g20 g21 g22 g23 g24 k25_8 k26_9 k27_10 g28 g29 g30 g31 g32 g33 g34 g35 g36 g37 g38 g39 g40 g41 g42 g43 g44 t), 0, 0))
  refine hR (?_ : R (_, _, _, _, _, _))
  exact hR (zret_i rfl (Nat.le_refl _) trivial (h _ _ _ _ _ hp11 hp12))
end MZ
