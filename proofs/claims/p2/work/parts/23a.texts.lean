/-! TEXTS BY THEIR NUMBERS. -/
theorem zB_nI {g : Nat → Int32} (hg : zB 0 3 g) {i m : Nat} {x : Int32} (hx : x = nI m) (hm : m ≤ 3) : zB 0 3 (upd g i x) := by
  intro j
  unfold upd
  split
  · rw [hx, nI_toInt (by omega)]; omega
  · exact hg j
def tSh (n : Nat) : Nat := (4 ^ n - 1) / 3
def tLen (t : Nat) : Nat := if t < 1 then 0 else if t < 5 then 1 else if t < 21 then 2 else if t < 85 then 3 else if t < 341 then 4 else if t < 1365 then 5 else 6
def tF (t : Nat) : Nat := t - tSh (tLen t)
def tW (t k : Nat) : Nat := tF t / 4 ^ (tLen t - 1 - k) % 4
def tB (t : Nat) : Nat := t - tSh (tLen t) + 4 ^ tLen t
theorem tLen_le (t : Nat) : tLen t ≤ 6 := by
  unfold tLen
  repeat' split
  all_goals omega
def cL : Nat → Nat → Nat → Nat
  | 0, _, n => n
  | k + 1, l, n => if l = 0 then n else cL k ((l - 1) / 4) (n + 1)
theorem cL_eq (t : Nat) (ht : t < 5461) : cL 6 t 0 = tLen t := by
  simp only [cL, tLen]
  repeat' split
  all_goals omega
theorem tB_w (t : Nat) (k : Nat) (hk : k < tLen t) : tB t / 4 ^ (tLen t - 1 - k) % 4 = tW t k := by
  unfold tB tW tF
  generalize t - tSh (tLen t) = f
  have h6 := tLen_le t
  generalize tLen t = n at hk h6 ⊢
  have e : 4 ^ n = 4 ^ (n - 1 - k) * (4 * 4 ^ k) := by
    rw [← Nat.pow_succ', ← Nat.pow_add]
    congr 1
    omega
  rw [e, Nat.add_mul_div_left _ _ (Nat.pos_of_ne_zero (by simp)), Nat.add_mul_mod_self_left]
theorem tSh_v : tSh 0 = 0 ∧ tSh 1 = 1 ∧ tSh 2 = 5 ∧ tSh 3 = 21 ∧ tSh 4 = 85 ∧ tSh 5 = 341 ∧ tSh 6 = 1365 ∧ tSh 7 = 5461 := by decide
theorem tLen_v (t : Nat) (ht : t < 5461) : (t < 1 ∧ tLen t = 0) ∨ (1 ≤ t ∧ t < 5 ∧ tLen t = 1) ∨ (5 ≤ t ∧ t < 21 ∧ tLen t = 2) ∨ (21 ≤ t ∧ t < 85 ∧ tLen t = 3) ∨ (85 ≤ t ∧ t < 341 ∧ tLen t = 4) ∨ (341 ≤ t ∧ t < 1365 ∧ tLen t = 5) ∨ (1365 ≤ t ∧ tLen t = 6) := by
  unfold tLen
  repeat' split
  all_goals omega
theorem tSh_le (t : Nat) (ht : t < 5461) : tSh (tLen t) ≤ t ∧ t < tSh (tLen t + 1) ∧ tB t < 8192 ∧ tF t < 4096 := by
  obtain ⟨e0, e1, e2, e3, e4, e5, e6, e7⟩ := tSh_v
  unfold tB tF
  rcases tLen_v t ht with ⟨h1, h⟩ | ⟨h1, h2, h⟩ | ⟨h1, h2, h⟩ | ⟨h1, h2, h⟩ | ⟨h1, h2, h⟩ | ⟨h1, h2, h⟩ | ⟨h1, h⟩ <;> rw [h] <;> simp only [e0, e1, e2, e3, e4, e5, e6, e7] <;> omega
theorem nI1 : Int32.ofInt 1 = nI 1 := by decide
theorem nI0 : Int32.ofInt 0 = nI 0 := by decide
theorem nI2 : Int32.ofInt 2 = nI 2 := by decide
theorem nI3 : Int32.ofInt 3 = nI 3 := by decide
theorem nI4 : Int32.ofInt 4 = nI 4 := by decide
theorem nI6 : (Int8.ofInt 6).toInt32 = nI 6 := by decide
set_option maxHeartbeats 1000000 in
theorem r_lengthOf (d : Nat) (x : Int32) (t : Nat) (hx : x = nI t) (ht : t < 5461) (w : zW) (Q : zQ) (h : Q (some (.int (nI (tLen t)))) w) : zCl zTab (d + 1) iX11_lengthOf [.int x] w 0 0 Q := by
  refine zCl_i (M := kX11_lengthOf) rfl (Nat.le_of_ble_eq_true rfl) fun R hR => ?_
  have loop : ∀ (k : Nat) (n l i : Int32) (a b j : Nat), l = nI a → n = nI b → i = nI j → j + k = 6 → a < 5461 → cL k a b = tLen t → R (6, [some (.int x), some (.int n), some (.int l), some (.int i)], [], w, 0, 0) := by
    intro k
    induction k with
    | zero =>
      intro n l i a b j hl hn hi hj ha hc
      iterate 2 refine hR (?_ : R (_, _, _, _, _, _))
      refine hR (pk_le 6 j (fun _ => ?_) (fun z => by omega) nI6 hi)
      refine hR (?_ : R (_, _, _, _, _, _))
      have e : n = nI (tLen t) := by rw [hn, ← hc]; rfl
      subst e
      exact hR (zret_i rfl (Nat.le_refl _) trivial h)
    | succ k ih =>
      intro n l i a b j hl hn hi hj ha hc
      iterate 2 refine hR (?_ : R (_, _, _, _, _, _))
      refine hR (pk_le 6 j (fun z => by omega) (fun _ => ?_) nI6 hi)
      refine hR (?_ : R (_, _, _, _, _, _))
      refine hR (pk_le a 0 (fun z => ?_) (fun z => ?_) hl rfl)
      · refine hR (?_ : R (_, _, _, _, _, _))
        have e : n = nI (tLen t) := by
          rw [hn, ← hc]
          unfold cL
          rw [if_pos (by omega)]
        subst e
        exact hR (zret_i rfl (Nat.le_refl _) trivial h)
      · iterate 4 refine hR (?_ : R (_, _, _, _, _, _))
        refine hR (And.intro (by decide) ?_)
        iterate 4 refine hR (?_ : R (_, _, _, _, _, _))
        refine ih _ _ _ ((a - 1) / 4) (b + 1) (j + 1) ?_ ?_ ?_ (by omega) (by omega) ?_
        · rw [hl, nI1, nI4, pk_sub (by omega), pk_div (by omega) (by omega) (by omega)]
        · rw [hn, nI1, nI_add]
        · rw [hi, nI1, nI_add]
        · rw [← hc]
          conv => rhs; unfold cL
          rw [if_neg (by omega)]
  iterate 6 refine hR (?_ : R (_, _, _, _, _, _))
  exact loop 6 _ _ _ t 0 0 hx nI0 nI0 rfl ht (cL_eq t ht)
theorem t_shl : ∀ n, n < 7 → Int32.ofInt 1 <<< ((Int32.ofInt 2 * nI n) &&& 31) = nI (4 ^ n) := by decide +kernel
theorem t_dv : ∀ n, n < 7 → (nI (4 ^ n) - Int32.ofInt 1) / Int32.ofInt 3 = nI (tSh n) := by decide +kernel
theorem r_bitsOf (d : Nat) (x : Int32) (t : Nat) (hx : x = nI t) (ht : t < 5461) (w : zW) (Q : zQ) (h : Q (some (.int (nI (tB t)))) w) : zCl zTab (d + 2) iX11_bitsOf [.int x] w 0 0 Q := by
  have h6 := tLen_le t
  have hs := tSh_le t ht
  refine zCl_i (M := kX11_bitsOf) rfl (Nat.le_of_ble_eq_true rfl) fun R hR => ?_
  refine hR (?_ : R (_, _, _, _, _, _))
  refine hR (zcall_i 0 0 (Nat.le_of_ble_eq_true rfl) (Nat.le_of_ble_eq_true rfl) (r_lengthOf _ _ t hx ht _ _ ?_))
  iterate 12 refine hR (?_ : R (_, _, _, _, _, _))
  refine hR (And.intro (by decide) ?_)
  iterate 3 refine hR (?_ : R (_, _, _, _, _, _))
  have e : x - (Int32.ofInt 1 <<< ((Int32.ofInt 2 * nI (tLen t)) &&& 31) - Int32.ofInt 1) / Int32.ofInt 3 + Int32.ofInt 1 <<< ((Int32.ofInt 2 * nI (tLen t)) &&& 31) = nI (tB t) := by
    rw [t_shl _ (by omega), t_dv _ (by omega), hx, pk_sub hs.1, nI_add]
    rfl
  refine hR (zret_i rfl (Nat.le_refl _) trivial ?_)
  have h2 : ∀ y, y = nI (tB t) → Q (some (.int y)) w := fun y hy => by rw [hy]; exact h
  exact h2 _ e
theorem t_sm : ∀ j, j < 7 → ((nI (2 * j) &&& 31).toBitVec.smod 32).toNat = 2 * j := by decide +kernel
theorem t_4 (j : Nat) : 2 ^ (2 * j) = 4 ^ j := by rw [Nat.pow_mul]
theorem r_wordOfBits (d : Nat) (x y : Int32) (B j : Nat) (hx : x = nI B) (hB : B < 2 ^ 31) (hy : y = nI j) (hj : j < 7) (w : zW) (Q : zQ) (h : Q (some (.int (nI (B / 4 ^ j % 4)))) w) : zCl zTab (d + 1) iX11_wordOfBits [.int x, .int y] w 0 0 Q := by
  refine zCl_i (M := kX11_wordOfBits) rfl (Nat.le_of_ble_eq_true rfl) fun R hR => ?_
  iterate 7 refine hR (?_ : R (_, _, _, _, _, _))
  refine hR (zret_i rfl (Nat.le_refl _) trivial ?_)
  have h2 : ∀ z, z = nI (B / 4 ^ j % 4) → Q (some (.int z)) w := fun z hz => by rw [hz]; exact h
  refine h2 _ ?_
  show (x >>> (Int32.ofInt 2 * y &&& 31)) &&& Int32.ofInt 3 = _
  rw [hx, hy, nI2, pk_mul, pk_shrN hB _ (2 * j) (t_sm j hj), t_4, pk_andN (Nat.lt_of_le_of_lt (Nat.div_le_self _ _) (by omega)) 2 (by decide)]
theorem r_wordAt (d : Nat) (x y : Int32) (t k : Nat) (hx : x = nI t) (ht : t < 5461) (hy : y = nI k) (hk : k < tLen t) (w : zW) (Q : zQ) (h : Q (some (.int (nI (tW t k)))) w) : zCl zTab (d + 3) iX11_wordAt [.int x, .int y] w 0 0 Q := by
  have h6 := tLen_le t
  have hs := tSh_le t ht
  refine zCl_i (M := kX11_wordAt) rfl (Nat.le_of_ble_eq_true rfl) fun R hR => ?_
  refine hR (?_ : R (_, _, _, _, _, _))
  refine hR (zcall_i 0 0 (Nat.le_of_ble_eq_true rfl) (Nat.le_of_ble_eq_true rfl) (r_bitsOf _ _ t hx ht _ _ ?_))
  refine hR (?_ : R (_, _, _, _, _, _))
  refine hR (zcall_i 0 0 (Nat.le_of_ble_eq_true rfl) (Nat.le_of_ble_eq_true rfl) (r_lengthOf _ _ t hx ht _ _ ?_))
  iterate 4 refine hR (?_ : R (_, _, _, _, _, _))
  have hb : tB t < 2 ^ 31 := by omega
  have hj : tLen t - 1 - k < 7 := by omega
  have ey : nI (tLen t) - Int32.ofInt 1 - y = nI (tLen t - 1 - k) := by rw [nI1, hy, pk_sub (by omega), pk_sub (by omega)]
  refine hR (zcall_i 0 0 (Nat.le_of_ble_eq_true rfl) (Nat.le_of_ble_eq_true rfl) (r_wordOfBits _ (nI (tB t)) (nI (tLen t) - Int32.ofInt 1 - y) (tB t) (tLen t - 1 - k) rfl hb ey hj _ _ ?_))
  have h3 : ∀ z, z = nI (tW t k) → Q (some (.int z)) w := fun z hz => by rw [hz]; exact h
  exact hR (zret_i rfl (Nat.le_refl _) trivial (h3 _ (congrArg nI (tB_w t k hk))))
def vWord (x k : Int32) : Int32 := if x < 0 ∨ 5461 ≤ x then Int32.ofInt (-1) else if k = Int32.ofInt (-1) then nI (tLen x.toNatClampNeg) else if k < 0 ∨ nI (tLen x.toNatClampNeg) ≤ k then Int32.ofInt (-1) else nI (tW x.toNatClampNeg k.toNatClampNeg)
theorem t_of {x : Int32} (h0 : ¬ x < 0) (h1 : x < 5461) : ∃ t, t < 5461 ∧ x = nI t := by
  obtain ⟨j, hj, rfl⟩ := nI_of h0
  refine ⟨j, ?_, rfl⟩
  have h2 : (nI j).toInt < (5461 : Int32).toInt := zlt_i.mp h1
  rw [nI_toInt hj] at h2
  have e : (5461 : Int32).toInt = 5461 := by decide
  omega
theorem t_kj {k : Int32} {L : Nat} (h0 : ¬ k < 0) (h1 : k < nI L) (hL : L ≤ 6) : ∃ j, j < L ∧ k = nI j ∧ k.toNatClampNeg = j := by
  obtain ⟨j, hj, hkj⟩ := nI_of h0
  subst hkj
  refine ⟨j, ?_, rfl, nI_clamp hj⟩
  have z := zlt_i.mp h1
  have e1 := nI_toInt hj
  have e2 : (nI L).toInt = (L : Int) := nI_toInt (by omega)
  omega
theorem tSh_s : ∀ j, j < 7 → tSh j + 4 ^ j = tSh (j + 1) ∧ tSh j < 10000 ∧ 4 ^ j < 10000 := by decide +kernel
theorem tSz (t : Nat) (ht : t < 5461) (j : Nat) (hj : j < 7) : tSh (j + 1) ≤ t ↔ j < tLen t := by
  obtain ⟨e0, e1, e2, e3, e4, e5, e6, e7⟩ := tSh_v
  have hc : j = 0 ∨ j = 1 ∨ j = 2 ∨ j = 3 ∨ j = 4 ∨ j = 5 ∨ j = 6 := by omega
  rcases tLen_v t ht with ⟨h1, h⟩ | ⟨h1, h2, h⟩ | ⟨h1, h2, h⟩ | ⟨h1, h2, h⟩ | ⟨h1, h2, h⟩ | ⟨h1, h2, h⟩ | ⟨h1, h⟩ <;> rw [h] <;> rcases hc with rfl | rfl | rfl | rfl | rfl | rfl | rfl <;> simp only [e0, e1, e2, e3, e4, e5, e6, e7] <;> omega
theorem tSh7 : ∀ j, j < 8 → tSh j < 10000 := by decide +kernel
set_option maxHeartbeats 1000000 in
theorem p_shorter (d : Nat) (x : Int32) (n : Nat) (hx : x = nI n) (hn : n ≤ 7) (w : zW) (Q : zQ) (h : Q (some (.int (nI (tSh n)))) w) : zCl zTab (d + 1) iX12_shorter [.int x] w 0 0 Q := by
  refine zCl_i (M := kX12_shorter) rfl (Nat.le_of_ble_eq_true rfl) fun R hR => ?_
  have loop : ∀ (m : Nat) (s a k : Int32) (j : Nat), j + m = n → s = nI (tSh j) → a = nI (4 ^ j) → k = nI j → R (6, [some (.int x), some (.int s), some (.int a), some (.int k)], [], w, 0, 0) := by
    intro m
    induction m with
    | zero =>
      intro s a k j hj hs ha hk
      iterate 2 refine hR (?_ : R (_, _, _, _, _, _))
      refine hR (pk_le n j (fun _ => ?_) (fun z => by omega) hx hk)
      refine hR (?_ : R (_, _, _, _, _, _))
      have e : j = n := by omega
      subst e
      subst hs
      exact hR (zret_i rfl (Nat.le_refl _) trivial h)
    | succ m ih =>
      intro s a k j hj hs ha hk
      have h7 := tSh_s j (by omega)
      iterate 2 refine hR (?_ : R (_, _, _, _, _, _))
      refine hR (pk_le n j (fun z => by omega) (fun _ => ?_) hx hk)
      iterate 10 refine hR (?_ : R (_, _, _, _, _, _))
      refine ih _ _ _ (j + 1) (by omega) ?_ ?_ ?_
      · rw [hs, ha, nI_add, h7.1]
      · rw [ha, nI4, pk_mul, Nat.pow_succ]
      · rw [hk, nI1, nI_add]
  iterate 6 refine hR (?_ : R (_, _, _, _, _, _))
  exact loop n _ _ _ 0 (by omega) (by decide) (by decide) nI0
set_option maxHeartbeats 1000000 in
theorem p_sizeOf (d : Nat) (x : Int32) (t : Nat) (hx : x = nI t) (ht : t < 5461) (w : zW) (Q : zQ) (h : Q (some (.int (nI (tLen t)))) w) : zCl zTab (d + 2) iX12_sizeOf [.int x] w 0 0 Q := by
  have h6 := tLen_le t
  refine zCl_i (M := kX12_sizeOf) rfl (Nat.le_of_ble_eq_true rfl) fun R hR => ?_
  have loop : ∀ (m : Nat) (k : Int32) (j : Nat), j + m = tLen t → k = nI j → R (2, [some (.int x), some (.int k)], [], w, 0, 0) := by
    intro m
    induction m with
    | zero =>
      intro k j hj hk
      have hz := tSz t ht j (by omega)
      have h7 := tSh7 (j + 1) (by omega)
      iterate 3 refine hR (?_ : R (_, _, _, _, _, _))
      refine hR (zcall_i 0 0 (Nat.le_of_ble_eq_true rfl) (Nat.le_of_ble_eq_true rfl) (p_shorter _ _ (j + 1) (by rw [hk, nI1, nI_add]) (by omega) _ _ ?_))
      refine hR (?_ : R (_, _, _, _, _, _))
      refine hR (pk_lt t (tSh (j + 1)) (fun _ => ?_) (fun z => by omega) hx rfl)
      refine hR (?_ : R (_, _, _, _, _, _))
      have h3 : ∀ z, z = nI (tLen t) → Q (some (.int z)) w := fun z hz => by rw [hz]; exact h
      exact hR (zret_i rfl (Nat.le_refl _) trivial (h3 _ (by rw [hk]; exact congrArg nI (by omega))))
    | succ m ih =>
      intro k j hj hk
      have hz := tSz t ht j (by omega)
      have h7 := tSh7 (j + 1) (by omega)
      iterate 3 refine hR (?_ : R (_, _, _, _, _, _))
      refine hR (zcall_i 0 0 (Nat.le_of_ble_eq_true rfl) (Nat.le_of_ble_eq_true rfl) (p_shorter _ _ (j + 1) (by rw [hk, nI1, nI_add]) (by omega) _ _ ?_))
      refine hR (?_ : R (_, _, _, _, _, _))
      refine hR (pk_lt t (tSh (j + 1)) (fun z => by omega) (fun _ => ?_) hx rfl)
      iterate 2 refine hR (?_ : R (_, _, _, _, _, _))
      exact ih _ (j + 1) (by omega) (by rw [hk, nI1, nI_add])
  iterate 2 refine hR (?_ : R (_, _, _, _, _, _))
  exact loop (tLen t) _ 0 (by omega) nI0
set_option maxHeartbeats 1000000 in
theorem p_spell25 {c0 c1 c2 c3 c4 c5 c6 c7 c8 c9 c10 c11 c12 c13 : va_E} {x0 x9 x10 x11 x12 x13 x15 x16 x17 x20 x21 x22 x23 x26 x28 x31 x32 x33 x38 x41 x44 : Int32} {x14 : Int64} {g15 g16 g17 g18 g19 g20 g21 g22 g23 g24 g25 g26 g27 g28 g29 g30 g31 g32 g33 g34 g35 g36 g37 g38 g39 g40 g41 g42 g43 g44 : Nat → Int32} {t : zW} (d : Nat) (x : Int32) (t9 : Nat) (hx : x = nI t9) (ht : t9 < 5461) (Q : zQ) (h : ∀ f, (∀ i, i < tLen t9 → f i = nI (tW t9 i)) → (zB 0 3 g25 → zB 0 3 f) → Q none (zMg c0 c1 c2 c3 c4 c5 c6 c7 c8 c9 c10 c11 c12 c13 x0 x9 x10 x11 x12 x13 x15 x16 x17 x20 x21 x22 x23 x26 x28 x31 x32 x33 x38 x41 x44 x14 g15 g16 g17 g18 g19 g20 g21 g22 g23 g24 f g26 g27 g28 g29 g30 g31 g32 g33 g34 g35 g36 g37 g38 g39 g40 g41 g42 g43 g44 t)) : zCl zTab (d + 3) iX12_spell [.int x, .ref 25] (zMg c0 c1 c2 c3 c4 c5 c6 c7 c8 c9 c10 c11 c12 c13 x0 x9 x10 x11 x12 x13 x15 x16 x17 x20 x21 x22 x23 x26 x28 x31 x32 x33 x38 x41 x44 x14 g15 g16 g17 g18 g19 g20 g21 g22 g23 g24 g25 g26 g27 g28 g29 g30 g31 g32 g33 g34 g35 g36 g37 g38 g39 g40 g41 g42 g43 g44 t) 0 0 Q := by
  have h6 := tLen_le t9
  have hs := tSh_le t9 ht
  refine zCl_i (M := kX12_spell) rfl (Nat.le_of_ble_eq_true rfl) fun R hR => ?_
  have loop : ∀ (j : Nat) (l k : Int32) (f : Nat → Int32), j ≤ tLen t9 → l = nI (tF t9 / 4 ^ (tLen t9 - j)) → k.toInt = (j : Int) - 1 → (∀ i, j ≤ i → i < tLen t9 → f i = nI (tW t9 i)) → (zB 0 3 g25 → zB 0 3 f) → R (17, [some (.int x), some (.ref 25), some (.int (nI (tLen t9))), some (.int l), some (.int k)], [], (zMg c0 c1 c2 c3 c4 c5 c6 c7 c8 c9 c10 c11 c12 c13 x0 x9 x10 x11 x12 x13 x15 x16 x17 x20 x21 x22 x23 x26 x28 x31 x32 x33 x38 x41 x44 x14 g15 g16 g17 g18 g19 g20 g21 g22 g23 g24 f g26 g27 g28 g29 g30 g31 g32 g33 g34 g35 g36 g37 g38 g39 g40 g41 g42 g43 g44 t), 0, 0) := by
    intro j
    induction j with
    | zero =>
      intro l k f hj hl hk hf hBf
      refine hR (?_ : R (_, _, _, _, _, _))
      refine hR (And.intro (fun _ => ?_) (fun hc => absurd (zlt_i.mpr (by rw [hk]; decide)) hc))
      exact hR (zret_i rfl (Nat.le_refl _) rfl (h _ (fun i hi => hf i (Nat.zero_le _) hi) hBf))
    | succ j ih =>
      intro l k f hj hl hk hf hBf
      have hkj : k = nI j := zeq_i.mpr (by rw [hk, nI_toInt (by omega)]; omega)
      have hlt : tF t9 / 4 ^ (tLen t9 - (j + 1)) < 4096 := Nat.lt_of_le_of_lt (Nat.div_le_self _ _) hs.2.2.2
      refine hR (?_ : R (_, _, _, _, _, _))
      refine hR (And.intro (fun hc => absurd (zlt_i.mp hc) (by rw [hk]; show ¬ ((_ : Int) < 0); omega)) (fun _ => ?_))
      iterate 4 refine hR (?_ : R (_, _, _, _, _, _))
      refine hR (And.intro (by decide) ?_)
      refine hR (And.intro (by rw [hkj]; exact nI_in (by omega) (by omega)) ?_)
      iterate 2 refine hR (?_ : R (_, _, _, _, _, _))
      refine hR (And.intro (by decide) ?_)
      iterate 3 refine hR (?_ : R (_, _, _, _, _, _))
      refine ih _ _ _ (by omega) ?_ ?_ ?_ (fun hb => zB_nI (hBf hb) (m := tF t9 / 4 ^ (tLen t9 - (j + 1)) % 4) (by rw [hl, nI4, pk_rem (by omega) (by omega) (by omega)]) (by omega))
      · rw [hl, nI4, pk_div (by omega) (by omega) (by omega), Nat.div_div_eq_div_mul, ← Nat.pow_succ, show (tLen t9 - (j + 1)).succ = tLen t9 - j by omega]
      · rw [zadd (by rw [hk]; show (-2147483648 : Int) ≤ _ + -1; omega) (by rw [hk]; show _ + (-1 : Int) < _; omega), hk]
        show _ + (-1 : Int) = _
        omega
      · intro i hi1 hi2
        rw [hkj, nI_clamp (by omega)]
        by_cases hij : i = j
        · subst hij
          rw [pk_us, hl, nI4, pk_rem (by omega) (by omega) (by omega)]
          unfold tW
          rw [show tLen t9 - 1 - i = tLen t9 - (i + 1) by omega]
        · rw [pk_un hij]
          exact hf i (by omega) hi2
  refine hR (?_ : R (_, _, _, _, _, _))
  refine hR (zcall_i 0 0 (Nat.le_of_ble_eq_true rfl) (Nat.le_of_ble_eq_true rfl) (p_sizeOf _ _ t9 hx ht _ _ ?_))
  iterate 3 refine hR (?_ : R (_, _, _, _, _, _))
  refine hR (zcall_i 0 0 (Nat.le_of_ble_eq_true rfl) (Nat.le_of_ble_eq_true rfl) (p_shorter _ _ (tLen t9) rfl (by omega) _ _ ?_))
  iterate 6 refine hR (?_ : R (_, _, _, _, _, _))
  refine loop (tLen t9) _ _ g25 (Nat.le_refl _) ?_ ?_ (fun i h1 h2 => by omega) id
  · rw [hx, pk_sub hs.1, Nat.sub_self]
    show nI (tF t9) = _
    rw [Nat.pow_zero, Nat.div_one]
  · rw [nI1, pk_sub_toInt (by omega) (by omega)]
    omega
set_option maxHeartbeats 1000000 in
theorem p_spell26 {c0 c1 c2 c3 c4 c5 c6 c7 c8 c9 c10 c11 c12 c13 : va_E} {x0 x9 x10 x11 x12 x13 x15 x16 x17 x20 x21 x22 x23 x26 x28 x31 x32 x33 x38 x41 x44 : Int32} {x14 : Int64} {g15 g16 g17 g18 g19 g20 g21 g22 g23 g24 g25 g26 g27 g28 g29 g30 g31 g32 g33 g34 g35 g36 g37 g38 g39 g40 g41 g42 g43 g44 : Nat → Int32} {t : zW} (d : Nat) (x : Int32) (t9 : Nat) (hx : x = nI t9) (ht : t9 < 5461) (Q : zQ) (h : ∀ f, (∀ i, i < tLen t9 → f i = nI (tW t9 i)) → (zB 0 3 g26 → zB 0 3 f) → Q none (zMg c0 c1 c2 c3 c4 c5 c6 c7 c8 c9 c10 c11 c12 c13 x0 x9 x10 x11 x12 x13 x15 x16 x17 x20 x21 x22 x23 x26 x28 x31 x32 x33 x38 x41 x44 x14 g15 g16 g17 g18 g19 g20 g21 g22 g23 g24 g25 f g27 g28 g29 g30 g31 g32 g33 g34 g35 g36 g37 g38 g39 g40 g41 g42 g43 g44 t)) : zCl zTab (d + 3) iX12_spell [.int x, .ref 26] (zMg c0 c1 c2 c3 c4 c5 c6 c7 c8 c9 c10 c11 c12 c13 x0 x9 x10 x11 x12 x13 x15 x16 x17 x20 x21 x22 x23 x26 x28 x31 x32 x33 x38 x41 x44 x14 g15 g16 g17 g18 g19 g20 g21 g22 g23 g24 g25 g26 g27 g28 g29 g30 g31 g32 g33 g34 g35 g36 g37 g38 g39 g40 g41 g42 g43 g44 t) 0 0 Q := by
  have h6 := tLen_le t9
  have hs := tSh_le t9 ht
  refine zCl_i (M := kX12_spell) rfl (Nat.le_of_ble_eq_true rfl) fun R hR => ?_
  have loop : ∀ (j : Nat) (l k : Int32) (f : Nat → Int32), j ≤ tLen t9 → l = nI (tF t9 / 4 ^ (tLen t9 - j)) → k.toInt = (j : Int) - 1 → (∀ i, j ≤ i → i < tLen t9 → f i = nI (tW t9 i)) → (zB 0 3 g26 → zB 0 3 f) → R (17, [some (.int x), some (.ref 26), some (.int (nI (tLen t9))), some (.int l), some (.int k)], [], (zMg c0 c1 c2 c3 c4 c5 c6 c7 c8 c9 c10 c11 c12 c13 x0 x9 x10 x11 x12 x13 x15 x16 x17 x20 x21 x22 x23 x26 x28 x31 x32 x33 x38 x41 x44 x14 g15 g16 g17 g18 g19 g20 g21 g22 g23 g24 g25 f g27 g28 g29 g30 g31 g32 g33 g34 g35 g36 g37 g38 g39 g40 g41 g42 g43 g44 t), 0, 0) := by
    intro j
    induction j with
    | zero =>
      intro l k f hj hl hk hf hBf
      refine hR (?_ : R (_, _, _, _, _, _))
      refine hR (And.intro (fun _ => ?_) (fun hc => absurd (zlt_i.mpr (by rw [hk]; decide)) hc))
      exact hR (zret_i rfl (Nat.le_refl _) rfl (h _ (fun i hi => hf i (Nat.zero_le _) hi) hBf))
    | succ j ih =>
      intro l k f hj hl hk hf hBf
      have hkj : k = nI j := zeq_i.mpr (by rw [hk, nI_toInt (by omega)]; omega)
      have hlt : tF t9 / 4 ^ (tLen t9 - (j + 1)) < 4096 := Nat.lt_of_le_of_lt (Nat.div_le_self _ _) hs.2.2.2
      refine hR (?_ : R (_, _, _, _, _, _))
      refine hR (And.intro (fun hc => absurd (zlt_i.mp hc) (by rw [hk]; show ¬ ((_ : Int) < 0); omega)) (fun _ => ?_))
      iterate 4 refine hR (?_ : R (_, _, _, _, _, _))
      refine hR (And.intro (by decide) ?_)
      refine hR (And.intro (by rw [hkj]; exact nI_in (by omega) (by omega)) ?_)
      iterate 2 refine hR (?_ : R (_, _, _, _, _, _))
      refine hR (And.intro (by decide) ?_)
      iterate 3 refine hR (?_ : R (_, _, _, _, _, _))
      refine ih _ _ _ (by omega) ?_ ?_ ?_ (fun hb => zB_nI (hBf hb) (m := tF t9 / 4 ^ (tLen t9 - (j + 1)) % 4) (by rw [hl, nI4, pk_rem (by omega) (by omega) (by omega)]) (by omega))
      · rw [hl, nI4, pk_div (by omega) (by omega) (by omega), Nat.div_div_eq_div_mul, ← Nat.pow_succ, show (tLen t9 - (j + 1)).succ = tLen t9 - j by omega]
      · rw [zadd (by rw [hk]; show (-2147483648 : Int) ≤ _ + -1; omega) (by rw [hk]; show _ + (-1 : Int) < _; omega), hk]
        show _ + (-1 : Int) = _
        omega
      · intro i hi1 hi2
        rw [hkj, nI_clamp (by omega)]
        by_cases hij : i = j
        · subst hij
          rw [pk_us, hl, nI4, pk_rem (by omega) (by omega) (by omega)]
          unfold tW
          rw [show tLen t9 - 1 - i = tLen t9 - (i + 1) by omega]
        · rw [pk_un hij]
          exact hf i (by omega) hi2
  refine hR (?_ : R (_, _, _, _, _, _))
  refine hR (zcall_i 0 0 (Nat.le_of_ble_eq_true rfl) (Nat.le_of_ble_eq_true rfl) (p_sizeOf _ _ t9 hx ht _ _ ?_))
  iterate 3 refine hR (?_ : R (_, _, _, _, _, _))
  refine hR (zcall_i 0 0 (Nat.le_of_ble_eq_true rfl) (Nat.le_of_ble_eq_true rfl) (p_shorter _ _ (tLen t9) rfl (by omega) _ _ ?_))
  iterate 6 refine hR (?_ : R (_, _, _, _, _, _))
  refine loop (tLen t9) _ _ g26 (Nat.le_refl _) ?_ ?_ (fun i h1 h2 => by omega) id
  · rw [hx, pk_sub hs.1, Nat.sub_self]
    show nI (tF t9) = _
    rw [Nat.pow_zero, Nat.div_one]
  · rw [nI1, pk_sub_toInt (by omega) (by omega)]
    omega
