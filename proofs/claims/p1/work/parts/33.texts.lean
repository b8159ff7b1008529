/-! TEXTS BY THEIR NUMBERS. -/
def tSh (n : Nat) : Nat := (4 ^ n - 1) / 3
def tLen (t : Nat) : Nat := if t < 1 then 0 else if t < 5 then 1 else if t < 21 then 2 else if t < 85 then 3 else if t < 341 then 4 else if t < 1365 then 5 else 6
def tF (t : Nat) : Nat := t - tSh (tLen t)
def tW (t k : Nat) : Nat := tF t / 4 ^ (tLen t - 1 - k) % 4
def tB (t : Nat) : Nat := t - tSh (tLen t) + 4 ^ tLen t
theorem tLen_le (t : Nat) : tLen t ≤ 6 := by
  unfold tLen
  repeat' split
  all_goals omega
def cL : Nat → Nat → Nat → Nat
  | 0, _, n => n
  | k + 1, l, n => if l = 0 then n else cL k ((l - 1) / 4) (n + 1)
theorem cL_eq (t : Nat) (ht : t < 5461) : cL 6 t 0 = tLen t := by
  simp only [cL, tLen]
  repeat' split
  all_goals omega
theorem tB_w (t : Nat) (k : Nat) (hk : k < tLen t) : tB t / 4 ^ (tLen t - 1 - k) % 4 = tW t k := by
  unfold tB tW tF
  generalize t - tSh (tLen t) = f
  have h6 := tLen_le t
  generalize tLen t = n at hk h6 ⊢
  have e : 4 ^ n = 4 ^ (n - 1 - k) * (4 * 4 ^ k) := by
    rw [← Nat.pow_succ', ← Nat.pow_add]
    congr 1
    omega
  rw [e, Nat.add_mul_div_left _ _ (Nat.pos_of_ne_zero (by simp)), Nat.add_mul_mod_self_left]
theorem tSh_v : tSh 0 = 0 ∧ tSh 1 = 1 ∧ tSh 2 = 5 ∧ tSh 3 = 21 ∧ tSh 4 = 85 ∧ tSh 5 = 341 ∧ tSh 6 = 1365 ∧ tSh 7 = 5461 := by decide
theorem tLen_v (t : Nat) (ht : t < 5461) : (t < 1 ∧ tLen t = 0) ∨ (1 ≤ t ∧ t < 5 ∧ tLen t = 1) ∨ (5 ≤ t ∧ t < 21 ∧ tLen t = 2) ∨ (21 ≤ t ∧ t < 85 ∧ tLen t = 3) ∨ (85 ≤ t ∧ t < 341 ∧ tLen t = 4) ∨ (341 ≤ t ∧ t < 1365 ∧ tLen t = 5) ∨ (1365 ≤ t ∧ tLen t = 6) := by
  unfold tLen
  repeat' split
  all_goals omega
theorem tSh_le (t : Nat) (ht : t < 5461) : tSh (tLen t) ≤ t ∧ t < tSh (tLen t + 1) ∧ tB t < 8192 ∧ tF t < 4096 := by
  obtain ⟨e0, e1, e2, e3, e4, e5, e6, e7⟩ := tSh_v
  unfold tB tF
  rcases tLen_v t ht with ⟨h1, h⟩ | ⟨h1, h2, h⟩ | ⟨h1, h2, h⟩ | ⟨h1, h2, h⟩ | ⟨h1, h2, h⟩ | ⟨h1, h2, h⟩ | ⟨h1, h⟩ <;> rw [h] <;> simp only [e0, e1, e2, e3, e4, e5, e6, e7] <;> omega
theorem nI1 : Int32.ofInt 1 = nI 1 := by decide
theorem nI0 : Int32.ofInt 0 = nI 0 := by decide
theorem nI2 : Int32.ofInt 2 = nI 2 := by decide
theorem nI3 : Int32.ofInt 3 = nI 3 := by decide
theorem nI4 : Int32.ofInt 4 = nI 4 := by decide
theorem nI6 : (Int8.ofInt 6).toInt32 = nI 6 := by decide
set_option maxHeartbeats 1000000 in
theorem r_lengthOf (d : Nat) (x : Int32) (t : Nat) (hx : x = nI t) (ht : t < 5461) (w : zW) (Q : zQ) (h : Q (some (.int (nI (tLen t)))) w) : zCl zTab (d + 1) iX11_lengthOf [.int x] w 0 0 Q := by
  refine zCl_i (M := kX11_lengthOf) rfl (Nat.le_of_ble_eq_true rfl) fun R hR => ?_
  have loop : ∀ (k : Nat) (n l i : Int32) (a b j : Nat), l = nI a → n = nI b → i = nI j → j + k = 6 → a < 5461 → cL k a b = tLen t → R (6, [some (.int x), some (.int n), some (.int l), some (.int i)], [], w, 0, 0) := by
    intro k
    induction k with
    | zero =>
      intro n l i a b j hl hn hi hj ha hc
      iterate 2 refine hR (?_ : R (_, _, _, _, _, _))
      refine hR (pk_le 6 j (fun _ => ?_) (fun z => by omega) nI6 hi)
      refine hR (?_ : R (_, _, _, _, _, _))
      have e : n = nI (tLen t) := by rw [hn, ← hc]; rfl
      subst e
      exact hR (zret_i rfl (Nat.le_refl _) trivial h)
    | succ k ih =>
      intro n l i a b j hl hn hi hj ha hc
      iterate 2 refine hR (?_ : R (_, _, _, _, _, _))
      refine hR (pk_le 6 j (fun z => by omega) (fun _ => ?_) nI6 hi)
      refine hR (?_ : R (_, _, _, _, _, _))
      refine hR (pk_le a 0 (fun z => ?_) (fun z => ?_) hl rfl)
      · refine hR (?_ : R (_, _, _, _, _, _))
        have e : n = nI (tLen t) := by
          rw [hn, ← hc]
          unfold cL
          rw [if_pos (by omega)]
        subst e
        exact hR (zret_i rfl (Nat.le_refl _) trivial h)
      · iterate 4 refine hR (?_ : R (_, _, _, _, _, _))
        refine hR (And.intro (by decide) ?_)
        iterate 4 refine hR (?_ : R (_, _, _, _, _, _))
        refine ih _ _ _ ((a - 1) / 4) (b + 1) (j + 1) ?_ ?_ ?_ (by omega) (by omega) ?_
        · rw [hl, nI1, nI4, pk_sub (by omega), pk_div (by omega) (by omega) (by omega)]
        · rw [hn, nI1, nI_add]
        · rw [hi, nI1, nI_add]
        · rw [← hc]
          conv => rhs; unfold cL
          rw [if_neg (by omega)]
  iterate 6 refine hR (?_ : R (_, _, _, _, _, _))
  exact loop 6 _ _ _ t 0 0 hx nI0 nI0 rfl ht (cL_eq t ht)
theorem t_shl : ∀ n, n < 7 → Int32.ofInt 1 <<< ((Int32.ofInt 2 * nI n) &&& 31) = nI (4 ^ n) := by decide +kernel
theorem t_dv : ∀ n, n < 7 → (nI (4 ^ n) - Int32.ofInt 1) / Int32.ofInt 3 = nI (tSh n) := by decide +kernel
theorem r_bitsOf (d : Nat) (x : Int32) (t : Nat) (hx : x = nI t) (ht : t < 5461) (w : zW) (Q : zQ) (h : Q (some (.int (nI (tB t)))) w) : zCl zTab (d + 2) iX11_bitsOf [.int x] w 0 0 Q := by
  have h6 := tLen_le t
  have hs := tSh_le t ht
  refine zCl_i (M := kX11_bitsOf) rfl (Nat.le_of_ble_eq_true rfl) fun R hR => ?_
  refine hR (?_ : R (_, _, _, _, _, _))
  refine hR (zcall_i 0 0 (Nat.le_of_ble_eq_true rfl) (Nat.le_of_ble_eq_true rfl) (r_lengthOf _ _ t hx ht _ _ ?_))
  iterate 12 refine hR (?_ : R (_, _, _, _, _, _))
  refine hR (And.intro (by decide) ?_)
  iterate 3 refine hR (?_ : R (_, _, _, _, _, _))
  have e : x - (Int32.ofInt 1 <<< ((Int32.ofInt 2 * nI (tLen t)) &&& 31) - Int32.ofInt 1) / Int32.ofInt 3 + Int32.ofInt 1 <<< ((Int32.ofInt 2 * nI (tLen t)) &&& 31) = nI (tB t) := by
    rw [t_shl _ (by omega), t_dv _ (by omega), hx, pk_sub hs.1, nI_add]
    rfl
  refine hR (zret_i rfl (Nat.le_refl _) trivial ?_)
  have h2 : ∀ y, y = nI (tB t) → Q (some (.int y)) w := fun y hy => by rw [hy]; exact h
  exact h2 _ e
theorem t_sm : ∀ j, j < 7 → ((nI (2 * j) &&& 31).toBitVec.smod 32).toNat = 2 * j := by decide +kernel
theorem t_4 (j : Nat) : 2 ^ (2 * j) = 4 ^ j := by rw [Nat.pow_mul]
theorem r_wordOfBits (d : Nat) (x y : Int32) (B j : Nat) (hx : x = nI B) (hB : B < 2 ^ 31) (hy : y = nI j) (hj : j < 7) (w : zW) (Q : zQ) (h : Q (some (.int (nI (B / 4 ^ j % 4)))) w) : zCl zTab (d + 1) iX11_wordOfBits [.int x, .int y] w 0 0 Q := by
  refine zCl_i (M := kX11_wordOfBits) rfl (Nat.le_of_ble_eq_true rfl) fun R hR => ?_
  iterate 7 refine hR (?_ : R (_, _, _, _, _, _))
  refine hR (zret_i rfl (Nat.le_refl _) trivial ?_)
  have h2 : ∀ z, z = nI (B / 4 ^ j % 4) → Q (some (.int z)) w := fun z hz => by rw [hz]; exact h
  refine h2 _ ?_
  show (x >>> (Int32.ofInt 2 * y &&& 31)) &&& Int32.ofInt 3 = _
  rw [hx, hy, nI2, pk_mul, pk_shrN hB _ (2 * j) (t_sm j hj), t_4, pk_andN (Nat.lt_of_le_of_lt (Nat.div_le_self _ _) (by omega)) 2 (by decide)]
theorem r_wordAt (d : Nat) (x y : Int32) (t k : Nat) (hx : x = nI t) (ht : t < 5461) (hy : y = nI k) (hk : k < tLen t) (w : zW) (Q : zQ) (h : Q (some (.int (nI (tW t k)))) w) : zCl zTab (d + 3) iX11_wordAt [.int x, .int y] w 0 0 Q := by
  have h6 := tLen_le t
  have hs := tSh_le t ht
  refine zCl_i (M := kX11_wordAt) rfl (Nat.le_of_ble_eq_true rfl) fun R hR => ?_
  refine hR (?_ : R (_, _, _, _, _, _))
  refine hR (zcall_i 0 0 (Nat.le_of_ble_eq_true rfl) (Nat.le_of_ble_eq_true rfl) (r_bitsOf _ _ t hx ht _ _ ?_))
  refine hR (?_ : R (_, _, _, _, _, _))
  refine hR (zcall_i 0 0 (Nat.le_of_ble_eq_true rfl) (Nat.le_of_ble_eq_true rfl) (r_lengthOf _ _ t hx ht _ _ ?_))
  iterate 4 refine hR (?_ : R (_, _, _, _, _, _))
  have hb : tB t < 2 ^ 31 := by omega
  have hj : tLen t - 1 - k < 7 := by omega
  have ey : nI (tLen t) - Int32.ofInt 1 - y = nI (tLen t - 1 - k) := by rw [nI1, hy, pk_sub (by omega), pk_sub (by omega)]
  refine hR (zcall_i 0 0 (Nat.le_of_ble_eq_true rfl) (Nat.le_of_ble_eq_true rfl) (r_wordOfBits _ (nI (tB t)) (nI (tLen t) - Int32.ofInt 1 - y) (tB t) (tLen t - 1 - k) rfl hb ey hj _ _ ?_))
  have h3 : ∀ z, z = nI (tW t k) → Q (some (.int z)) w := fun z hz => by rw [hz]; exact h
  exact hR (zret_i rfl (Nat.le_refl _) trivial (h3 _ (congrArg nI (tB_w t k hk))))
def vWord (x k : Int32) : Int32 := if x < 0 ∨ 5461 ≤ x then Int32.ofInt (-1) else if k = Int32.ofInt (-1) then nI (tLen x.toNatClampNeg) else if k < 0 ∨ nI (tLen x.toNatClampNeg) ≤ k then Int32.ofInt (-1) else nI (tW x.toNatClampNeg k.toNatClampNeg)
theorem t_of {x : Int32} (h0 : ¬ x < 0) (h1 : x < 5461) : ∃ t, t < 5461 ∧ x = nI t := by
  obtain ⟨j, hj, rfl⟩ := nI_of h0
  refine ⟨j, ?_, rfl⟩
  have h2 : (nI j).toInt < (5461 : Int32).toInt := zlt_i.mp h1
  rw [nI_toInt hj] at h2
  have e : (5461 : Int32).toInt = 5461 := by decide
  omega
theorem t_kj {k : Int32} {L : Nat} (h0 : ¬ k < 0) (h1 : k < nI L) (hL : L ≤ 6) : ∃ j, j < L ∧ k = nI j ∧ k.toNatClampNeg = j := by
  obtain ⟨j, hj, hkj⟩ := nI_of h0
  subst hkj
  refine ⟨j, ?_, rfl, nI_clamp hj⟩
  have z := zlt_i.mp h1
  have e1 := nI_toInt hj
  have e2 : (nI L).toInt = (L : Int) := nI_toInt (by omega)
  omega
theorem r_word (d : Nat) (x k : Int32) (t : zW) (Q : zQ) (h : Q (some (.int (vWord x k))) (zCw t)) : zCl zTab (d + 4) iX11_word [.ref 0, .int x, .int k] (zCw t) 0 0 Q := by
  refine zCl_i (M := kX11_word) rfl (Nat.le_of_ble_eq_true rfl) fun R hR => ?_
  refine hR (?_ : R (_, _, _, _, _, _))
  refine hR (zcall_i 0 0 (Nat.le_of_ble_eq_true rfl) (Nat.le_of_ble_eq_true rfl) (r_isText _ _ _ _ (fun q0 q1 => ?_) (fun q => ?_)))
  · obtain ⟨n, hn, hx⟩ := t_of q0 q1
    have hcl : x.toNatClampNeg = n := by rw [hx]; exact nI_clamp (by omega)
    have h6 := tLen_le n
    unfold vWord at h
    rw [if_neg (fun z => z.elim q0 (fun z => absurd q1 (Int32.not_lt.mpr z))), hcl] at h
    refine hR (And.intro (fun _ => ?_) (fun hc => absurd hc (by decide)))
    refine hR (?_ : R (_, _, _, _, _, _))
    refine hR (zcall_i 0 0 (Nat.le_of_ble_eq_true rfl) (Nat.le_of_ble_eq_true rfl) (r_lengthOf _ _ n hx hn _ _ ?_))
    iterate 3 refine hR (?_ : R (_, _, _, _, _, _))
    refine hR (And.intro (fun hk => ?_) (fun hk => ?_))
    · rw [if_neg hk] at h
      refine hR (?_ : R (_, _, _, _, _, _))
      refine hR (And.intro (fun hk1 => ?_) (fun hk1 => ?_))
      · rw [if_pos (Or.inl hk1)] at h
        iterate 2 refine hR (?_ : R (_, _, _, _, _, _))
        exact hR (zret_i rfl (Nat.le_refl _) trivial h)
      iterate 2 refine hR (?_ : R (_, _, _, _, _, _))
      refine hR (And.intro (fun hk2 => ?_) (fun hk2 => ?_))
      · rw [if_neg (fun z => z.elim hk1 (fun z => absurd hk2 (Int32.not_lt.mpr z)))] at h
        obtain ⟨j, hjl, hkj, hcj⟩ := t_kj hk1 hk2 h6
        rw [hcj] at h
        iterate 2 refine hR (?_ : R (_, _, _, _, _, _))
        refine hR (zcall_i 0 0 (Nat.le_of_ble_eq_true rfl) (Nat.le_of_ble_eq_true rfl) (r_wordAt _ _ _ n j hx hn hkj hjl _ _ ?_))
        exact hR (zret_i rfl (Nat.le_refl _) trivial h)
      · rw [if_pos (Or.inr (Int32.not_lt.mp hk2))] at h
        iterate 2 refine hR (?_ : R (_, _, _, _, _, _))
        exact hR (zret_i rfl (Nat.le_refl _) trivial h)
    · rw [if_pos hk] at h
      refine hR (?_ : R (_, _, _, _, _, _))
      exact hR (zret_i rfl (Nat.le_refl _) trivial h)
  · unfold vWord at h
    rw [if_pos q] at h
    refine hR (And.intro (fun hc => absurd (by decide) hc) (fun _ => ?_))
    refine hR (?_ : R (_, _, _, _, _, _))
    exact hR (zret_i rfl (Nat.le_refl _) trivial h)
