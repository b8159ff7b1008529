/-! TEXTS AS BITS: a leading 1 and two bits for each WORD. -/
def vB (l b : Nat) : Prop := l ≤ 6 ∧ b / 4 ^ l = 1
theorem v4p (l : Nat) : 0 < 4 ^ l := Nat.pos_of_ne_zero (by simp)
theorem v4v : (4 : Nat) ^ 0 = 1 ∧ (4 : Nat) ^ 1 = 4 ∧ (4 : Nat) ^ 2 = 16 ∧ (4 : Nat) ^ 3 = 64 ∧ (4 : Nat) ^ 4 = 256 ∧ (4 : Nat) ^ 5 = 1024 ∧ (4 : Nat) ^ 6 = 4096 ∧ (4 : Nat) ^ 7 = 16384 := by decide
theorem vB_lt {l b : Nat} (h : vB l b) : b < 8192 ∧ 1 ≤ b := by
  obtain ⟨h6, h⟩ := h
  obtain ⟨e0, e1, e2, e3, e4, e5, e6, _⟩ := v4v
  have hl : l = 0 ∨ l = 1 ∨ l = 2 ∨ l = 3 ∨ l = 4 ∨ l = 5 ∨ l = 6 := by omega
  rcases hl with rfl | rfl | rfl | rfl | rfl | rfl | rfl <;> simp only [e0, e1, e2, e3, e4, e5, e6] at h <;> omega
theorem n_sm : ∀ j, j < 16 → ((nI (2 * j) &&& 31).toBitVec.smod 32).toNat = 2 * j := by decide +kernel
theorem n_sr {B j : Nat} (hB : B < 2 ^ 31) (hj : j < 16) : nI B >>> (nI (2 * j) &&& 31) = nI (B / 4 ^ j) := by
  rw [pk_shrN hB _ (2 * j) (n_sm j hj), t_4]
theorem n_sl {v j : Nat} (hj : j < 16) (hv : v * 4 ^ j < 2 ^ 32) : nI v <<< (nI (2 * j) &&& 31) = nI (v * 4 ^ j) := by
  rw [pk_shlN _ (2 * j) (n_sm j hj) (by rw [t_4]; exact hv), t_4]
theorem n_a2 (j : Nat) : Int32.ofInt 2 * nI j = nI (2 * j) := by rw [nI2, pk_mul]
theorem n_a22 (j : Nat) : nI (2 * j) + Int32.ofInt 2 = nI (2 * (j + 1)) := by rw [nI2, nI_add]; congr 1
theorem n_xor (a b : Nat) : nI a ^^^ nI b = nI (a ^^^ b) := by
  apply Int32.toBitVec_inj.mp
  rw [Int32.toBitVec_xor]
  show BitVec.ofNat 32 a ^^^ BitVec.ofNat 32 b = BitVec.ofNat 32 (a ^^^ b)
  exact (BitVec.ofNat_xor ..).symm
theorem n_mask {B j : Nat} (hB : B < 2 ^ 31) (hj : j < 8) : nI B &&& (Int32.ofInt 1 <<< (nI (2 * j) &&& 31) - Int32.ofInt 1) = nI (B % 4 ^ j) := by
  have h4 : 4 ^ j ≤ 16384 := by
    have := Nat.pow_le_pow_right (n := 4) (by decide) (show j ≤ 7 by omega)
    have e : (4 : Nat) ^ 7 = 16384 := by decide
    omega
  have h0 := v4p j
  rw [nI1, n_sl (by omega) (by omega), Nat.one_mul, pk_sub h0, pk_andN (by omega) (2 * j), t_4]
  rw [t_4, pk_tn (by omega)]
def fDr (b j : Nat) : Nat := b / 4 ^ (j + 1) * 4 ^ j ||| b % 4 ^ j
def fDb (b j : Nat) : Nat := (b / 4 ^ j * 4 ||| b / 4 ^ j % 4) * 4 ^ j ||| b % 4 ^ j
def fSw (b j : Nat) : Nat := b ^^^ (b / 4 ^ j ^^^ b / 4 ^ (j + 1)) % 4 * 4 ^ j ^^^ (b / 4 ^ j ^^^ b / 4 ^ (j + 1)) % 4 * 4 ^ (j + 1)
def fTu (b : Nat) : Nat → Nat
  | 0 => 1
  | i + 1 => fTu b i * 4 ||| b / 4 ^ i % 4
def fSh (b c w : Nat) : Nat → Nat
  | 0 => b
  | i + 1 => if b / 4 ^ i % 4 = w then fSh b c w i ^^^ c * 4 ^ i else fSh b c w i
theorem n_le {j : Nat} (h : j ≤ 7) : 4 ^ j ≤ 16384 := by
  have := Nat.pow_le_pow_right (n := 4) (by decide) h
  have e : (4 : Nat) ^ 7 = 16384 := by decide
  omega
theorem n_ml {v j : Nat} (hj : j ≤ 7) (hv : v < 65536) : v * 4 ^ j < 2 ^ 32 := by
  have h1 := n_le hj
  calc v * 4 ^ j ≤ v * 16384 := Nat.mul_le_mul_left _ h1
    _ < 2 ^ 32 := by omega
theorem n_dl {B j : Nat} : B / 4 ^ j ≤ B := Nat.div_le_self _ _
theorem b_dropped (w : zW) (d B j : Nat) (hB : B < 8192) (hj : j ≤ 6) (Q : zQ) (h : Q (some (.int (nI (fDr B j)))) w) : zCl zTab (d + 1) iX0_dropped [.int (nI B), .int (nI j)] w 0 0 Q := by
  refine zCl_i (M := kX0_dropped) rfl (Nat.le_of_ble_eq_true rfl) fun R hR => ?_
  iterate 23 refine hR (?_ : R (_, _, _, _, _, _))
  refine hR (zret_i rfl (Nat.le_refl _) trivial ?_)
  have h2 : ∀ z, z = nI (fDr B j) → Q (some (.int z)) w := fun z hz => by rw [hz]; exact h
  refine h2 _ ?_
  show ((nI B >>> ((Int32.ofInt 2 * nI j + Int32.ofInt 2) &&& 31)) <<< (Int32.ofInt 2 * nI j &&& 31)) ||| (nI B &&& (Int32.ofInt 1 <<< (Int32.ofInt 2 * nI j &&& 31) - Int32.ofInt 1)) = _
  rw [n_a2, n_a22, n_mask (by omega) (by omega), n_sr (by omega) (by omega), n_sl (by omega) (n_ml (by omega) (Nat.lt_of_le_of_lt n_dl (by omega))), dz_or]
  rfl
theorem b_doubled (w : zW) (d B j : Nat) (hB : B < 8192) (hj : j ≤ 6) (Q : zQ) (h : Q (some (.int (nI (fDb B j)))) w) : zCl zTab (d + 1) iX0_doubled [.int (nI B), .int (nI j)] w 0 0 Q := by
  refine zCl_i (M := kX0_doubled) rfl (Nat.le_of_ble_eq_true rfl) fun R hR => ?_
  iterate 29 refine hR (?_ : R (_, _, _, _, _, _))
  refine hR (zret_i rfl (Nat.le_refl _) trivial ?_)
  have h2 : ∀ z, z = nI (fDb B j) → Q (some (.int z)) w := fun z hz => by rw [hz]; exact h
  refine h2 _ ?_
  show ((nI B >>> (Int32.ofInt 2 * nI j &&& 31)) <<< (Int32.ofInt 2 &&& 31) ||| (nI B >>> (Int32.ofInt 2 * nI j &&& 31)) &&& Int32.ofInt 3) <<< (Int32.ofInt 2 * nI j &&& 31) ||| (nI B &&& (Int32.ofInt 1 <<< (Int32.ofInt 2 * nI j &&& 31) - Int32.ofInt 1)) = _
  have hd : B / 4 ^ j < 8192 := Nat.lt_of_le_of_lt n_dl (by omega)
  have hm : B / 4 ^ j % 4 < 2 ^ 15 := Nat.lt_trans (Nat.mod_lt _ (by decide)) (by decide)
  rw [n_a2, n_mask (by omega) (by omega), n_sr (by omega) (by omega), pk_andN (by omega) 2 (by decide), show Int32.ofInt 2 &&& 31 = nI (2 * 1) &&& 31 by decide, n_sl (j := 1) (by omega) (by omega), dz_or, n_sl (by omega) (n_ml (by omega) (Nat.lt_trans (Nat.or_lt_two_pow (n := 15) (by omega) (by omega)) (by decide))), dz_or]
  rfl
theorem b_swapped (w : zW) (d B j : Nat) (hB : B < 8192) (hj : j ≤ 6) (Q : zQ) (h : Q (some (.int (nI (fSw B j)))) w) : zCl zTab (d + 1) iX0_swapped [.int (nI B), .int (nI j)] w 0 0 Q := by
  refine zCl_i (M := kX0_swapped) rfl (Nat.le_of_ble_eq_true rfl) fun R hR => ?_
  iterate 31 refine hR (?_ : R (_, _, _, _, _, _))
  refine hR (zret_i rfl (Nat.le_refl _) trivial ?_)
  have h2 : ∀ z, z = nI (fSw B j) → Q (some (.int z)) w := fun z hz => by rw [hz]; exact h
  refine h2 _ ?_
  have hd : B / 4 ^ j < 8192 := Nat.lt_of_le_of_lt n_dl (by omega)
  have hd2 : B / 4 ^ (j + 1) < 8192 := Nat.lt_of_le_of_lt n_dl (by omega)
  have hx := Nat.xor_lt_two_pow (n := 13) (x := B / 4 ^ j) (y := B / 4 ^ (j + 1)) (by omega) (by omega)
  have ec : ((nI B >>> (Int32.ofInt 2 * nI j &&& 31)) ^^^ (nI B >>> ((Int32.ofInt 2 * nI j + Int32.ofInt 2) &&& 31))) &&& Int32.ofInt 3 = nI ((B / 4 ^ j ^^^ B / 4 ^ (j + 1)) % 4) := by
    rw [n_a2, n_a22, n_sr (by omega) (by omega), n_sr (by omega) (by omega), n_xor, pk_andN (by omega) 2 (by decide)]
  show (nI B ^^^ ((((nI B >>> (Int32.ofInt 2 * nI j &&& 31)) ^^^ (nI B >>> ((Int32.ofInt 2 * nI j + Int32.ofInt 2) &&& 31))) &&& Int32.ofInt 3) <<< (Int32.ofInt 2 * nI j &&& 31))) ^^^ ((((nI B >>> (Int32.ofInt 2 * nI j &&& 31)) ^^^ (nI B >>> ((Int32.ofInt 2 * nI j + Int32.ofInt 2) &&& 31))) &&& Int32.ofInt 3) <<< ((Int32.ofInt 2 * nI j + Int32.ofInt 2) &&& 31)) = _
  rw [ec, n_a2, n_a22]
  have hc : (B / 4 ^ j ^^^ B / 4 ^ (j + 1)) % 4 < 65536 := Nat.lt_trans (Nat.mod_lt _ (by decide)) (by decide)
  rw [n_sl (by omega) (n_ml (by omega) hc), n_sl (by omega) (n_ml (by omega) hc), n_xor, n_xor]
  rfl
