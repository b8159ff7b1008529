/-! THE CLASS'S DRIFT: rows of seven cells in one int. -/
theorem dz_or (a b : Nat) : nI a ||| nI b = nI (a ||| b) := by
  apply Int32.toBitVec_inj.mp
  rw [Int32.toBitVec_or]
  show BitVec.ofNat 32 a ||| BitVec.ofNat 32 b = BitVec.ofNat 32 (a ||| b)
  exact (BitVec.ofNat_or ..).symm
theorem dz_sum {a j v : Nat} (h : a < 16 ^ j) : nI a ||| nI (v * 16 ^ j) = nI (a + v * 16 ^ j) := by
  rw [dz_or, Nat.or_comm]
  have e : (16 : Nat) ^ j = 2 ^ (4 * j) := by rw [Nat.pow_mul]
  rw [e] at h ⊢
  rw [Nat.mul_comm v, ← Nat.two_pow_add_eq_or_of_lt h, Nat.add_comm]
def pkr (f : Nat → Nat) : Nat → Nat
  | 0 => 0
  | j + 1 => pkr f j + f j * 16 ^ j
theorem pkr_lt (f : Nat → Nat) (hf : ∀ j, j < 7 → f j < 16) : ∀ c, c ≤ 7 → pkr f c < 16 ^ c
  | 0, _ => by simp [pkr]
  | c + 1, h => by
    have h1 := pkr_lt f hf c (by omega)
    have h2 := hf c (by omega)
    have h3 : f c * 16 ^ c ≤ 15 * 16 ^ c := Nat.mul_le_mul_right _ (by omega)
    rw [pkr, Nat.pow_succ]
    omega
theorem pkr_get (f : Nat → Nat) (hf : ∀ j, j < 7 → f j < 16) (j : Nat) : ∀ c, c ≤ 7 → j < c → pkr f c / 16 ^ j % 16 = f j
  | 0, _, h => absurd h (Nat.not_lt_zero _)
  | c + 1, hc, hj => by
    have h1 := pkr_lt f hf c (by omega)
    have h2 := hf c (by omega)
    rw [pkr]
    by_cases h : j = c
    · subst h
      rw [Nat.mul_comm, Nat.add_mul_div_left _ _ (Nat.pos_of_ne_zero (by simp)), Nat.div_eq_of_lt h1, Nat.zero_add, Nat.mod_eq_of_lt h2]
    · have e : f c * 16 ^ c = 16 ^ j * (16 * (f c * 16 ^ (c - j - 1))) := by
        have e2 : 16 ^ c = 16 ^ j * (16 * 16 ^ (c - j - 1)) := by
          rw [← Nat.pow_succ', ← Nat.pow_add]
          congr 1
          omega
        rw [e2]
        simp only [Nat.mul_left_comm, Nat.mul_comm, Nat.mul_assoc]
      rw [e, Nat.add_mul_div_left _ _ (Nat.pos_of_ne_zero (by simp)), Nat.add_mul_mod_self_left]
      exact pkr_get f hf j c (by omega) (by omega)
theorem pkr_cong {f g : Nat → Nat} : ∀ c, (∀ j, j < c → f j = g j) → pkr f c = pkr g c
  | 0, _ => rfl
  | c + 1, h => by rw [pkr, pkr, pkr_cong c (fun j hj => h j (by omega)), h c (by omega)]
theorem dz_sm : ∀ j, j < 7 → ((nI (4 * j) &&& 31).toBitVec.smod 32).toNat = 4 * j := by decide +kernel
theorem dz_16 (j : Nat) : 2 ^ (4 * j) = 16 ^ j := by rw [Nat.pow_mul]
theorem dz_p7 : ∀ j, j < 8 → 16 ^ j ≤ 268435456 := by decide +kernel
theorem dz_shl {v j : Nat} (hv : v < 16) (hj : j < 7) : nI v <<< (Int32.ofInt 4 * nI j &&& 31) = nI (v * 16 ^ j) := by
  have h1 := dz_p7 j (by omega)
  rw [nI4, pk_mul, pk_shlN _ (4 * j) (dz_sm j hj), dz_16]
  rw [dz_16]
  calc v * 16 ^ j ≤ 15 * 16 ^ j := Nat.mul_le_mul_right _ (by omega)
    _ < 2 ^ 32 := by omega
theorem dz_cell {f : Nat → Nat} (hf : ∀ j, j < 7 → f j < 16) {c j : Nat} (hc : c ≤ 7) (hj : j < c) : (nI (pkr f c) >>> (Int32.ofInt 4 * nI j &&& 31)) &&& (Int8.ofInt 15).toInt32 = nI (f j) := by
  have h1 := pkr_lt f hf c hc
  have h2 := dz_p7 c (by omega)
  rw [nI4, pk_mul, pk_shrN (by omega) _ (4 * j) (dz_sm j (by omega)), dz_16, pk_andN (Nat.lt_of_le_of_lt (Nat.div_le_self _ _) (by omega)) 4 (by decide), show (2 : Nat) ^ 4 = 16 from rfl, pkr_get f hf j c hc hj]
theorem dz_min {a b : Nat} (ha : a < 1000) (hb : b < 1000) : (if nI b < nI a then nI b else nI a) = nI (min a b) := by
  by_cases h : b < a
  · rw [if_pos (nI_lt h (by omega)), Nat.min_eq_right (by omega)]
  · rw [if_neg (nI_nlt (by omega) (by omega)), Nat.min_eq_left (by omega)]
/-- the words from the end -/
def ue (t : Nat) : Nat → Nat := fun i => tB t / 4 ^ i % 4
