/-! NUMBERS: 32 bits as integers. -/
theorem zbm {x : Int} (h1 : -2147483648 ≤ x) (h2 : x < 2147483648) : x.bmod (2 ^ 32) = x := by
  rw [show ((2 : Nat) ^ 32) = 4294967296 from rfl]
  unfold Int.bmod
  dsimp only
  split <;> omega
theorem zadd {a b : Int32} (h1 : -2147483648 ≤ a.toInt + b.toInt) (h2 : a.toInt + b.toInt < 2147483648) : (a + b).toInt = a.toInt + b.toInt := by
  rw [Int32.toInt_add]; exact zbm h1 h2
theorem zsub {a b : Int32} (h1 : -2147483648 ≤ a.toInt - b.toInt) (h2 : a.toInt - b.toInt < 2147483648) : (a - b).toInt = a.toInt - b.toInt := by
  rw [Int32.toInt_sub]; exact zbm h1 h2
theorem zmul {a b : Int32} (h1 : -2147483648 ≤ a.toInt * b.toInt) (h2 : a.toInt * b.toInt < 2147483648) : (a * b).toInt = a.toInt * b.toInt := by
  rw [Int32.toInt_mul]; exact zbm h1 h2
theorem zlt_i {a b : Int32} : a < b ↔ a.toInt < b.toInt := Int32.lt_iff_toInt_lt
theorem zle_i {a b : Int32} : a ≤ b ↔ a.toInt ≤ b.toInt := Int32.le_iff_toInt_le
theorem zeq_i {a b : Int32} : a = b ↔ a.toInt = b.toInt := Int32.toInt_inj.symm
theorem zin_of {i : Int32} {n : Nat} (h0 : 0 ≤ i.toInt) (h1 : i.toInt < n) : vp_in i n := by
  intro h
  rcases h with h | h
  · rw [zlt_i] at h
    have e : (0 : Int32).toInt = 0 := rfl
    omega
  · have e : (i.toNatClampNeg : Int) = i.toInt := by
      show ((i.toInt.toNat : Nat) : Int) = i.toInt
      omega
    omega
theorem zinc {i : Int32} (h0 : 0 ≤ i.toInt) (h1 : i.toInt < 1000000) : (i + Int32.ofInt 1).toInt = i.toInt + 1 := by
  have e : (Int32.ofInt 1).toInt = 1 := by decide
  rw [zadd (by omega) (by omega), e]
theorem zidx {n t i : Int32} {N : Int} (hn : n.toInt = N) (hN0 : 0 ≤ N) (hN : N ≤ 600) (ht0 : 0 ≤ t.toInt) (ht : t.toInt ≤ 3) (hi0 : 0 ≤ i.toInt) (hi : i.toInt < N) : 0 ≤ (n * t + i).toInt ∧ (n * t + i).toInt < 4 * N := by
  have hc : t.toInt = 0 ∨ t.toInt = 1 ∨ t.toInt = 2 ∨ t.toInt = 3 := by omega
  have hm : n.toInt * t.toInt = 0 ∨ n.toInt * t.toInt = N ∨ n.toInt * t.toInt = 2 * N ∨ n.toInt * t.toInt = 3 * N := by
    rcases hc with h | h | h | h <;> rw [h, hn] <;> omega
  have h1 : (n * t).toInt = n.toInt * t.toInt := zmul (by omega) (by omega)
  have h2 : (n * t + i).toInt = n.toInt * t.toInt + i.toInt := by rw [zadd (by rw [h1]; omega) (by rw [h1]; omega), h1]
  omega
theorem z012 {k : Int32} (h0 : ¬ k < 0) (h1 : k < 3) : k = 0 ∨ k = 1 ∨ k = 2 := by
  rw [zlt_i] at h0 h1
  have e0 : (0 : Int32).toInt = 0 := rfl
  have e1 : (1 : Int32).toInt = 1 := by decide
  have e2 : (2 : Int32).toInt = 2 := by decide
  have e3 : (3 : Int32).toInt = 3 := by decide
  rw [zeq_i, zeq_i, zeq_i, e0, e1, e2]
  omega
