/-! EDIT DISTANCE, and that it is the same from the ends. -/
def ed1 (x y : Nat) : Nat := if x = y then 0 else 1
def edr (f : List Nat → Nat) (x : Nat) : List Nat → Nat
  | [] => f [] + 1
  | y :: b => min (f b + ed1 x y) (1 + min (f (y :: b)) (edr f x b))
def ed : List Nat → List Nat → Nat
  | [], b => b.length
  | x :: a, b => edr (ed a) x b
theorem ed1_le (x y : Nat) : ed1 x y ≤ 1 := by unfold ed1; split <;> omega
theorem ed_nil (b : List Nat) : ed [] b = b.length := rfl
theorem ed_nl : ∀ a : List Nat, ed a [] = a.length
  | [] => rfl
  | x :: a => by show ed a [] + 1 = _; rw [ed_nl a]; rfl
theorem ed_cc (x y : Nat) (a b : List Nat) : ed (x :: a) (y :: b) = min (ed a b + ed1 x y) (1 + min (ed a (y :: b)) (ed (x :: a) b)) := rfl
theorem ed_le : ∀ a b : List Nat, ed a b ≤ a.length + b.length
  | [], b => by rw [ed_nil]; simp
  | x :: a, [] => by rw [ed_nl]; simp
  | x :: a, y :: b => by
    have h1 := ed_le a b
    have h2 := ed1_le x y
    rw [ed_cc]
    simp only [List.length_cons]
    omega
theorem edU2 (x : Nat) : ∀ a b : List Nat, ed (a ++ [x]) b ≤ ed a b + 1
  | [], [] => by show ed [x] [] ≤ _; rw [ed_nl, ed_nil]; simp
  | [], y :: b => by
    show ed [x] (y :: b) ≤ _
    rw [ed_cc, ed_nil, ed_nil]
    have := ed1_le x y
    simp only [List.length_cons]
    omega
  | p :: a, [] => by
    show ed (p :: (a ++ [x])) [] ≤ _
    rw [ed_nl, ed_nl]
    simp
  | p :: a, q :: b => by
    have h1 := edU2 x a b
    have h2 := edU2 x a (q :: b)
    have h3 := edU2 x (p :: a) b
    show ed (p :: (a ++ [x])) (q :: b) ≤ _
    rw [ed_cc, ed_cc]
    rw [List.cons_append] at h3
    omega
termination_by a b => a.length + b.length
theorem edU3 (y : Nat) : ∀ a b : List Nat, ed a (b ++ [y]) ≤ ed a b + 1
  | [], b => by rw [ed_nil, ed_nil]; simp
  | p :: a, [] => by
    show ed (p :: a) [y] ≤ _
    rw [ed_cc, ed_nl, ed_nl]
    have := ed1_le p y
    simp only [List.length_cons]
    omega
  | p :: a, q :: b => by
    have h1 := edU3 y a b
    have h2 := edU3 y a (q :: b)
    have h3 := edU3 y (p :: a) b
    show ed (p :: a) (q :: (b ++ [y])) ≤ _
    rw [ed_cc, ed_cc]
    rw [List.cons_append] at h2
    omega
termination_by a b => a.length + b.length
theorem edU1 (x y : Nat) : ∀ a b : List Nat, ed (a ++ [x]) (b ++ [y]) ≤ ed a b + ed1 x y
  | [], [] => by
    show ed [x] [y] ≤ _
    rw [ed_cc, ed_nil, ed_nil]
    omega
  | [], q :: b => by
    have h1 := edU1 x y [] b
    have e : ed [] (q :: b) = b.length + 1 := rfl
    have e2 : ed [] b = b.length := rfl
    rw [List.nil_append, e2] at h1
    show ed [x] (q :: (b ++ [y])) ≤ _
    rw [e, ed_cc]
    omega
  | p :: a, [] => by
    have h1 := edU1 x y a []
    show ed (p :: (a ++ [x])) [y] ≤ _
    rw [ed_cc]
    rw [List.nil_append, ed_nl] at h1
    rw [ed_nl (p :: a)]
    simp only [List.length_cons]
    omega
  | p :: a, q :: b => by
    have h1 := edU1 x y a b
    have h2 := edU1 x y a (q :: b)
    have h3 := edU1 x y (p :: a) b
    show ed (p :: (a ++ [x])) (q :: (b ++ [y])) ≤ _
    rw [ed_cc, ed_cc]
    rw [List.cons_append] at h2 h3
    omega
termination_by a b => a.length + b.length
theorem ed_rev_le : ∀ a b : List Nat, ed a.reverse b.reverse ≤ ed a b
  | [], b => by rw [List.reverse_nil, ed_nil, ed_nil]; simp
  | p :: a, [] => by rw [List.reverse_nil, ed_nl, ed_nl]; simp
  | p :: a, q :: b => by
    have h1 := ed_rev_le a b
    have h2 := ed_rev_le a (q :: b)
    have h3 := ed_rev_le (p :: a) b
    have u1 := edU1 p q a.reverse b.reverse
    have u2 := edU2 p a.reverse (b.reverse ++ [q])
    have u3 := edU3 q (a.reverse ++ [p]) b.reverse
    rw [List.reverse_cons] at h2 h3
    rw [List.reverse_cons, List.reverse_cons, ed_cc]
    omega
termination_by a b => a.length + b.length
theorem ed_rev (a b : List Nat) : ed a.reverse b.reverse = ed a b := by
  have h1 := ed_rev_le a b
  have h2 := ed_rev_le a.reverse b.reverse
  rw [List.reverse_reverse, List.reverse_reverse] at h2
  omega
/-- the first words, the last of them first -/
def rl (u : Nat → Nat) : Nat → List Nat
  | 0 => []
  | n + 1 => u n :: rl u n
theorem rl_len (u : Nat → Nat) : ∀ n, (rl u n).length = n
  | 0 => rfl
  | n + 1 => congrArg (· + 1) (rl_len u n)
def eD (u v : Nat → Nat) (i k : Nat) : Nat := ed (rl u i) (rl v k)
theorem eD_0 (u v : Nat → Nat) (k : Nat) : eD u v 0 k = k := rl_len v k
theorem eD_z (u v : Nat → Nat) (i : Nat) : eD u v i 0 = i := (ed_nl _).trans (rl_len u i)
theorem eD_s (u v : Nat → Nat) (i k : Nat) : eD u v (i + 1) (k + 1) = min (eD u v i k + ed1 (u i) (v k)) (1 + min (eD u v i (k + 1)) (eD u v (i + 1) k)) := rfl
theorem eD_le (u v : Nat → Nat) (i k : Nat) : eD u v i k ≤ i + k := by
  have h := ed_le (rl u i) (rl v k)
  rw [rl_len, rl_len] at h
  exact h
theorem rl_get (u : Nat → Nat) : ∀ (n j : Nat), j < n → (rl u n)[j]? = some (u (n - 1 - j))
  | 0, _, h => absurd h (Nat.not_lt_zero _)
  | n + 1, 0, _ => rfl
  | n + 1, j + 1, h => by
    show (rl u n)[j]? = _
    rw [rl_get u n j (by omega)]
    congr 2
    omega
theorem rl_rev (u : Nat → Nat) (n : Nat) : rl (fun i => u (n - 1 - i)) n = (rl u n).reverse := by
  apply List.ext_getElem?
  intro j
  by_cases h : j < n
  · rw [rl_get _ n j h, List.getElem?_reverse (by rw [rl_len]; exact h), rl_len, rl_get u n (n - 1 - j) (by omega)]
  · rw [List.getElem?_eq_none (by rw [rl_len]; omega), List.getElem?_eq_none (by rw [List.length_reverse, rl_len]; omega)]
theorem eD_rev (u v : Nat → Nat) (n m : Nat) : eD (fun i => u (n - 1 - i)) (fun j => v (m - 1 - j)) n m = eD u v n m := by
  unfold eD
  rw [rl_rev, rl_rev, ed_rev]
/-! THE CLASS'S DRIFT: rows of seven cells in one int. -/
theorem dz_or (a b : Nat) : nI a ||| nI b = nI (a ||| b) := by
  apply Int32.toBitVec_inj.mp
  rw [Int32.toBitVec_or]
  show BitVec.ofNat 32 a ||| BitVec.ofNat 32 b = BitVec.ofNat 32 (a ||| b)
  exact (BitVec.ofNat_or ..).symm
theorem dz_sum {a j v : Nat} (h : a < 16 ^ j) : nI a ||| nI (v * 16 ^ j) = nI (a + v * 16 ^ j) := by
  rw [dz_or, Nat.or_comm]
  have e : (16 : Nat) ^ j = 2 ^ (4 * j) := by rw [Nat.pow_mul]
  rw [e] at h ⊢
  rw [Nat.mul_comm v, ← Nat.two_pow_add_eq_or_of_lt h, Nat.add_comm]
def pkr (f : Nat → Nat) : Nat → Nat
  | 0 => 0
  | j + 1 => pkr f j + f j * 16 ^ j
theorem pkr_lt (f : Nat → Nat) (hf : ∀ j, j < 7 → f j < 16) : ∀ c, c ≤ 7 → pkr f c < 16 ^ c
  | 0, _ => by simp [pkr]
  | c + 1, h => by
    have h1 := pkr_lt f hf c (by omega)
    have h2 := hf c (by omega)
    have h3 : f c * 16 ^ c ≤ 15 * 16 ^ c := Nat.mul_le_mul_right _ (by omega)
    rw [pkr, Nat.pow_succ]
    omega
theorem pkr_get (f : Nat → Nat) (hf : ∀ j, j < 7 → f j < 16) (j : Nat) : ∀ c, c ≤ 7 → j < c → pkr f c / 16 ^ j % 16 = f j
  | 0, _, h => absurd h (Nat.not_lt_zero _)
  | c + 1, hc, hj => by
    have h1 := pkr_lt f hf c (by omega)
    have h2 := hf c (by omega)
    rw [pkr]
    by_cases h : j = c
    · subst h
      rw [Nat.mul_comm, Nat.add_mul_div_left _ _ (Nat.pos_of_ne_zero (by simp)), Nat.div_eq_of_lt h1, Nat.zero_add, Nat.mod_eq_of_lt h2]
    · have e : f c * 16 ^ c = 16 ^ j * (16 * (f c * 16 ^ (c - j - 1))) := by
        have e2 : 16 ^ c = 16 ^ j * (16 * 16 ^ (c - j - 1)) := by
          rw [← Nat.pow_succ', ← Nat.pow_add]
          congr 1
          omega
        rw [e2]
        simp only [Nat.mul_left_comm, Nat.mul_comm, Nat.mul_assoc]
      rw [e, Nat.add_mul_div_left _ _ (Nat.pos_of_ne_zero (by simp)), Nat.add_mul_mod_self_left]
      exact pkr_get f hf j c (by omega) (by omega)
theorem pkr_cong {f g : Nat → Nat} : ∀ c, (∀ j, j < c → f j = g j) → pkr f c = pkr g c
  | 0, _ => rfl
  | c + 1, h => by rw [pkr, pkr, pkr_cong c (fun j hj => h j (by omega)), h c (by omega)]
theorem dz_sm : ∀ j, j < 7 → ((nI (4 * j) &&& 31).toBitVec.smod 32).toNat = 4 * j := by decide +kernel
theorem dz_16 (j : Nat) : 2 ^ (4 * j) = 16 ^ j := by rw [Nat.pow_mul]
theorem dz_p7 : ∀ j, j < 8 → 16 ^ j ≤ 268435456 := by decide +kernel
theorem dz_shl {v j : Nat} (hv : v < 16) (hj : j < 7) : nI v <<< (Int32.ofInt 4 * nI j &&& 31) = nI (v * 16 ^ j) := by
  have h1 := dz_p7 j (by omega)
  rw [nI4, pk_mul, pk_shlN _ (4 * j) (dz_sm j hj), dz_16]
  rw [dz_16]
  calc v * 16 ^ j ≤ 15 * 16 ^ j := Nat.mul_le_mul_right _ (by omega)
    _ < 2 ^ 32 := by omega
theorem dz_cell {f : Nat → Nat} (hf : ∀ j, j < 7 → f j < 16) {c j : Nat} (hc : c ≤ 7) (hj : j < c) : (nI (pkr f c) >>> (Int32.ofInt 4 * nI j &&& 31)) &&& (Int8.ofInt 15).toInt32 = nI (f j) := by
  have h1 := pkr_lt f hf c hc
  have h2 := dz_p7 c (by omega)
  rw [nI4, pk_mul, pk_shrN (by omega) _ (4 * j) (dz_sm j (by omega)), dz_16, pk_andN (Nat.lt_of_le_of_lt (Nat.div_le_self _ _) (by omega)) 4 (by decide), show (2 : Nat) ^ 4 = 16 from rfl, pkr_get f hf j c hc hj]
theorem dz_min {a b : Nat} (ha : a < 1000) (hb : b < 1000) : (if nI b < nI a then nI b else nI a) = nI (min a b) := by
  by_cases h : b < a
  · rw [if_pos (nI_lt h (by omega)), Nat.min_eq_right (by omega)]
  · rw [if_neg (nI_nlt (by omega) (by omega)), Nat.min_eq_left (by omega)]
/-- the words from the end -/
def ue (t : Nat) : Nat → Nat := fun i => tB t / 4 ^ i % 4
set_option maxHeartbeats 4000000 in
theorem r_driftOf (d : Nat) (x y : Int32) (a b : Nat) (hx : x = nI a) (ha : a < 5461) (hy : y = nI b) (hb : b < 5461) (w : zW) (Q : zQ) (h : Q (some (.int (nI (eD (ue a) (ue b) (tLen a) (tLen b))))) w) : zCl zTab (d + 3) iX11_driftOf [.int x, .int y] w 0 0 Q := by
  have hn := tLen_le a
  have hm := tLen_le b
  have hsa := tSh_le a ha
  have hsb := tSh_le b hb
  have hE : ∀ i, i ≤ 6 → ∀ j, j < 7 → eD (ue a) (ue b) i j < 16 := fun i hi j hj => by
    have := eD_le (ue a) (ue b) i j
    omega
  refine zCl_i (M := kX11_driftOf) rfl (Nat.le_of_ble_eq_true rfl) fun R hR => ?_
  have loopC : ∀ (i9 : Nat), i9 < tLen a → ∀ (r i wd : Int32), r = nI (pkr (eD (ue a) (ue b) i9) (tLen b + 1)) → i = nI (i9 + 1) → wd = nI (ue a i9) → (∀ (nx j lf : Int32) (z8 z12 z13 : Option Value), nx = nI (pkr (eD (ue a) (ue b) (i9 + 1)) (tLen b + 1)) → R (170, [some (.int x), some (.int y), some (.int (nI (tB a))), some (.int (nI (tB b))), some (.int (nI (tLen a))), some (.int (nI (tLen b))), some (.int r), some (.int i), z8, some (.int lf), some (.int nx), some (.int j), z12, z13], [], w, 0, 0)) → ∀ (m9 j9 : Nat) (lf nx j : Int32) (z12 z13 : Option Value), j9 + m9 = tLen b → lf = nI (eD (ue a) (ue b) (i9 + 1) j9) → nx = nI (pkr (eD (ue a) (ue b) (i9 + 1)) (j9 + 1)) → j = nI (j9 + 1) → R (84, [some (.int x), some (.int y), some (.int (nI (tB a))), some (.int (nI (tB b))), some (.int (nI (tLen a))), some (.int (nI (tLen b))), some (.int r), some (.int i), some (.int wd), some (.int lf), some (.int nx), some (.int j), z12, z13], [], w, 0, 0) := by
    intro i9 hi9 r i wd hr hi hwd hexit m9
    have hf0 : ∀ j, j < 7 → eD (ue a) (ue b) i9 j < 16 := hE i9 (by omega)
    have hf1 : ∀ j, j < 7 → eD (ue a) (ue b) (i9 + 1) j < 16 := hE (i9 + 1) (by omega)
    induction m9 with
    | zero =>
      intro j9 lf nx j z12 z13 hj hlf hnx hjj
      iterate 2 refine hR (?_ : R (_, _, _, _, _, _))
      refine hR (pk_lt (tLen b) (j9 + 1) (fun _ => ?_) (fun z => by omega) rfl hjj)
      refine hexit nx j lf _ _ _ ?_
      rw [hnx]
      exact congrArg (fun c => nI (pkr (eD (ue a) (ue b) (i9 + 1)) (c + 1))) (by omega)
    | succ m9 ih =>
      intro j9 lf nx j z12 z13 hj hlf hnx hjj
      have c0 := hf0 j9 (by omega)
      have c1 := hf0 (j9 + 1) (by omega)
      have c2 := hf1 j9 (by omega)
      have c3 := hf1 (j9 + 1) (by omega)
      have cc := ed1_le (ue a i9) (ue b j9)
      have tail : ∀ (ch : Int32) (z13 : Option Value), ch = nI (ed1 (ue a i9) (ue b j9)) → R (111, [some (.int x), some (.int y), some (.int (nI (tB a))), some (.int (nI (tB b))), some (.int (nI (tLen a))), some (.int (nI (tLen b))), some (.int r), some (.int i), some (.int wd), some (.int lf), some (.int nx), some (.int j), some (.int ch), z13], [], w, 0, 0) := by
        intro ch z13 hch
        have e1 : (if (r >>> (Int32.ofInt 4 * j &&& 31) &&& (Int8.ofInt 15).toInt32) < lf then (r >>> (Int32.ofInt 4 * j &&& 31) &&& (Int8.ofInt 15).toInt32) else lf) + Int32.ofInt 1 = nI (min (eD (ue a) (ue b) (i9 + 1) j9) (eD (ue a) (ue b) i9 (j9 + 1)) + 1) := by
          rw [hr, hjj, dz_cell hf0 (by omega) (by omega), hlf, dz_min (by omega) (by omega), nI1, nI_add]
        have e2 : (r >>> (Int32.ofInt 4 * (j - Int32.ofInt 1) &&& 31) &&& (Int8.ofInt 15).toInt32) + ch = nI (eD (ue a) (ue b) i9 j9 + ed1 (ue a i9) (ue b j9)) := by
          rw [hr, hjj, nI1, pk_sub (by omega), Nat.add_sub_cancel, dz_cell hf0 (by omega) (by omega), hch, nI_add]
        have e3 : ∀ p q : Int32, p = nI (eD (ue a) (ue b) i9 j9 + ed1 (ue a i9) (ue b j9)) → q = nI (min (eD (ue a) (ue b) (i9 + 1) j9) (eD (ue a) (ue b) i9 (j9 + 1)) + 1) → (if q < p then q else p) = nI (eD (ue a) (ue b) (i9 + 1) (j9 + 1)) := by
          intro p q hp hq
          rw [hp, hq, dz_min (by omega) (by omega)]
          refine congrArg nI ?_
          rw [eD_s]
          omega
        iterate 8 refine hR (?_ : R (_, _, _, _, _, _))
        refine hR (?_ : R (_, _, _, _, _, _))
        iterate 3 refine hR (?_ : R (_, _, _, _, _, _))
        iterate 12 refine hR (?_ : R (_, _, _, _, _, _))
        refine hR (?_ : R (_, _, _, _, _, _))
        refine hR (?_ : R (_, _, _, _, _, _))
        iterate 8 refine hR (?_ : R (_, _, _, _, _, _))
        iterate 2 refine hR (?_ : R (_, _, _, _, _, _))
        refine ih (j9 + 1) _ _ _ _ _ (by omega) (e3 _ _ e2 e1) ?_ (by rw [hjj, nI1, nI_add])
        rw [e3 _ _ e2 e1, hnx, hjj, dz_shl (by omega) (by omega), dz_sum (pkr_lt _ hf1 _ (by omega))]
        rfl
      iterate 2 refine hR (?_ : R (_, _, _, _, _, _))
      refine hR (pk_lt (tLen b) (j9 + 1) (fun z => by omega) (fun _ => ?_) rfl hjj)
      iterate 5 refine hR (?_ : R (_, _, _, _, _, _))
      refine hR (zcall_i 0 0 (Nat.le_of_ble_eq_true rfl) (Nat.le_of_ble_eq_true rfl) (r_wordOfBits _ (nI (tB b)) (j - Int32.ofInt 1) (tB b) j9 rfl (by omega) (by rw [hjj, nI1, pk_sub (by omega), Nat.add_sub_cancel]) (by omega) _ _ ?_))
      have l1 : ue a i9 < 4 := Nat.mod_lt _ (by omega)
      have l2 : tB b / 4 ^ j9 % 4 < 4 := Nat.mod_lt _ (by omega)
      refine hR (pk_eq (ue a i9) (tB b / 4 ^ j9 % 4) (fun q => ?_) (fun q => ?_) hwd rfl).symm
      · iterate 3 refine hR (?_ : R (_, _, _, _, _, _))
        exact tail _ _ (by rw [nI0]; exact congrArg nI (if_pos q).symm)
      · iterate 2 refine hR (?_ : R (_, _, _, _, _, _))
        exact tail _ _ (by rw [nI1]; exact congrArg nI (if_neg q).symm)
  have loopB : ∀ (m9 i9 : Nat) (r i : Int32) (z8 z9 z10 z11 z12 z13 : Option Value), i9 + m9 = tLen a → r = nI (pkr (eD (ue a) (ue b) i9) (tLen b + 1)) → i = nI (i9 + 1) → R (56, [some (.int x), some (.int y), some (.int (nI (tB a))), some (.int (nI (tB b))), some (.int (nI (tLen a))), some (.int (nI (tLen b))), some (.int r), some (.int i), z8, z9, z10, z11, z12, z13], [], w, 0, 0) := by
    intro m9
    induction m9 with
    | zero =>
      intro i9 r i z8 z9 z10 z11 z12 z13 hj hr hi
      iterate 2 refine hR (?_ : R (_, _, _, _, _, _))
      refine hR (pk_lt (tLen a) (i9 + 1) (fun _ => ?_) (fun z => by omega) rfl hi)
      iterate 7 refine hR (?_ : R (_, _, _, _, _, _))
      have h3 : ∀ z, z = nI (eD (ue a) (ue b) (tLen a) (tLen b)) → Q (some (.int z)) w := fun z hz => by rw [hz]; exact h
      refine hR (zret_i rfl (Nat.le_refl _) trivial (h3 _ ?_))
      have e : i9 = tLen a := by omega
      rw [hr, dz_cell (hE i9 (by omega)) (by omega) (by omega), e]
    | succ m9 ih =>
      intro i9 r i z8 z9 z10 z11 z12 z13 hj hr hi
      iterate 2 refine hR (?_ : R (_, _, _, _, _, _))
      refine hR (pk_lt (tLen a) (i9 + 1) (fun z => by omega) (fun _ => ?_) rfl hi)
      iterate 4 refine hR (?_ : R (_, _, _, _, _, _))
      refine hR (zcall_i 0 0 (Nat.le_of_ble_eq_true rfl) (Nat.le_of_ble_eq_true rfl) (r_wordOfBits _ (nI (tB a)) (i - Int32.ofInt 1) (tB a) i9 rfl (by omega) (by rw [hi, nI1, pk_sub (by omega), Nat.add_sub_cancel]) (by omega) _ _ ?_))
      iterate 7 refine hR (?_ : R (_, _, _, _, _, _))
      refine loopC i9 (by omega) r i _ hr hi rfl ?_ (tLen b) 0 _ _ _ _ _ (by omega) (by rw [hi, eD_z]) ?_ nI1
      · intro nx j lf z8 z12 z13 hnx
        iterate 4 refine hR (?_ : R (_, _, _, _, _, _))
        exact ih (i9 + 1) _ _ _ _ _ _ _ _ (by omega) hnx (by rw [hi, nI1, nI_add])
      · rw [hi]
        refine congrArg nI ?_
        show i9 + 1 = 0 + eD (ue a) (ue b) (i9 + 1) 0 * 16 ^ 0
        rw [eD_z]
        omega
  have loopA : ∀ (m9 j9 : Nat) (r j : Int32), j9 + m9 = tLen b + 1 → r = nI (pkr (eD (ue a) (ue b) 0) j9) → j = nI j9 → R (28, [some (.int x), some (.int y), some (.int (nI (tB a))), some (.int (nI (tB b))), some (.int (nI (tLen a))), some (.int (nI (tLen b))), some (.int r), some (.int j), none, none, none, none, none, none], [], w, 0, 0) := by
    intro m9
    induction m9 with
    | zero =>
      intro j9 r j hj hr hjj
      iterate 2 refine hR (?_ : R (_, _, _, _, _, _))
      refine hR (pk_lt (tLen b) j9 (fun _ => ?_) (fun z => by omega) rfl hjj)
      iterate 2 refine hR (?_ : R (_, _, _, _, _, _))
      refine loopB (tLen a) 0 _ _ _ _ _ _ _ _ (by omega) ?_ nI1
      rw [hr]
      exact congrArg (fun c => nI (pkr (eD (ue a) (ue b) 0) c)) (by omega)
    | succ m9 ih =>
      intro j9 r j hj hr hjj
      iterate 2 refine hR (?_ : R (_, _, _, _, _, _))
      refine hR (pk_lt (tLen b) j9 (fun z => by omega) (fun _ => ?_) rfl hjj)
      iterate 10 refine hR (?_ : R (_, _, _, _, _, _))
      refine ih (j9 + 1) _ _ (by omega) ?_ (by rw [hjj, nI1, nI_add])
      rw [hr, hjj, dz_shl (by omega) (by omega), dz_sum (pkr_lt _ (hE 0 (by omega)) _ (by omega))]
      refine congrArg nI ?_
      show _ = pkr (eD (ue a) (ue b) 0) j9 + eD (ue a) (ue b) 0 j9 * 16 ^ j9
      rw [eD_0]
  refine hR (?_ : R (_, _, _, _, _, _))
  refine hR (zcall_i 0 0 (Nat.le_of_ble_eq_true rfl) (Nat.le_of_ble_eq_true rfl) (r_bitsOf _ _ a hx ha _ _ ?_))
  iterate 2 refine hR (?_ : R (_, _, _, _, _, _))
  refine hR (zcall_i 0 0 (Nat.le_of_ble_eq_true rfl) (Nat.le_of_ble_eq_true rfl) (r_bitsOf _ _ b hy hb _ _ ?_))
  iterate 2 refine hR (?_ : R (_, _, _, _, _, _))
  refine hR (zcall_i 0 0 (Nat.le_of_ble_eq_true rfl) (Nat.le_of_ble_eq_true rfl) (r_lengthOf _ _ a hx ha _ _ ?_))
  iterate 2 refine hR (?_ : R (_, _, _, _, _, _))
  refine hR (zcall_i 0 0 (Nat.le_of_ble_eq_true rfl) (Nat.le_of_ble_eq_true rfl) (r_lengthOf _ _ b hy hb _ _ ?_))
  iterate 5 refine hR (?_ : R (_, _, _, _, _, _))
  exact loopA (tLen b + 1) 0 _ _ (by omega) nI0 nI0
