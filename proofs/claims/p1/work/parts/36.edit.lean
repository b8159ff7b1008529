/-! EDIT DISTANCE, and that it is the same from the ends. -/
def ed1 (x y : Nat) : Nat := if x = y then 0 else 1
def edr (f : List Nat → Nat) (x : Nat) : List Nat → Nat
  | [] => f [] + 1
  | y :: b => min (f b + ed1 x y) (1 + min (f (y :: b)) (edr f x b))
def ed : List Nat → List Nat → Nat
  | [], b => b.length
  | x :: a, b => edr (ed a) x b
theorem ed1_le (x y : Nat) : ed1 x y ≤ 1 := by unfold ed1; split <;> omega
theorem ed_nil (b : List Nat) : ed [] b = b.length := rfl
theorem ed_nl : ∀ a : List Nat, ed a [] = a.length
  | [] => rfl
  | x :: a => by show ed a [] + 1 = _; rw [ed_nl a]; rfl
theorem ed_cc (x y : Nat) (a b : List Nat) : ed (x :: a) (y :: b) = min (ed a b + ed1 x y) (1 + min (ed a (y :: b)) (ed (x :: a) b)) := rfl
theorem ed_le : ∀ a b : List Nat, ed a b ≤ a.length + b.length
  | [], b => by rw [ed_nil]; simp
  | x :: a, [] => by rw [ed_nl]; simp
  | x :: a, y :: b => by
    have h1 := ed_le a b
    have h2 := ed1_le x y
    rw [ed_cc]
    simp only [List.length_cons]
    omega
theorem edU2 (x : Nat) : ∀ a b : List Nat, ed (a ++ [x]) b ≤ ed a b + 1
  | [], [] => by show ed [x] [] ≤ _; rw [ed_nl, ed_nil]; simp
  | [], y :: b => by
    show ed [x] (y :: b) ≤ _
    rw [ed_cc, ed_nil, ed_nil]
    have := ed1_le x y
    simp only [List.length_cons]
    omega
  | p :: a, [] => by
    show ed (p :: (a ++ [x])) [] ≤ _
    rw [ed_nl, ed_nl]
    simp
  | p :: a, q :: b => by
    have h1 := edU2 x a b
    have h2 := edU2 x a (q :: b)
    have h3 := edU2 x (p :: a) b
    show ed (p :: (a ++ [x])) (q :: b) ≤ _
    rw [ed_cc, ed_cc]
    rw [List.cons_append] at h3
    omega
termination_by a b => a.length + b.length
theorem edU3 (y : Nat) : ∀ a b : List Nat, ed a (b ++ [y]) ≤ ed a b + 1
  | [], b => by rw [ed_nil, ed_nil]; simp
  | p :: a, [] => by
    show ed (p :: a) [y] ≤ _
    rw [ed_cc, ed_nl, ed_nl]
    have := ed1_le p y
    simp only [List.length_cons]
    omega
  | p :: a, q :: b => by
    have h1 := edU3 y a b
    have h2 := edU3 y a (q :: b)
    have h3 := edU3 y (p :: a) b
    show ed (p :: a) (q :: (b ++ [y])) ≤ _
    rw [ed_cc, ed_cc]
    rw [List.cons_append] at h2
    omega
termination_by a b => a.length + b.length
theorem edU1 (x y : Nat) : ∀ a b : List Nat, ed (a ++ [x]) (b ++ [y]) ≤ ed a b + ed1 x y
  | [], [] => by
    show ed [x] [y] ≤ _
    rw [ed_cc, ed_nil, ed_nil]
    omega
  | [], q :: b => by
    have h1 := edU1 x y [] b
    have e : ed [] (q :: b) = b.length + 1 := rfl
    have e2 : ed [] b = b.length := rfl
    rw [List.nil_append, e2] at h1
    show ed [x] (q :: (b ++ [y])) ≤ _
    rw [e, ed_cc]
    omega
  | p :: a, [] => by
    have h1 := edU1 x y a []
    show ed (p :: (a ++ [x])) [y] ≤ _
    rw [ed_cc]
    rw [List.nil_append, ed_nl] at h1
    rw [ed_nl (p :: a)]
    simp only [List.length_cons]
    omega
  | p :: a, q :: b => by
    have h1 := edU1 x y a b
    have h2 := edU1 x y a (q :: b)
    have h3 := edU1 x y (p :: a) b
    show ed (p :: (a ++ [x])) (q :: (b ++ [y])) ≤ _
    rw [ed_cc, ed_cc]
    rw [List.cons_append] at h2 h3
    omega
termination_by a b => a.length + b.length
theorem ed_rev_le : ∀ a b : List Nat, ed a.reverse b.reverse ≤ ed a b
  | [], b => by rw [List.reverse_nil, ed_nil, ed_nil]; simp
  | p :: a, [] => by rw [List.reverse_nil, ed_nl, ed_nl]; simp
  | p :: a, q :: b => by
    have h1 := ed_rev_le a b
    have h2 := ed_rev_le a (q :: b)
    have h3 := ed_rev_le (p :: a) b
    have u1 := edU1 p q a.reverse b.reverse
    have u2 := edU2 p a.reverse (b.reverse ++ [q])
    have u3 := edU3 q (a.reverse ++ [p]) b.reverse
    rw [List.reverse_cons] at h2 h3
    rw [List.reverse_cons, List.reverse_cons, ed_cc]
    omega
termination_by a b => a.length + b.length
theorem ed_rev (a b : List Nat) : ed a.reverse b.reverse = ed a b := by
  have h1 := ed_rev_le a b
  have h2 := ed_rev_le a.reverse b.reverse
  rw [List.reverse_reverse, List.reverse_reverse] at h2
  omega
/-- the first words, the last of them first -/
def rl (u : Nat → Nat) : Nat → List Nat
  | 0 => []
  | n + 1 => u n :: rl u n
theorem rl_len (u : Nat → Nat) : ∀ n, (rl u n).length = n
  | 0 => rfl
  | n + 1 => congrArg (· + 1) (rl_len u n)
def eD (u v : Nat → Nat) (i k : Nat) : Nat := ed (rl u i) (rl v k)
theorem eD_0 (u v : Nat → Nat) (k : Nat) : eD u v 0 k = k := rl_len v k
theorem eD_z (u v : Nat → Nat) (i : Nat) : eD u v i 0 = i := (ed_nl _).trans (rl_len u i)
theorem eD_s (u v : Nat → Nat) (i k : Nat) : eD u v (i + 1) (k + 1) = min (eD u v i k + ed1 (u i) (v k)) (1 + min (eD u v i (k + 1)) (eD u v (i + 1) k)) := rfl
theorem eD_le (u v : Nat → Nat) (i k : Nat) : eD u v i k ≤ i + k := by
  have h := ed_le (rl u i) (rl v k)
  rw [rl_len, rl_len] at h
  exact h
theorem rl_get (u : Nat → Nat) : ∀ (n j : Nat), j < n → (rl u n)[j]? = some (u (n - 1 - j))
  | 0, _, h => absurd h (Nat.not_lt_zero _)
  | n + 1, 0, _ => rfl
  | n + 1, j + 1, h => by
    show (rl u n)[j]? = _
    rw [rl_get u n j (by omega)]
    congr 2
    omega
theorem rl_rev (u : Nat → Nat) (n : Nat) : rl (fun i => u (n - 1 - i)) n = (rl u n).reverse := by
  apply List.ext_getElem?
  intro j
  by_cases h : j < n
  · rw [rl_get _ n j h, List.getElem?_reverse (by rw [rl_len]; exact h), rl_len, rl_get u n (n - 1 - j) (by omega)]
  · rw [List.getElem?_eq_none (by rw [rl_len]; omega), List.getElem?_eq_none (by rw [List.length_reverse, rl_len]; omega)]
theorem eD_rev (u v : Nat → Nat) (n m : Nat) : eD (fun i => u (n - 1 - i)) (fun j => v (m - 1 - j)) n m = eD u v n m := by
  unfold eD
  rw [rl_rev, rl_rev, ed_rev]
