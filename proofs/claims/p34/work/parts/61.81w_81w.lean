/-! WALKS, as pure functions of what the readers make. -/
/-- size, queue, readings needed, back, reader -/
noncomputable abbrev WS := Int × (Int → Int) × (Int → Int) × (Int → Int) × (Int → Int)
noncomputable def wsC (s : WS) (to d from_ by_ : Int) : WS := if s.2.2.1 to = -1 ∧ s.1 < 5461 then (s.1 + 1, upI s.2.1 s.1 to, upI s.2.2.1 to d, upI s.2.2.2.1 to from_, upI s.2.2.2.2 to by_) else s
noncomputable def ws0 (a : Int) : WS := wsC (0, fun _ => 0, fun _ => -1, fun _ => 0, fun _ => 0) a 0 (-1) (-1)
/-- what some readers make of a text comes to the walk -/
noncomputable def wsR (F : Int → Int → Int) (M : Int → Bool) (t : Int) (s : WS) : Nat → WS
  | 0 => s
  | r + 1 => if M (r : Int) = true then wsC (wsR F M t s r) (F (r : Int) t) ((wsR F M t s r).2.2.1 t + 1) t (r : Int) else wsR F M t s r
noncomputable def wsI (F : Int → Int → Int) (M : Int → Bool) (n a : Int) : Nat → WS
  | 0 => ws0 a
  | i + 1 => if (i : Int) < (wsI F M n a i).1 then wsR F M ((wsI F M n a i).2.1 (i : Int)) (wsI F M n a i) n.toNat else wsI F M n a i
noncomputable def wsF (F : Int → Int → Int) (M : Int → Bool) (n a : Int) : WS := wsI F M n a 5461
theorem cn_le (p : Nat → Bool) : ∀ n, cntP p n ≤ n
  | 0 => Nat.le_refl _
  | n + 1 => by
    have := cn_le p n
    show cntP p n + (if p n = true then 1 else 0) ≤ n + 1
    split <;> omega
theorem cn_lt {p : Nat → Bool} {t : Nat} (h : p t = false) : ∀ n, t < n → cntP p n < n
  | 0, ht => absurd ht (Nat.not_lt_zero _)
  | n + 1, ht => by
    show cntP p n + (if p n = true then 1 else 0) < n + 1
    by_cases e : t = n
    · rw [e] at h
      rw [h, if_neg (by decide)]
      have := cn_le p n
      omega
    · have := cn_lt h n (by omega)
      split <;> omega
theorem cn_cg {p q : Nat → Bool} : ∀ n, (∀ t, t < n → p t = q t) → cntP p n = cntP q n
  | 0, _ => rfl
  | n + 1, h => by
    show cntP p n + (if p n = true then 1 else 0) = cntP q n + (if q n = true then 1 else 0)
    rw [cn_cg n (fun t ht => h t (by omega)), h n (by omega)]
theorem cn_up {p q : Nat → Bool} {t : Nat} (hp : p t = false) (hq : q t = true) (h : ∀ x, x ≠ t → q x = p x) : ∀ n, t < n → cntP q n = cntP p n + 1
  | 0, ht => absurd ht (Nat.not_lt_zero _)
  | n + 1, ht => by
    show cntP q n + (if q n = true then 1 else 0) = cntP p n + (if p n = true then 1 else 0) + 1
    by_cases e : t = n
    · rw [e] at hp hq
      rw [hp, hq, cn_cg n (fun x hx => h x (by omega)), if_pos rfl, if_neg (by decide)]
    · rw [cn_up hp hq h n (by omega), h n (fun z => e z.symm)]
      omega
/-- what a walk keeps -/
noncomputable def WSK (s : WS) : Prop := (0 ≤ s.1 ∧ s.1 ≤ 5461) ∧ (∀ j : Int, 0 ≤ j → j < s.1 → (0 ≤ s.2.1 j ∧ s.2.1 j ≤ 5460) ∧ s.2.2.1 (s.2.1 j) ≠ -1) ∧ (∀ t : Int, -1 ≤ s.2.2.1 t ∧ s.2.2.1 t ≤ s.1 - 1) ∧ (∀ t : Int, 0 ≤ t → t ≤ 5460 → s.2.2.1 t ≠ -1 → ∃ j : Int, (0 ≤ j ∧ j < s.1) ∧ s.2.1 j = t) ∧ s.1 = (cntP (fun k => decide (s.2.2.1 (k : Int) ≠ -1)) 5461 : Int) ∧ (∀ i j : Int, 0 ≤ i → i ≤ j → j < s.1 → s.2.2.1 (s.2.1 i) ≤ s.2.2.1 (s.2.1 j))
theorem wk_room {s : WS} (h : WSK s) {t : Int} (t0 : 0 ≤ t) (t1 : t ≤ 5460) (ht : s.2.2.1 t = -1) : s.1 < 5461 := by
  obtain ⟨-, -, -, -, h5, -⟩ := h
  have e : (fun k : Nat => decide (s.2.2.1 (k : Int) ≠ -1)) t.toNat = false := by
    dsimp only
    rw [Int.toNat_of_nonneg t0]
    exact decide_eq_false (fun z => z ht)
  have := cn_lt (p := fun k => decide (s.2.2.1 (k : Int) ≠ -1)) (t := t.toNat) e 5461 (by omega)
  omega
theorem up_eq {f : Int → Int} {i v : Int} : upI f i v i = v := if_pos rfl
theorem up_ne {f : Int → Int} {i v j : Int} (h : j ≠ i) : upI f i v j = f j := if_neg h
theorem wsC_n {s : WS} {to d a b : Int} (h : s.2.2.1 to ≠ -1) : wsC s to d a b = s := if_neg (fun z => h z.1)
theorem wsC_y {s : WS} {to d a b : Int} (h : s.2.2.1 to = -1) (h2 : s.1 < 5461) : wsC s to d a b = (s.1 + 1, upI s.2.1 s.1 to, upI s.2.2.1 to d, upI s.2.2.2.1 to a, upI s.2.2.2.2 to b) := if_pos ⟨h, h2⟩
/-- the walk keeps it, if what comes is not nearer than the last -/
theorem wsC_k {s : WS} (h : WSK s) {to d a b : Int} (t0 : 0 ≤ to) (t1 : to ≤ 5460) (d0 : 0 ≤ d) (d1 : d ≤ s.1) (hm : ∀ j : Int, 0 ≤ j → j < s.1 → s.2.2.1 (s.2.1 j) ≤ d) : WSK (wsC s to d a b) := by
  by_cases c : s.2.2.1 to = -1
  · have hr := wk_room h t0 t1 c
    rw [wsC_y c hr]
    obtain ⟨h1, h2, h3, h4, h5, h6⟩ := h
    have hne : ∀ j : Int, 0 ≤ j → j < s.1 → s.2.1 j ≠ to := fun j j0 j1 e => (h2 j j0 j1).2 (by rw [e]; exact c)
    refine ⟨⟨by (try dsimp only); omega, by (try dsimp only); omega⟩, fun j j0 j1 => ?_, fun t => ?_, fun t x0 x1 ht => ?_, ?_, fun i j i0 ij j1 => ?_⟩
    · dsimp only at j1 ⊢
      by_cases e : j = s.1
      · rw [e, up_eq, up_eq]
        exact ⟨⟨t0, t1⟩, by omega⟩
      · rw [up_ne e, up_ne (hne j j0 (by omega))]
        exact h2 j j0 (by omega)
    · dsimp only
      by_cases e : t = to
      · rw [e, up_eq]
        omega
      · rw [up_ne e]
        have := h3 t
        omega
    · dsimp only at ht ⊢
      by_cases e : t = to
      · exact ⟨s.1, ⟨by omega, by omega⟩, by rw [up_eq, e]⟩
      · rw [up_ne e] at ht
        obtain ⟨j, hj, hq⟩ := h4 t x0 x1 ht
        exact ⟨j, ⟨by omega, by omega⟩, by rw [up_ne (by omega)]; exact hq⟩
    · dsimp only
      have e := cn_up (p := fun k => decide (s.2.2.1 (k : Int) ≠ -1)) (q := fun k => decide (upI s.2.2.1 to d (k : Int) ≠ -1)) (t := to.toNat) (by (try dsimp only); rw [Int.toNat_of_nonneg t0]; exact decide_eq_false (fun z => z c)) (by (try dsimp only); rw [Int.toNat_of_nonneg t0, up_eq]; exact decide_eq_true (by omega)) (fun x hx => by (try dsimp only); rw [up_ne (by omega)]) 5461 (by omega)
      rw [e]
      omega
    · dsimp only at j1 ⊢
      by_cases ej : j = s.1
      · rw [ej, up_eq, up_eq]
        by_cases ei : i = s.1
        · rw [ei, up_eq, up_eq]
          exact Int.le_refl _
        · rw [up_ne ei, up_ne (hne i i0 (by omega))]
          exact hm i i0 (by omega)
      · rw [up_ne ej, up_ne (show i ≠ s.1 by omega), up_ne (hne j (by omega) (by omega)), up_ne (hne i i0 (by omega))]
        exact h6 i j i0 ij (by omega)
  · rw [wsC_n c]
    exact h
theorem ws0_k {a : Int} (a0 : 0 ≤ a) (a1 : a ≤ 5460) : WSK (ws0 a) := by
  refine wsC_k ⟨⟨by decide, by decide⟩, fun j j0 j1 => by dsimp only at j1; omega, fun t => ⟨Int.le_refl _, (by decide : (-1 : Int) ≤ 0 - 1)⟩, fun t _ _ ht => absurd rfl ht, ?_, fun i j i0 ij j1 => by dsimp only at j1; omega⟩ a0 a1 (by decide) (by decide) (fun j j0 j1 => by dsimp only at j1; omega)
  have e : ∀ n, cntP (fun k => decide ((fun _ : Int => (-1 : Int)) (k : Int) ≠ -1)) n = 0 := fun n => by
    induction n with
    | zero => rfl
    | succ n ih =>
      show cntP _ n + (if decide ((-1 : Int) ≠ -1) = true then 1 else 0) = 0
      rw [ih]
      rfl
  show (0 : Int) = _
  rw [e]
  rfl
/-- nothing that is there changes -/
theorem wsC_m {s : WS} {to d a b : Int} {t : Int} (h : s.2.2.1 t ≠ -1) : (wsC s to d a b).2.2.1 t = s.2.2.1 t ∧ (wsC s to d a b).2.2.2.1 t = s.2.2.2.1 t ∧ (wsC s to d a b).2.2.2.2 t = s.2.2.2.2 t := by
  by_cases c : s.2.2.1 to = -1 ∧ s.1 < 5461
  · rw [wsC_y c.1 c.2]
    have e : t ≠ to := fun e => h (by rw [e]; exact c.1)
    exact ⟨up_ne e, up_ne e, up_ne e⟩
  · unfold wsC
    rw [if_neg c]
    exact ⟨rfl, rfl, rfl⟩
theorem wsC_z {s : WS} {to d a b : Int} : s.1 ≤ (wsC s to d a b).1 := by
  by_cases c : s.2.2.1 to = -1 ∧ s.1 < 5461
  · rw [wsC_y c.1 c.2]
    dsimp only
    omega
  · unfold wsC
    rw [if_neg c]
    omega
theorem wsC_q {s : WS} {to d a b : Int} {j : Int} (h : j < s.1) : (wsC s to d a b).2.1 j = s.2.1 j := by
  by_cases c : s.2.2.1 to = -1 ∧ s.1 < 5461
  · rw [wsC_y c.1 c.2]
    exact up_ne (by omega)
  · unfold wsC
    rw [if_neg c]
theorem wsR_q {F : Int → Int → Int} {M : Int → Bool} {t : Int} {s : WS} : ∀ r : Nat, s.1 ≤ (wsR F M t s r).1 ∧ ∀ j : Int, j < s.1 → (wsR F M t s r).2.1 j = s.2.1 j
  | 0 => ⟨Int.le_refl _, fun _ _ => rfl⟩
  | r + 1 => by
    obtain ⟨h1, h2⟩ := wsR_q (F := F) (M := M) (t := t) (s := s) r
    show _ ≤ (if M (r : Int) = true then wsC _ _ _ _ _ else _ : WS).1 ∧ ∀ j : Int, _ → (if M (r : Int) = true then wsC _ _ _ _ _ else _ : WS).2.1 j = _
    by_cases cm : M (r : Int) = true
    · rw [if_pos cm]
      exact ⟨Int.le_trans h1 wsC_z, fun j hj => (wsC_q (by omega)).trans (h2 j hj)⟩
    · rw [if_neg cm]
      exact ⟨h1, h2⟩
/-- each that is there has at most one reading more than t -/
noncomputable def WSL (s : WS) (m : Int) : Prop := ∀ j : Int, 0 ≤ j → j < s.1 → s.2.2.1 (s.2.1 j) ≤ m
theorem wsR_s {F : Int → Int → Int} {M : Int → Bool} {t : Int} {s : WS} {r : Int} (r0 : 0 ≤ r) : wsR F M t s (r + 1).toNat = if M r = true then wsC (wsR F M t s r.toNat) (F r t) ((wsR F M t s r.toNat).2.2.1 t + 1) t r else wsR F M t s r.toNat := by
  rw [show (r + 1).toNat = r.toNat + 1 by omega]
  show (if M ((r.toNat : Nat) : Int) = true then wsC (wsR F M t s r.toNat) (F ((r.toNat : Nat) : Int) t) ((wsR F M t s r.toNat).2.2.1 t + 1) t ((r.toNat : Nat) : Int) else wsR F M t s r.toNat) = _
  rw [Int.toNat_of_nonneg r0]
theorem wsI_s {F : Int → Int → Int} {M : Int → Bool} {n a i : Int} (i0 : 0 ≤ i) : wsI F M n a (i + 1).toNat = if i < (wsI F M n a i.toNat).1 then wsR F M ((wsI F M n a i.toNat).2.1 i) (wsI F M n a i.toNat) n.toNat else wsI F M n a i.toNat := by
  rw [show (i + 1).toNat = i.toNat + 1 by omega]
  show (if ((i.toNat : Nat) : Int) < (wsI F M n a i.toNat).1 then wsR F M ((wsI F M n a i.toNat).2.1 ((i.toNat : Nat) : Int)) (wsI F M n a i.toNat) n.toNat else wsI F M n a i.toNat) = _
  rw [Int.toNat_of_nonneg i0]
noncomputable def FOK (F : Int → Int → Int) (n : Int) : Prop := ∀ r t : Int, 0 ≤ r → r < n → 0 ≤ t → t ≤ 5460 → 0 ≤ F r t ∧ F r t ≤ 5460
theorem wsR_k {F : Int → Int → Int} {M : Int → Bool} {t n : Int} {s : WS} (hF : FOK F n) (h : WSK s) (t0 : 0 ≤ t) (t1 : t ≤ 5460) (ht : s.2.2.1 t ≠ -1) (hl : WSL s (s.2.2.1 t + 1)) : ∀ r : Nat, (r : Int) ≤ n → WSK (wsR F M t s r) ∧ (wsR F M t s r).2.2.1 t = s.2.2.1 t ∧ WSL (wsR F M t s r) (s.2.2.1 t + 1)
  | 0, _ => ⟨h, rfl, hl⟩
  | r + 1, hr => by
    obtain ⟨h1, h2, h3⟩ := wsR_k hF h t0 t1 ht hl r (by omega)
    show WSK (if M (r : Int) = true then wsC _ _ _ _ _ else _) ∧ (if M (r : Int) = true then wsC _ _ _ _ _ else _ : WS).2.2.1 t = _ ∧ WSL (if M (r : Int) = true then wsC _ _ _ _ _ else _) _
    by_cases c : M (r : Int) = true
    · rw [if_pos c]
      have hf := hF (r : Int) t (by omega) (by omega) t0 t1
      have h3' := h1.2.2.1 t
      have hb := h1.1
      rw [h2] at h3' ⊢
      refine ⟨wsC_k h1 hf.1 hf.2 (by omega) (by omega) (fun j j0 j1 => h3 j j0 j1), (wsC_m (by rw [h2]; exact ht)).1.trans h2, fun j j0 j1 => ?_⟩
      by_cases e : j < (wsR F M t s r).1
      · rw [wsC_q e, (wsC_m ((h1.2.1 j j0 e).2)).1]
        exact h3 j j0 e
      · by_cases c2 : (wsR F M t s r).2.2.1 (F (r : Int) t) = -1 ∧ (wsR F M t s r).1 < 5461
        · rw [wsC_y c2.1 c2.2] at j1 ⊢
          dsimp only at j1 ⊢
          rw [show j = (wsR F M t s r).1 by omega, up_eq, up_eq]
          exact Int.le_refl _
        · unfold wsC at j1
          rw [if_neg c2] at j1
          omega
    · rw [if_neg c]
      exact ⟨h1, h2, h3⟩
/-- what a walk keeps, from the i-th text on: none is farther than one reading behind it -/
theorem wsI_k {F : Int → Int → Int} {M : Int → Bool} {n a : Int} (hF : FOK F n) (hn : 0 ≤ n) (a0 : 0 ≤ a) (a1 : a ≤ 5460) : ∀ i : Nat, WSK (wsI F M n a i) ∧ 1 ≤ (wsI F M n a i).1 ∧ ((i : Int) < (wsI F M n a i).1 → WSL (wsI F M n a i) ((wsI F M n a i).2.2.1 ((wsI F M n a i).2.1 (i : Int)) + 1))
  | 0 => by
    have h := ws0_k a0 a1
    have e : ws0 a = (1, upI (fun _ => 0) 0 a, upI (fun _ => -1) a 0, upI (fun _ => 0) a (-1), upI (fun _ => 0) a (-1)) := wsC_y rfl (by decide)
    refine ⟨h, ?_, fun _ j j0 j1 => ?_⟩
    · show 1 ≤ (ws0 a).1
      rw [e]
      exact Int.le_refl _
    · replace j1 : j < (ws0 a).1 := j1
      show (ws0 a).2.2.1 ((ws0 a).2.1 j) ≤ (ws0 a).2.2.1 ((ws0 a).2.1 (((0 : Nat) : Int))) + 1
      rw [e] at j1 ⊢
      dsimp only at j1 ⊢
      rw [show j = (((0 : Nat) : Int)) by omega]
      omega
  | i + 1 => by
    obtain ⟨h1, h2, h3⟩ := wsI_k hF hn a0 a1 i
    show WSK (if (i : Int) < _ then _ else _) ∧ 1 ≤ (if (i : Int) < _ then _ else _ : WS).1 ∧ (((i + 1 : Nat) : Int) < (if (i : Int) < _ then _ else _ : WS).1 → WSL (if (i : Int) < _ then _ else _) ((if (i : Int) < _ then _ else _ : WS).2.2.1 ((if (i : Int) < _ then _ else _ : WS).2.1 ((i + 1 : Nat) : Int)) + 1))
    by_cases c : (i : Int) < (wsI F M n a i).1
    · rw [if_pos c]
      have hq := h1.2.1 (i : Int) (by omega) c
      obtain ⟨k1, k2, k3⟩ := wsR_k (M := M) hF h1 hq.1.1 hq.1.2 hq.2 (h3 c) n.toNat (by omega)
      have hm := wsR_q (F := F) (M := M) (t := (wsI F M n a i).2.1 (i : Int)) (s := wsI F M n a i) n.toNat
      refine ⟨k1, by omega, fun c2 j j0 j1 => ?_⟩
      have hle := k1.2.2.2.2.2 (i : Int) ((i + 1 : Nat) : Int) (by omega) (by omega) c2
      rw [hm.2 (i : Int) c, k2] at hle
      have := k3 j j0 j1
      omega
    · rw [if_neg c]
      exact ⟨h1, h2, fun c2 => by omega⟩
theorem wsI_st {F : Int → Int → Int} {M : Int → Bool} {n a : Int} {i : Nat} (h : (wsI F M n a i).1 ≤ (i : Int)) : ∀ k : Nat, wsI F M n a (i + k) = wsI F M n a i
  | 0 => rfl
  | k + 1 => by
    have ih := wsI_st h k
    show (if ((i + k : Nat) : Int) < (wsI F M n a (i + k)).1 then wsR F M ((wsI F M n a (i + k)).2.1 ((i + k : Nat) : Int)) (wsI F M n a (i + k)) n.toNat else wsI F M n a (i + k)) = _
    rw [if_neg (by rw [ih]; omega)]
    exact ih
theorem wsI_F {F : Int → Int → Int} {M : Int → Bool} {n a : Int} {i : Nat} (h : (wsI F M n a i).1 ≤ (i : Int)) (hi : i ≤ 5461) : wsI F M n a i = wsF F M n a := by
  have := wsI_st h (5461 - i)
  rw [show i + (5461 - i) = 5461 by omega] at this
  exact this.symm
/-- whichever readers: a walk asks only of those that there are -/
theorem wsR_c {F : Int → Int → Int} {M M' : Int → Bool} {t : Int} {s : WS} {n : Nat} (h : ∀ r : Int, 0 ≤ r → r < n → M r = M' r) : ∀ r, r ≤ n → wsR F M t s r = wsR F M' t s r
  | 0, _ => rfl
  | r + 1, hr => by
    show (if M (r : Int) = true then wsC _ _ _ _ _ else _) = if M' (r : Int) = true then wsC _ _ _ _ _ else _
    rw [wsR_c h r (by omega), h (r : Int) (by omega) (by omega)]
theorem wsI_c {F : Int → Int → Int} {M M' : Int → Bool} {n a : Int} (h : ∀ r : Int, 0 ≤ r → r < n → M r = M' r) : ∀ i, wsI F M n a i = wsI F M' n a i
  | 0 => rfl
  | i + 1 => by
    show (if (i : Int) < _ then _ else _) = if (i : Int) < _ then _ else _
    rw [wsI_c h i, wsR_c (n := n.toNat) (fun r r0 r1 => h r r0 (by omega)) n.toNat (Nat.le_refl _)]
/-! WALKS in the class's and the reference's arrays. -/
noncomputable def WQ (s : WS) (sz : Int) (g1 g2 g3 g4 : Nat → Int32) : Prop := sz = s.1 ∧ (∀ j : Int, 0 ≤ j → j < s.1 → tBy g1 j = s.2.1 j) ∧ (∀ t : Int, 0 ≤ t → t ≤ 5460 → tBy g2 t = s.2.2.1 t) ∧ ∀ t : Int, 0 ≤ t → t ≤ 5460 → s.2.2.1 t ≠ -1 → tBy g3 t = s.2.2.2.1 t ∧ tBy g4 t = s.2.2.2.2 t
noncomputable def WQ0 (sz : Int) (g1 g2 : Nat → Int32) : Prop := (0 ≤ sz ∧ sz ≤ 5461) ∧ (∀ j : Int, 0 ≤ j → j < sz → 0 ≤ tBy g1 j ∧ tBy g1 j ≤ 5460) ∧ ∀ t : Int, 0 ≤ t → t ≤ 5460 → tBy g2 t ≠ -1 → ∃ j : Int, (0 ≤ j ∧ j < sz) ∧ tBy g1 j = t
theorem cl_st {g1 T : Nat → Int32} {ii sz : Int} (h : ∀ t : Int, 0 ≤ t → t ≤ 5460 → tBy T t ≠ -1 → ∃ j : Int, (ii ≤ j ∧ j < sz) ∧ tBy g1 j = t) (hq : 0 ≤ tBy g1 ii) : ∀ t : Int, 0 ≤ t → t ≤ 5460 → tBy (upd T (tBy g1 ii : Int).toNat (Int32.ofInt (-1))) t ≠ -1 → ∃ j : Int, (ii + 1 ≤ j ∧ j < sz) ∧ tBy g1 j = t := by
  intro t t0 t1 ht
  rw [zupI (by exact ⟨by omega, by omega⟩) hq t0] at ht
  by_cases c : t = tBy g1 ii
  · rw [if_pos c] at ht
    exact absurd rfl ht
  · rw [if_neg c] at ht
    obtain ⟨j, hj, e⟩ := h t t0 t1 ht
    have : j ≠ ii := fun z => c (by rw [← e, z])
    exact ⟨j, ⟨by omega, hj.2⟩, e⟩
theorem cl_e {g1 T : Nat → Int32} {ii sz : Int} (h : ∀ t : Int, 0 ≤ t → t ≤ 5460 → tBy T t ≠ -1 → ∃ j : Int, (ii ≤ j ∧ j < sz) ∧ tBy g1 j = t) (hi : sz ≤ ii) : ∀ t : Int, 0 ≤ t → t ≤ 5460 → tBy T t = -1 := fun t t0 t1 => Classical.byContradiction fun hn => by
  obtain ⟨j, hj, -⟩ := h t t0 t1 hn
  omega
theorem WQ_0 {g1 g2 g3 g4 : Nat → Int32} (h : ∀ t : Int, 0 ≤ t → t ≤ 5460 → tBy g2 t = -1) : WQ (0, fun _ => 0, fun _ => -1, fun _ => 0, fun _ => 0) 0 g1 g2 g3 g4 := ⟨rfl, fun j j0 j1 => by dsimp only at j1; omega, h, fun t _ _ ht => absurd rfl ht⟩
section WQS
variable {s : WS} {sz to d a b : Int} {g1 g2 g3 g4 : Nat → Int32}
theorem WQ_n (h : WQ s sz g1 g2 g3 g4) (t0 : 0 ≤ to) (t1 : to ≤ 5460) (c : tBy g2 to ≠ -1) : WQ (wsC s to d a b) sz g1 g2 g3 g4 := by
  rw [wsC_n (by rw [← h.2.2.1 to t0 t1]; exact c)]
  exact h
theorem WQ_b (h : WQ s sz g1 g2 g3 g4) (c : 5461 ≤ sz) : WQ (wsC s to d a b) sz g1 g2 g3 g4 := by
  have h1 := h.1
  unfold wsC
  rw [if_neg (fun z => by have := z.2; omega)]
  exact h
theorem WQ_y (h : WQ s sz g1 g2 g3 g4) (hs : 0 ≤ sz) (t0 : 0 ≤ to) (t1 : to ≤ 5460) (c : tBy g2 to = -1) (c2 : sz < 5461) (rd : r32 d) (ra : r32 a) (rb : r32 b) : WQ (wsC s to d a b) (sz + 1) (upd g1 (sz : Int).toNat (Int32.ofInt to)) (upd g2 (to : Int).toNat (Int32.ofInt d)) (upd g3 (to : Int).toNat (Int32.ofInt a)) (upd g4 (to : Int).toNat (Int32.ofInt b)) := by
  have h1 := h.1
  rw [wsC_y (by rw [← h.2.2.1 to t0 t1]; exact c) (by omega)]
  refine ⟨by (try dsimp only); omega, fun j j0 j1 => ?_, fun t x0 x1 => ?_, fun t x0 x1 ht => ?_⟩
  · dsimp only at j1 ⊢
    rw [zupI (by exact ⟨by omega, by omega⟩) hs j0]
    by_cases e : j = sz
    · rw [if_pos e, e, h1, up_eq]
    · rw [if_neg e, up_ne (by omega)]
      exact h.2.1 j j0 (by omega)
  · dsimp only
    rw [zupI rd t0 x0]
    by_cases e : t = to
    · rw [if_pos e, e, up_eq]
    · rw [if_neg e, up_ne e]
      exact h.2.2.1 t x0 x1
  · dsimp only at ht ⊢
    rw [zupI ra t0 x0, zupI rb t0 x0]
    by_cases e : t = to
    · rw [if_pos e, if_pos e, e, up_eq, up_eq]
      exact ⟨rfl, rfl⟩
    · rw [up_ne e] at ht
      rw [if_neg e, if_neg e, up_ne e, up_ne e]
      exact h.2.2.2 t x0 x1 ht
end WQS
/-- which readers read: bits -/
noncomputable def hM (set : Int) : Int → Bool := fun r => decide (hHas set r = 1)
theorem hM_t {a b : Int} (h : hHas a b ≠ 0) (h1 : 0 ≤ a ∧ a ≤ 31) (h2 : 0 ≤ b ∧ b ≤ 4) : hM a b = true := decide_eq_true (by have := bm_r (hs_e h1 h2); omega)
theorem hM_f {a b : Int} (h : hHas a b = 0) : hM a b = false := decide_eq_false (by omega)
theorem WQ_r {F : Int → Int → Int} {M : Int → Bool} {t v d rr sz : Int} {s : WS} {g1 g2 g3 g4 : Nat → Int32} (h : WQ (wsC (wsR F M t s rr.toNat) v d t rr) sz g1 g2 g3 g4) (hv : v = F rr t) (hd : d = (wsR F M t s rr.toNat).2.2.1 t + 1) (hm : M rr = true) (r0 : 0 ≤ rr) : WQ (wsR F M t s (rr + 1 : Int).toNat) sz g1 g2 g3 g4 := by
  rw [wsR_s r0, if_pos hm, ← hv, ← hd]
  exact h
theorem WQ_rn {F : Int → Int → Int} {M : Int → Bool} {t rr sz : Int} {s : WS} {g1 g2 g3 g4 : Nat → Int32} (h : WQ (wsR F M t s rr.toNat) sz g1 g2 g3 g4) (hm : M rr = false) (r0 : 0 ≤ rr) : WQ (wsR F M t s (rr + 1 : Int).toNat) sz g1 g2 g3 g4 := by
  rw [wsR_s r0, if_neg (by rw [hm]; decide)]
  exact h
theorem WQ_i {F : Int → Int → Int} {M : Int → Bool} {n a t rr ii sz : Int} {g1 g2 g3 g4 : Nat → Int32} (h : WQ (wsR F M t (wsI F M n a ii.toNat) rr.toNat) sz g1 g2 g3 g4) (e : rr = n) (ht : t = (wsI F M n a ii.toNat).2.1 ii) (hi : ii < (wsI F M n a ii.toNat).1) (i0 : 0 ≤ ii) : WQ (wsI F M n a (ii + 1 : Int).toNat) sz g1 g2 g3 g4 := by
  rw [wsI_s i0, if_pos hi, ← ht]
  rw [e] at h
  exact h
/-- a walk at its i-th text: that text, and what its readers do to it -/
theorem wk_at {F : Int → Int → Int} {M : Int → Bool} {n a ii sz : Int} {g1 g2 g3 g4 : Nat → Int32} (h : WQ (wsI F M n a ii.toNat) sz g1 g2 g3 g4) (hF : FOK F n) (hn : 0 ≤ n) (a0 : 0 ≤ a ∧ a ≤ 5460) (i0 : 0 ≤ ii) (hi : ii < sz) : (0 ≤ tBy g1 ii ∧ tBy g1 ii ≤ 5460) ∧ tBy g1 ii = (wsI F M n a ii.toNat).2.1 ii ∧ ii < (wsI F M n a ii.toNat).1 ∧ ∀ rr : Int, 0 ≤ rr → rr ≤ n → WSK (wsR F M (tBy g1 ii) (wsI F M n a ii.toNat) rr.toNat) ∧ 0 ≤ (wsR F M (tBy g1 ii) (wsI F M n a ii.toNat) rr.toNat).2.2.1 (tBy g1 ii) ∧ (wsR F M (tBy g1 ii) (wsI F M n a ii.toNat) rr.toNat).2.2.1 (tBy g1 ii) ≤ 5460 := by
  obtain ⟨k1, k2, k3⟩ := wsI_k (M := M) hF hn a0.1 a0.2 ii.toNat
  have h1 := h.1
  have e := h.2.1 ii i0 (by omega)
  have hq := k1.2.1 ii i0 (by omega)
  have hi' : ii < (wsI F M n a ii.toNat).1 := by omega
  rw [Int.toNat_of_nonneg i0] at k3
  refine ⟨by rw [e]; exact hq.1, e, hi', fun rr r0 r1 => ?_⟩
  rw [e]
  obtain ⟨q1, q2, -⟩ := wsR_k (M := M) hF k1 hq.1.1 hq.1.2 hq.2 (k3 hi') rr.toNat (by omega)
  have b := k1.2.2.1 ((wsI F M n a ii.toNat).2.1 ii)
  have hs := k1.1
  have hq2 := hq.2
  rw [q2]
  exact ⟨q1, by omega, by omega⟩
noncomputable def farC (x : Int) : Int := if x = -1 then 1000000 else x
theorem far_y {x : Int} (h : x = -1) : farC x = 1000000 := if_pos h
theorem far_n {x : Int} (h : x ≠ -1) : farC x = x := if_neg h
noncomputable def FQ (s : WS) (c : Int) (go gf : Nat → Int32) : Prop := c = s.1 ∧ (∀ j : Int, 0 ≤ j → j < s.1 → tBy go j = s.2.1 j) ∧ ∀ t : Int, 0 ≤ t → t ≤ 5460 → tBy gf t = farC (s.2.2.1 t)
noncomputable def nM (without : Int) : Int → Bool := fun r => decide (hHas without r ≠ 1)
theorem FQ_t {s : WS} {c : Int} {go gf : Nat → Int32} (h : FQ s c go gf) (hk : WSK s) {t : Int} (t0 : 0 ≤ t) (t1 : t ≤ 5460) : (tBy gf t = 1000000 ∧ s.2.2.1 t = -1) ∨ (tBy gf t = s.2.2.1 t ∧ 0 ≤ s.2.2.1 t ∧ s.2.2.1 t ≤ 5460) := by
  have e := h.2.2 t t0 t1
  have b := hk.2.2.1 t
  have b2 := hk.1
  by_cases c : s.2.2.1 t = -1
  · rw [far_y c] at e
    exact Or.inl ⟨e, c⟩
  · rw [far_n c] at e
    exact Or.inr ⟨e, by omega, by omega⟩
theorem FQ_0 {a : Int} {go gf : Nat → Int32} (a0 : 0 ≤ a ∧ a ≤ 5460) (h : ∀ t : Int, 0 ≤ t → t ≤ 5460 → tBy gf t = 1000000) : FQ (ws0 a) 1 (upd go (0 : Int).toNat (Int32.ofInt a)) (upd gf (a : Int).toNat (Int32.ofInt 0)) := by
  have e : ws0 a = (1, upI (fun _ => 0) 0 a, upI (fun _ => -1) a 0, upI (fun _ => 0) a (-1), upI (fun _ => 0) a (-1)) := wsC_y rfl (by decide)
  rw [e]
  refine ⟨rfl, fun j j0 j1 => ?_, fun t t0 t1 => ?_⟩
  · dsimp only at j1 ⊢
    rw [zupI (by exact ⟨by omega, by omega⟩) (by decide) j0, if_pos (by omega), show j = 0 by omega, up_eq]
  · dsimp only
    rw [zupI (by exact ⟨by omega, by omega⟩) a0.1 t0]
    by_cases c : t = a
    · rw [if_pos c, c, up_eq]
      rfl
    · rw [if_neg c, up_ne c, h t t0 t1]
      rfl
theorem FQ_n {s : WS} {c to d a b : Int} {go gf : Nat → Int32} (h : FQ s c go gf) (t0 : 0 ≤ to) (t1 : to ≤ 5460) (hn : tBy gf to ≠ 1000000) : FQ (wsC s to d a b) c go gf := by
  have e := h.2.2 to t0 t1
  rw [wsC_n (fun z => hn (by rw [e, far_y z]))]
  exact h
theorem FQ_y {s : WS} {c to d a b : Int} {go gf : Nat → Int32} (h : FQ s c go gf) (hk : WSK s) (t0 : 0 ≤ to) (t1 : to ≤ 5460) (hy : tBy gf to = 1000000) (d0 : 0 ≤ d) (d1 : d ≤ 5461) : FQ (wsC s to d a b) (c + 1) (upd go (c : Int).toNat (Int32.ofInt to)) (upd gf (to : Int).toNat (Int32.ofInt d)) ∧ c < 5461 := by
  have h1 := h.1
  have h2 := hk.1
  have e : s.2.2.1 to = -1 := by
    rcases FQ_t h hk t0 t1 with ⟨-, e⟩ | ⟨e, e2, e3⟩
    · exact e
    · omega
  have hr := wk_room hk t0 t1 e
  rw [wsC_y e hr]
  refine ⟨⟨by (try dsimp only); omega, fun j j0 j1 => ?_, fun t x0 x1 => ?_⟩, by omega⟩
  · dsimp only at j1 ⊢
    rw [zupI (by exact ⟨by omega, by omega⟩) (by omega) j0]
    by_cases ej : j = c
    · rw [if_pos ej, ej, h1, up_eq]
    · rw [if_neg ej, up_ne (by omega)]
      exact h.2.1 j j0 (by omega)
  · dsimp only
    rw [zupI (by exact ⟨by omega, by omega⟩) t0 x0]
    by_cases et : t = to
    · rw [if_pos et, et, up_eq, far_n (by omega)]
    · rw [if_neg et, up_ne et]
      exact h.2.2 t x0 x1
theorem FQ_r {F : Int → Int → Int} {M : Int → Bool} {t v d rr c : Int} {s : WS} {go gf : Nat → Int32} (h : FQ (wsC (wsR F M t s rr.toNat) v d t rr) c go gf) (hv : v = F rr t) (hd : d = (wsR F M t s rr.toNat).2.2.1 t + 1) (hm : M rr = true) (r0 : 0 ≤ rr) : FQ (wsR F M t s (rr + 1 : Int).toNat) c go gf := by
  rw [wsR_s r0, if_pos hm, ← hv, ← hd]
  exact h
theorem FQ_rn {F : Int → Int → Int} {M : Int → Bool} {t rr c : Int} {s : WS} {go gf : Nat → Int32} (h : FQ (wsR F M t s rr.toNat) c go gf) (hm : M rr = false) (r0 : 0 ≤ rr) : FQ (wsR F M t s (rr + 1 : Int).toNat) c go gf := by
  rw [wsR_s r0, if_neg (by rw [hm]; decide)]
  exact h
theorem FQ_i {F : Int → Int → Int} {M : Int → Bool} {n a t rr ii c : Int} {go gf : Nat → Int32} (h : FQ (wsR F M t (wsI F M n a ii.toNat) rr.toNat) c go gf) (e : rr = n) (ht : t = (wsI F M n a ii.toNat).2.1 ii) (hi : ii < (wsI F M n a ii.toNat).1) (i0 : 0 ≤ ii) : FQ (wsI F M n a (ii + 1 : Int).toNat) c go gf := by
  rw [wsI_s i0, if_pos hi, ← ht]
  rw [e] at h
  exact h
theorem fk_at {F : Int → Int → Int} {M : Int → Bool} {n a ii c : Int} {go gf : Nat → Int32} (h : FQ (wsI F M n a ii.toNat) c go gf) (hF : FOK F n) (hn : 0 ≤ n) (a0 : 0 ≤ a ∧ a ≤ 5460) (i0 : 0 ≤ ii) (hi : ii < c) : (0 ≤ (wsI F M n a ii.toNat).2.1 ii ∧ (wsI F M n a ii.toNat).2.1 ii ≤ 5460) ∧ ii < (wsI F M n a ii.toNat).1 ∧ ∀ rr : Int, 0 ≤ rr → rr ≤ n → WSK (wsR F M ((wsI F M n a ii.toNat).2.1 ii) (wsI F M n a ii.toNat) rr.toNat) ∧ 0 ≤ (wsR F M ((wsI F M n a ii.toNat).2.1 ii) (wsI F M n a ii.toNat) rr.toNat).2.2.1 ((wsI F M n a ii.toNat).2.1 ii) ∧ (wsR F M ((wsI F M n a ii.toNat).2.1 ii) (wsI F M n a ii.toNat) rr.toNat).2.2.1 ((wsI F M n a ii.toNat).2.1 ii) ≤ 5460 ∧ (wsR F M ((wsI F M n a ii.toNat).2.1 ii) (wsI F M n a ii.toNat) rr.toNat).2.1 ii = (wsI F M n a ii.toNat).2.1 ii ∧ ii < (wsR F M ((wsI F M n a ii.toNat).2.1 ii) (wsI F M n a ii.toNat) rr.toNat).1 := by
  obtain ⟨k1, k2, k3⟩ := wsI_k (M := M) hF hn a0.1 a0.2 ii.toNat
  have h1 := h.1
  have hq := k1.2.1 ii i0 (by omega)
  have hi' : ii < (wsI F M n a ii.toNat).1 := by omega
  rw [Int.toNat_of_nonneg i0] at k3
  refine ⟨hq.1, hi', fun rr r0 r1 => ?_⟩
  obtain ⟨q1, q2, -⟩ := wsR_k (M := M) hF k1 hq.1.1 hq.1.2 hq.2 (k3 hi') rr.toNat (by omega)
  have b := k1.2.2.1 ((wsI F M n a ii.toNat).2.1 ii)
  have hs := k1.1
  have hq2 := hq.2
  have q3 := wsR_q (F := F) (M := M) (t := (wsI F M n a ii.toNat).2.1 ii) (s := wsI F M n a ii.toNat) rr.toNat
  rw [q2]
  exact ⟨q1, by omega, by omega, q3.2 ii hi', by omega⟩
/-! THE LEAST OF SOME: both sides look for it in their own order. -/
noncomputable def ISM (S : Int → Prop) (f : Int → Int) (b : Int) : Prop := (b = -1 ∧ ∀ t : Int, ¬ S t) ∨ (0 ≤ b ∧ S b ∧ ∀ t : Int, S t → f b < f t ∨ (f b = f t ∧ b ≤ t))
theorem ism_u {S : Int → Prop} {f : Int → Int} {b b' : Int} (h : ISM S f b) (h' : ISM S f b') : b = b' := by
  rcases h with ⟨e, h⟩ | ⟨b0, hs, h⟩ <;> rcases h' with ⟨e', h'⟩ | ⟨b0', hs', h'⟩
  · omega
  · exact absurd hs' (h _)
  · exact absurd hs (h' _)
  · have := h _ hs'
    have := h' _ hs
    omega
theorem ism_c {S S' : Int → Prop} {f : Int → Int} {b : Int} (h : ISM S f b) (e : ∀ t, S t ↔ S' t) : ISM S' f b := by
  rcases h with ⟨e0, h⟩ | ⟨b0, hs, h⟩
  · exact Or.inl ⟨e0, fun t ht => h t ((e t).mpr ht)⟩
  · exact Or.inr ⟨b0, (e b).mp hs, fun t ht => h t ((e t).mpr ht)⟩
theorem ism_0 {S : Int → Prop} {f : Int → Int} (h : ∀ t, ¬ S t) : ISM S f (-1) := Or.inl ⟨rfl, h⟩
theorem ism_n {S S' : Int → Prop} {f : Int → Int} {b t : Int} (h : ISM S f b) (e : ∀ x, S' x ↔ S x ∨ x = t) (t0 : 0 ≤ t) (hc : b = -1 ∨ f t < f b ∨ (f t = f b ∧ t < b)) : ISM S' f t := by
  refine Or.inr ⟨t0, (e t).mpr (Or.inr rfl), fun x hx => ?_⟩
  rcases (e x).mp hx with hx | rfl
  · rcases h with ⟨-, h⟩ | ⟨b0, hs, h⟩
    · exact absurd hx (h x)
    · have := h x hx
      omega
  · exact Or.inr ⟨rfl, Int.le_refl _⟩
theorem ism_k {S S' : Int → Prop} {f : Int → Int} {b t : Int} (h : ISM S f b) (e : ∀ x, S' x ↔ S x ∨ x = t) (hb : b ≠ -1) (h1 : ¬ f t < f b) (h2 : ¬ (f t = f b ∧ t < b)) : ISM S' f b := by
  rcases h with ⟨e0, -⟩ | ⟨b0, hs, h⟩
  · exact absurd e0 hb
  · refine Or.inr ⟨b0, (e b).mpr (Or.inl hs), fun x hx => ?_⟩
    rcases (e x).mp hx with hx | rfl
    · exact h x hx
    · omega
/-- by a walk's order -/
noncomputable def qS (s : WS) (P : Int → Prop) (i : Int) : Int → Prop := fun t => (∃ j : Int, (0 ≤ j ∧ j < i) ∧ s.2.1 j = t) ∧ P t
theorem qS_s {s : WS} {P : Int → Prop} {i : Int} (i0 : 0 ≤ i) (hp : P (s.2.1 i)) (x : Int) : qS s P (i + 1) x ↔ qS s P i x ∨ x = s.2.1 i := by
  constructor
  · rintro ⟨⟨j, hj, e⟩, h⟩
    by_cases c : j = i
    · exact Or.inr (by rw [← e, c])
    · exact Or.inl ⟨⟨j, ⟨hj.1, by omega⟩, e⟩, h⟩
  · rintro (⟨⟨j, hj, e⟩, h⟩ | rfl)
    · exact ⟨⟨j, ⟨hj.1, by omega⟩, e⟩, h⟩
    · exact ⟨⟨i, ⟨i0, by omega⟩, rfl⟩, hp⟩
theorem qS_n {s : WS} {P : Int → Prop} {i : Int} (hp : ¬ P (s.2.1 i)) (x : Int) : qS s P i x ↔ qS s P (i + 1) x := by
  constructor
  · rintro ⟨⟨j, hj, e⟩, h⟩
    exact ⟨⟨j, ⟨hj.1, by omega⟩, e⟩, h⟩
  · rintro ⟨⟨j, hj, e⟩, h⟩
    by_cases c : j = i
    · exact absurd h (by rw [← e, c]; exact hp)
    · exact ⟨⟨j, ⟨hj.1, by omega⟩, e⟩, h⟩
/-- the texts that a walk comes to -/
noncomputable def rch (s : WS) (t : Int) : Prop := (0 ≤ t ∧ t ≤ 5460) ∧ s.2.2.1 t ≠ -1
theorem qS_e {s : WS} {P : Int → Prop} {i : Int} (hk : WSK s) (e : i = s.1) (x : Int) : qS s P i x ↔ rch s x ∧ P x := by
  obtain ⟨h1, h2, h3, h4, -⟩ := hk
  constructor
  · rintro ⟨⟨j, hj, e1⟩, h⟩
    have := h2 j hj.1 (by omega)
    rw [e1] at this
    exact ⟨this, h⟩
  · rintro ⟨⟨hx, hn⟩, h⟩
    obtain ⟨j, hj, e1⟩ := h4 x hx.1 hx.2 hn
    exact ⟨⟨j, ⟨hj.1, by omega⟩, e1⟩, h⟩
/-- by the texts' order -/
noncomputable def uS (S : Int → Prop) (i : Int) : Int → Prop := fun t => (0 ≤ t ∧ t < i) ∧ S t
theorem uS_s {S : Int → Prop} {i : Int} (i0 : 0 ≤ i) (hp : S i) (x : Int) : uS S (i + 1) x ↔ uS S i x ∨ x = i := by
  constructor
  · rintro ⟨hx, h⟩
    by_cases c : x = i
    · exact Or.inr c
    · exact Or.inl ⟨⟨hx.1, by omega⟩, h⟩
  · rintro (⟨hx, h⟩ | rfl)
    · exact ⟨⟨hx.1, by omega⟩, h⟩
    · exact ⟨⟨i0, by omega⟩, hp⟩
theorem uS_n {S : Int → Prop} {i : Int} (hp : ¬ S i) (x : Int) : uS S i x ↔ uS S (i + 1) x := by
  constructor
  · rintro ⟨hx, h⟩
    exact ⟨⟨hx.1, by omega⟩, h⟩
  · rintro ⟨hx, h⟩
    by_cases c : x = i
    · exact absurd h (by rw [c]; exact hp)
    · exact ⟨⟨hx.1, by omega⟩, h⟩
theorem uS_e {S : Int → Prop} {i : Int} (e : i = 5461) (hS : ∀ t, S t → 0 ≤ t ∧ t ≤ 5460) (x : Int) : uS S i x ↔ S x := ⟨fun h => h.2, fun h => ⟨⟨(hS x h).1, by have := hS x h; omega⟩, h⟩⟩
theorem uS_b {S : Int → Prop} {f : Int → Int} {i b : Int} (h : ISM (uS S i) f b) (i0 : 0 ≤ i) : b = -1 ∨ (0 ≤ b ∧ b < i ∧ S b) := by
  rcases h with ⟨e, -⟩ | ⟨b0, hs, -⟩
  · exact Or.inl e
  · exact Or.inr ⟨b0, hs.1.2, hs.2⟩
/-- what a relation with one answer says -/
noncomputable def EPS (R : Int → Prop) : Int := Classical.epsilon R
theorem eps_e {R : Int → Prop} (hu : ∀ a b, R a → R b → a = b) {v : Int} (h : R v) : v = EPS R := hu _ _ h (Classical.epsilon_spec ⟨v, h⟩)
/-- REACH -/
noncomputable def allM : Int → Bool := fun _ => true
theorem all_a : ∀ n : Nat, n < 6 → ∀ r : Nat, r < n → hHas (bShl 1 (n : Int) - 1) (r : Int) = 1 := by decide +kernel
theorem all_h {n r : Int} (hn : 0 ≤ n ∧ n ≤ 5) (r0 : 0 ≤ r) (r1 : r < n) : hM (bShl 1 n - 1) r = allM r := by
  obtain ⟨a, rfl⟩ := Int.eq_ofNat_of_zero_le hn.1
  obtain ⟨b, rfl⟩ := Int.eq_ofNat_of_zero_le r0
  exact decide_eq_true (all_a a (by omega) b (by omega))
theorem no_a : ∀ r : Nat, r < 5 → hHas 0 (r : Int) = 0 := by decide +kernel
theorem no_h {r : Int} (r0 : 0 ≤ r) (r1 : r ≤ 4) : nM 0 r = allM r := by
  obtain ⟨b, rfl⟩ := Int.eq_ofNat_of_zero_le r0
  exact decide_eq_true (by have := no_a b (by omega); omega)
/-- a walk that has come to its end -/
noncomputable def wsA (F : Int → Int → Int) (n a : Int) : WS := wsF F allM n a
theorem wk_end {F : Int → Int → Int} {n a kk sz g : Int} {g1 g2 g3 g4 : Nat → Int32} (hn : 0 ≤ n ∧ n ≤ 5) (hF : FOK F n) (a0 : 0 ≤ a ∧ a ≤ 5460) (h : WQ (wsI F (hM (bShl 1 n - 1)) n a kk.toNat) sz g1 g2 g3 g4) (hk : (0 ≤ kk ∧ kk ≤ 5461) ∧ (sz ≤ kk ∨ (kk < sz ∧ tBy g1 kk = g))) (hg : g = -1) : WQ (wsA F n a) sz g1 g2 g3 g4 ∧ WSK (wsA F n a) ∧ 1 ≤ (wsA F n a).1 := by
  obtain ⟨k1, k2, -⟩ := wsI_k (M := hM (bShl 1 n - 1)) hF hn.1 a0.1 a0.2 kk.toNat
  have h1 := h.1
  have hs : sz ≤ kk := by
    rcases hk.2 with h2 | ⟨h2, h3⟩
    · exact h2
    · have e := h.2.1 kk hk.1.1 (by omega)
      have := (k1.2.1 kk hk.1.1 (by omega)).1
      omega
  have e := wsI_F (F := F) (M := hM (bShl 1 n - 1)) (n := n) (a := a) (i := kk.toNat) (by omega) (by omega)
  have e2 : wsF F (hM (bShl 1 n - 1)) n a = wsA F n a := wsI_c (fun r r0 r1 => all_h hn r0 r1) 5461
  rw [e2] at e
  rw [e] at h k1 k2
  exact ⟨h, k1, k2⟩
theorem fk_end {F : Int → Int → Int} {n a kk c : Int} {go gf : Nat → Int32} (hn : 0 ≤ n ∧ n ≤ 5) (hF : FOK F n) (a0 : 0 ≤ a ∧ a ≤ 5460) (h : FQ (wsI F (nM 0) n a kk.toNat) c go gf) (hk : (0 ≤ kk ∧ kk ≤ 5461) ∧ c ≤ kk) : FQ (wsA F n a) c go gf ∧ WSK (wsA F n a) ∧ 1 ≤ (wsA F n a).1 := by
  obtain ⟨k1, k2, -⟩ := wsI_k (M := nM 0) hF hn.1 a0.1 a0.2 kk.toNat
  have h1 := h.1
  have e := wsI_F (F := F) (M := nM 0) (n := n) (a := a) (i := kk.toNat) (by omega) (by omega)
  have e2 : wsF F (nM 0) n a = wsA F n a := wsI_c (fun r r0 r1 => no_h r0 (by omega)) 5461
  rw [e2] at e
  rw [e] at h k1 k2
  exact ⟨h, k1, k2⟩
noncomputable def reaV (F : Int → Int → Int) (n a most : Int) : Int := if 0 ≤ a ∧ a ≤ 5460 then (if most = 0 then (wsA F n a).1 else (wsA F n a).2.2.1 ((wsA F n a).2.1 ((wsA F n a).1 - 1))) else -1
theorem rea_n {F : Int → Int → Int} {n a m : Int} (h : ¬ (0 ≤ a ∧ a ≤ 5460)) : reaV F n a m = -1 := if_neg h
theorem rea_s {F : Int → Int → Int} {n a m : Int} (h : 0 ≤ a ∧ a ≤ 5460) (hm : m = 0) : reaV F n a m = (wsA F n a).1 := (if_pos h).trans (if_pos hm)
theorem rea_f {F : Int → Int → Int} {n a m : Int} (h : 0 ≤ a ∧ a ≤ 5460) (hm : m ≠ 0) : reaV F n a m = (wsA F n a).2.2.1 ((wsA F n a).2.1 ((wsA F n a).1 - 1)) := (if_pos h).trans (if_neg hm)
/-- RING -/
noncomputable def RGS (s : WS) (F : Int → Int → Int) (n a v : Int) : Prop := (v = -1 ∧ ∀ t r : Int, rch s t → 0 ≤ r → r < n → F r t ≠ a) ∨ ∃ t r : Int, (rch s t ∧ 0 ≤ r ∧ r < n ∧ F r t = a) ∧ v = s.2.2.1 t + 1 ∧ ∀ t' r' : Int, rch s t' → 0 ≤ r' → r' < n → F r' t' = a → s.2.2.1 t ≤ s.2.2.1 t'
theorem rgs_u {s : WS} {F : Int → Int → Int} {n a : Int} : ∀ v v', RGS s F n a v → RGS s F n a v' → v = v' := by
  rintro v v' (⟨e, h⟩ | ⟨t, r, ⟨h1, h2, h3, h4⟩, e, h⟩) (⟨e', h'⟩ | ⟨t', r', ⟨h1', h2', h3', h4'⟩, e', h'⟩)
  · omega
  · exact absurd h4' (h t' r' h1' h2' h3')
  · exact absurd h4 (h' t r h1 h2 h3)
  · have := h t' r' h1' h2' h3' h4'
    have := h' t r h1 h2 h3 h4
    omega
noncomputable def rinV (F : Int → Int → Int) (n a : Int) : Int := if 0 ≤ a ∧ a ≤ 5460 then EPS (RGS (wsA F n a) F n a) else -1
theorem rin_n {F : Int → Int → Int} {n a : Int} (h : ¬ (0 ≤ a ∧ a ≤ 5460)) : rinV F n a = -1 := if_neg h
theorem rin_y {F : Int → Int → Int} {n a v : Int} (h : 0 ≤ a ∧ a ≤ 5460) (hr : RGS (wsA F n a) F n a v) : v = rinV F n a := (eps_e rgs_u hr).trans (if_pos h).symm
theorem rg_y {s : WS} {F : Int → Int → Int} {n a ii rr v : Int} (hk : WSK s) (i0 : 0 ≤ ii) (i1 : ii < s.1) (r0 : 0 ≤ rr) (r1 : rr < n) (hf : F rr (s.2.1 ii) = a) (h : ∀ j r : Int, 0 ≤ j → j < ii → 0 ≤ r → r < n → F r (s.2.1 j) ≠ a) (hv : v = s.2.2.1 (s.2.1 ii) + 1) : RGS s F n a v := by
  have hq := hk.2.1 ii i0 i1
  refine Or.inr ⟨s.2.1 ii, rr, ⟨hq, r0, r1, hf⟩, hv, fun t' r' ht r0' r1' e => ?_⟩
  obtain ⟨j, hj, e2⟩ := hk.2.2.2.1 t' ht.1.1 ht.1.2 ht.2
  have hji : ii ≤ j := Classical.byContradiction fun hn => h j r' hj.1 (by omega) r0' r1' (by rw [e2]; exact e)
  have := hk.2.2.2.2.2 ii j i0 hji hj.2
  rwa [e2] at this
theorem rg_n {s : WS} {F : Int → Int → Int} {n a ii : Int} (hk : WSK s) (e : ii = s.1) (h : ∀ j r : Int, 0 ≤ j → j < ii → 0 ≤ r → r < n → F r (s.2.1 j) ≠ a) : RGS s F n a (-1) := by
  refine Or.inl ⟨rfl, fun t r ht r0 r1 => ?_⟩
  obtain ⟨j, hj, e2⟩ := hk.2.2.2.1 t ht.1.1 ht.1.2 ht.2
  rw [← e2]
  exact h j r hj.1 (by omega) r0 r1
/-- the reference looks at every reader and text in turn -/
noncomputable def RGL (s : WS) (F : Int → Int → Int) (a k b : Int) : Prop := (b = 1000000 ∧ ∀ j : Int, 0 ≤ j → j < k → F (j / 5461) (j % 5461) = a → s.2.2.1 (j % 5461) = -1) ∨ ∃ j : Int, (0 ≤ j ∧ j < k) ∧ F (j / 5461) (j % 5461) = a ∧ s.2.2.1 (j % 5461) ≠ -1 ∧ b = s.2.2.1 (j % 5461) + 1 ∧ ∀ i : Int, 0 ≤ i → i < k → F (i / 5461) (i % 5461) = a → s.2.2.1 (i % 5461) ≠ -1 → s.2.2.1 (j % 5461) ≤ s.2.2.1 (i % 5461)
theorem rgl_0 {s : WS} {F : Int → Int → Int} {a : Int} : RGL s F a 0 1000000 := Or.inl ⟨rfl, fun j j0 j1 => by omega⟩
theorem rgl_n {s : WS} {F : Int → Int → Int} {a k b : Int} (h : RGL s F a k b) (hk : ¬ F (k / 5461) (k % 5461) = a) : RGL s F a (k + 1) b := by
  have h1 : ∀ j : Int, j < k + 1 → F (j / 5461) (j % 5461) = a → j < k := fun j hj e => Classical.byContradiction fun hn => hk (by rw [show k = j by omega]; exact e)
  rcases h with ⟨e, h⟩ | ⟨j, hj, e1, e2, e3, h⟩
  · exact Or.inl ⟨e, fun j j0 j1 e2 => h j j0 (h1 j j1 e2) e2⟩
  · exact Or.inr ⟨j, ⟨hj.1, by omega⟩, e1, e2, e3, fun i i0 i1 e4 => h i i0 (h1 i i1 e4) e4⟩
theorem rgl_y {s : WS} {F : Int → Int → Int} {a k b m x : Int} (h : RGL s F a k b) (k0 : 0 ≤ k) (hf : F (k / 5461) (k % 5461) = a) (hx : (x = 1000000 ∧ s.2.2.1 (k % 5461) = -1) ∨ (x = s.2.2.1 (k % 5461) ∧ 0 ≤ s.2.2.1 (k % 5461) ∧ s.2.2.1 (k % 5461) ≤ 5460)) (hb : b ≤ 1000000) (hm : (m = b ∧ b ≤ x + 1) ∨ (m = x + 1 ∧ x + 1 ≤ b)) : RGL s F a (k + 1) m := by
  have split1 : ∀ i : Int, i < k + 1 → i = k ∨ i < k := fun i hi => by omega
  rcases h with ⟨e, h⟩ | ⟨j, hj, e1, e2, e3, h⟩
  · rcases hx with ⟨x1, x2⟩ | ⟨x1, x2, x3⟩
    · refine Or.inl ⟨by omega, fun i i0 i1 e4 => ?_⟩
      rcases split1 i i1 with rfl | i2
      · exact x2
      · exact h i i0 i2 e4
    · refine Or.inr ⟨k, ⟨k0, by omega⟩, hf, by omega, by omega, fun i i0 i1 e4 e5 => ?_⟩
      rcases split1 i i1 with rfl | i2
      · exact Int.le_refl _
      · exact absurd (h i i0 i2 e4) e5
  · rcases hx with ⟨x1, x2⟩ | ⟨x1, x2, x3⟩
    · refine Or.inr ⟨j, ⟨hj.1, by omega⟩, e1, e2, by omega, fun i i0 i1 e4 e5 => ?_⟩
      rcases split1 i i1 with rfl | i2
      · exact absurd x2 e5
      · exact h i i0 i2 e4 e5
    · by_cases c : s.2.2.1 (j % 5461) ≤ s.2.2.1 (k % 5461)
      · refine Or.inr ⟨j, ⟨hj.1, by omega⟩, e1, e2, by omega, fun i i0 i1 e4 e5 => ?_⟩
        rcases split1 i i1 with rfl | i2
        · exact c
        · exact h i i0 i2 e4 e5
      · refine Or.inr ⟨k, ⟨k0, by omega⟩, hf, by omega, by omega, fun i i0 i1 e4 e5 => ?_⟩
        rcases split1 i i1 with rfl | i2
        · exact Int.le_refl _
        · have := h i i0 i2 e4 e5
          omega
theorem rgl_e {s : WS} {F : Int → Int → Int} {n a k b : Int} (h : RGL s F a k b) (hk : WSK s) (hn : 0 ≤ n ∧ n ≤ 5) (e : k = 5461 * n) : (b < 1000000 → RGS s F n a b) ∧ (1000000 ≤ b → RGS s F n a (-1)) := by
  have lin : ∀ t r : Int, rch s t → 0 ≤ r → r < n → F r t = a → (0 ≤ 5461 * r + t ∧ 5461 * r + t < k) ∧ F ((5461 * r + t) / 5461) ((5461 * r + t) % 5461) = a ∧ s.2.2.1 ((5461 * r + t) % 5461) = s.2.2.1 t := fun t r ht r0 r1 hf => by
    have ht2 := ht.1
    have e1 : (5461 * r + t) / 5461 = r := by omega
    have e2 : (5461 * r + t) % 5461 = t := by omega
    rw [e1, e2]
    exact ⟨⟨by omega, by omega⟩, hf, rfl⟩
  have bnd := hk.2.2.1
  have b1 := hk.1
  rcases h with ⟨e0, h⟩ | ⟨j, hj, e1, e2, e3, h⟩
  · refine ⟨fun z => by omega, fun _ => Or.inl ⟨rfl, fun t r ht r0 r1 hf => ?_⟩⟩
    obtain ⟨l1, l2, l3⟩ := lin t r ht r0 r1 hf
    have := h _ l1.1 l1.2 l2
    rw [l3] at this
    exact ht.2 this
  · have := bnd (j % 5461)
    refine ⟨fun _ => Or.inr ⟨j % 5461, j / 5461, ⟨⟨⟨by omega, by omega⟩, e2⟩, by omega, by omega, e1⟩, e3, fun t r ht r0 r1 hf => ?_⟩, fun z => by omega⟩
    obtain ⟨l1, l2, l3⟩ := lin t r ht r0 r1 hf
    have := h _ l1.1 l1.2 l2 (by rw [l3]; exact ht.2)
    rwa [l3] at this
/-- JOINED -/
noncomputable def jnS (s s2 : WS) (t : Int) : Prop := rch s t ∧ rch s2 t
noncomputable def jnF (s s2 : WS) (t : Int) : Int := s.2.2.1 t + s2.2.2.1 t
noncomputable def JNR (s s2 : WS) (num e : Int) : Prop := ∃ b : Int, ISM (jnS s s2) (jnF s s2) b ∧ e = if num ≠ 0 ∨ b = -1 then b else jnF s s2 b
theorem jnr_u {s s2 : WS} {num : Int} : ∀ v v', JNR s s2 num v → JNR s s2 num v' → v = v' := by
  rintro v v' ⟨b, h, e⟩ ⟨b', h', e'⟩
  rw [e, e', ism_u h h']
noncomputable def joiV (F : Int → Int → Int) (n a b num : Int) : Int := if (0 ≤ a ∧ a ≤ 5460) ∧ (0 ≤ b ∧ b ≤ 5460) then EPS (JNR (wsA F n a) (wsA F n b) num) else -1
theorem joi_n {F : Int → Int → Int} {n a b m : Int} (h : ¬ ((0 ≤ a ∧ a ≤ 5460) ∧ (0 ≤ b ∧ b ≤ 5460))) : joiV F n a b m = -1 := if_neg h
theorem joi_y {F : Int → Int → Int} {n a b m v : Int} (h : (0 ≤ a ∧ a ≤ 5460) ∧ (0 ≤ b ∧ b ≤ 5460)) (hr : JNR (wsA F n a) (wsA F n b) m v) : v = joiV F n a b m := (eps_e jnr_u hr).trans (if_pos h).symm
/-- NEAREST -/
noncomputable def NRR (s : WS) (to num e : Int) : Prop := ∃ b : Int, ISM (rch s) (fun t => dft t to) b ∧ e = if num ≠ 0 then b else dft b to
theorem nrr_u {s : WS} {to num : Int} : ∀ v v', NRR s to num v → NRR s to num v' → v = v' := by
  rintro v v' ⟨b, h, e⟩ ⟨b', h', e'⟩
  rw [e, e', ism_u h h']
noncomputable def neaV (F : Int → Int → Int) (n a b num : Int) : Int := if (0 ≤ a ∧ a ≤ 5460) ∧ (0 ≤ b ∧ b ≤ 5460) then EPS (NRR (wsA F n a) b num) else -1
theorem nea_n {F : Int → Int → Int} {n a b m : Int} (h : ¬ ((0 ≤ a ∧ a ≤ 5460) ∧ (0 ≤ b ∧ b ≤ 5460))) : neaV F n a b m = -1 := if_neg h
theorem nea_y {F : Int → Int → Int} {n a b m v : Int} (h : (0 ≤ a ∧ a ≤ 5460) ∧ (0 ≤ b ∧ b ≤ 5460)) (hr : NRR (wsA F n a) b m v) : v = neaV F n a b m := (eps_e nrr_u hr).trans (if_pos h).symm
/-- SETTLES -/
noncomputable def stS (s : WS) (F : Int → Int → Int) (n t : Int) : Prop := rch s t ∧ kpU F (bShl 1 n - 1) t n.toNat = true
noncomputable def SER (s : WS) (F : Int → Int → Int) (n which e : Int) : Prop := ∃ b : Int, ISM (stS s F n) s.2.2.1 b ∧ e = if which ≠ 0 ∨ b = -1 then b else s.2.2.1 b
theorem ser_u {s : WS} {F : Int → Int → Int} {n w : Int} : ∀ v v', SER s F n w v → SER s F n w v' → v = v' := by
  rintro v v' ⟨b, h, e⟩ ⟨b', h', e'⟩
  rw [e, e', ism_u h h']
noncomputable def setV (F : Int → Int → Int) (n a w : Int) : Int := if 0 ≤ a ∧ a ≤ 5460 then EPS (SER (wsA F n a) F n w) else -1
theorem set_n {F : Int → Int → Int} {n a w : Int} (h : ¬ (0 ≤ a ∧ a ≤ 5460)) : setV F n a w = -1 := if_neg h
theorem set_y {F : Int → Int → Int} {n a w v : Int} (h : 0 ≤ a ∧ a ≤ 5460) (hr : SER (wsA F n a) F n w v) : v = setV F n a w := (eps_e ser_u hr).trans (if_pos h).symm
/-- a walk that is long enough: what comes later is no nearer -/
theorem st_far {s : WS} {P : Int → Prop} {i b : Int} (hk : WSK s) (h : ISM (qS s P i) s.2.2.1 b) (hb : b ≠ -1) (i0 : 0 ≤ i) (i1 : i < s.1) (hf : s.2.2.1 b < s.2.2.1 (s.2.1 i)) : ISM (fun t => rch s t ∧ P t) s.2.2.1 b := by
  rcases h with ⟨e, -⟩ | ⟨b0, hs, h⟩
  · exact absurd e hb
  · obtain ⟨⟨j, hj, e⟩, hp⟩ := hs
    have hq := hk.2.1 j hj.1 (by omega)
    rw [e] at hq
    refine Or.inr ⟨b0, ⟨hq, hp⟩, fun t ht => ?_⟩
    obtain ⟨k, hk1, e2⟩ := hk.2.2.2.1 t ht.1.1.1 ht.1.1.2 ht.1.2
    by_cases c : k < i
    · exact h t ⟨⟨k, ⟨hk1.1, c⟩, e2⟩, ht.2⟩
    · have := hk.2.2.2.2.2 i k i0 (by omega) hk1.2
      rw [e2] at this
      exact Or.inl (by omega)
theorem hs_t2 {a b : Int} (h : hHas a b ≠ 0) (h1 : 0 ≤ a ∧ a ≤ 31) (h2 : 0 ≤ b ∧ b ≤ 4) : bS a b = true := bm_t (hs_e h1 h2) h
theorem near_0 {s : WS} {to v : Int} (v0 : 0 ≤ v) (v1 : v ≤ 5460) (e : s.2.1 0 = v) : ISM (qS s (fun _ => True) 1) (fun t => dft t to) v := by
  show ISM (qS s (fun _ => True) (0 + 1)) (fun t => dft t to) v
  exact ism_n (b := -1) (S := qS s (fun _ => True) 0) (ism_0 (fun t z => by obtain ⟨⟨j, hj, -⟩, -⟩ := z; omega)) (fun x => by rw [← e]; exact qS_s (by omega) trivial x) v0 (Or.inl rfl)
theorem near_k {s : WS} {to best lv ii t : Int} (h : ISM (qS s (fun _ => True) ii) (fun t => dft t to) best) (i0 : 0 ≤ ii) (qe : t = s.2.1 ii) (hl : lv = dft best to) (h12 : ¬ dft t to < lv ∧ ¬ (dft t to = lv ∧ t < best)) (hb : best ≠ -1) : ISM (qS s (fun _ => True) (ii + 1)) (fun t => dft t to) best := ism_k (t := t) h (fun x => by rw [qe]; exact qS_s i0 trivial x) hb (by (try dsimp only); rw [← hl]; exact h12.1) (by (try dsimp only); rw [← hl]; exact h12.2)
theorem near_n {s : WS} {to best lv ii t : Int} (h : ISM (qS s (fun _ => True) ii) (fun t => dft t to) best) (i0 : 0 ≤ ii) (qe : t = s.2.1 ii) (hl : lv = dft best to) (h12 : (dft t to < lv ∨ (dft t to = lv ∧ t < best)) ∧ 0 ≤ t) : ISM (qS s (fun _ => True) (ii + 1)) (fun t => dft t to) t := ism_n (t := t) h (fun x => by rw [qe]; exact qS_s i0 trivial x) h12.2 (Or.inr (by (try dsimp only); rw [← hl]; exact h12.1))
theorem near_e {s : WS} {ii : Int} (hk : WSK s) (e : ii = s.1) (x : Int) : qS s (fun _ => True) ii x ↔ rch s x := (qS_e hk e x).trans ⟨fun h => h.1, fun h => ⟨h, trivial⟩⟩
theorem qS_b {s : WS} {P : Int → Prop} {f : Int → Int} {ii best : Int} (hk : WSK s) (h : ISM (qS s P ii) f best) (i1 : ii ≤ s.1) (z : best ≠ -1) : rch s best := by
  rcases h with ⟨e, -⟩ | ⟨-, ⟨⟨j, hj, e⟩, -⟩, -⟩
  · exact absurd e z
  · have := hk.2.1 j hj.1 (by omega)
    rw [e] at this
    exact this
theorem set_le {s : WS} {P : Int → Prop} {ii best : Int} (hk : WSK s) (h : ISM (qS s P ii) s.2.2.1 best) (z : best ≠ -1) (i0 : 0 ≤ ii) (i1 : ii < s.1) : s.2.2.1 best ≤ s.2.2.1 (s.2.1 ii) := by
  rcases h with ⟨e, -⟩ | ⟨-, ⟨⟨j, hj, e⟩, -⟩, -⟩
  · exact absurd e z
  · have := hk.2.2.2.2.2 j ii hj.1 (by omega) i1
    rwa [e] at this
theorem set_nw {s : WS} {P : Int → Prop} {ii best t : Int} (hk : WSK s) (h : ISM (qS s P ii) s.2.2.1 best) (i0 : 0 ≤ ii) (i1 : ii < s.1) (qe : t = s.2.1 ii) (hP : P t) (hf : best ≠ -1 → s.2.2.1 best ≤ s.2.2.1 (s.2.1 ii) ∧ s.2.2.1 (s.2.1 ii) ≤ s.2.2.1 best) (hc : best = -1 ∨ t < best) : ISM (qS s P (ii + 1)) s.2.2.1 t := by
  have hq := (hk.2.1 ii i0 i1).1
  refine ism_n (t := t) h (fun x => by rw [qe]; exact qS_s i0 (by rw [← qe]; exact hP) x) (by omega) ?_
  by_cases e : best = -1
  · exact Or.inl e
  · have h1 := hf e
    rw [← qe] at h1
    exact Or.inr (Or.inr ⟨by omega, by omega⟩)
theorem set_kp {s : WS} {P : Int → Prop} {ii best t : Int} (hk : WSK s) (h : ISM (qS s P ii) s.2.2.1 best) (i0 : 0 ≤ ii) (i1 : ii < s.1) (qe : t = s.2.1 ii) (hb : best ≠ -1) (hf : best ≠ -1 → s.2.2.1 best ≤ s.2.2.1 (s.2.1 ii) ∧ s.2.2.1 (s.2.1 ii) ≤ s.2.2.1 best) (hn : ¬ t < best) : ISM (qS s P (ii + 1)) s.2.2.1 best := by
  have h1 := hf hb
  rw [← qe] at h1
  by_cases c : P t
  · exact ism_k (t := t) h (fun x => by rw [qe]; exact qS_s i0 (by rw [← qe]; exact c) x) hb (by omega) (by omega)
  · exact ism_c h (qS_n (by rw [← qe]; exact c))
theorem set_sk {s : WS} {F : Int → Int → Int} {m : Int} {n : Nat} {ii best t : Int} (h : ISM (qS s (fun t => kpU F m t n = true) ii) s.2.2.1 best) (qe : t = s.2.1 ii) (hf : kpU F m t n = false) : ISM (qS s (fun t => kpU F m t n = true) (ii + 1)) s.2.2.1 best := ism_c h (qS_n (fun z => by
  have z2 : kpU F m (s.2.1 ii) n = true := z
  rw [← qe, hf] at z2
  cases z2))
theorem nM_t {a b : Int} (h : hHas a b ≠ 1) : nM a b = true := decide_eq_true h
theorem nM_f {a b : Int} (h : hHas a b = 1) : nM a b = false := decide_eq_false (fun z => z h)
theorem rm_ok {g : Nat → Int32} {n : Int} {F : Int → Int → Int} (h : RMF g n F) : FOK F n := fun r t r0 r1 t0 t1 => (h r t r0 r1 t0 t1).2
theorem tn_n {S : Int → Prop} {f : Int → Int} {best tt : Int} (h : ISM (uS S tt) f best) (t0 : 0 ≤ tt) (hp : S tt) (hc : best = -1 ∨ f tt < f best) : ISM (uS S (tt + 1)) f tt := ism_n (t := tt) h (fun x => uS_s t0 hp x) t0 (hc.elim Or.inl fun z => Or.inr (Or.inl z))
theorem tn_k {S : Int → Prop} {f : Int → Int} {best tt : Int} (h : ISM (uS S tt) f best) (t0 : 0 ≤ tt) (hp : S tt) (hb : best ≠ -1) (h1 : ¬ f tt < f best) : ISM (uS S (tt + 1)) f best := ism_k (t := tt) h (fun x => uS_s t0 hp x) hb h1 (by have := uS_b h t0; omega)
theorem tn_s {S : Int → Prop} {f : Int → Int} {best tt : Int} (h : ISM (uS S tt) f best) (hp : ¬ S tt) : ISM (uS S (tt + 1)) f best := ism_c h (fun x => uS_n hp x)
theorem td_n {S : Int → Prop} {best tt to : Int} (h : ISM (uS S tt) (fun t => dft t to) best) (t0 : 0 ≤ tt) (hp : S tt) (hc : best = -1 ∨ dft tt to < dft best to) : ISM (uS S (tt + 1)) (fun t => dft t to) tt := tn_n h t0 hp hc
theorem td_k {S : Int → Prop} {best tt to : Int} (h : ISM (uS S tt) (fun t => dft t to) best) (t0 : 0 ≤ tt) (hp : S tt) (hb : best ≠ -1) (h1 : ¬ dft tt to < dft best to) : ISM (uS S (tt + 1)) (fun t => dft t to) best := tn_k h t0 hp hb h1
theorem uS_0 {S : Int → Prop} {f : Int → Int} : ISM (uS S 0) f (-1) := ism_0 (fun t z => by have := z.1; omega)
theorem rch_y {s : WS} {t : Int} (t0 : 0 ≤ t) (t1 : t ≤ 5460) (h : s.2.2.1 t ≠ -1) : rch s t := ⟨⟨t0, t1⟩, h⟩
theorem rch_n {s : WS} {t : Int} (h : s.2.2.1 t = -1) : ¬ rch s t := fun z => z.2 h
theorem ts_ge {s : WS} {F : Int → Int → Int} {n best few tt x : Int} (h : ISM (uS (stS s F n) tt) s.2.2.1 best) (t0 : 0 ≤ tt) (hf : (best = -1 ∧ few = 1000000) ∨ (0 ≤ best ∧ few = s.2.2.1 best ∧ few ≤ 5460)) (hx : (x = 1000000 ∧ s.2.2.1 tt = -1) ∨ (x = s.2.2.1 tt ∧ 0 ≤ s.2.2.1 tt ∧ s.2.2.1 tt ≤ 5460)) (hc : few ≤ x) : ISM (uS (stS s F n) (tt + 1)) s.2.2.1 best := by
  by_cases hp : stS s F n tt
  · have := hp.1.2
    exact tn_k h t0 hp (by omega) (by omega)
  · exact tn_s h hp
theorem st_no {s : WS} {F : Int → Int → Int} {n t : Int} (h : kpU F (bShl 1 n - 1) t n.toNat = false) : ¬ stS s F n t := fun z => by
  have z2 := z.2
  rw [h] at z2
  cases z2
theorem w_bad {B G : Prop} {V : Int} (h : B ∨ G) (hv : V = -1) : (B ∧ (-1 : Int) = -1) ∨ (G ∧ (-1 : Int) = V) := by
  rcases h with h | h
  · exact Or.inl ⟨h, rfl⟩
  · exact Or.inr ⟨h, hv.symm⟩
theorem rea_q {F : Int → Int → Int} {n a c : Int} {go gf : Nat → Int32} (h : FQ (wsA F n a) c go gf) (hk : WSK (wsA F n a)) (h1 : 1 ≤ (wsA F n a).1) : tBy gf (tBy go (c - 1)) = (wsA F n a).2.2.1 ((wsA F n a).2.1 ((wsA F n a).1 - 1)) := by
  have e := h.2.1 ((wsA F n a).1 - 1) (by omega) (by omega)
  have hq := hk.2.1 ((wsA F n a).1 - 1) (by omega) (by omega)
  rw [h.1, e]
  rcases FQ_t h hk hq.1.1 hq.1.2 with ⟨-, e2⟩ | ⟨e2, -⟩
  · exact absurd e2 hq.2
  · exact e2
/-- SILENCED -/
noncomputable def pcN (s : Int) : Nat → Int
  | 0 => 0
  | r + 1 => pcN s r + (if hHas s (r : Int) = 1 then 1 else 0)
theorem pc_s {s r : Int} (r0 : 0 ≤ r) : pcN s (r + 1).toNat = pcN s r.toNat + (if hHas s r = 1 then 1 else 0) := by
  rw [show (r + 1).toNat = r.toNat + 1 by omega]
  show pcN s r.toNat + (if hHas s ((r.toNat : Nat) : Int) = 1 then 1 else 0) = _
  rw [Int.toNat_of_nonneg r0]
theorem pc_a : ∀ n : Nat, n < 6 → ∀ s : Nat, s < 32 → (s : Int) ≤ bShl 1 (n : Int) - 1 → pcN (s : Int) n = pcN (s : Int) 5 ∧ pcN (s : Int) 5 ≤ (n : Int) ∧ 0 ≤ pcN (s : Int) 5 := by decide +kernel
theorem pc_n {n s : Int} (hn : 0 ≤ n ∧ n ≤ 5) (s0 : 0 ≤ s) (s1 : s ≤ bShl 1 n - 1) : pcN s n.toNat = pcN s 5 ∧ pcN s 5 ≤ n ∧ 0 ≤ pcN s 5 := by
  have hb := shl_b hn
  obtain ⟨a, rfl⟩ := Int.eq_ofNat_of_zero_le hn.1
  obtain ⟨b, rfl⟩ := Int.eq_ofNat_of_zero_le s0
  exact pc_a a (by omega) b (by omega) s1
theorem sm_a : ∀ n : Nat, n < 6 → ∀ s : Nat, s < 32 → (0 ≤ bAnd (bShl 1 (n : Int) - 1) (bXor (s : Int) (-1)) ∧ bAnd (bShl 1 (n : Int) - 1) (bXor (s : Int) (-1)) ≤ 31) ∧ ∀ r : Nat, r < n → (hHas (bAnd (bShl 1 (n : Int) - 1) (bXor (s : Int) (-1))) (r : Int) = 1 ↔ hHas (s : Int) (r : Int) ≠ 1) := by decide +kernel
theorem sm_r {n s : Int} (hn : 0 ≤ n ∧ n ≤ 5) (s0 : 0 ≤ s) (s1 : s ≤ 31) : (0 ≤ bAnd (bShl 1 n - 1) (bXor s (-1)) ∧ bAnd (bShl 1 n - 1) (bXor s (-1)) ≤ 31) ∧ ∀ r : Int, 0 ≤ r → r < n → hM (bAnd (bShl 1 n - 1) (bXor s (-1))) r = nM s r := by
  obtain ⟨a, rfl⟩ := Int.eq_ofNat_of_zero_le hn.1
  obtain ⟨b, rfl⟩ := Int.eq_ofNat_of_zero_le s0
  obtain ⟨h1, h2⟩ := sm_a a (by omega) b (by omega)
  refine ⟨h1, fun r r0 r1 => ?_⟩
  obtain ⟨c, rfl⟩ := Int.eq_ofNat_of_zero_le r0
  unfold hM nM
  exact decide_eq_decide.mpr (h2 c (by omega))
theorem wsI_m {F : Int → Int → Int} {M : Int → Bool} {n a t : Int} {i : Nat} (h : (wsI F M n a i).2.2.1 t ≠ -1) : ∀ k : Nat, (wsI F M n a (i + k)).2.2.1 t ≠ -1
  | 0 => h
  | k + 1 => by
    have ih := wsI_m h k
    have hr : ∀ (x : Int) (r : Nat), (wsR F M x (wsI F M n a (i + k)) r).2.2.1 t ≠ -1 := fun x r => by
      induction r with
      | zero => exact ih
      | succ r ih2 =>
        show (if M (r : Int) = true then wsC _ _ _ _ _ else _ : WS).2.2.1 t ≠ -1
        by_cases c : M (r : Int) = true
        · rw [if_pos c, (wsC_m ih2).1]
          exact ih2
        · rw [if_neg c]
          exact ih2
    show (if ((i + k : Nat) : Int) < (wsI F M n a (i + k)).1 then _ else _ : WS).2.2.1 t ≠ -1
    by_cases c : ((i + k : Nat) : Int) < (wsI F M n a (i + k)).1
    · rw [if_pos c]
      exact hr _ _
    · rw [if_neg c]
      exact ih
theorem wsI_mm {F : Int → Int → Int} {M : Int → Bool} {n a t : Int} {i m : Nat} (h : (wsI F M n a i).2.2.1 t ≠ -1) (hi : i ≤ m) : (wsI F M n a m).2.2.1 t ≠ -1 := by
  have h2 := wsI_m h (m - i)
  rwa [show i + (m - i) = m by omega] at h2
theorem wsF_e {F : Int → Int → Int} {M : Int → Bool} {n a : Int} : wsI F M n a 5461 = wsF F M n a := rfl
theorem wsI_mF {F : Int → Int → Int} {M : Int → Bool} {n a t : Int} {i : Nat} (h : (wsI F M n a i).2.2.1 t ≠ -1) (hi : i ≤ 5461) : (wsF F M n a).2.2.1 t ≠ -1 := by
  have h2 := wsI_mm h hi
  rw [wsF_e] at h2
  exact h2
/-- a walk that may end at a goal -/
theorem wk_goal {F : Int → Int → Int} {M M' : Int → Bool} {n a kk sz g : Int} {g1 g2 g3 g4 : Nat → Int32} (hn : 0 ≤ n ∧ n ≤ 5) (hF : FOK F n) (a0 : 0 ≤ a ∧ a ≤ 5460) (hm : ∀ r : Int, 0 ≤ r → r < n → M r = M' r) (h : WQ (wsI F M n a kk.toNat) sz g1 g2 g3 g4) (hk : (0 ≤ kk ∧ kk ≤ 5461) ∧ (sz ≤ kk ∨ (kk < sz ∧ tBy g1 kk = g))) (hg : 0 ≤ g ∧ g ≤ 5460) : (tBy g2 g = -1 ↔ (wsF F M' n a).2.2.1 g = -1) ∧ WQ0 sz g1 g2 := by
  obtain ⟨k1, k2, -⟩ := wsI_k (M := M) hF hn.1 a0.1 a0.2 kk.toNat
  have h1 := h.1
  have e2 : wsF F M n a = wsF F M' n a := wsI_c hm 5461
  have e3 := h.2.2.1 g hg.1 hg.2
  refine ⟨?_, ⟨by have := k1.1; omega, by have := k1.1; omega⟩, fun j j0 j1 => ?_, fun t t0 t1 ht => ?_⟩
  · rw [← e2, e3]
    by_cases hs : sz ≤ kk
    · rw [wsI_F (F := F) (M := M) (n := n) (a := a) (i := kk.toNat) (by omega) (by omega)]
    · obtain ⟨h2, h3⟩ := hk.2.resolve_left hs
      have e := h.2.1 kk hk.1.1 (by omega)
      have hq := (k1.2.1 kk hk.1.1 (by omega)).2
      rw [← e, h3] at hq
      have hq3 := wsI_mF hq (by omega)
      exact ⟨fun z => absurd z hq, fun z => absurd z hq3⟩
  · have hq := (k1.2.1 j j0 (by omega)).1
    rw [h.2.1 j j0 (by omega)]
    exact hq
  · rw [h.2.2.1 t t0 t1] at ht
    obtain ⟨j, hj, e⟩ := k1.2.2.2.1 t t0 t1 ht
    exact ⟨j, ⟨hj.1, by omega⟩, by rw [h.2.1 j hj.1 hj.2, e]⟩
noncomputable def SIL (F : Int → Int → Int) (n a b : Int) (set : Int) : Prop := (0 ≤ set ∧ set ≤ bShl 1 n - 1) ∧ (wsF F (nM set) n a).2.2.1 b = -1
noncomputable def silV (F : Int → Int → Int) (n a b : Int) : Int := if ((0 ≤ a ∧ a ≤ 5460) ∧ (0 ≤ b ∧ b ≤ 5460)) ∧ a ≠ b then EPS (ISM (SIL F n a b) (fun s => pcN s 5)) else -1
theorem sil_n {F : Int → Int → Int} {n a b : Int} (h : ¬ (((0 ≤ a ∧ a ≤ 5460) ∧ (0 ≤ b ∧ b ≤ 5460)) ∧ a ≠ b)) : silV F n a b = -1 := if_neg h
theorem sil_y {F : Int → Int → Int} {n a b v : Int} (h : ((0 ≤ a ∧ a ≤ 5460) ∧ (0 ≤ b ∧ b ≤ 5460)) ∧ a ≠ b) (hr : ISM (SIL F n a b) (fun s => pcN s 5) v) : v = silV F n a b := (eps_e (fun _ _ x y => ism_u x y) hr).trans (if_pos h).symm
theorem sl_f {F : Int → Int → Int} {n a b mm wo : Int} (h : ∀ s, SIL F n a b s → mm ≤ pcN s 5 ∧ (pcN s 5 = mm → wo ≤ s)) (w0 : 0 ≤ wo) (hs : SIL F n a b wo) (hp : pcN wo 5 = mm) : ISM (SIL F n a b) (fun s => pcN s 5) wo := by
  refine Or.inr ⟨w0, hs, fun t ht => ?_⟩
  have := h t ht
  dsimp only
  rw [hp]
  by_cases c : pcN t 5 = mm
  · exact Or.inr ⟨c.symm, this.2 c⟩
  · exact Or.inl (by omega)
theorem sl_i {F : Int → Int → Int} {n a b mm wo : Int} (h : ∀ s, SIL F n a b s → mm ≤ pcN s 5 ∧ (pcN s 5 = mm → wo ≤ s)) (hn : pcN wo 5 ≠ mm ∨ ¬ SIL F n a b wo) : ∀ s, SIL F n a b s → mm ≤ pcN s 5 ∧ (pcN s 5 = mm → wo + 1 ≤ s) := fun s hs => by
  have := h s hs
  refine ⟨this.1, fun e => ?_⟩
  have h2 := this.2 e
  by_cases c : s = wo
  · rw [c] at e hs
    rcases hn with hn | hn
    · exact absurd e hn
    · exact absurd hs hn
  · omega
theorem sl_o {F : Int → Int → Int} {n a b mm wo : Int} (h : ∀ s, SIL F n a b s → mm ≤ pcN s 5 ∧ (pcN s 5 = mm → wo ≤ s)) (hw : bShl 1 n - 1 < wo) : ∀ s, SIL F n a b s → mm + 1 ≤ pcN s 5 := fun s hs => by
  have := h s hs
  by_cases c : pcN s 5 = mm
  · have := this.2 c
    have := hs.1.2
    omega
  · omega
theorem sl_e {F : Int → Int → Int} {n a b mm : Int} (hn : 0 ≤ n ∧ n ≤ 5) (h : ∀ s, SIL F n a b s → mm ≤ pcN s 5) (hm : n < mm) : ISM (SIL F n a b) (fun s => pcN s 5) (-1) := ism_0 (fun t ht => by
  have := h t ht
  have := (pc_n hn ht.1.1 ht.1.2).2.1
  omega)
theorem sl_ge {F : Int → Int → Int} {n a b best few set : Int} (h : ISM (uS (SIL F n a b) set) (fun s => pcN s 5) best) (s0 : 0 ≤ set) (hf : (best = -1 ∧ few = 1000000) ∨ (0 ≤ best ∧ few = pcN best 5)) (hc : few ≤ pcN set 5) (h5 : pcN set 5 ≤ 5) : ISM (uS (SIL F n a b) (set + 1)) (fun s => pcN s 5) best := by
  by_cases hp : SIL F n a b set
  · exact tn_k h s0 hp (by omega) (by (try dsimp only); omega)
  · exact tn_s h hp
theorem sl_nw {F : Int → Int → Int} {n a b best few set : Int} (h : ISM (uS (SIL F n a b) set) (fun s => pcN s 5) best) (s0 : 0 ≤ set) (hp : SIL F n a b set) (hf : (best = -1 ∧ few = 1000000) ∨ (0 ≤ best ∧ few = pcN best 5)) (hc : pcN set 5 < few) : ISM (uS (SIL F n a b) (set + 1)) (fun s => pcN s 5) set := tn_n h s0 hp (by (try dsimp only); omega)
theorem sl_te {F : Int → Int → Int} {n a b i : Int} (e : bShl 1 n - 1 < i) (x : Int) : uS (SIL F n a b) i x ↔ SIL F n a b x := ⟨fun h => h.2, fun h => ⟨⟨h.1.1, by have := h.1.2; omega⟩, h⟩⟩
theorem fk_goal {F : Int → Int → Int} {n a kk c set g : Int} {go gf : Nat → Int32} (hn : 0 ≤ n ∧ n ≤ 5) (hF : FOK F n) (a0 : 0 ≤ a ∧ a ≤ 5460) (h : FQ (wsI F (nM set) n a kk.toNat) c go gf) (hk : (0 ≤ kk ∧ kk ≤ 5461) ∧ c ≤ kk) (hg : 0 ≤ g ∧ g ≤ 5460) : (tBy gf g = 1000000 ↔ (wsF F (nM set) n a).2.2.1 g = -1) := by
  obtain ⟨k1, k2, -⟩ := wsI_k (M := nM set) hF hn.1 a0.1 a0.2 kk.toNat
  have h1 := h.1
  have e := wsI_F (F := F) (M := nM set) (n := n) (a := a) (i := kk.toNat) (by omega) (by omega)
  rw [e] at h k1
  rcases FQ_t h k1 hg.1 hg.2 with ⟨x, y⟩ | ⟨x, y, z⟩
  · exact ⟨fun _ => y, fun _ => x⟩
  · exact ⟨fun q => by omega, fun q => by omega⟩
