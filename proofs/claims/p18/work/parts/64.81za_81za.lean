/-! ORBITS of one reader, as pure functions of what it makes. -/
/-- end, order, what comes to a text, done, readings before -/
noncomputable abbrev FS := Int × (Int → Int) × (Int → Int) × (Int → Int) × (Int → Int)
noncomputable def GOK (G : Int → Int) : Prop := ∀ t : Int, 0 ≤ t → t ≤ 5460 → 0 ≤ G t ∧ G t ≤ 5460
noncomputable def ldP (G : Int → Int) (k : Nat) (x : Int) : Int := (cntP (fun t => decide (G (t : Int) = x)) k : Int)
theorem ld_s {G : Int → Int} {k x : Int} (k0 : 0 ≤ k) : ldP G (k + 1).toNat x = ldP G k.toNat x + (if G k = x then 1 else 0) := by
  rw [show (k + 1).toNat = k.toNat + 1 by omega]
  show ((cntP _ k.toNat + (if decide (G ((k.toNat : Nat) : Int) = x) = true then 1 else 0) : Nat) : Int) = _
  rw [Int.toNat_of_nonneg k0]
  unfold ldP
  by_cases c : G k = x
  · rw [if_pos (decide_eq_true c), if_pos c]
    omega
  · rw [if_neg (by rw [decide_eq_false c]; decide), if_neg c]
    omega
theorem ld_r {G : Int → Int} {k : Nat} {x : Int} : 0 ≤ ldP G k x ∧ ldP G k x ≤ k := by
  have := cn_le (fun t => decide (G (t : Int) = x)) k
  unfold ldP
  omega
noncomputable def zlN (c : Int → Int) : Nat → Int × (Int → Int)
  | 0 => (0, fun _ => 0)
  | k + 1 => if c (k : Int) = 0 then ((zlN c k).1 + 1, upI (zlN c k).2 (zlN c k).1 (k : Int)) else zlN c k
theorem zl_s {c : Int → Int} {k : Int} (k0 : 0 ≤ k) : zlN c (k + 1).toNat = if c k = 0 then ((zlN c k.toNat).1 + 1, upI (zlN c k.toNat).2 (zlN c k.toNat).1 k) else zlN c k.toNat := by
  rw [show (k + 1).toNat = k.toNat + 1 by omega]
  show (if c ((k.toNat : Nat) : Int) = 0 then ((zlN c k.toNat).1 + 1, upI (zlN c k.toNat).2 (zlN c k.toNat).1 ((k.toNat : Nat) : Int)) else zlN c k.toNat) = _
  rw [Int.toNat_of_nonneg k0]
theorem zl_k {c : Int → Int} : ∀ n : Nat, (zlN c n).1 = (cntP (fun t => decide (c (t : Int) = 0)) n : Int) ∧ (∀ j : Int, 0 ≤ j → j < (zlN c n).1 → (0 ≤ (zlN c n).2 j ∧ (zlN c n).2 j < n) ∧ c ((zlN c n).2 j) = 0) ∧ (∀ x : Int, 0 ≤ x → x < n → c x = 0 → ∃ j : Int, (0 ≤ j ∧ j < (zlN c n).1) ∧ (zlN c n).2 j = x) ∧ ∀ i j : Int, 0 ≤ i → i < j → j < (zlN c n).1 → (zlN c n).2 i < (zlN c n).2 j
  | 0 => ⟨rfl, fun j j0 j1 => by have : j < 0 := j1; omega, fun x x0 x1 => by omega, fun i j i0 ij j1 => by have : j < 0 := j1; omega⟩
  | n + 1 => by
    obtain ⟨h1, h2, h3, h4⟩ := zl_k (c := c) n
    have hc : cntP (fun t => decide (c (t : Int) = 0)) (n + 1) = cntP (fun t => decide (c (t : Int) = 0)) n + (if decide (c (n : Int) = 0) = true then 1 else 0) := rfl
    have e : zlN c (n + 1) = if c (n : Int) = 0 then ((zlN c n).1 + 1, upI (zlN c n).2 (zlN c n).1 (n : Int)) else zlN c n := rfl
    rw [e, hc]
    by_cases z : c (n : Int) = 0
    · rw [if_pos z, if_pos (decide_eq_true z)]
      refine ⟨by (try dsimp only); omega, fun j j0 j1 => ?_, fun x x0 x1 hx => ?_, fun i j i0 ij j1 => ?_⟩
      · (try dsimp only at j1 ⊢)
        by_cases e2 : j = (zlN c n).1
        · rw [e2, up_eq]
          exact ⟨⟨by omega, by omega⟩, z⟩
        · rw [up_ne e2]
          have := h2 j j0 (by omega)
          exact ⟨⟨this.1.1, by omega⟩, this.2⟩
      · (try dsimp only)
        by_cases e2 : x = (n : Int)
        · exact ⟨(zlN c n).1, ⟨by omega, by omega⟩, by rw [up_eq, e2]⟩
        · obtain ⟨j, hj, e3⟩ := h3 x x0 (by omega) hx
          exact ⟨j, ⟨hj.1, by omega⟩, by rw [up_ne (by omega)]; exact e3⟩
      · (try dsimp only at j1 ⊢)
        rw [up_ne (by omega)]
        by_cases e2 : j = (zlN c n).1
        · rw [e2, up_eq]
          exact (h2 i i0 (by omega)).1.2
        · rw [up_ne e2]
          exact h4 i j i0 ij (by omega)
    · rw [if_neg z, if_neg (by rw [decide_eq_false z]; decide)]
      exact ⟨by omega, fun j j0 j1 => ⟨⟨(h2 j j0 j1).1.1, by have := (h2 j j0 j1).1.2; omega⟩, (h2 j j0 j1).2⟩, fun x x0 x1 hx => h3 x x0 (by by_cases e2 : x = (n : Int); (· exact absurd (by rw [← e2]; exact hx) z); omega) hx, h4⟩
noncomputable def fl0 (G : Int → Int) : FS := ((zlN (ldP G 5461) 5461).1, (zlN (ldP G 5461) 5461).2, ldP G 5461, fun _ => 0, fun _ => 0)
noncomputable def flC (G : Int → Int) (s : FS) (t : Int) : FS := (if s.2.2.1 (G t) = 1 then s.1 + 1 else s.1, if s.2.2.1 (G t) = 1 then upI s.2.1 s.1 (G t) else s.2.1, upI s.2.2.1 (G t) (s.2.2.1 (G t) - 1), upI s.2.2.2.1 t 1, upI s.2.2.2.2 (G t) (if s.2.2.2.2 (G t) < s.2.2.2.2 t + 1 then s.2.2.2.2 t + 1 else s.2.2.2.2 (G t)))
noncomputable def flI (G : Int → Int) : Nat → FS
  | 0 => fl0 G
  | k + 1 => if (k : Int) < (flI G k).1 then flC G (flI G k) ((flI G k).2.1 (k : Int)) else flI G k
/-- 5461, closed to the kernel -/
noncomputable def n5 : Nat := Classical.choose (⟨5461, rfl⟩ : ∃ n : Nat, n = 5461)
theorem n5_e : n5 = 5461 := Classical.choose_spec (⟨5461, rfl⟩ : ∃ n : Nat, n = 5461)
noncomputable def flF (G : Int → Int) : FS := flI G n5
theorem fl_s {G : Int → Int} {k : Int} (k0 : 0 ≤ k) : flI G (k + 1).toNat = if k < (flI G k.toNat).1 then flC G (flI G k.toNat) ((flI G k.toNat).2.1 k) else flI G k.toNat := by
  rw [show (k + 1).toNat = k.toNat + 1 by omega]
  show (if ((k.toNat : Nat) : Int) < (flI G k.toNat).1 then flC G (flI G k.toNat) ((flI G k.toNat).2.1 ((k.toNat : Nat) : Int)) else flI G k.toNat) = _
  rw [Int.toNat_of_nonneg k0]
noncomputable def FSK (G : Int → Int) (k : Int) (s : FS) : Prop := (0 ≤ s.1 ∧ s.1 ≤ 5461) ∧ (∀ j : Int, 0 ≤ j → j < s.1 → 0 ≤ s.2.1 j ∧ s.2.1 j ≤ 5460) ∧ (∀ i j : Int, 0 ≤ i → i < j → j < s.1 → s.2.1 i ≠ s.2.1 j) ∧ (∀ x : Int, 0 ≤ x → x ≤ 5460 → (s.2.2.1 x = 0 ↔ ∃ j : Int, (0 ≤ j ∧ j < s.1) ∧ s.2.1 j = x)) ∧ (∀ x : Int, 0 ≤ x → x ≤ 5460 → s.2.2.1 x = (cntP (fun t => decide (G (t : Int) = x ∧ s.2.2.2.1 (t : Int) = 0)) 5461 : Int)) ∧ (∀ u : Int, (s.2.2.2.1 u = 0 ∨ s.2.2.2.1 u = 1) ∧ (s.2.2.2.1 u = 1 ↔ ∃ j : Int, (0 ≤ j ∧ j < k ∧ j < s.1) ∧ s.2.1 j = u)) ∧ s.1 = (cntP (fun t => decide (s.2.2.1 (t : Int) = 0)) 5461 : Int) ∧ (∀ x : Int, 0 ≤ s.2.2.2.2 x ∧ s.2.2.2.2 x ≤ k) ∧ (∀ y : Int, s.2.2.2.1 y = 1 → s.2.2.2.2 y + 1 ≤ s.2.2.2.2 (G y)) ∧ (∀ x : Int, s.2.2.2.2 x = 0 ∨ ∃ y : Int, s.2.2.2.1 y = 1 ∧ G y = x ∧ s.2.2.2.2 x = s.2.2.2.2 y + 1) ∧ ∀ i j : Int, 0 ≤ j → j < k → j < s.1 → 0 ≤ i → i < s.1 → s.2.1 i = G (s.2.1 j) → j < i
theorem fsk_0 (G : Int → Int) : FSK G 0 (fl0 G) := by
  obtain ⟨h1, h2, h3, h4⟩ := zl_k (c := ldP G 5461) 5461
  have hb := cn_le (fun t => decide (ldP G 5461 (t : Int) = 0)) 5461
  refine ⟨⟨by show 0 ≤ (zlN (ldP G 5461) 5461).1; omega, by show (zlN (ldP G 5461) 5461).1 ≤ 5461; omega⟩, fun j j0 j1 => ?_, fun i j i0 ij j1 => ?_, fun x x0 x1 => ⟨fun z => h3 x x0 (by omega) z, fun ⟨j, hj, e⟩ => ?_⟩, fun x x0 x1 => ?_, fun u => ⟨Or.inl rfl, fun z => absurd (show (0 : Int) = 1 from z) (by decide), fun ⟨j, hj, e⟩ => by omega⟩, h1, fun x => ⟨Int.le_refl _, Int.le_refl _⟩, fun y z => absurd (show (0 : Int) = 1 from z) (by decide), fun x => Or.inl rfl, fun i j j0 jk => by omega⟩
  · have := (h2 j j0 j1).1
    exact ⟨this.1, by have := this.2; show (zlN (ldP G 5461) 5461).2 j ≤ 5460; omega⟩
  · have := h4 i j i0 ij j1
    show (zlN (ldP G 5461) 5461).2 i ≠ (zlN (ldP G 5461) 5461).2 j
    omega
  · have := (h2 j hj.1 hj.2).2
    show ldP G 5461 x = 0
    rw [← e]
    exact this
  · rw [show (fl0 G).2.2.1 = ldP G 5461 from by simp only [fl0], show (fl0 G).2.2.2.1 = fun _ => 0 from by simp only [fl0]]
    unfold ldP
    rw [cn_cg 5461 (fun t _ => (show decide (G (t : Int) = x) = decide (G (t : Int) = x ∧ (fun _ : Int => (0 : Int)) (t : Int) = 0) from decide_eq_decide.mpr ⟨fun z => ⟨z, rfl⟩, fun z => z.1⟩))]
theorem cn_pos {p : Nat → Bool} {t : Nat} (h : p t = true) : ∀ n, t < n → 1 ≤ cntP p n
  | 0, ht => absurd ht (Nat.not_lt_zero _)
  | n + 1, ht => by
    show 1 ≤ cntP p n + (if p n = true then 1 else 0)
    by_cases e : t = n
    · rw [e] at h
      rw [if_pos h]
      omega
    · have := cn_pos h n (by omega)
      omega
/-- facts of the text that falls away next -/
theorem fsk_t {G : Int → Int} {k : Int} {s : FS} (hG : GOK G) (h : FSK G k s) (k0 : 0 ≤ k) (k1 : k < s.1) : (0 ≤ s.2.1 k ∧ s.2.1 k ≤ 5460) ∧ (0 ≤ G (s.2.1 k) ∧ G (s.2.1 k) ≤ 5460) ∧ s.2.2.2.1 (s.2.1 k) = 0 ∧ 1 ≤ s.2.2.1 (G (s.2.1 k)) ∧ s.2.2.1 (G (s.2.1 k)) ≤ 5461 ∧ G (s.2.1 k) ≠ s.2.1 k ∧ s.2.2.2.1 (G (s.2.1 k)) = 0 ∧ (s.2.2.1 (G (s.2.1 k)) = 1 → s.1 < 5461) := by
  obtain ⟨h1, h2, h3, h4, h5, h6, h7, h8, h9, h10, h11'⟩ := h
  have ht := h2 k k0 k1
  have hg := hG _ ht.1 ht.2
  have hp : s.2.2.2.1 (s.2.1 k) = 0 := (h6 (s.2.1 k)).1.resolve_right fun z => by
    obtain ⟨j, hj, e⟩ := (h6 (s.2.1 k)).2.mp z
    exact h3 j k hj.1 hj.2.1 k1 e
  have hc := h5 _ hg.1 hg.2
  have h11 := cn_pos (p := fun t => decide (G (t : Int) = G (s.2.1 k) ∧ s.2.2.2.1 (t : Int) = 0)) (t := (s.2.1 k).toNat) (by (try dsimp only); rw [Int.toNat_of_nonneg ht.1]; exact decide_eq_true ⟨rfl, hp⟩) 5461 (by omega)
  have h12 := cn_le (fun t => decide (G (t : Int) = G (s.2.1 k) ∧ s.2.2.2.1 (t : Int) = 0)) 5461
  have ct : s.2.2.1 (s.2.1 k) = 0 := (h4 _ ht.1 ht.2).mpr ⟨k, ⟨k0, k1⟩, rfl⟩
  have hne : G (s.2.1 k) ≠ s.2.1 k := fun e => by rw [e] at hc h11; omega
  have hp2 : s.2.2.2.1 (G (s.2.1 k)) = 0 := (h6 _).1.resolve_right fun z => by
    obtain ⟨j, hj, e⟩ := (h6 _).2.mp z
    have := (h4 _ hg.1 hg.2).mpr ⟨j, ⟨hj.1, hj.2.2⟩, e⟩
    omega
  refine ⟨ht, hg, hp, by omega, by omega, hne, hp2, fun e1 => ?_⟩
  have := cn_lt (p := fun t => decide (s.2.2.1 (t : Int) = 0)) (t := (G (s.2.1 k)).toNat) (by (try dsimp only); rw [Int.toNat_of_nonneg hg.1]; exact decide_eq_false (by omega)) 5461 (by omega)
  omega
theorem fsk_s {G : Int → Int} {k : Int} {s : FS} (hG : GOK G) (h : FSK G k s) (k0 : 0 ≤ k) (k1 : k < s.1) : FSK G (k + 1) (flC G s (s.2.1 k)) := by
  obtain ⟨ht, hg, hp, c1, c2, hne, hp2, hroom⟩ := fsk_t hG h k0 k1
  obtain ⟨h1, h2, h3, h4, h5, h6, h7, h8, h9, h10, h11'⟩ := h
  have hno : s.2.2.1 (G (s.2.1 k)) ≠ 0 := by omega
  have hnin : ∀ j : Int, 0 ≤ j → j < s.1 → s.2.1 j ≠ G (s.2.1 k) := fun j j0 j1 e => hno ((h4 _ hg.1 hg.2).mpr ⟨j, ⟨j0, j1⟩, e⟩)
  -- the end and the order
  have hend : (flC G s (s.2.1 k)).1 = if s.2.2.1 (G (s.2.1 k)) = 1 then s.1 + 1 else s.1 := rfl
  have hord : ∀ j : Int, j < s.1 → (flC G s (s.2.1 k)).2.1 j = s.2.1 j := fun j hj => by
    show (if s.2.2.1 (G (s.2.1 k)) = 1 then upI s.2.1 s.1 (G (s.2.1 k)) else s.2.1) j = _
    by_cases z : s.2.2.1 (G (s.2.1 k)) = 1
    · rw [if_pos z, up_ne (by omega)]
    · rw [if_neg z]
  have hlast : s.2.2.1 (G (s.2.1 k)) = 1 → (flC G s (s.2.1 k)).2.1 s.1 = G (s.2.1 k) := fun z => by
    show (if s.2.2.1 (G (s.2.1 k)) = 1 then upI s.2.1 s.1 (G (s.2.1 k)) else s.2.1) s.1 = _
    rw [if_pos z, up_eq]
  have hge : s.1 ≤ (flC G s (s.2.1 k)).1 := by
    rw [hend]
    split <;> omega
  have hcase : ∀ j : Int, j < (flC G s (s.2.1 k)).1 → j < s.1 ∨ (j = s.1 ∧ s.2.2.1 (G (s.2.1 k)) = 1) := fun j hj => by
    rw [hend] at hj
    by_cases z : s.2.2.1 (G (s.2.1 k)) = 1
    · rw [if_pos z] at hj
      omega
    · rw [if_neg z] at hj
      exact Or.inl hj
  have hcom : ∀ x : Int, x ≠ G (s.2.1 k) → (flC G s (s.2.1 k)).2.2.1 x = s.2.2.1 x := fun x hx => up_ne hx
  have hcto : (flC G s (s.2.1 k)).2.2.1 (G (s.2.1 k)) = s.2.2.1 (G (s.2.1 k)) - 1 := up_eq
  have hpr : ∀ u : Int, u ≠ s.2.1 k → (flC G s (s.2.1 k)).2.2.2.1 u = s.2.2.2.1 u := fun u hu => up_ne hu
  have hprt : (flC G s (s.2.1 k)).2.2.2.1 (s.2.1 k) = 1 := up_eq
  have hrb : ∀ x : Int, x ≠ G (s.2.1 k) → (flC G s (s.2.1 k)).2.2.2.2 x = s.2.2.2.2 x := fun x hx => up_ne hx
  have hrto : (flC G s (s.2.1 k)).2.2.2.2 (G (s.2.1 k)) = if s.2.2.2.2 (G (s.2.1 k)) < s.2.2.2.2 (s.2.1 k) + 1 then s.2.2.2.2 (s.2.1 k) + 1 else s.2.2.2.2 (G (s.2.1 k)) := up_eq
  have hrt : (flC G s (s.2.1 k)).2.2.2.2 (s.2.1 k) = s.2.2.2.2 (s.2.1 k) := hrb _ (fun e => hne e.symm)
  have hb8 := h8 (s.2.1 k)
  have hb8' := h8 (G (s.2.1 k))
  have hmem : ∀ x : Int, (∃ j : Int, (0 ≤ j ∧ j < (flC G s (s.2.1 k)).1) ∧ (flC G s (s.2.1 k)).2.1 j = x) ↔ (∃ j : Int, (0 ≤ j ∧ j < s.1) ∧ s.2.1 j = x) ∨ (s.2.2.1 (G (s.2.1 k)) = 1 ∧ x = G (s.2.1 k)) := fun x => by
    constructor
    · rintro ⟨j, hj, e⟩
      rcases hcase j hj.2 with z | ⟨z, z2⟩
      · exact Or.inl ⟨j, ⟨hj.1, z⟩, by rw [← hord j z]; exact e⟩
      · refine Or.inr ⟨z2, ?_⟩
        rw [← e, z, hlast z2]
    · rintro (⟨j, hj, e⟩ | ⟨z, e⟩)
      · exact ⟨j, ⟨hj.1, by omega⟩, by rw [hord j hj.2]; exact e⟩
      · exact ⟨s.1, ⟨h1.1, by rw [hend, if_pos z]; omega⟩, by rw [hlast z, e]⟩
  refine ⟨⟨by omega, ?_⟩, fun j j0 j1 => ?_, fun i j i0 ij j1 => ?_, fun x x0 x1 => ?_, fun x x0 x1 => ?_, fun u => ?_, ?_, fun x => ?_, fun y hy => ?_, fun x => ?_, fun i j j0 jk j1 i0 i1 e => ?_⟩
  · rw [hend]
    by_cases z : s.2.2.1 (G (s.2.1 k)) = 1
    · have := hroom z
      rw [if_pos z]
      omega
    · rw [if_neg z]
      exact h1.2
  · rcases hcase j j1 with z | ⟨z, z2⟩
    · rw [hord j z]
      exact h2 j j0 z
    · rw [z, hlast z2]
      exact hg
  · rw [hord i (by rcases hcase j j1 with z | ⟨z, -⟩ <;> omega)]
    rcases hcase j j1 with z | ⟨z, z2⟩
    · rw [hord j z]
      exact h3 i j i0 ij z
    · rw [z, hlast z2]
      exact hnin i i0 (by omega)
  · rw [hmem]
    by_cases e : x = G (s.2.1 k)
    · rw [e, hcto]
      constructor
      · intro z
        exact Or.inr ⟨by omega, rfl⟩
      · rintro (⟨j, hj, e2⟩ | ⟨z, -⟩)
        · exact absurd e2 (hnin j hj.1 hj.2)
        · omega
    · rw [hcom x e, h4 x x0 x1]
      exact ⟨Or.inl, fun z => z.elim id fun z => absurd z.2 e⟩
  · by_cases e : x = G (s.2.1 k)
    · rw [e, hcto, h5 _ hg.1 hg.2]
      have := cn_up (p := fun t => decide (G (t : Int) = G (s.2.1 k) ∧ (flC G s (s.2.1 k)).2.2.2.1 (t : Int) = 0)) (q := fun t => decide (G (t : Int) = G (s.2.1 k) ∧ s.2.2.2.1 (t : Int) = 0)) (t := (s.2.1 k).toNat) (by (try dsimp only); rw [Int.toNat_of_nonneg ht.1]; exact decide_eq_false (fun z => by have := z.2; rw [hprt] at this; omega)) (by (try dsimp only); rw [Int.toNat_of_nonneg ht.1]; exact decide_eq_true ⟨rfl, hp⟩) (fun y hy => by (try dsimp only); rw [hpr _ (by omega)]) 5461 (by omega)
      omega
    · rw [hcom x e, h5 x x0 x1]
      rw [cn_cg 5461 (fun t _ => ?_)]
      by_cases e2 : (t : Int) = s.2.1 k
      · rw [e2]
        rw [decide_eq_false (fun z => e z.1.symm), decide_eq_false (fun z => e z.1.symm)]
      · rw [hpr _ e2]
  · by_cases e : u = s.2.1 k
    · rw [e, hprt]
      exact ⟨Or.inr rfl, fun _ => ⟨k, ⟨k0, by omega, by omega⟩, hord k k1⟩, fun _ => rfl⟩
    · rw [hpr u e]
      refine ⟨(h6 u).1, fun z => ?_, fun ⟨j, hj, e2⟩ => ?_⟩
      · obtain ⟨j, hj, e2⟩ := (h6 u).2.mp z
        exact ⟨j, ⟨hj.1, by omega, by omega⟩, by rw [hord j hj.2.2]; exact e2⟩
      · have hj1 : j < s.1 := by omega
        rw [hord j hj1] at e2
        have : j ≠ k := fun z => e (by rw [← e2, z])
        exact (h6 u).2.mpr ⟨j, ⟨hj.1, by omega, hj1⟩, e2⟩
  · rw [hend]
    by_cases z : s.2.2.1 (G (s.2.1 k)) = 1
    · have := cn_up (p := fun t => decide (s.2.2.1 (t : Int) = 0)) (q := fun t => decide ((flC G s (s.2.1 k)).2.2.1 (t : Int) = 0)) (t := (G (s.2.1 k)).toNat) (by (try dsimp only); rw [Int.toNat_of_nonneg hg.1]; exact decide_eq_false hno) (by (try dsimp only); rw [Int.toNat_of_nonneg hg.1, hcto]; exact decide_eq_true (by omega)) (fun y hy => by (try dsimp only); rw [hcom _ (by omega)]) 5461 (by omega)
      rw [if_pos z]
      omega
    · rw [if_neg z, h7]
      rw [cn_cg 5461 (fun t _ => ?_)]
      by_cases e2 : (t : Int) = G (s.2.1 k)
      · rw [e2, hcto, decide_eq_false hno, decide_eq_false (by omega)]
      · rw [hcom _ e2]
  · by_cases e : x = G (s.2.1 k)
    · rw [e, hrto]
      split <;> omega
    · rw [hrb x e]
      have := h8 x
      omega
  · by_cases e : y = s.2.1 k
    · rw [e, hrt, hrto]
      split <;> omega
    · rw [hpr y e] at hy
      have hyn : y ≠ G (s.2.1 k) := fun z => by rw [z, hp2] at hy; omega
      have := h9 y hy
      rw [hrb y hyn]
      by_cases e2 : G y = G (s.2.1 k)
      · rw [e2, hrto]
        rw [e2] at this
        split <;> omega
      · rw [hrb _ e2]
        exact this
  · have hkeep : s.2.2.2.2 x = 0 ∨ ∃ y : Int, (flC G s (s.2.1 k)).2.2.2.1 y = 1 ∧ G y = x ∧ s.2.2.2.2 x = (flC G s (s.2.1 k)).2.2.2.2 y + 1 := by
      rcases h10 x with z | ⟨y, y1, y2, y3⟩
      · exact Or.inl z
      · have e1 : y ≠ s.2.1 k := fun z => by rw [z, hp] at y1; omega
        have e2 : y ≠ G (s.2.1 k) := fun z => by rw [z, hp2] at y1; omega
        exact Or.inr ⟨y, by rw [hpr y e1]; exact y1, y2, by rw [hrb y e2]; exact y3⟩
    by_cases e : x = G (s.2.1 k)
    · by_cases z : s.2.2.2.2 (G (s.2.1 k)) < s.2.2.2.2 (s.2.1 k) + 1
      · exact Or.inr ⟨s.2.1 k, hprt, e.symm, by rw [e, hrto, if_pos z, hrt]⟩
      · rw [e] at hkeep ⊢
        rw [hrto, if_neg z]
        exact hkeep
    · rw [hrb x e]
      exact hkeep
  · have hj1 : j < s.1 := by omega
    rw [hord j hj1] at e
    rcases hcase i i1 with z | ⟨z, -⟩
    · rw [hord i z] at e
      by_cases ej : j = k
      · rw [ej] at e
        exact absurd e (hnin i i0 z)
      · exact h11' i j j0 (by omega) hj1 i0 z e
    · omega
theorem fl_k {G : Int → Int} (hG : GOK G) : ∀ k : Nat, FSK G (k : Int) (flI G k)
  | 0 => fsk_0 G
  | k + 1 => by
    have ih := fl_k hG k
    show FSK G ((k + 1 : Nat) : Int) (if (k : Int) < (flI G k).1 then flC G (flI G k) ((flI G k).2.1 (k : Int)) else flI G k)
    rw [show ((k + 1 : Nat) : Int) = (k : Int) + 1 by omega]
    by_cases c : (k : Int) < (flI G k).1
    · rw [if_pos c]
      exact fsk_s hG ih (by omega) c
    · rw [if_neg c]
      obtain ⟨h1, h2, h3, h4, h5, h6, h7, h8, h9, h10, h11⟩ := ih
      exact ⟨h1, h2, h3, h4, h5, fun u => ⟨(h6 u).1, fun z => by obtain ⟨j, hj, e⟩ := (h6 u).2.mp z; exact ⟨j, ⟨hj.1, by omega, hj.2.2⟩, e⟩, fun ⟨j, hj, e⟩ => (h6 u).2.mpr ⟨j, ⟨hj.1, by omega, hj.2.2⟩, e⟩⟩, h7, fun x => ⟨(h8 x).1, by have := (h8 x).2; omega⟩, h9, h10, fun i j j0 jk j1 i0 i1 e => h11 i j j0 (by omega) j1 i0 i1 e⟩
theorem fl_st {G : Int → Int} {i : Nat} (h : (flI G i).1 ≤ (i : Int)) : ∀ k : Nat, flI G (i + k) = flI G i
  | 0 => rfl
  | k + 1 => by
    have ih := fl_st h k
    show (if ((i + k : Nat) : Int) < (flI G (i + k)).1 then flC G (flI G (i + k)) ((flI G (i + k)).2.1 ((i + k : Nat) : Int)) else flI G (i + k)) = _
    rw [if_neg (by rw [ih]; omega)]
    exact ih
theorem fl_F {G : Int → Int} {i : Nat} (h : (flI G i).1 ≤ (i : Int)) (hi : i ≤ 5461) : flI G i = flF G := by
  have e5 := n5_e
  have := fl_st h (n5 - i)
  rw [show i + (n5 - i) = n5 by omega] at this
  exact this.symm
/-- the most readings until one is in a ring: the reference, from the last that falls away on -/
noncomputable def tlI (G o : Int → Int) (e : Int) : Nat → (Int → Int) × Int
  | 0 => (fun _ => 0, 0)
  | i + 1 => if (i : Int) < e then (upI (tlI G o e i).1 (o (e - 1 - (i : Int))) ((tlI G o e i).1 (G (o (e - 1 - (i : Int)))) + 1), if (tlI G o e i).2 < (tlI G o e i).1 (G (o (e - 1 - (i : Int)))) + 1 then (tlI G o e i).1 (G (o (e - 1 - (i : Int)))) + 1 else (tlI G o e i).2) else tlI G o e i
theorem tl_s {G o : Int → Int} {e i : Int} (i0 : 0 ≤ i) (i1 : i < e) : tlI G o e (i + 1).toNat = (upI (tlI G o e i.toNat).1 (o (e - 1 - i)) ((tlI G o e i.toNat).1 (G (o (e - 1 - i))) + 1), if (tlI G o e i.toNat).2 < (tlI G o e i.toNat).1 (G (o (e - 1 - i))) + 1 then (tlI G o e i.toNat).1 (G (o (e - 1 - i))) + 1 else (tlI G o e i.toNat).2) := by
  obtain ⟨n, rfl⟩ := Int.eq_ofNat_of_zero_le i0
  rw [show ((n : Int) + 1).toNat = n + 1 by omega, show ((n : Nat) : Int).toNat = n from rfl]
  show (if (n : Int) < e then _ else _) = _
  rw [if_pos i1]
noncomputable def tlV (G : Int → Int) : Int := (tlI G (flF G).2.1 (flF G).1 (flF G).1.toNat).2
theorem tl_k {G : Int → Int} {s : FS} (h : FSK G 5461 s) : ∀ i : Nat, (i : Int) ≤ s.1 → (∀ j : Int, s.1 - (i : Int) ≤ j → j < s.1 → (tlI G s.2.1 s.1 i).1 (s.2.1 j) = (tlI G s.2.1 s.1 i).1 (G (s.2.1 j)) + 1) ∧ (∀ x : Int, (∀ j : Int, s.1 - (i : Int) ≤ j → j < s.1 → s.2.1 j ≠ x) → (tlI G s.2.1 s.1 i).1 x = 0) ∧ (∀ x : Int, 0 ≤ (tlI G s.2.1 s.1 i).1 x ∧ (tlI G s.2.1 s.1 i).1 x ≤ (i : Int)) ∧ (0 ≤ (tlI G s.2.1 s.1 i).2 ∧ (tlI G s.2.1 s.1 i).2 ≤ (i : Int)) ∧ (∀ j : Int, s.1 - (i : Int) ≤ j → j < s.1 → (tlI G s.2.1 s.1 i).1 (s.2.1 j) ≤ (tlI G s.2.1 s.1 i).2) ∧ ((tlI G s.2.1 s.1 i).2 = 0 ∨ ∃ j : Int, (s.1 - (i : Int) ≤ j ∧ j < s.1) ∧ (tlI G s.2.1 s.1 i).1 (s.2.1 j) = (tlI G s.2.1 s.1 i).2)
  | 0, _ => ⟨fun j j0 j1 => by omega, fun x _ => rfl, fun x => ⟨Int.le_refl _, Int.le_refl _⟩, ⟨Int.le_refl _, Int.le_refl _⟩, fun j j0 j1 => by omega, Or.inl rfl⟩
  | i + 1, hi => by
    obtain ⟨a1, a2, a3, a4, a5, a6⟩ := tl_k h i (by omega)
    obtain ⟨h1, h2, h3, h4, h5, h6, h7, h8, h9, h10, h11⟩ := h
    have e := tl_s (G := G) (o := s.2.1) (e := s.1) (i := (i : Int)) (by omega) (by omega)
    rw [show ((i : Int) + 1).toNat = i + 1 by omega, show ((i : Nat) : Int).toNat = i from rfl] at e
    rw [e]
    have k0 : 0 ≤ s.1 - 1 - (i : Int) := by omega
    have gx : G (s.2.1 (s.1 - 1 - (i : Int))) ≠ s.2.1 (s.1 - 1 - (i : Int)) := fun z => by
      have := h11 (s.1 - 1 - (i : Int)) (s.1 - 1 - (i : Int)) k0 (by omega) (by omega) k0 (by omega) z.symm
      omega
    have oj : ∀ j : Int, s.1 - (i : Int) ≤ j → j < s.1 → s.2.1 j ≠ s.2.1 (s.1 - 1 - (i : Int)) := fun j j0 j1 z => h3 (s.1 - 1 - (i : Int)) j k0 (by omega) j1 z.symm
    have gj : ∀ j : Int, s.1 - (i : Int) ≤ j → j < s.1 → G (s.2.1 j) ≠ s.2.1 (s.1 - 1 - (i : Int)) := fun j j0 j1 z => by
      have := h11 (s.1 - 1 - (i : Int)) j (by omega) (by omega) j1 k0 (by omega) z.symm
      omega
    have b3 := a3 (G (s.2.1 (s.1 - 1 - (i : Int))))
    refine ⟨fun j j0 j1 => ?_, fun x hx => ?_, fun x => ?_, ?_, fun j j0 j1 => ?_, ?_⟩
    · (try dsimp only)
      by_cases z : j = s.1 - 1 - (i : Int)
      · rw [z, up_eq, up_ne gx]
      · rw [up_ne (oj j (by omega) j1), up_ne (gj j (by omega) j1)]
        exact a1 j (by omega) j1
    · (try dsimp only)
      rw [up_ne (fun z => hx (s.1 - 1 - (i : Int)) (by omega) (by omega) z.symm)]
      exact a2 x (fun j j0 j1 => hx j (by omega) j1)
    · (try dsimp only)
      by_cases z : x = s.2.1 (s.1 - 1 - (i : Int))
      · rw [z, up_eq]
        omega
      · rw [up_ne z]
        have := a3 x
        omega
    · (try dsimp only)
      split <;> omega
    · (try dsimp only)
      by_cases z : j = s.1 - 1 - (i : Int)
      · rw [z, up_eq]
        split <;> omega
      · rw [up_ne (oj j (by omega) j1)]
        have := a5 j (by omega) j1
        split <;> omega
    · (try dsimp only)
      by_cases z : (tlI G s.2.1 s.1 i).2 < (tlI G s.2.1 s.1 i).1 (G (s.2.1 (s.1 - 1 - (i : Int)))) + 1
      · rw [if_pos z]
        exact Or.inr ⟨s.1 - 1 - (i : Int), ⟨by omega, by omega⟩, by rw [up_eq]⟩
      · rw [if_neg z]
        rcases a6 with z2 | ⟨j, hj, z2⟩
        · exact Or.inl z2
        · exact Or.inr ⟨j, ⟨by omega, hj.2⟩, by rw [up_ne (oj j hj.1 hj.2)]; exact z2⟩
/-- the class: over the rings, what was read before -/
noncomputable def mxN (c rb : Int → Int) : Nat → Int
  | 0 => 0
  | k + 1 => if 0 < c (k : Int) then (if mxN c rb k < rb (k : Int) then rb (k : Int) else mxN c rb k) else mxN c rb k
theorem mx_s {c rb : Int → Int} {k : Int} (k0 : 0 ≤ k) : mxN c rb (k + 1).toNat = if 0 < c k then (if mxN c rb k.toNat < rb k then rb k else mxN c rb k.toNat) else mxN c rb k.toNat := by
  rw [show (k + 1).toNat = k.toNat + 1 by omega]
  show (if 0 < c ((k.toNat : Nat) : Int) then (if mxN c rb k.toNat < rb ((k.toNat : Nat) : Int) then rb ((k.toNat : Nat) : Int) else mxN c rb k.toNat) else mxN c rb k.toNat) = _
  rw [Int.toNat_of_nonneg k0]
theorem mx_k {c rb : Int → Int} : ∀ n : Nat, 0 ≤ mxN c rb n ∧ (∀ t : Int, 0 ≤ t → t < n → 0 < c t → rb t ≤ mxN c rb n) ∧ (mxN c rb n = 0 ∨ ∃ t : Int, (0 ≤ t ∧ t < n) ∧ 0 < c t ∧ rb t = mxN c rb n)
  | 0 => ⟨Int.le_refl _, fun t t0 t1 => by omega, Or.inl rfl⟩
  | n + 1 => by
    obtain ⟨h1, h2, h3⟩ := mx_k (c := c) (rb := rb) n
    have e : mxN c rb (n + 1) = if 0 < c (n : Int) then (if mxN c rb n < rb (n : Int) then rb (n : Int) else mxN c rb n) else mxN c rb n := rfl
    rw [e]
    have h3' : mxN c rb n = 0 ∨ ∃ t : Int, (0 ≤ t ∧ t < ((n + 1 : Nat) : Int)) ∧ 0 < c t ∧ rb t = mxN c rb n := by
      rcases h3 with z | ⟨t, ht, z⟩
      · exact Or.inl z
      · exact Or.inr ⟨t, ⟨ht.1, by omega⟩, z⟩
    by_cases a : 0 < c (n : Int)
    · rw [if_pos a]
      by_cases b : mxN c rb n < rb (n : Int)
      · rw [if_pos b]
        refine ⟨by omega, fun t t0 t1 ht => ?_, Or.inr ⟨(n : Int), ⟨by omega, by omega⟩, a, rfl⟩⟩
        by_cases z : t = (n : Int)
        · rw [z]
          exact Int.le_refl _
        · have := h2 t t0 (by omega) ht
          omega
      · rw [if_neg b]
        refine ⟨h1, fun t t0 t1 ht => ?_, h3'⟩
        by_cases z : t = (n : Int)
        · rw [z]
          omega
        · exact h2 t t0 (by omega) ht
    · rw [if_neg a]
      refine ⟨h1, fun t t0 t1 ht => ?_, h3'⟩
      by_cases z : t = (n : Int)
      · rw [z] at ht
        exact absurd ht a
      · exact h2 t t0 (by omega) ht
theorem tl_up {G f : Int → Int} {s : FS} (h : FSK G 5461 s) (hf : ∀ j : Int, 0 ≤ j → j < s.1 → f (s.2.1 j) = f (G (s.2.1 j)) + 1) (f0 : ∀ x : Int, 0 ≤ f x) : ∀ (m : Nat) (x : Int), s.2.2.2.2 x = (m : Int) → 1 ≤ m → ∃ j : Int, (0 ≤ j ∧ j < s.1) ∧ f x + (m : Int) ≤ f (s.2.1 j)
  | 0, x, _, h0 => absurd h0 (by decide)
  | m + 1, x, hx, _ => by
    obtain ⟨h1, h2, h3, h4, h5, h6, h7, h8, h9, h10, h11⟩ := id h
    rcases h10 x with z | ⟨y, y1, y2, y3⟩
    · omega
    · obtain ⟨j, hj, e⟩ := (h6 y).2.mp y1
      have hfj := hf j hj.1 hj.2.2
      rw [e, y2] at hfj
      by_cases z : m = 0
      · exact ⟨j, ⟨hj.1, hj.2.2⟩, by rw [e]; omega⟩
      · obtain ⟨i, hi, e2⟩ := tl_up h hf f0 m y (by omega) (by omega)
        exact ⟨i, hi, by omega⟩
theorem tl_dn {G f : Int → Int} {s : FS} (hG : GOK G) (h : FSK G 5461 s) (hf : ∀ j : Int, 0 ≤ j → j < s.1 → f (s.2.1 j) = f (G (s.2.1 j)) + 1) (f0 : ∀ x : Int, 0 ≤ f x) (fz : ∀ x : Int, (∀ j : Int, 0 ≤ j → j < s.1 → s.2.1 j ≠ x) → f x = 0) : ∀ (d : Nat) (j : Int), 0 ≤ j → j < s.1 → f (s.2.1 j) = (d : Int) → ∃ x : Int, (0 ≤ x ∧ x ≤ 5460) ∧ 0 < s.2.2.1 x ∧ s.2.2.2.2 (s.2.1 j) + (d : Int) ≤ s.2.2.2.2 x
  | 0, j, j0, j1, hd => by
    have := hf j j0 j1
    have := f0 (G (s.2.1 j))
    omega
  | d + 1, j, j0, j1, hd => by
    obtain ⟨h1, h2, h3, h4, h5, h6, h7, h8, h9, h10, h11⟩ := id h
    have ho := h2 j j0 j1
    have hg := hG _ ho.1 ho.2
    have hpr : s.2.2.2.1 (s.2.1 j) = 1 := (h6 _).2.mpr ⟨j, ⟨j0, by omega, j1⟩, rfl⟩
    have h9j := h9 _ hpr
    have hfj := hf j j0 j1
    by_cases z : s.2.2.1 (G (s.2.1 j)) = 0
    · obtain ⟨i, hi, e⟩ := (h4 _ hg.1 hg.2).mp z
      obtain ⟨x, hx, c1, c2⟩ := tl_dn hG h hf f0 fz d i hi.1 hi.2 (by rw [e]; omega)
      rw [e] at c2
      exact ⟨x, hx, c1, by omega⟩
    · have hz := fz (G (s.2.1 j)) (fun i i0 i1 e => z ((h4 _ hg.1 hg.2).mpr ⟨i, ⟨i0, i1⟩, e⟩))
      have hc := h5 _ hg.1 hg.2
      exact ⟨G (s.2.1 j), hg, by omega, by omega⟩
theorem mx_tlS {G : Int → Int} {s : FS} (hG : GOK G) (h : FSK G 5461 s) (N : Nat) (hN : N = 5461) : mxN s.2.2.1 s.2.2.2.2 N = (tlI G s.2.1 s.1 s.1.toNat).2 := by
  have hb := h.1
  have hz : s.1 - ((s.1.toNat : Nat) : Int) = 0 := by omega
  obtain ⟨a1, a2, a3, a4, a5, a6⟩ := tl_k h s.1.toNat (by omega)
  rw [hz] at a1 a2 a5 a6
  obtain ⟨m1, m2, m3⟩ := mx_k (c := s.2.2.1) (rb := s.2.2.2.2) N
  have up : mxN s.2.2.1 s.2.2.2.2 N ≤ (tlI G s.2.1 s.1 s.1.toNat).2 := by
    rcases m3 with z | ⟨t, ht, z1, z2⟩
    · omega
    · by_cases q : s.2.2.2.2 t = 0
      · omega
      · have hr := (h.2.2.2.2.2.2.2.1 t).1
        obtain ⟨j, hj, e2⟩ := tl_up h a1 (fun x => (a3 x).1) (s.2.2.2.2 t).toNat t (by omega) (by omega)
        have := a5 j hj.1 hj.2
        have := (a3 t).1
        omega
  have dn : (tlI G s.2.1 s.1 s.1.toNat).2 ≤ mxN s.2.2.1 s.2.2.2.2 N := by
    rcases a6 with z | ⟨j, hj, z⟩
    · omega
    · have hp := (a3 (s.2.1 j)).1
      obtain ⟨x, hx, c1, c2⟩ := tl_dn hG h a1 (fun x => (a3 x).1) a2 ((tlI G s.2.1 s.1 s.1.toNat).1 (s.2.1 j)).toNat j hj.1 hj.2 (by omega)
      have := m2 x hx.1 (by omega) c1
      have := (h.2.2.2.2.2.2.2.1 (s.2.1 j)).1
      omega
  omega
theorem fl_kF {G : Int → Int} (hG : GOK G) : FSK G 5461 (flF G) := by
  have h := fl_k hG n5
  rw [show ((n5 : Nat) : Int) = 5461 by rw [n5_e]; rfl] at h
  exact h
theorem tlv_e (G : Int → Int) : tlV G = (tlI G (flF G).2.1 (flF G).1 (flF G).1.toNat).2 := by unfold tlV; rfl
theorem mx_tl {G : Int → Int} (hG : GOK G) : mxN (flF G).2.2.1 (flF G).2.2.2.2 5461 = tlV G := by
  rw [tlv_e]
  exact mx_tlS hG (fl_kF hG) 5461 rfl
/-- going round a ring: what comes to a text is taken away -/
noncomputable def grI (G c : Int → Int) (t : Int) : Nat → (Int → Int) × Int × Int
  | 0 => (c, t, 0)
  | i + 1 => if 0 < (grI G c t i).1 (grI G c t i).2.1 then (upI (grI G c t i).1 (grI G c t i).2.1 0, G (grI G c t i).2.1, (grI G c t i).2.2 + 1) else grI G c t i
noncomputable def grF (G c : Int → Int) (t : Int) : (Int → Int) × Int × Int := grI G c t n5
theorem gr_s {G c : Int → Int} {t i : Int} (i0 : 0 ≤ i) : grI G c t (i + 1).toNat = if 0 < (grI G c t i.toNat).1 (grI G c t i.toNat).2.1 then (upI (grI G c t i.toNat).1 (grI G c t i.toNat).2.1 0, G (grI G c t i.toNat).2.1, (grI G c t i.toNat).2.2 + 1) else grI G c t i.toNat := by
  rw [show (i + 1).toNat = i.toNat + 1 by omega]
  rfl
theorem gr_st {G c : Int → Int} {t : Int} {i : Nat} (h : ¬ 0 < (grI G c t i).1 (grI G c t i).2.1) : ∀ k : Nat, grI G c t (i + k) = grI G c t i
  | 0 => rfl
  | k + 1 => by
    have ih := gr_st h k
    show (if 0 < (grI G c t (i + k)).1 (grI G c t (i + k)).2.1 then (upI (grI G c t (i + k)).1 (grI G c t (i + k)).2.1 0, G (grI G c t (i + k)).2.1, (grI G c t (i + k)).2.2 + 1) else grI G c t (i + k)) = _
    rw [if_neg (by rw [ih]; exact h)]
    exact ih
theorem gr_F {G c : Int → Int} {t : Int} {i : Nat} (h : ¬ 0 < (grI G c t i).1 (grI G c t i).2.1) (hi : i ≤ 5461) : grI G c t i = grF G c t := by
  have e5 := n5_e
  have := gr_st h (n5 - i)
  rw [show i + (n5 - i) = n5 by omega] at this
  exact this.symm
theorem gr_k {G c : Int → Int} {t : Int} (hG : GOK G) (t0 : 0 ≤ t) (t1 : t ≤ 5460) : ∀ i : Nat, (0 ≤ (grI G c t i).2.1 ∧ (grI G c t i).2.1 ≤ 5460) ∧ (0 ≤ (grI G c t i).2.2 ∧ (grI G c t i).2.2 ≤ (i : Int)) ∧ (grI G c t i).2.2 + (cntP (fun x => decide (0 < (grI G c t i).1 (x : Int))) 5461 : Int) ≤ 5461 ∧ (∀ x : Int, (grI G c t i).1 x = c x ∨ (grI G c t i).1 x = 0)
  | 0 => ⟨⟨t0, t1⟩, ⟨Int.le_refl _, Int.le_refl _⟩, by
      have := cn_le (fun x => decide (0 < (grI G c t 0).1 (x : Int))) 5461
      show (0 : Int) + _ ≤ 5461
      omega, fun x => Or.inl rfl⟩
  | i + 1 => by
    obtain ⟨h1, h2, h3, h4⟩ := gr_k (c := c) hG t0 t1 i
    have e : grI G c t (i + 1) = if 0 < (grI G c t i).1 (grI G c t i).2.1 then (upI (grI G c t i).1 (grI G c t i).2.1 0, G (grI G c t i).2.1, (grI G c t i).2.2 + 1) else grI G c t i := rfl
    rw [e]
    by_cases z : 0 < (grI G c t i).1 (grI G c t i).2.1
    · rw [if_pos z]
      have := cn_up (p := fun x => decide (0 < upI (grI G c t i).1 (grI G c t i).2.1 0 (x : Int))) (q := fun x => decide (0 < (grI G c t i).1 (x : Int))) (t := (grI G c t i).2.1.toNat) (by (try dsimp only); rw [Int.toNat_of_nonneg h1.1, up_eq]; exact decide_eq_false (by decide)) (by (try dsimp only); rw [Int.toNat_of_nonneg h1.1]; exact decide_eq_true z) (fun x hx => by (try dsimp only); rw [up_ne (by omega)]) 5461 (by omega)
      refine ⟨hG _ h1.1 h1.2, ⟨by (try dsimp only); omega, by (try dsimp only); omega⟩, by (try dsimp only); omega, fun x => ?_⟩
      (try dsimp only)
      by_cases q : x = (grI G c t i).2.1
      · rw [q, up_eq]
        exact Or.inr rfl
      · rw [up_ne q]
        exact h4 x
    · rw [if_neg z]
      exact ⟨h1, ⟨h2.1, by omega⟩, h3, h4⟩
theorem gr_lt {G c : Int → Int} {t : Int} (hG : GOK G) (t0 : 0 ≤ t) (t1 : t ≤ 5460) {i : Nat} (z : 0 < (grI G c t i).1 (grI G c t i).2.1) : (grI G c t i).2.2 < 5461 := by
  obtain ⟨h1, h2, h3, -⟩ := gr_k (c := c) hG t0 t1 i
  have := cn_pos (p := fun x => decide (0 < (grI G c t i).1 (x : Int))) (t := (grI G c t i).2.1.toNat) (by (try dsimp only); rw [Int.toNat_of_nonneg h1.1]; exact decide_eq_true z) 5461 (by omega)
  omega
noncomputable def rlI (G c : Int → Int) : Nat → (Int → Int) × Int × Int
  | 0 => (c, 0, 0)
  | t + 1 => ((grF G (rlI G c t).1 (t : Int)).1, if 0 < (rlI G c t).1 (t : Int) then (rlI G c t).2.1 + 1 else (rlI G c t).2.1, if (rlI G c t).2.2 < (grF G (rlI G c t).1 (t : Int)).2.2 then (grF G (rlI G c t).1 (t : Int)).2.2 else (rlI G c t).2.2)
theorem rl_s {G c : Int → Int} {t : Int} (t0 : 0 ≤ t) : rlI G c (t + 1).toNat = ((grF G (rlI G c t.toNat).1 t).1, if 0 < (rlI G c t.toNat).1 t then (rlI G c t.toNat).2.1 + 1 else (rlI G c t.toNat).2.1, if (rlI G c t.toNat).2.2 < (grF G (rlI G c t.toNat).1 t).2.2 then (grF G (rlI G c t.toNat).1 t).2.2 else (rlI G c t.toNat).2.2) := by
  obtain ⟨n, rfl⟩ := Int.eq_ofNat_of_zero_le t0
  rw [show ((n : Int) + 1).toNat = n + 1 by omega, show ((n : Nat) : Int).toNat = n from rfl]
  rfl
theorem gr_kF {G c : Int → Int} {t : Int} (hG : GOK G) (t0 : 0 ≤ t) (t1 : t ≤ 5460) : (0 ≤ (grF G c t).2.2 ∧ (grF G c t).2.2 ≤ 5461) ∧ ∀ x : Int, (grF G c t).1 x = c x ∨ (grF G c t).1 x = 0 := by
  obtain ⟨-, h2, -, h4⟩ := gr_k (c := c) hG t0 t1 n5
  rw [show ((n5 : Nat) : Int) = 5461 by rw [n5_e]; rfl] at h2
  exact ⟨h2, h4⟩
theorem rl_k {G c : Int → Int} (hG : GOK G) : ∀ n : Nat, n ≤ 5461 → (0 ≤ (rlI G c n).2.1 ∧ (rlI G c n).2.1 ≤ (n : Int)) ∧ (0 ≤ (rlI G c n).2.2 ∧ (rlI G c n).2.2 ≤ 5461) ∧ ∀ x : Int, (rlI G c n).1 x = c x ∨ (rlI G c n).1 x = 0 := by
  intro n
  induction n with
  | zero => intro _; exact ⟨⟨Int.le_refl _, Int.le_refl _⟩, ⟨Int.le_refl _, (by decide : (0 : Int) ≤ 5461)⟩, fun x => Or.inl rfl⟩
  | succ n ih =>
    intro hn
    obtain ⟨h1, h2, h3⟩ := ih (by omega)
    have g := gr_kF (c := (rlI G c n).1) (t := (n : Int)) hG (by omega) (by omega)
    have e : rlI G c (n + 1) = ((grF G (rlI G c n).1 (n : Int)).1, if 0 < (rlI G c n).1 (n : Int) then (rlI G c n).2.1 + 1 else (rlI G c n).2.1, if (rlI G c n).2.2 < (grF G (rlI G c n).1 (n : Int)).2.2 then (grF G (rlI G c n).1 (n : Int)).2.2 else (rlI G c n).2.2) := rfl
    rw [e]
    generalize grF G (rlI G c n).1 (n : Int) = X at g ⊢
    obtain ⟨g2, g4⟩ := g
    refine ⟨?_, ?_, fun x => ?_⟩
    · (try dsimp only)
      split <;> omega
    · (try dsimp only)
      split <;> omega
    · (try dsimp only)
      rcases g4 x with z | z
      · rw [z]
        exact h3 x
      · exact Or.inr z
noncomputable def stN (G : Int → Int) : Int := (cntP (fun t => decide (G (t : Int) = (t : Int))) 5461 : Int)
noncomputable def urN (G : Int → Int) : Int := (zlN (ldP G 5461) 5461).1
noncomputable def orV (G : Int → Int) (w : Int) : Int := if w = 0 then (rlI G (flF G).2.2.1 5461).2.1 else if w = 1 then (rlI G (flF G).2.2.1 5461).2.2 else if w = 2 then 5461 - (flF G).1 else if w = 3 then tlV G else if w = 4 then urN G else stN G
noncomputable def orbV (F : Int → Int → Int) (n r w : Int) : Int := if (0 ≤ r ∧ r < n) ∧ (0 ≤ w ∧ w ≤ 5) then orV (F r) w else -1
theorem orb_n {F : Int → Int → Int} {n r w : Int} (h : ¬ ((0 ≤ r ∧ r < n) ∧ (0 ≤ w ∧ w ≤ 5))) : orbV F n r w = -1 := if_neg h
theorem orb_y {F : Int → Int → Int} {n r w : Int} (h : (0 ≤ r ∧ r < n) ∧ (0 ≤ w ∧ w ≤ 5)) : orbV F n r w = orV (F r) w := if_pos h
/-! ORBITS in the class's and the reference's arrays. -/
noncomputable def TQ (s : FS) (e : Int) (go gc gr : Nat → Int32) : Prop := e = s.1 ∧ (∀ j : Int, 0 ≤ j → j < s.1 → tBy go j = s.2.1 j) ∧ (∀ x : Int, 0 ≤ x → x ≤ 5460 → tBy gc x = s.2.2.1 x) ∧ ∀ x : Int, 0 ≤ x → x ≤ 5460 → tBy gr x = s.2.2.2.2 x
noncomputable def TQR (s : FS) (e : Int) (go gc : Nat → Int32) : Prop := e = s.1 ∧ (∀ j : Int, 0 ≤ j → j < s.1 → tBy go j = s.2.1 j) ∧ ∀ x : Int, 0 ≤ x → x ≤ 5460 → tBy gc x = s.2.2.1 x
theorem zq_y {c : Int → Int} {T : Nat → Int32} {sv tt : Int} (h : sv = (zlN c tt.toNat).1 ∧ ∀ j : Int, 0 ≤ j → j < sv → tBy T j = (zlN c tt.toNat).2 j) (t0 : 0 ≤ tt) (t1 : tt ≤ 5460) (s0 : 0 ≤ sv) (hc : c tt = 0) : sv + 1 = (zlN c (tt + 1 : Int).toNat).1 ∧ ∀ j : Int, 0 ≤ j → j < sv + 1 → tBy (upd T (sv : Int).toNat (Int32.ofInt tt)) j = (zlN c (tt + 1 : Int).toNat).2 j := by
  rw [zl_s t0, if_pos hc]
  refine ⟨by (try dsimp only); omega, fun j j0 j1 => ?_⟩
  (try dsimp only)
  rw [zupI (by exact ⟨by omega, by omega⟩) s0 j0]
  by_cases e : j = sv
  · rw [if_pos e, e, h.1, up_eq]
  · rw [if_neg e, up_ne (by omega)]
    exact h.2 j j0 (by omega)
theorem zq_n {c : Int → Int} {T : Nat → Int32} {sv tt : Int} (h : sv = (zlN c tt.toNat).1 ∧ ∀ j : Int, 0 ≤ j → j < sv → tBy T j = (zlN c tt.toNat).2 j) (t0 : 0 ≤ tt) (hc : c tt ≠ 0) : sv = (zlN c (tt + 1 : Int).toNat).1 ∧ ∀ j : Int, 0 ≤ j → j < sv → tBy T j = (zlN c (tt + 1 : Int).toNat).2 j := by
  rw [zl_s t0, if_neg hc]
  exact h
theorem zq_e {c : Int → Int} {T : Nat → Int32} {sv tt : Int} (h : sv = (zlN c tt.toNat).1 ∧ ∀ j : Int, 0 ≤ j → j < sv → tBy T j = (zlN c tt.toNat).2 j) (e : tt = 5461) : sv = (zlN c 5461).1 ∧ ∀ j : Int, 0 ≤ j → j < sv → tBy T j = (zlN c 5461).2 j := by
  rw [e] at h
  exact h
theorem ld_st {G : Int → Int} {T : Nat → Int32} {k v : Int} (h : ∀ x : Int, 0 ≤ x → x ≤ 5460 → tBy T x = ldP G k.toNat x) (k0 : 0 ≤ k) (k1 : k ≤ 5460) (hv : v = G k) (v0 : 0 ≤ v ∧ v ≤ 5460) : ∀ x : Int, 0 ≤ x → x ≤ 5460 → tBy (upd T (v : Int).toNat (Int32.ofInt (tBy T v + 1))) x = ldP G (k + 1 : Int).toNat x := by
  intro x x0 x1
  have hx := h v v0.1 v0.2
  have hr := ld_r (G := G) (k := k.toNat) (x := v)
  rw [ld_s k0, ← hv, zupI (by exact ⟨by omega, by omega⟩) v0.1 x0]
  by_cases c : x = v
  · rw [if_pos c, if_pos c.symm, c, hx]
  · rw [if_neg c, if_neg (fun e => c e.symm), h x x0 x1]
    omega
theorem tq_s {G : Int → Int} {ii sz v m t : Int} {O L B : Nat → Int32} (hG : GOK G) (h : TQ (flI G ii.toNat) sz O L B) (i0 : 0 ≤ ii) (i1 : ii < sz) (ht : t = tBy O ii) (hv : v = G t) (hm : (tBy B v ≤ m ∧ tBy B t + 1 ≤ m) ∧ (m = tBy B v ∨ m = tBy B t + 1)) (hr : r32 m) : (tBy L v ≠ 1 → TQ (flI G (ii + 1 : Int).toNat) sz O (upd L (v : Int).toNat (Int32.ofInt (tBy L v - 1))) (upd B (v : Int).toNat (Int32.ofInt m))) ∧ (tBy L v = 1 → sz < 5461 ∧ TQ (flI G (ii + 1 : Int).toNat) (sz + 1) (upd O (sz : Int).toNat (Int32.ofInt v)) (upd L (v : Int).toNat (Int32.ofInt (tBy L v - 1))) (upd B (v : Int).toNat (Int32.ofInt m))) := by
  have hk := fl_k hG ii.toNat
  rw [Int.toNat_of_nonneg i0] at hk
  have h1 := h.1
  obtain ⟨q1, q2, q3, q4, q5, q6, q7, q8⟩ := fsk_t hG hk i0 (by omega)
  have et : t = (flI G ii.toNat).2.1 ii := ht.trans (h.2.1 ii i0 (by omega))
  have ev : v = G ((flI G ii.toNat).2.1 ii) := by rw [hv, et]
  have eL := h.2.2.1 v (by omega) (by omega)
  have eB := h.2.2.2 v (by omega) (by omega)
  have eT := h.2.2.2 t (by omega) (by omega)
  have cL : ∀ x : Int, 0 ≤ x → x ≤ 5460 → tBy (upd L (v : Int).toNat (Int32.ofInt (tBy L v - 1))) x = (flC G (flI G ii.toNat) ((flI G ii.toNat).2.1 ii)).2.2.1 x := fun x x0 x1 => by
    rw [zupI (by rw [eL, ev]; exact ⟨by omega, by omega⟩) (by omega) x0]
    show _ = upI (flI G ii.toNat).2.2.1 (G ((flI G ii.toNat).2.1 ii)) ((flI G ii.toNat).2.2.1 (G ((flI G ii.toNat).2.1 ii)) - 1) x
    rw [← ev]
    by_cases c : x = v
    · rw [if_pos c, c, up_eq, eL]
    · rw [if_neg c, up_ne c]
      exact h.2.2.1 x x0 x1
  have cB : ∀ x : Int, 0 ≤ x → x ≤ 5460 → tBy (upd B (v : Int).toNat (Int32.ofInt m)) x = (flC G (flI G ii.toNat) ((flI G ii.toNat).2.1 ii)).2.2.2.2 x := fun x x0 x1 => by
    rw [zupI hr (by omega) x0]
    show _ = upI (flI G ii.toNat).2.2.2.2 (G ((flI G ii.toNat).2.1 ii)) (if (flI G ii.toNat).2.2.2.2 (G ((flI G ii.toNat).2.1 ii)) < (flI G ii.toNat).2.2.2.2 ((flI G ii.toNat).2.1 ii) + 1 then (flI G ii.toNat).2.2.2.2 ((flI G ii.toNat).2.1 ii) + 1 else (flI G ii.toNat).2.2.2.2 (G ((flI G ii.toNat).2.1 ii))) x
    rw [← ev, ← et]
    by_cases c : x = v
    · rw [if_pos c, c, up_eq, ← eB, ← eT]
      split <;> omega
    · rw [if_neg c, up_ne c]
      exact h.2.2.2 x x0 x1
  rw [fl_s i0, if_pos (by omega)]
  refine ⟨fun hn => ⟨?_, fun j j0 j1 => ?_, cL, cB⟩, fun hy => ⟨?_, ?_, fun j j0 j1 => ?_, cL, cB⟩⟩
  · show _ = if (flI G ii.toNat).2.2.1 (G ((flI G ii.toNat).2.1 ii)) = 1 then _ else _
    rw [← ev, ← eL, if_neg hn]
    exact h1
  · have e1 : (flC G (flI G ii.toNat) ((flI G ii.toNat).2.1 ii)).1 = (flI G ii.toNat).1 := by
      show (if (flI G ii.toNat).2.2.1 (G ((flI G ii.toNat).2.1 ii)) = 1 then _ else _) = _
      rw [← ev, ← eL, if_neg hn]
    have e2 : (flC G (flI G ii.toNat) ((flI G ii.toNat).2.1 ii)).2.1 = (flI G ii.toNat).2.1 := by
      show (if (flI G ii.toNat).2.2.1 (G ((flI G ii.toNat).2.1 ii)) = 1 then _ else _) = _
      rw [← ev, ← eL, if_neg hn]
    rw [e2]
    exact h.2.1 j j0 (by omega)
  · have := q8 (by rw [← ev, ← eL]; exact hy)
    omega
  · show _ = if (flI G ii.toNat).2.2.1 (G ((flI G ii.toNat).2.1 ii)) = 1 then _ else _
    rw [← ev, ← eL, if_pos hy]
    omega
  · have e1 : (flC G (flI G ii.toNat) ((flI G ii.toNat).2.1 ii)).1 = (flI G ii.toNat).1 + 1 := by
      show (if (flI G ii.toNat).2.2.1 (G ((flI G ii.toNat).2.1 ii)) = 1 then _ else _) = _
      rw [← ev, ← eL, if_pos hy]
    have e2 : (flC G (flI G ii.toNat) ((flI G ii.toNat).2.1 ii)).2.1 = upI (flI G ii.toNat).2.1 (flI G ii.toNat).1 v := by
      show (if (flI G ii.toNat).2.2.1 (G ((flI G ii.toNat).2.1 ii)) = 1 then _ else _) = _
      rw [← ev, ← eL, if_pos hy]
    rw [e2, zupI (by exact ⟨by omega, by omega⟩) (by omega) j0]
    by_cases c : j = sz
    · rw [if_pos c, c, h1, up_eq]
    · rw [if_neg c, up_ne (by omega)]
      exact h.2.1 j j0 (by omega)
theorem tqr_s {G : Int → Int} {ii sz v t : Int} {O L : Nat → Int32} (hG : GOK G) (h : TQR (flI G ii.toNat) sz O L) (i0 : 0 ≤ ii) (i1 : ii < sz) (ht : t = tBy O ii) (hv : v = G t) : (tBy L v ≠ 1 → TQR (flI G (ii + 1 : Int).toNat) sz O (upd L (v : Int).toNat (Int32.ofInt (tBy L v - 1)))) ∧ (tBy L v = 1 → sz < 5461 ∧ TQR (flI G (ii + 1 : Int).toNat) (sz + 1) (upd O (sz : Int).toNat (Int32.ofInt v)) (upd L (v : Int).toNat (Int32.ofInt (tBy L v - 1)))) := by
  have hk := fl_k hG ii.toNat
  rw [Int.toNat_of_nonneg i0] at hk
  have h1 := h.1
  obtain ⟨q1, q2, q3, q4, q5, q6, q7, q8⟩ := fsk_t hG hk i0 (by omega)
  have et : t = (flI G ii.toNat).2.1 ii := ht.trans (h.2.1 ii i0 (by omega))
  have ev : v = G ((flI G ii.toNat).2.1 ii) := by rw [hv, et]
  have eL := h.2.2 v (by omega) (by omega)
  have cL : ∀ x : Int, 0 ≤ x → x ≤ 5460 → tBy (upd L (v : Int).toNat (Int32.ofInt (tBy L v - 1))) x = (flC G (flI G ii.toNat) ((flI G ii.toNat).2.1 ii)).2.2.1 x := fun x x0 x1 => by
    rw [zupI (by rw [eL, ev]; exact ⟨by omega, by omega⟩) (by omega) x0]
    show _ = upI (flI G ii.toNat).2.2.1 (G ((flI G ii.toNat).2.1 ii)) ((flI G ii.toNat).2.2.1 (G ((flI G ii.toNat).2.1 ii)) - 1) x
    rw [← ev]
    by_cases c : x = v
    · rw [if_pos c, c, up_eq, eL]
    · rw [if_neg c, up_ne c]
      exact h.2.2 x x0 x1
  rw [fl_s i0, if_pos (by omega)]
  refine ⟨fun hn => ⟨?_, fun j j0 j1 => ?_, cL⟩, fun hy => ⟨?_, ?_, fun j j0 j1 => ?_, cL⟩⟩
  · show _ = if (flI G ii.toNat).2.2.1 (G ((flI G ii.toNat).2.1 ii)) = 1 then _ else _
    rw [← ev, ← eL, if_neg hn]
    exact h1
  · have e1 : (flC G (flI G ii.toNat) ((flI G ii.toNat).2.1 ii)).1 = (flI G ii.toNat).1 := by
      show (if (flI G ii.toNat).2.2.1 (G ((flI G ii.toNat).2.1 ii)) = 1 then _ else _) = _
      rw [← ev, ← eL, if_neg hn]
    have e2 : (flC G (flI G ii.toNat) ((flI G ii.toNat).2.1 ii)).2.1 = (flI G ii.toNat).2.1 := by
      show (if (flI G ii.toNat).2.2.1 (G ((flI G ii.toNat).2.1 ii)) = 1 then _ else _) = _
      rw [← ev, ← eL, if_neg hn]
    rw [e2]
    exact h.2.1 j j0 (by omega)
  · have := q8 (by rw [← ev, ← eL]; exact hy)
    omega
  · show _ = if (flI G ii.toNat).2.2.1 (G ((flI G ii.toNat).2.1 ii)) = 1 then _ else _
    rw [← ev, ← eL, if_pos hy]
    omega
  · have e1 : (flC G (flI G ii.toNat) ((flI G ii.toNat).2.1 ii)).1 = (flI G ii.toNat).1 + 1 := by
      show (if (flI G ii.toNat).2.2.1 (G ((flI G ii.toNat).2.1 ii)) = 1 then _ else _) = _
      rw [← ev, ← eL, if_pos hy]
    have e2 : (flC G (flI G ii.toNat) ((flI G ii.toNat).2.1 ii)).2.1 = upI (flI G ii.toNat).2.1 (flI G ii.toNat).1 v := by
      show (if (flI G ii.toNat).2.2.1 (G ((flI G ii.toNat).2.1 ii)) = 1 then _ else _) = _
      rw [← ev, ← eL, if_pos hy]
    rw [e2, zupI (by exact ⟨by omega, by omega⟩) (by omega) j0]
    by_cases c : j = sz
    · rw [if_pos c, c, h1, up_eq]
    · rw [if_neg c, up_ne (by omega)]
      exact h.2.1 j j0 (by omega)
theorem up_v {g : Nat → Int32} {i e : Int} (h : r32 e) (hi : 0 ≤ i) : tBy (upd g i.toNat (Int32.ofInt e)) i = e := (zupI h hi hi).trans (if_pos rfl)
theorem fo_g {F : Int → Int → Int} {n r : Int} (h : FOK F n) (r0 : 0 ≤ r) (r1 : r < n) : GOK (F r) := fun t t0 t1 => h r t r0 r1 t0 t1
theorem fl0_e (G : Int → Int) : flI G (0 : Int).toNat = fl0 G := rfl
theorem fl0_1 (G : Int → Int) : (fl0 G).1 = (zlN (ldP G 5461) 5461).1 := by simp only [fl0]
theorem fl0_2 (G : Int → Int) : (fl0 G).2.1 = (zlN (ldP G 5461) 5461).2 := by simp only [fl0]
theorem fl0_3 (G : Int → Int) : (fl0 G).2.2.1 = ldP G 5461 := by simp only [fl0]
theorem fl0_5 (G : Int → Int) : (fl0 G).2.2.2.2 = fun _ => 0 := by simp only [fl0]
theorem tq_0 {G : Int → Int} {e v : Int} {O L B : Nat → Int32} (hL : ∀ x : Int, 0 ≤ x → x ≤ 5460 → tBy L x = ldP G 5461 x) (h : v = (zlN (ldP G 5461) 5461).1 ∧ ∀ j : Int, 0 ≤ j → j < v → tBy O j = (zlN (ldP G 5461) 5461).2 j) (hB : ∀ x : Int, 0 ≤ x → x < 5461 → tBy B x = 0) (he : e = v) : TQ (flI G (0 : Int).toNat) e O L B := by
  rw [fl0_e]
  unfold TQ
  rw [fl0_1, fl0_2, fl0_3, fl0_5]
  exact ⟨he.trans h.1, fun j j0 j1 => h.2 j j0 (by rw [h.1]; exact j1), hL, fun x x0 x1 => hB x x0 (by omega)⟩
theorem tqr_0 {G : Int → Int} {e : Int} {O L : Nat → Int32} (hL : ∀ x : Int, 0 ≤ x → x ≤ 5460 → tBy L x = ldP G 5461 x) (h : e = (zlN (ldP G 5461) 5461).1 ∧ ∀ j : Int, 0 ≤ j → j < e → tBy O j = (zlN (ldP G 5461) 5461).2 j) : TQR (flI G (0 : Int).toNat) e O L := by
  rw [fl0_e]
  unfold TQR
  rw [fl0_1, fl0_2, fl0_3]
  exact ⟨h.1, fun j j0 j1 => h.2 j j0 (by rw [h.1]; exact j1), hL⟩
theorem tqr_of {s : FS} {e : Int} {O L B : Nat → Int32} (h : TQ s e O L B) : TQR s e O L := ⟨h.1, h.2.1, h.2.2.1⟩
theorem tqr_o {G : Int → Int} {ii sz : Int} {O L : Nat → Int32} (hG : GOK G) (h : TQR (flI G ii.toNat) sz O L) (i0 : 0 ≤ ii) (i1 : ii < sz) : 0 ≤ tBy O ii ∧ tBy O ii ≤ 5460 := by
  have hk := fl_k hG ii.toNat
  have h1 := h.1
  rw [h.2.1 ii i0 (by omega)]
  exact hk.2.1 ii i0 (by omega)
theorem tqr_l {G : Int → Int} {ii sz v : Int} {O L : Nat → Int32} (hG : GOK G) (h : TQR (flI G ii.toNat) sz O L) (i0 : 0 ≤ ii) (i1 : ii < sz) (hv : v = G (tBy O ii)) : 1 ≤ tBy L v ∧ tBy L v ≤ 5461 := by
  have hk := fl_k hG ii.toNat
  rw [Int.toNat_of_nonneg i0] at hk
  have h1 := h.1
  obtain ⟨q1, q2, q3, q4, q5, -⟩ := fsk_t hG hk i0 (by omega)
  have ev : v = G ((flI G ii.toNat).2.1 ii) := by rw [hv, h.2.1 ii i0 (by omega)]
  rw [h.2.2 v (by omega) (by omega), ev]
  exact ⟨q4, q5⟩
theorem tq_b {G : Int → Int} {ii sz x : Int} {O L B : Nat → Int32} (hG : GOK G) (h : TQ (flI G ii.toNat) sz O L B) (i0 : 0 ≤ ii) (x0 : 0 ≤ x) (x1 : x ≤ 5460) : 0 ≤ tBy B x ∧ tBy B x ≤ ii := by
  have hk := fl_k hG ii.toNat
  rw [Int.toNat_of_nonneg i0] at hk
  rw [h.2.2.2 x x0 x1]
  exact hk.2.2.2.2.2.2.2.1 x
theorem tq_e {G : Int → Int} {ii sz : Int} {O L B : Nat → Int32} (h : TQ (flI G ii.toNat) sz O L B) (i0 : 0 ≤ ii) (hs : sz ≤ ii) (i1 : ii ≤ 5461) : TQ (flF G) sz O L B := by
  have h1 := h.1
  rw [← fl_F (G := G) (i := ii.toNat) (by omega) (by omega)]
  exact h
theorem tqr_e {G : Int → Int} {ii sz : Int} {O L : Nat → Int32} (h : TQR (flI G ii.toNat) sz O L) (i0 : 0 ≤ ii) (hs : sz ≤ ii) (i1 : ii ≤ 5461) : TQR (flF G) sz O L := by
  have h1 := h.1
  rw [← fl_F (G := G) (i := ii.toNat) (by omega) (by omega)]
  exact h
theorem ld_e {G : Int → Int} {T : Nat → Int32} {k : Int} (h : ∀ x : Int, 0 ≤ x → x ≤ 5460 → tBy T x = ldP G k.toNat x) (e : k = 5461) : ∀ x : Int, 0 ≤ x → x ≤ 5460 → tBy T x = ldP G 5461 x := by
  rw [e] at h
  exact h
noncomputable def GRP (G c : Int → Int) (t ln tt : Int) (T : Nat → Int32) : Prop := tt = (grI G c t ln.toNat).2.1 ∧ ln = (grI G c t ln.toNat).2.2 ∧ ∀ x : Int, 0 ≤ x → x ≤ 5460 → tBy T x = (grI G c t ln.toNat).1 x
theorem grp_0 {G c : Int → Int} {t : Int} {T : Nat → Int32} (h : ∀ x : Int, 0 ≤ x → x ≤ 5460 → tBy T x = c x) : GRP G c t 0 t T := ⟨rfl, rfl, h⟩
theorem grp_s {G c : Int → Int} {t ln tt v : Int} {T : Nat → Int32} (h : GRP G c t ln tt T) (l0 : 0 ≤ ln) (t0 : 0 ≤ tt) (t1 : tt ≤ 5460) (hp : 0 < tBy T tt) (hv : v = G tt) : GRP G c t (ln + 1) v (upd T (tt : Int).toNat (Int32.ofInt 0)) := by
  have h1 := h.1
  have h2 := h.2.1
  have hc : 0 < (grI G c t ln.toNat).1 (grI G c t ln.toNat).2.1 := by rw [← h1, ← h.2.2 tt t0 t1]; exact hp
  unfold GRP
  rw [gr_s l0, if_pos hc, ← h1]
  refine ⟨hv, by (try dsimp only); omega, fun x x0 x1 => ?_⟩
  (try dsimp only)
  rw [zupI (by exact ⟨by omega, by omega⟩) t0 x0]
  by_cases e : x = tt
  · rw [if_pos e, e, up_eq]
  · rw [if_neg e, up_ne e]
    exact h.2.2 x x0 x1
noncomputable def GRE (G c : Int → Int) (t ln : Int) (T : Nat → Int32) : Prop := ln = (grF G c t).2.2 ∧ ∀ x : Int, 0 ≤ x → x ≤ 5460 → tBy T x = (grF G c t).1 x
theorem grp_e {G c : Int → Int} {t ln tt : Int} {T : Nat → Int32} (h : GRP G c t ln tt T) (l0 : 0 ≤ ln) (l1 : ln ≤ 5461) (t0 : 0 ≤ tt) (t1 : tt ≤ 5460) (hx : tBy T tt ≤ 0 ∨ 5461 ≤ ln) : GRE G c t ln T := by
  have e : grI G c t ln.toNat = grF G c t := by
    rcases hx with z | z
    · exact gr_F (by rw [← h.1, ← h.2.2 tt t0 t1]; omega) (by omega)
    · have e5 := n5_e
      rw [show ln.toNat = n5 by omega]
      rfl
  unfold GRE
  rw [← e]
  exact h.2
theorem grp_l {G c : Int → Int} {t ln tt : Int} {T : Nat → Int32} (hG : GOK G) (t2 : 0 ≤ t) (t3 : t ≤ 5460) (h : GRP G c t ln tt T) (t0 : 0 ≤ tt) (t1 : tt ≤ 5460) (hp : 0 < tBy T tt) : ln < 5461 := by
  have := gr_lt (c := c) hG t2 t3 (i := ln.toNat) (by rw [← h.1, ← h.2.2 tt t0 t1]; exact hp)
  have := h.2.1
  omega
theorem gr_p {G c : Int → Int} {t : Int} (hc : 0 < c t) : ∀ i : Nat, 1 ≤ (grI G c t (i + 1)).2.2
  | 0 => by
    have e : grI G c t (0 + 1) = if 0 < c t then (upI c t 0, G t, (0 : Int) + 1) else (c, t, 0) := rfl
    rw [e, if_pos hc]
    (try dsimp only)
    omega
  | i + 1 => by
    have ih := gr_p (G := G) hc i
    have e : grI G c t (i + 1 + 1) = if 0 < (grI G c t (i + 1)).1 (grI G c t (i + 1)).2.1 then (upI (grI G c t (i + 1)).1 (grI G c t (i + 1)).2.1 0, G (grI G c t (i + 1)).2.1, (grI G c t (i + 1)).2.2 + 1) else grI G c t (i + 1) := rfl
    rw [e]
    by_cases z : 0 < (grI G c t (i + 1)).1 (grI G c t (i + 1)).2.1
    · rw [if_pos z]
      (try dsimp only)
      omega
    · rw [if_neg z]
      exact ih
theorem grF_p {G c : Int → Int} {t : Int} (hc : 0 < c t) : 1 ≤ (grF G c t).2.2 := by
  have e5 := n5_e
  have h := gr_p (G := G) hc (n5 - 1)
  rw [show n5 - 1 + 1 = n5 by omega] at h
  exact h
theorem grF_n {G c : Int → Int} {t : Int} (hc : ¬ 0 < c t) : grF G c t = (c, t, 0) := (gr_F (G := G) (c := c) (t := t) (i := 0) hc (Nat.zero_le _)).symm
noncomputable def RLP (G c : Int → Int) (tt rn best : Int) (T : Nat → Int32) : Prop := rn = (rlI G c tt.toNat).2.1 ∧ best = (rlI G c tt.toNat).2.2 ∧ ∀ x : Int, 0 ≤ x → x ≤ 5460 → tBy T x = (rlI G c tt.toNat).1 x
theorem rlp_0 {G c : Int → Int} {T : Nat → Int32} (h : ∀ x : Int, 0 ≤ x → x ≤ 5460 → tBy T x = c x) : RLP G c 0 0 0 T := ⟨rfl, rfl, h⟩
theorem rlp_b {G c : Int → Int} {tt rn best : Int} {T : Nat → Int32} (hG : GOK G) (h : RLP G c tt rn best T) (t0 : 0 ≤ tt) (t1 : tt ≤ 5461) : (0 ≤ rn ∧ rn ≤ tt) ∧ (0 ≤ best ∧ best ≤ 5461) := by
  obtain ⟨h1, h2, -⟩ := rl_k (c := c) hG tt.toNat (by omega)
  have := h.1
  have := h.2.1
  omega
theorem rlp_s {G c : Int → Int} {tt rn rn2 best best2 ln : Int} {T T2 : Nat → Int32} (hG : GOK G) (h : RLP G c tt rn best T) (t0 : 0 ≤ tt) (t1 : tt ≤ 5460) (hg : GRE G (rlI G c tt.toNat).1 tt ln T2) (hr : (0 < ln ∧ rn2 = rn + 1) ∨ (ln ≤ 0 ∧ rn2 = rn)) (hb : best ≤ best2 ∧ ln ≤ best2 ∧ (best2 = best ∨ best2 = ln)) : RLP G c (tt + 1) rn2 best2 T2 := by
  have h1 := h.1
  have h2 := h.2.1
  have hb2 := rlp_b hG h t0 (by omega)
  unfold GRE at hg
  obtain ⟨h3, h4⟩ := hg
  unfold RLP
  rw [rl_s t0]
  by_cases z : 0 < (rlI G c tt.toNat).1 tt
  · have hp := grF_p (G := G) z
    rw [if_pos z]
    generalize grF G (rlI G c tt.toNat).1 tt = X at h3 h4 hp ⊢
    refine ⟨?_, ?_, h4⟩
    · (try dsimp only)
      omega
    · (try dsimp only)
      split <;> omega
  · have en := grF_n (G := G) z
    rw [if_neg z]
    rw [en] at h3 h4 ⊢
    refine ⟨?_, ?_, h4⟩
    · (try dsimp only at h3 ⊢)
      omega
    · (try dsimp only at h3 ⊢)
      split <;> omega
theorem rlp_n {G c : Int → Int} {tt rn best : Int} {T : Nat → Int32} (hG : GOK G) (h : RLP G c tt rn best T) (t0 : 0 ≤ tt) (t1 : tt ≤ 5460) (hc : tBy T tt ≤ 0) : RLP G c (tt + 1) rn best T := by
  have hb := rlp_b hG h t0 (by omega)
  have z : ¬ 0 < (rlI G c tt.toNat).1 tt := by rw [← h.2.2 tt t0 t1]; omega
  have hg : GRE G (rlI G c tt.toNat).1 tt 0 T := by
    unfold GRE
    rw [grF_n (G := G) z]
    exact ⟨rfl, h.2.2⟩
  exact rlp_s (ln := 0) hG h t0 t1 hg (Or.inr ⟨Int.le_refl _, rfl⟩) ⟨Int.le_refl _, by omega, Or.inl rfl⟩
theorem rlp_y {G c : Int → Int} {tt rn best best2 ln : Int} {T T2 : Nat → Int32} (hG : GOK G) (h : RLP G c tt rn best T) (t0 : 0 ≤ tt) (t1 : tt ≤ 5460) (hc : 0 < tBy T tt) (hg : GRE G (rlI G c tt.toNat).1 tt ln T2) (hb : best ≤ best2 ∧ ln ≤ best2 ∧ (best2 = best ∨ best2 = ln)) : RLP G c (tt + 1) (rn + 1) best2 T2 := by
  have z : 0 < (rlI G c tt.toNat).1 tt := by rw [← h.2.2 tt t0 t1]; exact hc
  have hl : 0 < ln := by
    have h3 : ln = (grF G (rlI G c tt.toNat).1 tt).2.2 := hg.1
    rw [h3]
    exact Int.lt_of_lt_of_le (by decide) (grF_p (G := G) z)
  exact rlp_s hG h t0 t1 hg (Or.inl ⟨hl, rfl⟩) hb
theorem rlp_e {G c : Int → Int} {tt rn best : Int} {T : Nat → Int32} (h : RLP G c tt rn best T) (e : tt = 5461) : rn = (rlI G c 5461).2.1 ∧ best = (rlI G c 5461).2.2 := by
  rw [e] at h
  exact ⟨h.1, h.2.1⟩
noncomputable def AN6 (A : Nat → Int32) (v0 v1 v2 v3 v4 v5 : Int) : Prop := tBy A 0 = v0 ∧ tBy A 1 = v1 ∧ tBy A 2 = v2 ∧ tBy A 3 = v3 ∧ tBy A 4 = v4 ∧ tBy A 5 = v5
theorem an6_0 {A : Nat → Int32} {v0 v1 v2 v3 v4 v5 x : Int} (h : AN6 A v0 v1 v2 v3 v4 v5) (hx : r32 x) : AN6 (upd A (0 : Int).toNat (Int32.ofInt x)) x v1 v2 v3 v4 v5 := ⟨(zupI hx (by decide) (by decide)).trans (if_pos rfl), (zupI hx (by decide) (by decide)).trans ((if_neg (by decide)).trans h.2.1), (zupI hx (by decide) (by decide)).trans ((if_neg (by decide)).trans h.2.2.1), (zupI hx (by decide) (by decide)).trans ((if_neg (by decide)).trans h.2.2.2.1), (zupI hx (by decide) (by decide)).trans ((if_neg (by decide)).trans h.2.2.2.2.1), (zupI hx (by decide) (by decide)).trans ((if_neg (by decide)).trans h.2.2.2.2.2)⟩
theorem an6_1 {A : Nat → Int32} {v0 v1 v2 v3 v4 v5 x : Int} (h : AN6 A v0 v1 v2 v3 v4 v5) (hx : r32 x) : AN6 (upd A (1 : Int).toNat (Int32.ofInt x)) v0 x v2 v3 v4 v5 := ⟨(zupI hx (by decide) (by decide)).trans ((if_neg (by decide)).trans h.1), (zupI hx (by decide) (by decide)).trans (if_pos rfl), (zupI hx (by decide) (by decide)).trans ((if_neg (by decide)).trans h.2.2.1), (zupI hx (by decide) (by decide)).trans ((if_neg (by decide)).trans h.2.2.2.1), (zupI hx (by decide) (by decide)).trans ((if_neg (by decide)).trans h.2.2.2.2.1), (zupI hx (by decide) (by decide)).trans ((if_neg (by decide)).trans h.2.2.2.2.2)⟩
theorem an6_2 {A : Nat → Int32} {v0 v1 v2 v3 v4 v5 x : Int} (h : AN6 A v0 v1 v2 v3 v4 v5) (hx : r32 x) : AN6 (upd A (2 : Int).toNat (Int32.ofInt x)) v0 v1 x v3 v4 v5 := ⟨(zupI hx (by decide) (by decide)).trans ((if_neg (by decide)).trans h.1), (zupI hx (by decide) (by decide)).trans ((if_neg (by decide)).trans h.2.1), (zupI hx (by decide) (by decide)).trans (if_pos rfl), (zupI hx (by decide) (by decide)).trans ((if_neg (by decide)).trans h.2.2.2.1), (zupI hx (by decide) (by decide)).trans ((if_neg (by decide)).trans h.2.2.2.2.1), (zupI hx (by decide) (by decide)).trans ((if_neg (by decide)).trans h.2.2.2.2.2)⟩
theorem an6_3 {A : Nat → Int32} {v0 v1 v2 v3 v4 v5 x : Int} (h : AN6 A v0 v1 v2 v3 v4 v5) (hx : r32 x) : AN6 (upd A (3 : Int).toNat (Int32.ofInt x)) v0 v1 v2 x v4 v5 := ⟨(zupI hx (by decide) (by decide)).trans ((if_neg (by decide)).trans h.1), (zupI hx (by decide) (by decide)).trans ((if_neg (by decide)).trans h.2.1), (zupI hx (by decide) (by decide)).trans ((if_neg (by decide)).trans h.2.2.1), (zupI hx (by decide) (by decide)).trans (if_pos rfl), (zupI hx (by decide) (by decide)).trans ((if_neg (by decide)).trans h.2.2.2.2.1), (zupI hx (by decide) (by decide)).trans ((if_neg (by decide)).trans h.2.2.2.2.2)⟩
theorem an6_4 {A : Nat → Int32} {v0 v1 v2 v3 v4 v5 x : Int} (h : AN6 A v0 v1 v2 v3 v4 v5) (hx : r32 x) : AN6 (upd A (4 : Int).toNat (Int32.ofInt x)) v0 v1 v2 v3 x v5 := ⟨(zupI hx (by decide) (by decide)).trans ((if_neg (by decide)).trans h.1), (zupI hx (by decide) (by decide)).trans ((if_neg (by decide)).trans h.2.1), (zupI hx (by decide) (by decide)).trans ((if_neg (by decide)).trans h.2.2.1), (zupI hx (by decide) (by decide)).trans ((if_neg (by decide)).trans h.2.2.2.1), (zupI hx (by decide) (by decide)).trans (if_pos rfl), (zupI hx (by decide) (by decide)).trans ((if_neg (by decide)).trans h.2.2.2.2.2)⟩
theorem an6_5 {A : Nat → Int32} {v0 v1 v2 v3 v4 v5 x : Int} (h : AN6 A v0 v1 v2 v3 v4 v5) (hx : r32 x) : AN6 (upd A (5 : Int).toNat (Int32.ofInt x)) v0 v1 v2 v3 v4 x := ⟨(zupI hx (by decide) (by decide)).trans ((if_neg (by decide)).trans h.1), (zupI hx (by decide) (by decide)).trans ((if_neg (by decide)).trans h.2.1), (zupI hx (by decide) (by decide)).trans ((if_neg (by decide)).trans h.2.2.1), (zupI hx (by decide) (by decide)).trans ((if_neg (by decide)).trans h.2.2.2.1), (zupI hx (by decide) (by decide)).trans ((if_neg (by decide)).trans h.2.2.2.2.1), (zupI hx (by decide) (by decide)).trans (if_pos rfl)⟩
theorem an6_z {A : Nat → Int32} (h : ∀ x : Int, 0 ≤ x → x < 6 → tBy A x = 0) : AN6 A 0 0 0 0 0 0 := ⟨h 0 (by decide) (by decide), h 1 (by decide) (by decide), h 2 (by decide) (by decide), h 3 (by decide) (by decide), h 4 (by decide) (by decide), h 5 (by decide) (by decide)⟩
theorem st5_0 {A : Nat → Int32} {P : Nat → Bool} (h : ∀ x : Int, 0 ≤ x → x < 6 → tBy A x = 0) : AN6 A 0 0 0 0 0 (cntP P (0 : Int).toNat : Int) := by
  rw [← cn_0]
  exact an6_z h
noncomputable def stP (G : Int → Int) (t : Nat) : Bool := decide (G (t : Int) = (t : Int))
theorem stP_t {G : Int → Int} {t v : Int} (t0 : 0 ≤ t) (hv : v = G t) (h : v = t) : stP G t.toNat = true := by
  unfold stP
  rw [Int.toNat_of_nonneg t0]
  exact decide_eq_true (hv.symm.trans h)
theorem stP_f {G : Int → Int} {t v : Int} (t0 : 0 ≤ t) (hv : v = G t) (h : v ≠ t) : stP G t.toNat = false := by
  unfold stP
  rw [Int.toNat_of_nonneg t0]
  exact decide_eq_false (fun z => h (hv.trans z))
theorem st5_y {A : Nat → Int32} {P : Nat → Bool} {k : Int} (h : AN6 A 0 0 0 0 0 (cntP P k.toNat : Int)) (k0 : 0 ≤ k) (k1 : k ≤ 5460) (hp : P k.toNat = true) : AN6 (upd A (5 : Int).toNat (Int32.ofInt (tBy A 5 + 1))) 0 0 0 0 0 (cntP P (k + 1).toNat : Int) := by
  have h5 := h.2.2.2.2.2
  have hl := cn_le P k.toNat
  rw [← cn_1 k0 h5 hp]
  exact an6_5 h (by exact ⟨by omega, by omega⟩)
theorem st5_n {A : Nat → Int32} {P : Nat → Bool} {k : Int} (h : AN6 A 0 0 0 0 0 (cntP P k.toNat : Int)) (k0 : 0 ≤ k) (hp : P k.toNat = false) : AN6 A 0 0 0 0 0 (cntP P (k + 1).toNat : Int) := by
  rw [← cn_n k0 (n := (cntP P k.toNat : Int)) rfl hp]
  exact h
theorem an6_m {G c rb : Int → Int} {A : Nat → Int32} {e v k : Int} (h : AN6 A 0 0 (5461 - e) 0 v (cntP (stP G) k.toNat : Int)) (he : e = (flF G).1) (hv : v = (zlN (ldP G 5461) 5461).1) (hk : k = 5461) : AN6 A 0 0 (5461 - (flF G).1) (mxN c rb (0 : Int).toNat) (urN G) (stN G) := by
  rw [he, hv, hk] at h
  exact h
theorem mx_y {G : Int → Int} {A O L B : Nat → Int32} {a0 a1 a2 a4 a5 sz tt m : Int} (hq : TQ (flF G) sz O L B) (h : AN6 A a0 a1 a2 (mxN (flF G).2.2.1 (flF G).2.2.2.2 tt.toNat) a4 a5) (t0 : 0 ≤ tt) (t1 : tt ≤ 5460) (hc : 0 < tBy L tt) (hm : tBy A 3 ≤ m ∧ tBy B tt ≤ m ∧ (m = tBy A 3 ∨ m = tBy B tt)) : AN6 (upd A (3 : Int).toNat (Int32.ofInt m)) a0 a1 a2 (mxN (flF G).2.2.1 (flF G).2.2.2.2 (tt + 1).toNat) a4 a5 := by
  have h3 := h.2.2.2.1
  have hb := hq.2.2.2 tt t0 t1
  have e : mxN (flF G).2.2.1 (flF G).2.2.2.2 (tt + 1).toNat = m := by
    rw [mx_s t0, if_pos (by rw [← hq.2.2.1 tt t0 t1]; exact hc), ← h3, ← hb]
    split <;> omega
  rw [e]
  refine an6_3 h ?_
  rcases hm.2.2 with z | z
  · rw [z]
    exact tBy_r _ _
  · rw [z]
    exact tBy_r _ _
theorem mx_n {G : Int → Int} {A O L B : Nat → Int32} {a0 a1 a2 a4 a5 sz tt : Int} (hq : TQ (flF G) sz O L B) (h : AN6 A a0 a1 a2 (mxN (flF G).2.2.1 (flF G).2.2.2.2 tt.toNat) a4 a5) (t0 : 0 ≤ tt) (t1 : tt ≤ 5460) (hc : tBy L tt ≤ 0) : AN6 A a0 a1 a2 (mxN (flF G).2.2.1 (flF G).2.2.2.2 (tt + 1).toNat) a4 a5 := by
  rw [mx_s t0, if_neg (by rw [← hq.2.2.1 tt t0 t1]; omega)]
  exact h
theorem an6_s {A : Nat → Int32} {a b c d e f : Int} (h : AN6 A a b c d e f) : AN6 A (tBy A 0) (tBy A 1) c d e f := ⟨rfl, rfl, h.2.2⟩
theorem rlp_a {G c : Int → Int} {A T : Nat → Int32} {a b v2 v3 v4 v5 tt : Int} (hA : AN6 A a b v2 v3 v4 v5) (h : RLP G c tt a b T) : RLP G c tt (tBy A 0) (tBy A 1) T := by
  rw [hA.1, hA.2.1]
  exact h
theorem an6_x {A : Nat → Int32} {a b c v4 v5 tt : Int} {f g : Int → Int} (h : AN6 A a b c (mxN f g tt.toNat) v4 v5) (e : tt = 5461) : AN6 A a b c (mxN f g 5461) v4 v5 := by
  rw [e] at h
  exact h
theorem orv_0 {G : Int → Int} {w : Int} (h : w = 0) : orV G w = (rlI G (flF G).2.2.1 5461).2.1 := by
  unfold orV
  rw [if_pos h]
theorem orv_1 {G : Int → Int} {w : Int} (h : w = 1) : orV G w = (rlI G (flF G).2.2.1 5461).2.2 := by
  unfold orV
  rw [if_neg (by omega), if_pos h]
theorem orv_2 {G : Int → Int} {w : Int} (h : w = 2) : orV G w = 5461 - (flF G).1 := by
  unfold orV
  rw [if_neg (by omega), if_neg (by omega), if_pos h]
theorem orv_3 {G : Int → Int} {w : Int} (h : w = 3) : orV G w = tlV G := by
  unfold orV
  rw [if_neg (by omega), if_neg (by omega), if_neg (by omega), if_pos h]
theorem orv_4 {G : Int → Int} {w : Int} (h : w = 4) : orV G w = urN G := by
  unfold orV
  rw [if_neg (by omega), if_neg (by omega), if_neg (by omega), if_neg (by omega), if_pos h]
theorem orv_5 {G : Int → Int} {w : Int} (h : w = 5) : orV G w = stN G := by
  unfold orV
  rw [if_neg (by omega), if_neg (by omega), if_neg (by omega), if_neg (by omega), if_neg (by omega)]
theorem orv_all {G : Int → Int} {A T : Nat → Int32} {tt : Int} (hG : GOK G) (hR : RLP G (flF G).2.2.1 tt (tBy A 0) (tBy A 1) T) (hA : AN6 A (tBy A 0) (tBy A 1) (5461 - (flF G).1) (mxN (flF G).2.2.1 (flF G).2.2.2.2 5461) (urN G) (stN G)) (e : tt = 5461) : ∀ k : Int, 0 ≤ k → k ≤ 5 → tBy A k = orV G k := by
  intro k k0 k1
  have hk : k = 0 ∨ k = 1 ∨ k = 2 ∨ k = 3 ∨ k = 4 ∨ k = 5 := by omega
  have hR2 := rlp_e hR e
  rcases hk with z | z | z | z | z | z
  · rw [orv_0 z, z]
    exact hR2.1
  · rw [orv_1 z, z]
    exact hR2.2
  · rw [orv_2 z, z]
    exact hA.2.2.1
  · rw [orv_3 z, z, ← mx_tl hG]
    exact hA.2.2.2.1
  · rw [orv_4 z, z]
    exact hA.2.2.2.2.1
  · rw [orv_5 z, z]
    exact hA.2.2.2.2.2
noncomputable def TLP (G o : Int → Int) (e jj best : Int) (T : Nat → Int32) : Prop := best = (tlI G o e (e - 1 - jj).toNat).2 ∧ ∀ x : Int, 0 ≤ x → x ≤ 5460 → tBy T x = (tlI G o e (e - 1 - jj).toNat).1 x
theorem tlp_0 {G o : Int → Int} {e : Int} {T : Nat → Int32} (h : ∀ x : Int, 0 ≤ x → x < 5461 → tBy T x = 0) : TLP G o e (e - 1) 0 T := by
  unfold TLP
  rw [show (e - 1 - (e - 1)).toNat = 0 by omega]
  exact ⟨rfl, fun x x0 x1 => h x x0 (by omega)⟩
theorem tlp_b {G : Int → Int} {s : FS} {jj best : Int} {T : Nat → Int32} (hk : FSK G 5461 s) (h : TLP G s.2.1 s.1 jj best T) (j0 : -1 ≤ jj) (j1 : jj < s.1) : (0 ≤ best ∧ best ≤ 5461) ∧ ∀ x : Int, 0 ≤ x → x ≤ 5460 → 0 ≤ tBy T x ∧ tBy T x ≤ 5461 := by
  obtain ⟨a1, a2, a3, a4, -⟩ := tl_k hk (s.1 - 1 - jj).toNat (by omega)
  have hb := hk.1
  have h1 := h.1
  refine ⟨by omega, fun x x0 x1 => ?_⟩
  have h2 := h.2 x x0 x1
  have h3 := a3 x
  omega
theorem tlp_s {G : Int → Int} {s : FS} {e jj best m v : Int} {O L T : Nat → Int32} (hk : FSK G 5461 s) (hq : TQR s e O L) (h : TLP G s.2.1 s.1 jj best T) (j0 : 0 ≤ jj) (j1 : jj < e) (hv : v = G (tBy O jj)) (hv2 : 0 ≤ v ∧ v ≤ 5460) (hm : best ≤ m ∧ tBy T v + 1 ≤ m ∧ (m = best ∨ m = tBy T v + 1)) : TLP G s.2.1 s.1 (jj + (-1)) m (upd T (tBy O jj : Int).toNat (Int32.ofInt (tBy T v + 1))) := by
  have he := hq.1
  have hb := tlp_b hk h (by omega) (by omega)
  have ht := hk.2.1 jj j0 (by omega)
  have et : tBy O jj = s.2.1 jj := hq.2.1 jj j0 (by omega)
  have hv3 := hb.2 v hv2.1 hv2.2
  have h1 := h.1
  have h2 := h.2 v hv2.1 hv2.2
  rw [et] at hv ⊢
  unfold TLP
  rw [show (s.1 - 1 - (jj + (-1))).toNat = (s.1 - 1 - jj + 1).toNat by omega, tl_s (by omega) (by omega), show s.1 - 1 - (s.1 - 1 - jj) = jj by omega, ← hv, ← h1, ← h2]
  refine ⟨by (try dsimp only); split <;> omega, fun x x0 x1 => ?_⟩
  (try dsimp only)
  rw [zupI (by exact ⟨by omega, by omega⟩) ht.1 x0]
  by_cases c : x = s.2.1 jj
  · rw [if_pos c, c, up_eq]
  · rw [if_neg c, up_ne c]
    exact h.2 x x0 x1
theorem tlp_eS {G : Int → Int} {s : FS} {jj best : Int} {T : Nat → Int32} (h : TLP G s.2.1 s.1 jj best T) (e : jj = -1) : best = (tlI G s.2.1 s.1 s.1.toNat).2 := by
  have h1 := h.1
  rw [e, show s.1 - 1 - (-1) = s.1 by omega] at h1
  exact h1
/-- an answer, kept from the arithmetic -/
noncomputable def ISV (a b : Int) : Prop := a = b
theorem isv {a b : Int} (h : ISV a b) : a = b := h
noncomputable def ZLE (c : Int → Int) (v : Int) (T : Nat → Int32) : Prop := v = (zlN c 5461).1 ∧ ∀ j : Int, 0 ≤ j → j < v → tBy T j = (zlN c 5461).2 j
