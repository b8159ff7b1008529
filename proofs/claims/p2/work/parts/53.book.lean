/-! A BOOK THAT IS BEING TOLD. -/
def rel (gk gn : Nat → Int32) (j : Nat) : Prop := ((gk j).toInt = 0 → (gn j).toInt ≤ 3) ∧ (1 ≤ (gk j).toInt → (gk j).toInt ≤ 3 → 1 ≤ (gn j).toInt)
def REL (w : zW) (p : Nat) : Prop := ∃ gk gn, zix w p = some (.inl (1, 20, .inl gk)) ∧ zix w (p + 1) = some (.inl (1, 20, .inl gn)) ∧ ∀ j, j < 20 → rel gk gn j
theorem REL_fr {w w' : zW} {p : Nat} (h1 : zix w' p = zix w p) (h2 : zix w' (p + 1) = zix w (p + 1)) (h : REL w p) : REL w' p := by
  obtain ⟨gk, gn, a, b, c⟩ := h
  exact ⟨gk, gn, h1.trans a, h2.trans b, c⟩
def BSx (w : zW) (p : Nat) (line : Int) : Prop := ∃ (x : Value) (nr : Int) (fs : List Value) (gs gk gn : Nat → Int32), zix w p = some (.inr (0, x :: .int (Int32.ofInt nr) :: fs)) ∧ zix w (p + 2) = some (.inl (1, 5, .inl gs)) ∧ zix w (p + 3) = some (.inl (1, 20, .inl gk)) ∧ zix w (p + 4) = some (.inl (1, 20, .inl gn)) ∧ (1 ≤ nr ∧ nr ≤ 5) ∧ (1 ≤ (gs (nr - 1).toNat).toInt ∧ (gs (nr - 1).toNat).toInt ≤ 4) ∧ (gk ((nr - 1) * 4 + (gs (nr - 1).toNat).toInt - 1).toNat).toInt = line ∧ ∀ j, j < 20 → j ≠ ((nr - 1) * 4 + (gs (nr - 1).toNat).toInt - 1).toNat → rel gk gn j
theorem BSx_fr {w w' : zW} {p : Nat} {line : Int} (h0 : zix w' p = zix w p) (h2 : zix w' (p + 2) = zix w (p + 2)) (h3 : zix w' (p + 3) = zix w (p + 3)) (h4 : zix w' (p + 4) = zix w (p + 4)) (h : BSx w p line) : BSx w' p line := by
  obtain ⟨x, nr, fs, gs, gk, gn, a, b, c, d, e⟩ := h
  exact ⟨x, nr, fs, gs, gk, gn, h0.trans a, h2.trans b, h3.trans c, h4.trans d, e⟩
theorem gEq {t n t' n' : Nat} {g g' : Nat → Int32} (h : (some (.inl (t, n, .inl g)) : Option va_E) = some (.inl (t', n', .inl g'))) : g = g' :=
  congrArg (fun o : Option va_E => match o with
    | some (.inl (_, _, .inl g)) => g
    | _ => fun _ => 0) h
theorem f1Eq {c c' : Nat} {x y : Value} {a b : Int} {fs fs' : List Value} (ha : -2147483648 ≤ a ∧ a ≤ 2147483647) (hb : -2147483648 ≤ b ∧ b ≤ 2147483647) (h : (some (.inr (c, x :: .int (Int32.ofInt a) :: fs)) : Option va_E) = some (.inr (c', y :: .int (Int32.ofInt b) :: fs'))) : a = b := by
  have e : (Int32.ofInt a).toInt = (Int32.ofInt b).toInt := congrArg (fun o : Option va_E => match o with
    | some (.inr (_, _ :: .int z :: _)) => z.toInt
    | _ => 0) h
  rw [zti ha.1 ha.2, zti hb.1 hb.2] at e
  exact e
theorem f0Eq {c c' : Nat} {a b : Int} {fs fs' : List Value} (ha : -2147483648 ≤ a ∧ a ≤ 2147483647) (hb : -2147483648 ≤ b ∧ b ≤ 2147483647) (h : (some (.inr (c, .int (Int32.ofInt a) :: fs)) : Option va_E) = some (.inr (c', .int (Int32.ofInt b) :: fs'))) : a = b := by
  have e : (Int32.ofInt a).toInt = (Int32.ofInt b).toInt := congrArg (fun o : Option va_E => match o with
    | some (.inr (_, .int z :: _)) => z.toInt
    | _ => 0) h
  rw [zti ha.1 ha.2, zti hb.1 hb.2] at e
  exact e
theorem bsx_at {w : zW} {p : Nat} {line n : Int} {y : Value} {fs : List Value} {gs : Nat → Int32} (h : BSx w p line) (hO : zix w p = some (.inr (0, y :: .int (Int32.ofInt n) :: fs))) (hn : 0 ≤ n ∧ n ≤ 5) (hs : zix w (p + 2) = some (.inl (1, 5, .inl gs))) : 1 ≤ n ∧ 1 ≤ (gs (n - 1).toNat).toInt ∧ (gs (n - 1).toNat).toInt ≤ 4 ∧ ∃ gk gn, zix w (p + 3) = some (.inl (1, 20, .inl gk)) ∧ zix w (p + 4) = some (.inl (1, 20, .inl gn)) ∧ (gk ((n - 1) * 4 + (gs (n - 1).toNat).toInt - 1).toNat).toInt = line ∧ ∀ j, j < 20 → j ≠ ((n - 1) * 4 + (gs (n - 1).toNat).toInt - 1).toNat → rel gk gn j := by
  obtain ⟨x, nr, fs', gs', gk, gn, a, b, c, d, e1, e2, e3, e4⟩ := h
  obtain rfl : nr = n := f1Eq (by omega) (by omega) (a.symm.trans hO)
  obtain rfl : gs' = gs := gEq (b.symm.trans hs)
  exact ⟨e1.1, e2.1, e2.2, gk, gn, c, d, e3, e4⟩
def BST (w : zW) (p : Nat) (line : Int) : Prop := (line ≤ 3 → BSx w p line) ∧ (line = 4 → REL w (p + 3))
theorem bst_of {w w1 w2 : zW} {p : Nat} {x : Value} {fs : List Value} {nr s line : Int} {gs gk : Nat → Int32} (hO : zix w2 p = some (.inr (0, x :: .int (Int32.ofInt nr) :: fs))) (hnr : 1 ≤ nr ∧ nr ≤ 5) (hs4 : 0 ≤ s ∧ s ≤ 3) (hl : 0 ≤ line ∧ line ≤ 4) (hR : REL w (p + 3)) (hk : zix w (p + 3) = some (.inl (1, 20, .inl gk))) (f1 : wfr (p + 3) w w1) (k1 : zix w1 (p + 3) = some (.inl (1, 20, .inl (upd gk ((nr - 1) * 4 + s).toNat (Int32.ofInt line))))) (f2 : wfr (p + 2) w1 w2) (k2 : zix w2 (p + 2) = some (.inl (1, 5, .inl (upd gs (nr - 1).toNat (Int32.ofInt (s + 1)))))) : BST w2 p line := by
  obtain ⟨gk', gn, a, b, c⟩ := hR
  obtain rfl : gk' = gk := gEq (a.symm.trans hk)
  have k3 : zix w2 (p + 3) = some (.inl (1, 20, .inl (upd gk' ((nr - 1) * 4 + s).toNat (Int32.ofInt line)))) := (f2.2 (p + 3) (by omega)).trans k1
  have k4 : zix w2 (p + 4) = some (.inl (1, 20, .inl gn)) := (f2.2 (p + 4) (by omega)).trans ((f1.2 (p + 4) (by omega)).trans b)
  have es : ((upd gs (nr - 1).toNat (Int32.ofInt (s + 1))) (nr - 1).toNat).toInt = s + 1 := by rw [pk_us, zti (by omega) (by omega)]
  have ei : ((nr - 1) * 4 + (s + 1) - 1).toNat = ((nr - 1) * 4 + s).toNat := by congr 1; omega
  refine ⟨fun h3 => ⟨x, nr, fs, _, _, gn, hO, k2, k3, k4, hnr, by rw [es]; omega, ?_, fun j hj hne => ?_⟩, fun h4 => ⟨_, gn, k3, k4, fun j hj => ?_⟩⟩
  · rw [es, ei, pk_us, zti (by omega) (by omega)]
  · rw [es, ei] at hne
    unfold rel
    rw [pk_un hne]
    exact c j hj
  · by_cases e : j = ((nr - 1) * 4 + s).toNat
    · subst e
      unfold rel
      rw [pk_us, zti (by omega) (by omega)]
      exact ⟨fun h => by omega, fun _ h => by omega⟩
    · unfold rel
      rw [pk_un e]
      exact c j hj
def nb (k : Int) : Int := if k ≤ 0 then 0 else if k = 1 then 4 else if k = 2 then 20 else if k = 3 then 84 else if k = 4 then 340 else if k = 5 then 1364 else 5460
theorem nb_up {k : Int} (h : 0 ≤ k) (h5 : k ≤ 5) : 4 * nb k + 4 ≤ nb (k + 1) := by
  have : k = 0 ∨ k = 1 ∨ k = 2 ∨ k = 3 ∨ k = 4 ∨ k = 5 := by omega
  rcases this with rfl | rfl | rfl | rfl | rfl | rfl <;> decide
theorem nb_big {k : Int} (h : 6 ≤ k) : nb k = 5460 := by
  unfold nb
  rw [if_neg (by omega), if_neg (by omega), if_neg (by omega), if_neg (by omega), if_neg (by omega), if_neg (by omega)]
theorem nb_small {k : Int} (h : k ≤ 0) : nb k = 0 := by
  unfold nb
  rw [if_pos h]
theorem nb_cs (k : Int) : k ≤ 0 ∨ k = 1 ∨ k = 2 ∨ k = 3 ∨ k = 4 ∨ k = 5 ∨ 6 ≤ k := by omega
theorem nb_le (k : Int) : nb k ≤ 5460 := by
  rcases nb_cs k with h | rfl | rfl | rfl | rfl | rfl | h
  · rw [nb_small h]; decide
  iterate 5 decide
  · rw [nb_big h]; decide
theorem nb_0 (k : Int) : 0 ≤ nb k := by
  rcases nb_cs k with h | rfl | rfl | rfl | rfl | rfl | h
  · rw [nb_small h]; decide
  iterate 5 decide
  · rw [nb_big h]; decide
theorem nb_mo (k : Int) : nb k ≤ nb (k + 1) := by
  rcases nb_cs k with h | rfl | rfl | rfl | rfl | rfl | h
  · rw [nb_small h]; exact nb_0 _
  iterate 5 decide
  · rw [nb_big h, nb_big (by omega)]; decide
def bnum (w : zW) (p : Nat) (b : Int) : Prop := ∃ (n : Int) (fs : List Value), zix w p = some (.inr (0, .int (Int32.ofInt n) :: fs)) ∧ 0 ≤ n ∧ n ≤ b
theorem bnum_le {w : zW} {p : Nat} {b x : Int} {fs : List Value} (h : bnum w p b) (hb : b ≤ 5460) (hO : zix w p = some (.inr (0, .int (Int32.ofInt x) :: fs))) (hx : 0 ≤ x ∧ x ≤ 5460) : x ≤ b := by
  obtain ⟨n, fs', a, b1, b2⟩ := h
  obtain rfl : n = x := f0Eq (by omega) (by omega) (a.symm.trans hO)
  exact b2
def LN (w : zW) (p : Nat) (line k f : Int) : Prop := (f ≠ 0 ∨ ((line ≤ 3 ∧ k = 0 → BSx w p line) ∧ (¬ (line ≤ 3 ∧ k = 0) → REL w (p + 3)))) ∧ (line = 5 → bnum w p (nb k))
theorem LN_fr {w w' : zW} {p : Nat} {line k f : Int} (h0 : zix w' p = zix w p) (h2 : zix w' (p + 2) = zix w (p + 2)) (h3 : zix w' (p + 3) = zix w (p + 3)) (h4 : zix w' (p + 4) = zix w (p + 4)) (h : LN w p line k f) : LN w' p line k f := by
  refine ⟨h.1.elim Or.inl fun a => Or.inr ⟨fun e => BSx_fr h0 h2 h3 h4 (a.1 e), fun e => REL_fr h3 h4 (a.2 e)⟩, fun e => ?_⟩
  obtain ⟨n, fs, a, b⟩ := h.2 e
  exact ⟨n, fs, h0.trans a, b⟩
theorem bnum_mo {w : zW} {p : Nat} {b b' : Int} (h : bnum w p b) (hb : b ≤ b') : bnum w p b' := by
  obtain ⟨n, fs, a, b1, b2⟩ := h
  exact ⟨n, fs, a, b1, by omega⟩
theorem ln_f {w : zW} {p : Nat} {line k f f' : Int} (h : LN w p line k f) (hf : f' ≠ 0) : LN w p line (k + 1) f' :=
  ⟨Or.inl hf, fun e => bnum_mo (h.2 e) (nb_mo k)⟩
theorem ln_ff {w : zW} {p : Nat} {line k f f' : Int} (h : LN w p line k f) (hf : f' = f ∨ f' ≠ 0) : LN w p line k f' := by
  rcases hf with rfl | hf
  · exact h
  · exact ⟨Or.inl hf, h.2⟩
theorem ln_up {w : zW} {p : Nat} {line k f : Int} (h : LN w p line k f) (h4 : 4 ≤ line) (h5 : line ≠ 5) : LN w p line (k + 1) f :=
  ⟨h.1.elim Or.inl fun a => Or.inr ⟨fun e => by omega, fun _ => a.2 (by omega)⟩, fun e => absurd e h5⟩
/-- a line but a step's: the steps stay -/
theorem ln_w {w w' : zW} {p : Nat} {line k f : Int} (h : LN w p line k f) (h4 : 4 ≤ line) (h3 : zix w' (p + 3) = zix w (p + 3)) (h4' : zix w' (p + 4) = zix w (p + 4)) (hb : line = 5 → bnum w' p (nb (k + 1))) : LN w' p line (k + 1) f :=
  ⟨h.1.elim Or.inl fun a => Or.inr ⟨fun e => by omega, fun _ => REL_fr h3 h4' (a.2 (by omega))⟩, hb⟩
theorem ln_b {w : zW} {p : Nat} {line n f k : Int} {y : Value} {fs : List Value} (hk0 : k = 0) (h : LN w p line k f) (hl : line ≤ 3) (hO : zix w p = some (.inr (0, y :: .int (Int32.ofInt n) :: fs))) (hn : 0 ≤ n ∧ n ≤ 5) (hx : ∀ gs, zix w (p + 2) = some (.inl (1, 5, .inl gs)) → 1 ≤ n → 1 ≤ (gs (n - 1).toNat).toInt → False) : LN w p line (k + 1) f := by
  subst hk0
  refine ⟨h.1.elim Or.inl fun a => ?_, fun e => by omega⟩
  have hb := a.1 ⟨hl, rfl⟩
  obtain ⟨x, nr, fs', gs', gk, gn, a1, b, c⟩ := hb
  obtain ⟨e1, e2, _⟩ := bsx_at (a.1 ⟨hl, rfl⟩) hO hn b
  exact (hx _ b e1 e2).elim
theorem ln_s {w w1 : zW} {p : Nat} {line n f val s k : Int} {y : Value} {fs : List Value} {gs gn : Nat → Int32} (hk0 : k = 0) (h : LN w p line k f) (hl : 0 ≤ line ∧ line ≤ 3) (hO : zix w p = some (.inr (0, y :: .int (Int32.ofInt n) :: fs))) (hn : 0 ≤ n ∧ n ≤ 5) (hs : zix w (p + 2) = some (.inl (1, 5, .inl gs))) (es : s = (gs (n - 1).toNat).toInt) (hg : zix w (p + 4) = some (.inl (1, 20, .inl gn))) (f1 : wfr (p + 4) w w1) (k1 : zix w1 (p + 4) = some (.inl (1, 20, .inl (upd gn ((n - 1) * 4 + s - 1).toNat (Int32.ofInt val))))) (hv : (line = 0 ∧ 0 ≤ val ∧ val ≤ 3) ∨ (1 ≤ line ∧ 1 ≤ val ∧ val ≤ 6)) : LN w1 p line (k + 1) f := by
  subst hk0
  refine ⟨h.1.elim Or.inl fun a => Or.inr ⟨fun e => by omega, fun _ => ?_⟩, fun e => by omega⟩
  obtain ⟨e1, e2, e2', gk, gn', c, d, e3, e4⟩ := bsx_at (a.1 ⟨hl.2, rfl⟩) hO hn hs
  obtain rfl : gn' = gn := gEq (d.symm.trans hg)
  rw [← es] at e3 e4
  refine ⟨gk, _, (f1.2 (p + 3) (by omega)).trans c, k1, fun j hj => ?_⟩
  by_cases e : j = ((n - 1) * 4 + s - 1).toNat
  · subst e
    unfold rel
    rw [pk_us, zti (by omega) (by omega), e3]
    exact ⟨fun h => by omega, fun h _ => by omega⟩
  · unfold rel
    rw [pk_un e]
    exact e4 j hj e
theorem ln_0 {w : zW} {p : Nat} {line f : Int} (h : f ≠ 0 ∨ REL w (p + 3)) (h4 : 4 ≤ line) (hb : line = 5 → bnum w p 0) : LN w p line 0 f :=
  ⟨h.elim Or.inl fun a => Or.inr ⟨fun e => by omega, fun _ => a⟩, hb⟩
theorem ln_bst {w : zW} {p : Nat} {line f : Int} (h : f ≠ 0 ∨ BST w p line) (h4 : line ≤ 4) : LN w p line 0 f :=
  ⟨h.elim Or.inl fun a => Or.inr ⟨fun e => a.1 e.1, fun e => a.2 (by omega)⟩, fun e => by omega⟩
theorem ln_end {w : zW} {p : Nat} {line k f : Int} (h : LN w p line k f) (hk : ¬ (line ≤ 3 ∧ k = 0)) : f ≠ 0 ∨ REL w (p + 3) := h.1.elim Or.inl fun a => Or.inr (a.2 hk)
theorem rel_fr {w w' : zW} {p : Nat} {f : Int} (h1 : zix w' (p + 3) = zix w (p + 3)) (h2 : zix w' (p + 4) = zix w (p + 4)) (h : f ≠ 0 ∨ REL w (p + 3)) : f ≠ 0 ∨ REL w' (p + 3) := h.elim Or.inl fun a => Or.inr (REL_fr h1 h2 a)
