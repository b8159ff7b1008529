def zMf (t : zW) : zW := .inr (11, [.int 0, .ref 15, .ref 16, .ref 17, .ref 18, .ref 19, .ref 20, .ref 21, .ref 22, .int 0, .int 0, .int 0, .int 0, .int 0, .long 0, .int 0, .int 0, .int 0, .ref 23, .ref 24, .int 0, .int (-1), .int 0, .int 0, .ref 25, .ref 26, .int 0, .ref 27, .int 0, .ref 28, .ref 29, .int 0, .int 0, .int 0, .ref 30, .ref 31, .ref 32, .ref 33, .int 0, .ref 34, .ref 35, .int 0, .ref 36, .ref 37, .int 0, .ref 38, .ref 39, .ref 40, .ref 41, .ref 42, .ref 43, .ref 44]) :: .inl (0, 2400, .inl (fun _ => 0)) :: .inl (1, 4, .inl (fun _ => 0)) :: .inl (1, 4, .inl (fun _ => 0)) :: .inl (1, 4, .inl (upd (fun _ => 0) 0 (-1))) :: .inl (1, 12, .inl (fun _ => 0)) :: .inl (1, 408, .inl (fun _ => 0)) :: .inl (1, 968, .inl (fun _ => 0)) :: .inl (1, 104, .inl (fun _ => 0)) :: .inl (1, 121, .inl (fun _ => 0)) :: .inl (1, 3, .inl (fun _ => 0)) :: .inl (1, 7, .inl (fun _ => 0)) :: .inl (1, 7, .inl (fun _ => 0)) :: .inl (1, 49, .inl (fun _ => 0)) :: .inl (1, 4, .inl (fun _ => 0)) :: .inl (1, 5, .inl (fun _ => 0)) :: .inl (1, 27305, .inl (fun _ => 0)) :: .inl (1, 5461, .inl (fun _ => 0)) :: .inl (1, 5461, .inl (fun _ => 0)) :: .inl (1, 5461, .inl (fun _ => 0)) :: .inl (1, 5461, .inl (fun _ => 0)) :: .inl (1, 54610, .inl (fun _ => 0)) :: .inl (1, 54610, .inl (fun _ => 0)) :: .inl (1, 54610, .inl (fun _ => 0)) :: .inl (1, 5461, .inl (fun _ => 0)) :: .inl (1, 5461, .inl (fun _ => 0)) :: .inl (1, 5461, .inl (fun _ => 0)) :: .inl (1, 5461, .inl (fun _ => 0)) :: .inl (1, 5461, .inl (fun _ => 0)) :: .inl (1, 27305, .inl (fun _ => 0)) :: .inl (2, 3, .inl (fun _ => 0)) :: t
def zCi (c7 : va_E) (t : zW) : zW := .inr (10, [.ref 1, .ref 7, .ref 8, .ref 9, .ref 12, .ref 13, .null, .null]) :: .inr (7, [.ref 2, .int 0, .int 0, .int (-1), .ref 3, .ref 4, .ref 5, .ref 6]) :: .inl (0, 600, .inl (fun _ => 0)) :: .inl (1, 3, .inl (fun _ => 0)) :: .inl (3, 2, .inr (.inr (.inr (.inr (fun _ => none))))) :: .inl (4, 2, .inr (.inr (.inr (.inr (fun _ => none))))) :: .inl (5, 2, .inr (.inr (.inr (.inr (fun _ => none))))) :: c7 :: .inr (6, [.null, .int 0, .int 0, .int 0, .int 0, .int 0, .int 0, .int (-1)]) :: .inr (1, [.null, .int 0, .int 0, .int 0, .int 0, .ref 10, .ref 11]) :: .inl (1, 4, .inl (fun _ => 0)) :: .inl (1, 5, .inl (fun _ => 0)) :: .inl (7, 2, .inr (.inr (.inr (.inr (fun _ => none))))) :: .inl (8, 2, .inr (.inr (.inr (.inr (fun _ => none))))) :: t
def zCx (ln : Int32) (g2 : Nat → Int32) (t : zW) : zW := .inr (10, [.ref 1, .ref 7, .ref 8, .ref 9, .ref 12, .ref 13, .null, .null]) :: .inr (7, [.ref 2, .int ln, .int 0, .int (-1), .ref 3, .ref 4, .ref 5, .ref 6]) :: .inl (0, 600, .inl g2) :: .inl (1, 3, .inl (fun _ => 0)) :: .inl (3, 2, .inr (.inr (.inr (.inr (fun _ => none))))) :: .inl (4, 2, .inr (.inr (.inr (.inr (fun _ => none))))) :: .inl (5, 2, .inr (.inr (.inr (.inr (fun _ => none))))) :: .inl (6, 3, .inr (.inr (.inr (.inr (fun _ => none))))) :: .inr (6, [.null, .int 0, .int 0, .int 0, .int 0, .int 0, .int 0, .int (-1)]) :: .inr (1, [.null, .int 0, .int 0, .int 0, .int 0, .ref 10, .ref 11]) :: .inl (1, 4, .inl (fun _ => 0)) :: .inl (1, 5, .inl (fun _ => 0)) :: .inl (7, 2, .inr (.inr (.inr (.inr (fun _ => none))))) :: .inl (8, 2, .inr (.inr (.inr (.inr (fun _ => none))))) :: t
theorem z4 {n : Int32} (h0 : 0 ≤ n.toInt) (h1 : n.toInt ≤ 596) : ((n + Int32.ofInt 1).toInt = n.toInt + 1 ∧ (n + Int32.ofInt 1 + Int32.ofInt 1).toInt = n.toInt + 2) ∧ (n + Int32.ofInt 1 + Int32.ofInt 1 + Int32.ofInt 1).toInt = n.toInt + 3 ∧ (n + Int32.ofInt 1 + Int32.ofInt 1 + Int32.ofInt 1 + Int32.ofInt 1).toInt = n.toInt + 4 := by
  have a1 := zinc (i := n) (by omega) (by omega)
  have a2 := zinc (i := n + Int32.ofInt 1) (by omega) (by omega)
  have a3 := zinc (i := n + Int32.ofInt 1 + Int32.ofInt 1) (by omega) (by omega)
  have a4 := zinc (i := n + Int32.ofInt 1 + Int32.ofInt 1 + Int32.ofInt 1) (by omega) (by omega)
  omega
theorem zge600 {n : Int32} (h1 : n.toInt < 600) (h : (Int16.ofInt 600).toInt32 ≤ n) : False := by
  rw [zle_i] at h
  have e : (Int16.ofInt 600).toInt32.toInt = 600 := by decide
  omega
theorem r_putBytes (d : Nat) (n v : Int32) (g2 : Nat → Int32) (t : zW) (Q : zQ) (h0 : 0 ≤ n.toInt) (h1 : n.toInt ≤ 596) (h : ∀ g, Q none (zCx (n + Int32.ofInt 1 + Int32.ofInt 1 + Int32.ofInt 1 + Int32.ofInt 1) g t)) : zCl zTab (d + 1) iX8_putBytes [.ref 1, .int v] (zCx n g2 t) 0 0 Q := by
  obtain ⟨⟨a1, a2⟩, a3, a4⟩ := z4 h0 h1
  refine zCl_i (M := kX8_putBytes) rfl (Nat.le_of_ble_eq_true rfl) fun R hR => ?_
  iterate 2 refine hR (?_ : R (_, _, _, _, _, _))
  refine hR (?_ : R (_, _, _, _, _, _))
  refine hR (And.intro (fun hc => absurd hc (by decide)) (fun _ => ?_))
  iterate 3 refine hR (?_ : R (_, _, _, _, _, _))
  refine hR (And.intro (fun hc => (zge600 (by omega) hc).elim) (fun _ => ?_))
  iterate 8 refine hR (?_ : R (_, _, _, _, _, _))
  refine hR (And.intro (zin_of (by omega) (by omega)) ?_)
  iterate 8 refine hR (?_ : R (_, _, _, _, _, _))
  refine hR (?_ : R (_, _, _, _, _, _))
  refine hR (And.intro (fun hc => absurd hc (by decide)) (fun _ => ?_))
  iterate 3 refine hR (?_ : R (_, _, _, _, _, _))
  refine hR (And.intro (fun hc => (zge600 (by omega) hc).elim) (fun _ => ?_))
  iterate 8 refine hR (?_ : R (_, _, _, _, _, _))
  refine hR (And.intro (zin_of (by omega) (by omega)) ?_)
  iterate 8 refine hR (?_ : R (_, _, _, _, _, _))
  refine hR (?_ : R (_, _, _, _, _, _))
  refine hR (And.intro (fun hc => absurd hc (by decide)) (fun _ => ?_))
  iterate 3 refine hR (?_ : R (_, _, _, _, _, _))
  refine hR (And.intro (fun hc => (zge600 (by omega) hc).elim) (fun _ => ?_))
  iterate 8 refine hR (?_ : R (_, _, _, _, _, _))
  refine hR (And.intro (zin_of (by omega) (by omega)) ?_)
  iterate 8 refine hR (?_ : R (_, _, _, _, _, _))
  refine hR (?_ : R (_, _, _, _, _, _))
  refine hR (And.intro (fun hc => absurd hc (by decide)) (fun _ => ?_))
  iterate 3 refine hR (?_ : R (_, _, _, _, _, _))
  refine hR (And.intro (fun hc => (zge600 (by omega) hc).elim) (fun _ => ?_))
  iterate 8 refine hR (?_ : R (_, _, _, _, _, _))
  refine hR (And.intro (zin_of (by omega) (by omega)) ?_)
  iterate 8 refine hR (?_ : R (_, _, _, _, _, _))
  refine hR (?_ : R (_, _, _, _, _, _))
  refine hR (And.intro (fun _ => ?_) (fun hc => absurd (by decide) hc))
  exact hR (zret_i rfl (Nat.le_refl _) rfl (h _))
theorem r_feed (d : Nat) (a b c e f : Int32) (Q : zQ) (h : ∀ c0 c1 c2 c3 c4 c5 c6 c7 c8 c9 c10 c11 c12 c13 t, Q (some (.int 20)) (c0 :: c1 :: c2 :: c3 :: c4 :: c5 :: c6 :: c7 :: c8 :: c9 :: c10 :: c11 :: c12 :: c13 :: zMf t)) : zCl zTab (d + 2) iX11_feed [.ref 0, .int a, .int b, .int c, .int e, .int f] (zCw (zMf [])) 0 0 Q := by
  refine zCl_i (M := kX11_feed) rfl (Nat.le_of_ble_eq_true rfl) fun R hR => ?_
  iterate 4 refine hR (?_ : R (_, _, _, _, _, _))
  refine hR (And.intro (fun _ => ?_) (fun hc => absurd (by decide) hc))
  iterate 3 refine hR (?_ : R (_, _, _, _, _, _))
  refine hR (zcall_i 0 0 (Nat.le_of_ble_eq_true rfl) (Nat.le_of_ble_eq_true rfl) (r_putBytes _ (0) _ (fun _ => 0) _ _ (by decide) (by decide) (fun g0 => ?_)))
  iterate 3 refine hR (?_ : R (_, _, _, _, _, _))
  refine hR (zcall_i 0 0 (Nat.le_of_ble_eq_true rfl) (Nat.le_of_ble_eq_true rfl) (r_putBytes _ (0 + Int32.ofInt 1 + Int32.ofInt 1 + Int32.ofInt 1 + Int32.ofInt 1) _ g0 _ _ (by decide) (by decide) (fun g1 => ?_)))
  iterate 3 refine hR (?_ : R (_, _, _, _, _, _))
  refine hR (zcall_i 0 0 (Nat.le_of_ble_eq_true rfl) (Nat.le_of_ble_eq_true rfl) (r_putBytes _ (0 + Int32.ofInt 1 + Int32.ofInt 1 + Int32.ofInt 1 + Int32.ofInt 1 + Int32.ofInt 1 + Int32.ofInt 1 + Int32.ofInt 1 + Int32.ofInt 1) _ g1 _ _ (by decide) (by decide) (fun g2 => ?_)))
  iterate 3 refine hR (?_ : R (_, _, _, _, _, _))
  refine hR (zcall_i 0 0 (Nat.le_of_ble_eq_true rfl) (Nat.le_of_ble_eq_true rfl) (r_putBytes _ (0 + Int32.ofInt 1 + Int32.ofInt 1 + Int32.ofInt 1 + Int32.ofInt 1 + Int32.ofInt 1 + Int32.ofInt 1 + Int32.ofInt 1 + Int32.ofInt 1 + Int32.ofInt 1 + Int32.ofInt 1 + Int32.ofInt 1 + Int32.ofInt 1) _ g2 _ _ (by decide) (by decide) (fun g3 => ?_)))
  iterate 3 refine hR (?_ : R (_, _, _, _, _, _))
  refine hR (zcall_i 0 0 (Nat.le_of_ble_eq_true rfl) (Nat.le_of_ble_eq_true rfl) (r_putBytes _ (0 + Int32.ofInt 1 + Int32.ofInt 1 + Int32.ofInt 1 + Int32.ofInt 1 + Int32.ofInt 1 + Int32.ofInt 1 + Int32.ofInt 1 + Int32.ofInt 1 + Int32.ofInt 1 + Int32.ofInt 1 + Int32.ofInt 1 + Int32.ofInt 1 + Int32.ofInt 1 + Int32.ofInt 1 + Int32.ofInt 1 + Int32.ofInt 1) _ g3 _ _ (by decide) (by decide) (fun g4 => ?_)))
  iterate 3 refine hR (?_ : R (_, _, _, _, _, _))
  refine hR (zret_i rfl (Nat.le_refl _) trivial ?_)
  have e : (0 + Int32.ofInt 1 + Int32.ofInt 1 + Int32.ofInt 1 + Int32.ofInt 1 + Int32.ofInt 1 + Int32.ofInt 1 + Int32.ofInt 1 + Int32.ofInt 1 + Int32.ofInt 1 + Int32.ofInt 1 + Int32.ofInt 1 + Int32.ofInt 1 + Int32.ofInt 1 + Int32.ofInt 1 + Int32.ofInt 1 + Int32.ofInt 1 + Int32.ofInt 1 + Int32.ofInt 1 + Int32.ofInt 1 + Int32.ofInt 1 : Int32) = 20 := by decide
  have h2 : ∀ w, Q (some (.int 20)) w → Q (some (.int (0 + Int32.ofInt 1 + Int32.ofInt 1 + Int32.ofInt 1 + Int32.ofInt 1 + Int32.ofInt 1 + Int32.ofInt 1 + Int32.ofInt 1 + Int32.ofInt 1 + Int32.ofInt 1 + Int32.ofInt 1 + Int32.ofInt 1 + Int32.ofInt 1 + Int32.ofInt 1 + Int32.ofInt 1 + Int32.ofInt 1 + Int32.ofInt 1 + Int32.ofInt 1 + Int32.ofInt 1 + Int32.ofInt 1 + Int32.ofInt 1))) w := fun w hw => by rw [e]; exact hw
  exact h2 _ (h _ _ _ _ _ _ _ _ _ _ _ _ _ _ _)
def vEnd (n : Int32) : Int32 := if n < 0 ∨ 0 < n then Int32.ofInt (-1) else n
theorem r_end (d : Nat) (n : Int32) (Q : zQ) (h : ∀ c0 c1 c2 c3 c4 c5 c6 c7 c8 c9 c10 c11 c12 c13 t, Q (some (.int (vEnd n))) (c0 :: c1 :: c2 :: c3 :: c4 :: c5 :: c6 :: c7 :: c8 :: c9 :: c10 :: c11 :: c12 :: c13 :: zMf t)) : zCl zTab (d + 1) iX11_end [.ref 0, .int n] (zCw (zMf [])) 0 0 Q := by
  refine zCl_i (M := kX11_end) rfl (Nat.le_of_ble_eq_true rfl) fun R hR => ?_
  refine hR (?_ : R (_, _, _, _, _, _))
  refine hR (And.intro (fun hc1 => ?_) (fun hc1 => ?_))
  · refine hR (?_ : R (_, _, _, _, _, _))
    refine hR (zret_i rfl (Nat.le_refl _) trivial ?_)
    have e : vEnd n = Int32.ofInt (-1) := if_pos (Or.inl hc1)
    rw [e] at h
    exact h _ _ _ _ _ _ _ _ _ _ _ _ _ _ _
  iterate 4 refine hR (?_ : R (_, _, _, _, _, _))
  refine hR (And.intro (fun hc2 => ?_) (fun hc2 => ?_))
  · iterate 5 refine hR (?_ : R (_, _, _, _, _, _))
    refine hR (zret_i rfl (Nat.le_refl _) trivial ?_)
    have e : vEnd n = n := if_neg (fun q => q.elim hc1 (fun z => absurd hc2 (Int32.not_le.mpr z)))
    rw [e] at h
    exact h _ _ _ _ _ _ _ _ _ _ _ _ _ _ _
  · refine hR (?_ : R (_, _, _, _, _, _))
    refine hR (zret_i rfl (Nat.le_refl _) trivial ?_)
    have e : vEnd n = Int32.ofInt (-1) := if_pos (Or.inr (Int32.not_le.mp hc2))
    rw [e] at h
    exact h _ _ _ _ _ _ _ _ _ _ _ _ _ _ _
def vFault (n : Int32) : Int32 := if n = 0 then 0 else -1
theorem zlk0 {x : Int32} : Op.lookupswitch.offset [(0, 27), (1, 35)] 43 x.toInt = if x = 0 then 27 else if x = 1 then 35 else 43 := by
  have e1 : (1 : Int32).toInt = 1 := by decide
  have e0 : (0 : Int32).toInt = 0 := rfl
  rw [Op.lookupswitch.offset_cons, Op.lookupswitch.offset_cons]
  by_cases h0 : x = 0
  · subst h0; rfl
  · rw [if_neg h0, if_neg (fun q => h0 (Int32.toInt_inj.mp (by rw [e0]; exact q.symm)))]
    by_cases h1 : x = 1
    · subst h1; rfl
    · rw [if_neg h1, if_neg (fun q => h1 (Int32.toInt_inj.mp (by rw [e1]; exact q.symm)))]
      rfl
theorem r_fault (d : Nat) (n : Int32) (Q : zQ) (h : ∀ c0 c1 c2 c3 c4 c5 c6 c7 c8 c9 c10 c11 c12 c13 t, Q (some (.int (vFault n))) (c0 :: c1 :: c2 :: c3 :: c4 :: c5 :: c6 :: c7 :: c8 :: c9 :: c10 :: c11 :: c12 :: c13 :: zMf t)) : zCl zTab (d + 1) iX11_fault [.ref 0, .int n] (zCw (zMf [])) 0 0 Q := by
  refine zCl_i (M := kX11_fault) rfl (Nat.le_of_ble_eq_true rfl) fun R hR => ?_
  refine hR (?_ : R (_, _, _, _, _, _))
  refine hR (?_ : R (((1 : Nat) + Op.lookupswitch.offset [(0, 27), (1, 35)] 43 n.toInt : Int).toNat, _, _, _, _, _))
  rw [zlk0]
  by_cases h0 : n = 0
  · subst h0
    rw [if_pos rfl]
    refine (?_ : R (28, _, _, _, _, _))
    iterate 3 refine hR (?_ : R (_, _, _, _, _, _))
    exact hR (zret_i rfl (Nat.le_refl _) trivial (h _ _ _ _ _ _ _ _ _ _ _ _ _ _ _))
  rw [if_neg h0]
  by_cases h1 : n = 1
  · subst h1
    rw [if_pos rfl]
    refine (?_ : R (36, _, _, _, _, _))
    iterate 3 refine hR (?_ : R (_, _, _, _, _, _))
    exact hR (zret_i rfl (Nat.le_refl _) trivial (h _ _ _ _ _ _ _ _ _ _ _ _ _ _ _))
  rw [if_neg h1]
  refine (?_ : R (44, _, _, _, _, _))
  refine hR (?_ : R (_, _, _, _, _, _))
  refine hR (zret_i rfl (Nat.le_refl _) trivial ?_)
  have e : vFault n = Int32.ofInt (-1) := (if_neg h0).trans (by decide)
  rw [e] at h
  exact h _ _ _ _ _ _ _ _ _ _ _ _ _ _ _
def vCount (n : Int32) : Int32 := if n < 0 ∨ 3 ≤ n then -2 else 0
theorem r_count (d : Nat) (n : Int32) (Q : zQ) (h : ∀ c0 c1 c2 c3 c4 c5 c6 c7 c8 c9 c10 c11 c12 c13 t, Q (some (.int (vCount n))) (c0 :: c1 :: c2 :: c3 :: c4 :: c5 :: c6 :: c7 :: c8 :: c9 :: c10 :: c11 :: c12 :: c13 :: zMf t)) : zCl zTab (d + 1) iX11_count [.ref 0, .int n] (zCw (zMf [])) 0 0 Q := by
  refine zCl_i (M := kX11_count) rfl (Nat.le_of_ble_eq_true rfl) fun R hR => ?_
  refine hR (?_ : R (_, _, _, _, _, _))
  refine hR (And.intro (fun hc1 => ?_) (fun hc1 => ?_))
  · iterate 2 refine hR (?_ : R (_, _, _, _, _, _))
    refine hR (zret_i rfl (Nat.le_refl _) trivial ?_)
    have e : vCount n = (Int8.ofInt (-2)).toInt32 := (if_pos (Or.inl hc1)).trans (by decide)
    rw [e] at h
    exact h _ _ _ _ _ _ _ _ _ _ _ _ _ _ _
  iterate 2 refine hR (?_ : R (_, _, _, _, _, _))
  refine hR (And.intro (fun hc2 => ?_) (fun hc2 => ?_))
  · iterate 4 refine hR (?_ : R (_, _, _, _, _, _))
    refine hR (And.intro ?_ ?_)
    · rcases z012 hc1 hc2 with rfl | rfl | rfl <;> (unfold vp_in; decide)
    · refine hR (zret_i rfl (Nat.le_refl _) trivial ?_)
      have e : vCount n = 0 := if_neg (fun q => q.elim hc1 (fun z => absurd hc2 (Int32.not_lt.mpr z)))
      rw [e] at h
      exact h _ _ _ _ _ _ _ _ _ _ _ _ _ _ _
  · iterate 2 refine hR (?_ : R (_, _, _, _, _, _))
    refine hR (zret_i rfl (Nat.le_refl _) trivial ?_)
    have e : vCount n = (Int8.ofInt (-2)).toInt32 := (if_pos (Or.inr (Int32.not_lt.mp hc2))).trans (by decide)
    rw [e] at h
    exact h _ _ _ _ _ _ _ _ _ _ _ _ _ _ _
theorem r_again (d : Nat) (n : Int32) (Q : zQ) (h : ∀ c0 c1 c2 c3 c4 c5 c6 c7 c8 c9 c10 c11 c12 c13 t, Q (some (.int (Int32.ofInt 0))) (c0 :: c1 :: c2 :: c3 :: c4 :: c5 :: c6 :: c7 :: c8 :: c9 :: c10 :: c11 :: c12 :: c13 :: zMf t)) : zCl zTab (d + 1) iX11_again [.ref 0, .int n] (zCw (zMf [])) 0 0 Q := by
  refine zCl_i (M := kX11_again) rfl (Nat.le_of_ble_eq_true rfl) fun R hR => ?_
  refine hR (?_ : R (_, _, _, _, _, _))
  refine hR (And.intro (fun hc1 => ?_) (fun hc1 => ?_))
  · refine hR (?_ : R (_, _, _, _, _, _))
    exact hR (zret_i rfl (Nat.le_refl _) (Or.inl rfl) (h _ _ _ _ _ _ _ _ _ _ _ _ _ _ _))
  iterate 2 refine hR (?_ : R (_, _, _, _, _, _))
  refine hR (And.intro (fun hc2 => ?_) (fun hc2 => ?_))
  · refine hR (?_ : R (_, _, _, _, _, _))
    exact hR (zret_i rfl (Nat.le_refl _) (Or.inl rfl) (h _ _ _ _ _ _ _ _ _ _ _ _ _ _ _))
  iterate 3 refine hR (?_ : R (_, _, _, _, _, _))
  refine hR (And.intro ?_ ?_)
  · rcases z012 hc1 (Int32.not_le.mp hc2) with rfl | rfl | rfl <;> (unfold vp_in; decide)
  iterate 2 refine hR (?_ : R (_, _, _, _, _, _))
  exact hR (zret_i rfl (Nat.le_refl _) (Or.inl rfl) (h _ _ _ _ _ _ _ _ _ _ _ _ _ _ _))
theorem r_told45 (d : Nat) (Q : zQ) (h : Q none (zCw (zMf [.inr (7, [.ref 46, .int 0, .int 0, .int (-1), .ref 47, .ref 48, .ref 49, .ref 50]), .inl (0, 600, .inl (fun _ => 0)), .inl (1, 3, .inl (fun _ => 0)), .inl (3, 2, .inr (.inr (.inr (.inr (fun _ => none))))), .inl (4, 2, .inr (.inr (.inr (.inr (fun _ => none))))), .inl (5, 2, .inr (.inr (.inr (.inr (fun _ => none)))))]))) : zCl zTab (d + 2) iX8_init [.ref 45] (zCw (zMf [.inr (7, [.null, .int 0, .int 0, .int 0, .null, .null, .null, .null])])) 5 609 Q := by
  refine zCl_i (M := kX8_init) rfl (Nat.le_of_ble_eq_true rfl) fun R hR => ?_
  iterate 4 refine hR (?_ : R (_, _, _, _, _, _))
  refine hR (?_ : R (_, _, .ref 46 :: _, _, _, _))
  iterate 12 refine hR (?_ : R (_, _, _, _, _, _))
  refine hR (?_ : R (_, _, .ref 47 :: _, _, _, _))
  iterate 3 refine hR (?_ : R (_, _, _, _, _, _))
  refine hR (?_ : R (_, _, .ref 48 :: _, _, _, _))
  iterate 3 refine hR (?_ : R (_, _, _, _, _, _))
  refine hR (?_ : R (_, _, .ref 49 :: _, _, _, _))
  iterate 3 refine hR (?_ : R (_, _, _, _, _, _))
  refine hR (?_ : R (_, _, .ref 50 :: _, _, _, _))
  refine hR (?_ : R (_, _, _, _, _, _))
  exact hR (zret_i rfl (Nat.le_refl _) (rfl) (h))
theorem r_becomes45 (d : Nat) (c7 : va_E) (Q : zQ) (h : ∀ c0 c1 c2 c3 c4 c5 c6 c7 c8 c9 c10 c11 c12 c13 t, Q (none) (c0 :: c1 :: c2 :: c3 :: c4 :: c5 :: c6 :: c7 :: c8 :: c9 :: c10 :: c11 :: c12 :: c13 :: zMf t)) : zCl zTab (d + 2) iX8_becomes [.ref 45, .ref 1] (zCi c7 (zMf [.inr (7, [.ref 46, .int 0, .int 0, .int (-1), .ref 47, .ref 48, .ref 49, .ref 50]), .inl (0, 600, .inl (fun _ => 0)), .inl (1, 3, .inl (fun _ => 0)), .inl (3, 2, .inr (.inr (.inr (.inr (fun _ => none))))), .inl (4, 2, .inr (.inr (.inr (.inr (fun _ => none))))), .inl (5, 2, .inr (.inr (.inr (.inr (fun _ => none)))))])) 0 0 Q := by
  refine zCl_i (M := kX8_becomes) rfl (Nat.le_of_ble_eq_true rfl) fun R hR => ?_
  iterate 7 refine hR (?_ : R (_, _, _, _, _, _))
  refine hR (And.intro ⟨⟨by decide, by decide, by decide⟩, ⟨by decide, by decide⟩, fun _ _ => rfl⟩ ?_)
  iterate 19 refine hR (?_ : R (_, _, _, _, _, _))
  refine hR (And.intro ⟨⟨by decide, by decide, by decide⟩, ⟨by decide, by decide⟩, fun _ _ => rfl⟩ ?_)
  iterate 4 refine hR (?_ : R (_, _, _, _, _, _))
  refine hR (And.intro (fun hc => absurd hc (by decide)) (fun _ => ?_))
  iterate 6 refine hR (?_ : R (_, _, _, _, _, _))
  refine hR (And.intro (by unfold vp_in; decide) ?_)
  refine hR (And.intro (by unfold vp_in; decide) ?_)
  iterate 6 refine hR (?_ : R (_, _, _, _, _, _))
  refine hR (And.intro (by unfold vp_in; decide) ?_)
  refine hR (And.intro (by unfold vp_in; decide) ?_)
  iterate 6 refine hR (?_ : R (_, _, _, _, _, _))
  refine hR (And.intro (by unfold vp_in; decide) ?_)
  refine hR (And.intro (by unfold vp_in; decide) ?_)
  iterate 4 refine hR (?_ : R (_, _, _, _, _, _))
  refine hR (And.intro (fun hc => absurd hc (by decide)) (fun _ => ?_))
  iterate 6 refine hR (?_ : R (_, _, _, _, _, _))
  refine hR (And.intro (by unfold vp_in; decide) ?_)
  refine hR (And.intro (by unfold vp_in; decide) ?_)
  iterate 6 refine hR (?_ : R (_, _, _, _, _, _))
  refine hR (And.intro (by unfold vp_in; decide) ?_)
  refine hR (And.intro (by unfold vp_in; decide) ?_)
  iterate 6 refine hR (?_ : R (_, _, _, _, _, _))
  refine hR (And.intro (by unfold vp_in; decide) ?_)
  refine hR (And.intro (by unfold vp_in; decide) ?_)
  iterate 4 refine hR (?_ : R (_, _, _, _, _, _))
  refine hR (And.intro (fun _ => ?_) (fun hc => absurd (by decide) hc))
  exact hR (zret_i rfl (Nat.le_refl _) (rfl) (h _ _ _ _ _ _ _ _ _ _ _ _ _ _ _))
theorem r_image0 (d : Nat) (Q : zQ) (h : ∀ c0 c1 c2 c3 c4 c5 c6 c7 c8 c9 c10 c11 c12 c13 t, Q (some (.int (Int32.ofInt 1))) (c0 :: c1 :: c2 :: c3 :: c4 :: c5 :: c6 :: c7 :: c8 :: c9 :: c10 :: c11 :: c12 :: c13 :: zMf t)) : zCl zTab (d + 3) iX11_image [.ref 0, .int 0] (zCw (zMf [])) 6 617 Q := by
  refine zCl_i (M := kX11_image) rfl (Nat.le_of_ble_eq_true rfl) fun R hR => ?_
  refine hR (?_ : R (_, _, _, _, _, _))
  refine hR (And.intro (fun hc => absurd hc (by decide)) (fun _ => ?_))
  iterate 2 refine hR (?_ : R (_, _, _, _, _, _))
  refine hR (And.intro (fun _ => ?_) (fun hc => absurd (by decide) hc))
  iterate 3 refine hR (?_ : R (_, _, _, _, _, _))
  refine hR (And.intro (by unfold vp_in; decide) ?_)
  iterate 4 refine hR (?_ : R (_, _, _, _, _, _))
  refine hR (?_ : R (_, _, .ref 45 :: _, _, _, _))
  refine hR (?_ : R (_, _, _, _, _, _))
  refine hR (zcall_i 5 609 (Nat.le_of_ble_eq_true rfl) (Nat.le_of_ble_eq_true rfl) (r_told45 _ _ ?_))
  refine hR (And.intro (by unfold vp_in; decide) ?_)
  iterate 3 refine hR (?_ : R (_, _, _, _, _, _))
  refine hR (And.intro (by unfold vp_in; decide) ?_)
  iterate 2 refine hR (?_ : R (_, _, _, _, _, _))
  refine hR (zcall_i 0 0 (Nat.le_of_ble_eq_true rfl) (Nat.le_of_ble_eq_true rfl) (r_becomes45 _ _ _ (fun _ _ _ _ _ _ _ _ _ _ _ _ _ _ _ => ?_)))
  refine hR (?_ : R (_, _, _, _, _, _))
  exact hR (zret_i rfl (Nat.le_refl _) (Or.inr rfl) (h _ _ _ _ _ _ _ _ _ _ _ _ _ _ _))
theorem r_image1 (d : Nat) (Q : zQ) (h : ∀ c0 c1 c2 c3 c4 c5 c6 c7 c8 c9 c10 c11 c12 c13 t, Q (some (.int (Int32.ofInt 1))) (c0 :: c1 :: c2 :: c3 :: c4 :: c5 :: c6 :: c7 :: c8 :: c9 :: c10 :: c11 :: c12 :: c13 :: zMf t)) : zCl zTab (d + 3) iX11_image [.ref 0, .int 1] (zCw (zMf [])) 6 617 Q := by
  refine zCl_i (M := kX11_image) rfl (Nat.le_of_ble_eq_true rfl) fun R hR => ?_
  refine hR (?_ : R (_, _, _, _, _, _))
  refine hR (And.intro (fun hc => absurd hc (by decide)) (fun _ => ?_))
  iterate 2 refine hR (?_ : R (_, _, _, _, _, _))
  refine hR (And.intro (fun _ => ?_) (fun hc => absurd (by decide) hc))
  iterate 3 refine hR (?_ : R (_, _, _, _, _, _))
  refine hR (And.intro (by unfold vp_in; decide) ?_)
  iterate 4 refine hR (?_ : R (_, _, _, _, _, _))
  refine hR (?_ : R (_, _, .ref 45 :: _, _, _, _))
  refine hR (?_ : R (_, _, _, _, _, _))
  refine hR (zcall_i 5 609 (Nat.le_of_ble_eq_true rfl) (Nat.le_of_ble_eq_true rfl) (r_told45 _ _ ?_))
  refine hR (And.intro (by unfold vp_in; decide) ?_)
  iterate 3 refine hR (?_ : R (_, _, _, _, _, _))
  refine hR (And.intro (by unfold vp_in; decide) ?_)
  iterate 2 refine hR (?_ : R (_, _, _, _, _, _))
  refine hR (zcall_i 0 0 (Nat.le_of_ble_eq_true rfl) (Nat.le_of_ble_eq_true rfl) (r_becomes45 _ _ _ (fun _ _ _ _ _ _ _ _ _ _ _ _ _ _ _ => ?_)))
  refine hR (?_ : R (_, _, _, _, _, _))
  exact hR (zret_i rfl (Nat.le_refl _) (Or.inr rfl) (h _ _ _ _ _ _ _ _ _ _ _ _ _ _ _))
theorem r_image2 (d : Nat) (Q : zQ) (h : ∀ c0 c1 c2 c3 c4 c5 c6 c7 c8 c9 c10 c11 c12 c13 t, Q (some (.int (Int32.ofInt 1))) (c0 :: c1 :: c2 :: c3 :: c4 :: c5 :: c6 :: c7 :: c8 :: c9 :: c10 :: c11 :: c12 :: c13 :: zMf t)) : zCl zTab (d + 3) iX11_image [.ref 0, .int 2] (zCw (zMf [])) 6 617 Q := by
  refine zCl_i (M := kX11_image) rfl (Nat.le_of_ble_eq_true rfl) fun R hR => ?_
  refine hR (?_ : R (_, _, _, _, _, _))
  refine hR (And.intro (fun hc => absurd hc (by decide)) (fun _ => ?_))
  iterate 2 refine hR (?_ : R (_, _, _, _, _, _))
  refine hR (And.intro (fun _ => ?_) (fun hc => absurd (by decide) hc))
  iterate 3 refine hR (?_ : R (_, _, _, _, _, _))
  refine hR (And.intro (by unfold vp_in; decide) ?_)
  iterate 4 refine hR (?_ : R (_, _, _, _, _, _))
  refine hR (?_ : R (_, _, .ref 45 :: _, _, _, _))
  refine hR (?_ : R (_, _, _, _, _, _))
  refine hR (zcall_i 5 609 (Nat.le_of_ble_eq_true rfl) (Nat.le_of_ble_eq_true rfl) (r_told45 _ _ ?_))
  refine hR (And.intro (by unfold vp_in; decide) ?_)
  iterate 3 refine hR (?_ : R (_, _, _, _, _, _))
  refine hR (And.intro (by unfold vp_in; decide) ?_)
  iterate 2 refine hR (?_ : R (_, _, _, _, _, _))
  refine hR (zcall_i 0 0 (Nat.le_of_ble_eq_true rfl) (Nat.le_of_ble_eq_true rfl) (r_becomes45 _ _ _ (fun _ _ _ _ _ _ _ _ _ _ _ _ _ _ _ => ?_)))
  refine hR (?_ : R (_, _, _, _, _, _))
  exact hR (zret_i rfl (Nat.le_refl _) (Or.inr rfl) (h _ _ _ _ _ _ _ _ _ _ _ _ _ _ _))
theorem r_imageN (d : Nat) (n : Int32) (hn : n < 0 ∨ 3 ≤ n) (Q : zQ) (h : ∀ c0 c1 c2 c3 c4 c5 c6 c7 c8 c9 c10 c11 c12 c13 t, Q (some (.int (Int32.ofInt 0))) (c0 :: c1 :: c2 :: c3 :: c4 :: c5 :: c6 :: c7 :: c8 :: c9 :: c10 :: c11 :: c12 :: c13 :: zMf t)) : zCl zTab (d + 3) iX11_image [.ref 0, .int n] (zCw (zMf [])) 0 0 Q := by
  refine zCl_i (M := kX11_image) rfl (Nat.le_of_ble_eq_true rfl) fun R hR => ?_
  refine hR (?_ : R (_, _, _, _, _, _))
  refine hR (And.intro (fun hc1 => ?_) (fun hc1 => ?_))
  · refine hR (?_ : R (_, _, _, _, _, _))
    exact hR (zret_i rfl (Nat.le_refl _) (Or.inl rfl) (h _ _ _ _ _ _ _ _ _ _ _ _ _ _ _))
  iterate 2 refine hR (?_ : R (_, _, _, _, _, _))
  refine hR (And.intro (fun hc2 => ?_) (fun hc2 => ?_))
  · exact absurd hc2 (Int32.not_lt.mpr (hn.resolve_left hc1))
  · refine hR (?_ : R (_, _, _, _, _, _))
    exact hR (zret_i rfl (Nat.le_refl _) (Or.inl rfl) (h _ _ _ _ _ _ _ _ _ _ _ _ _ _ _))
