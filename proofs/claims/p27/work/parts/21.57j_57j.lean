/-! THE REFERENCE'S TEXTS, against the class's. -/
theorem wv_ge {g : Nat → Int32} {s : Int} : ∀ d : Nat, (∀ i : Int, s ≤ i → i < s + (9 + d : Nat) → 97 ≤ tBy g i ∧ tBy g i ≤ 122) → 97 * 18446744073709551616 ≤ wv g s (9 + d)
  | 0, h => by
    have := (wv_b (g := g) (s := s) 9 fun i a b => h i a (by omega)).2.2 (by omega)
    have e : (256 : Int) ^ (9 - 1) = 18446744073709551616 := by decide
    rw [e] at this
    exact this
  | d + 1, h => by
    have h1 := wv_ge d fun i a b => h i a (by omega)
    have hb := h (s + (9 + d : Nat)) (by omega) (by omega)
    show _ ≤ wv g s (9 + d) * 256 + tBy g (s + (9 + d : Nat))
    omega
theorem wlong {g : Nat → Int32} {n a : Int} (h0 : 0 ≤ a) (h1 : a ≤ n) (hk : tK g n a = 1) (h : ¬ tE g n a - tS g n a ≤ 8) : 97 * 18446744073709551616 ≤ tkW g n a := by
  have hl := (tK_let h0 h1 hk).2
  have := wv_ge (g := g) (s := tS g n a) ((tE g n a - tS g n a).toNat - 9) fun i x y => hl i x (by omega)
  unfold tkW
  rw [show (tE g n a - tS g n a).toNat = 9 + ((tE g n a - tS g n a).toNat - 9) by omega]
  exact this
noncomputable abbrev LW (g : Nat → Int32) (n a lw : Int) : Prop := (tK g n a = 1 ∧ lw = if tE g n a - tS g n a ≤ 8 then tkW g n a else 0) ∨ (tK g n a ≠ 1 ∧ lw = 0)
noncomputable abbrev LNQ (g : Nat → Int32) (n a lw : Int) (ln : Int → Int) : Prop := (tK g n a = 1 ∧ ln lw = ln (tkW g n a)) ∨ (tK g n a ≠ 1 ∧ ln lw = -1)
theorem lnq_w {g : Nat → Int32} {n a lw : Int} {ln : Int → Int} (h0 : 0 ≤ a) (h1 : a ≤ n) (hl : ln 0 = -1) (hL : ∀ U : Int, 97 * 18446744073709551616 ≤ U → ln U = -1) (h : LW g n a lw) : LNQ g n a lw ln := by
  rcases h with ⟨q, rfl⟩ | ⟨q, rfl⟩
  · refine Or.inl ⟨q, ?_⟩
    split
    · rfl
    · rename_i z
      rw [hl, hL _ (wlong h0 h1 q z)]
  · exact Or.inr ⟨q, hl⟩
theorem lnB_L : ∀ U : Int, 97 * 18446744073709551616 ≤ U → lnB U = -1 := fun U h => by unfold lnB; (repeat' split) <;> omega
theorem lnY_L : ∀ U : Int, 97 * 18446744073709551616 ≤ U → lnY U = -1 := fun U h => by unfold lnY; (repeat' split) <;> omega
theorem lnS_L : ∀ U : Int, 97 * 18446744073709551616 ≤ U → lnS U = -1 := fun U h => by unfold lnS; (repeat' split) <;> omega
theorem tl_of {g : Nat → Int32} {n : Int} {α : Type} {ln : Int → Int} {bg : Int → Int → α → α} {tk : Int → Int → Int → Int → α → α} {ms fw : Int → Int} {a v a' y lw : Int} {x : α} {REL : α → Prop} (hw : LNQ g n a lw ln) (h : (ln lw = -1 ∧ v = 0 ∧ y = tS g n a) ∨ (ln lw ≠ -1 ∧ LNP g n (fw (ln lw)) (nmF g n (tk (ln lw)) (ms (ln lw)).toNat 0 (tE g n a) (bg (ln lw) (tS g n a) x)) v a' y REL)) : (v = 0 ∧ ∃ ax X, tlF g n ln bg tk ms fw a x = (false, ax, X) ∧ y = tS g n ax) ∨ (v = 1 ∧ ∃ X, REL X ∧ tlF g n ln bg tk ms fw a x = if tK g n a' = 3 then (true, tE g n a', X) else (false, a', X)) := by
  rcases h with ⟨q1, q2, q3⟩ | ⟨q1, q2⟩
  · refine Or.inl ⟨q2, a, x, if_neg ?_, q3⟩
    rintro ⟨z1, z2⟩
    rcases hw with ⟨w1, w2⟩ | ⟨w1, w2⟩
    · exact z2 (w2.symm.trans q1)
    · exact w1 z1
  · rcases hw with ⟨w1, w2⟩ | ⟨w1, w2⟩
    · have e : tlF g n ln bg tk ms fw a x = tlH g n (fw (ln lw)) (nmF g n (tk (ln lw)) (ms (ln lw)).toNat 0 (tE g n a) (bg (ln lw) (tS g n a) x)) := by
        have e1 : tlF g n ln bg tk ms fw a x = tlG g n bg tk ms fw (ln (tkW g n a)) a x := if_pos ⟨w1, by rw [← w2]; exact q1⟩
        rw [e1, ← w2]
        rfl
      rw [e]
      generalize nmF g n (tk (ln lw)) (ms (ln lw)).toNat 0 (tE g n a) (bg (ln lw) (tS g n a) x) = r at q2 ⊢
      rcases q2 with ⟨z1, z2, z3, z4⟩ | ⟨z1, z2, z3⟩
      · refine Or.inr ⟨z1, r.2.2, z4, ?_⟩
        subst z3
        unfold tlH
        by_cases h3 : tK g n r.2.1 = 3
        · rw [if_neg (by omega), if_pos h3]
        · rw [if_pos (Or.inr h3), if_neg h3]
      · exact Or.inl ⟨z1, r.2.1, r.2.2, if_pos (Or.inl z2), z3⟩
    · exact absurd w2 q1
/-- what holds of all that a text tells -/
theorem nmF_p {g : Nat → Int32} {n : Int} {α : Type} {tk : Int → Int → Int → α → α} {P : α → Prop} (ht : ∀ k v s x, P x → P (tk k v s x)) : ∀ (m : Nat) (k a : Int) (x : α), P x → P (nmF g n tk m k a x).2.2
  | 0, k, a, x, h => h
  | m + 1, k, a, x, h => by
    by_cases hk : tK g n a = 2
    · have e : nmF g n tk (m + 1) k a x = nmF g n tk m (k + 1) (tE g n a) (tk k (tV g n a) (tS g n a) x) := if_pos hk
      rw [e]
      exact nmF_p ht m _ _ _ (ht _ _ _ _ h)
    · have e : nmF g n tk (m + 1) k a x = (k, a, x) := if_neg hk
      rw [e]
      exact h
theorem tlF_p {g : Nat → Int32} {n : Int} {α : Type} {ln : Int → Int} {bg : Int → Int → α → α} {tk : Int → Int → Int → Int → α → α} {ms fw : Int → Int} {P : α → Prop} (hb : ∀ L s x, P x → P (bg L s x)) (ht : ∀ L k v s x, P x → P (tk L k v s x)) {a : Int} {x : α} (h : P x) : P (tlF g n ln bg tk ms fw a x).2.2 := by
  unfold tlF
  split
  · unfold tlG tlH
    split
    · exact nmF_p (ht _) _ _ _ _ (hb _ _ _ h)
    · exact nmF_p (ht _) _ _ _ _ (hb _ _ _ h)
  · exact h
theorem teF_p {g : Nat → Int32} {n : Int} {α : Type} {tl : Int → α → Bool × Int × α} {P : α → Prop} (ht : ∀ a x, P x → P (tl a x).2.2) : ∀ (m : Nat) (a : Int) (x : α), P x → P (teF g n tl m a x).2.2
  | 0, a, x, h => h
  | m + 1, a, x, h => by
    by_cases hk : tK g n a = 0
    · have e : teF g n tl (m + 1) a x = (true, a, x) := if_pos hk
      rw [e]
      exact h
    · have e : teF g n tl (m + 1) a x = match tl a x with
        | (true, a', x') => teF g n tl m a' x'
        | (false, a', x') => (false, a', x') := if_neg hk
      rw [e]
      have h2 := ht a x h
      generalize tl a x = r at h2
      obtain ⟨b, a', x'⟩ := r
      cases b with
      | true => exact teF_p ht m a' x' h2
      | false => exact h2
theorem fW_ge {f c wh s : Int} (h : 0 ≤ f) (hw : 0 ≤ wh) : 0 ≤ fW f c wh s := by unfold fW; split <;> omega
theorem wI_ge {f c lo hi v s : Int} (h : 0 ≤ f) : 0 ≤ wI f c lo hi v s := by
  have := fW_ge (c := c) (s := s) h (show (0 : Int) ≤ 2 by omega)
  unfold wI
  split <;> omega
theorem bBeg_g : ∀ (L s : Int) (x : tpB), 0 ≤ x.1 → 0 ≤ (bBeg L s x).1
  | L, s, (f, c, x0, x1, x2, g1, g2, g3, g4), h => by
    have h3 := fW_ge (c := c) (s := s) h (show (0 : Int) ≤ 3 by omega)
    have h4 := fW_ge (c := c) (s := s) h (show (0 : Int) ≤ 4 by omega)
    unfold bBeg
    dsimp only
    (repeat' split) <;> first | exact h | exact h3 | exact h4
theorem bTake_g : ∀ (L k v s : Int) (x : tpB), 0 ≤ x.1 → 0 ≤ (bTake L k v s x).1
  | L, k, v, s, (f, c, D), h => by
    have h1 := wI_ge (c := c) (lo := 1) (hi := 6) (v := v) (s := s) h
    have h2 := wI_ge (c := c) (lo := 0) (hi := 3) (v := v) (s := s) h
    have h3 := fW_ge (c := wJ f c 0 3 v s) (s := s) h2 (show (0 : Int) ≤ 3 by omega)
    unfold bTake
    dsimp only
    (repeat' split) <;> first | exact h1 | exact h2 | exact h3
theorem yBeg_g : ∀ (L s : Int) (x : tpY), 0 ≤ x.1 → 0 ≤ (yBeg L s x).1
  | L, s, (f, c, x0, g1, g2, g3), h => by
    have h3 := fW_ge (c := c) (s := s) h (show (0 : Int) ≤ 3 by omega)
    unfold yBeg
    dsimp only
    (repeat' split) <;> first | exact h | exact h3
theorem yTk_g : ∀ (L k v s hi : Int) (x : tpY), 0 ≤ x.1 → 0 ≤ (yTk L k v s hi x).1
  | L, k, v, s, hi, (f, c, x0, g1, g2, g3), h => by
    have h2 := wI_ge (c := c) (lo := 0) (hi := hi) (v := v) (s := s) h
    have h3 := fW_ge (c := wJ f c 0 hi v s) (s := s) h2 (show (0 : Int) ≤ 2 by omega)
    unfold yTk
    dsimp only
    (repeat' split) <;> first | exact h2 | exact h3
theorem yTake_g (L k v s : Int) (x : tpY) (h : 0 ≤ x.1) : 0 ≤ (yTake L k v s x).1 := by
  unfold yTake
  split <;> exact yTk_g _ _ _ _ _ _ h
theorem sBeg_g : ∀ (L s : Int) (x : tpS), 0 ≤ x.1 → 0 ≤ (sBeg L s x).1
  | L, s, (f, c, x0, g1, g2), h => by
    have h3 := fW_ge (c := c) (s := s) h (show (0 : Int) ≤ 3 by omega)
    unfold sBeg
    dsimp only
    (repeat' split) <;> first | exact h | exact h3
theorem sTk_g : ∀ (k v s hi : Int) (x : tpS), 0 ≤ x.1 → 0 ≤ (sTk k v s hi x).1
  | k, v, s, hi, (f, c, x0, g1, g2), h => by
    have h2 := wI_ge (c := c) (lo := 0) (hi := hi) (v := v) (s := s) h
    have h3 := fW_ge (c := wJ f c 0 hi v s) (s := s) h2 (show (0 : Int) ≤ 3 by omega)
    unfold sTk
    dsimp only
    (repeat' split) <;> first | exact h2 | exact h3
theorem sTake_g (k v s : Int) (x : tpS) (h : 0 ≤ x.1) : 0 ≤ (sTake k v s x).1 := by
  unfold sTake
  split <;> exact sTk_g _ _ _ _ _ h
/-- lines read: all of them, or one ends wrong -/
noncomputable def LSP {α : Type} (g : Nat → Int32) (n : Int) (E : Bool × Int × α) (v y : Int) (REL : α → Prop) : Prop :=
  (v = 1 ∧ ∃ a' X, E = (true, a', X) ∧ REL X) ∨ (v = 0 ∧ ∃ ax X, E = (false, ax, X) ∧ y = tS g n ax)
theorem x_lineOfB (w : zW) (d : Nat) (a3 : Int) (lw : Int64) (f0 f10 f13 f15 f16 f17 f20 f21 f22 f23 f26 f28 f31 f32 f33 f38 f41 f44 a : Int) (x14 : Int64) (g15 g g23 g24 : Nat → Int32) (f c x0 x1 x2 : Int) (g1 g2 g3 g4 : Nat → Int32) (hK0 : zix w 14 = some (.inr (11, [.int (Int32.ofInt f0), .ref 15, .ref 16, .ref 17, .ref 18, .ref 19, .ref 20, .ref 21, .ref 22, .int (Int32.ofInt (tE g f10 a)), .int (Int32.ofInt f10), .int (Int32.ofInt (tS g f10 a)), .int (Int32.ofInt (rK (tK g f10 a))), .int (Int32.ofInt f13), .long x14, .int (Int32.ofInt f15), .int (Int32.ofInt f16), .int (Int32.ofInt f17), .ref 23, .ref 24, .int (Int32.ofInt f20), .int (Int32.ofInt f21), .int (Int32.ofInt f22), .int (Int32.ofInt f23), .ref 25, .ref 26, .int (Int32.ofInt f26), .ref 27, .int (Int32.ofInt f28), .ref 28, .ref 29, .int (Int32.ofInt f31), .int (Int32.ofInt f32), .int (Int32.ofInt f33), .ref 30, .ref 31, .ref 32, .ref 33, .int (Int32.ofInt f38), .ref 34, .ref 35, .int (Int32.ofInt f41), .ref 36, .ref 37, .int (Int32.ofInt f44), .ref 38, .ref 39, .ref 40, .ref 41, .ref 42, .ref 43, .ref 44]))) (hK1 : zix w 15 = some (.inl (0, 2400, .inl g15))) (hK2 : zix w 23 = some (.inl (1, 121, .inl g23))) (hK3 : zix w 24 = some (.inl (1, 3, .inl g24))) (hr0 : 0 ≤ a ∧ a ≤ f10 ∧ f10 ≤ 600) (hr1 : ∀ i : Int, 0 ≤ i → i < f10 → tBy g15 i = tBy g i ∧ -128 ≤ tBy g i ∧ tBy g i ≤ 127) (hr2 : tK g f10 a = 2 → f13 = tV g f10 a) (hr3 : (-2147483648 ≤ f16 ∧ f16 ≤ 2147483647) ∧ (-2147483648 ≤ f17 ∧ f17 ≤ 2147483647)) (hr4 : RELB (f, c, x0, x1, x2, g1, g2, g3, g4) f16 f17 g23) (hr5 : a3 = tS g f10 a ∧ tS g f10 a < tE g f10 a) (Q : zQ) (h : ∀ (v : Int) (a' x' f' c' y15 : Int) (z' : Int64) (T' R' : Nat → Int32) (w' : zW), wfM (fun j => j ≠ 14 ∧ j ≠ 23 ∧ j ≠ 24) w w' → zix w' 14 = some (.inr (11, [.int (Int32.ofInt f0), .ref 15, .ref 16, .ref 17, .ref 18, .ref 19, .ref 20, .ref 21, .ref 22, .int (Int32.ofInt (tE g f10 a')), .int (Int32.ofInt f10), .int (Int32.ofInt (tS g f10 a')), .int (Int32.ofInt (rK (tK g f10 a'))), .int (Int32.ofInt x'), .long z', .int (Int32.ofInt y15), .int (Int32.ofInt f'), .int (Int32.ofInt c'), .ref 23, .ref 24, .int (Int32.ofInt f20), .int (Int32.ofInt f21), .int (Int32.ofInt f22), .int (Int32.ofInt f23), .ref 25, .ref 26, .int (Int32.ofInt f26), .ref 27, .int (Int32.ofInt f28), .ref 28, .ref 29, .int (Int32.ofInt f31), .int (Int32.ofInt f32), .int (Int32.ofInt f33), .ref 30, .ref 31, .ref 32, .ref 33, .int (Int32.ofInt f38), .ref 34, .ref 35, .int (Int32.ofInt f41), .ref 36, .ref 37, .int (Int32.ofInt f44), .ref 38, .ref 39, .ref 40, .ref 41, .ref 42, .ref 43, .ref 44])) → zix w' 23 = some (.inl (1, 121, .inl T')) → zix w' 24 = some (.inl (1, 3, .inl R')) → ((lnB lw.toInt = -1 ∧ v = 0 ∧ y15 = tS g f10 a) ∨ (lnB lw.toInt ≠ -1 ∧ LNP g f10 (bFw (lnB lw.toInt)) (nmF g f10 (bTake (lnB lw.toInt)) (bMs (lnB lw.toInt)).toNat 0 (tE g f10 a) (bBeg (lnB lw.toInt) (tS g f10 a) (f, c, x0, x1, x2, g1, g2, g3, g4))) v a' y15 (fun X => RELB X f' c' T'))) → (tK g f10 a' = 2 → x' = tV g f10 a') → (a ≤ a' ∧ a' ≤ f10 ∧ (v = 0 ∨ v = 1) ∧ r32 f' ∧ r32 c') → Q (some (.int (Int32.ofInt v))) w') : zCl zTab (d + 7) iX12_lineOf [.ref 14, .int (Int32.ofInt 0), .long lw, .int (Int32.ofInt a3)] w 0 0 Q := by
  refine zCl_i (M := kX12_lineOf) rfl (Nat.le_of_ble_eq_true rfl) fun R hR => ?_
  have fr0 : wfM (fun j => j ≠ 14 ∧ j ≠ 23 ∧ j ≠ 24) w w := wfM_rf _ w
  have hbv := hr5.1
  have nX0 : FX (∀ j : Nat, (j ≠ 14 ∧ j ≠ 23 ∧ j ≠ 24) → (j ≠ 14 ∧ j ≠ 23 ∧ j ≠ 24)) := fun j hj => by omega
  refine hR (?_ : R (_, _, _, _, _, _))
  refine hR (k_ne (by omega) (fun hc => by omega) (fun _ => ?_))
  iterate 3 refine hR (?_ : R (_, _, _, _, _, _))
  refine hR (c_obj hK0 (zcall_i 0 0 (Nat.le_of_ble_eq_true rfl) (Nat.le_of_ble_eq_true rfl) (x_bookLine _ _ _ _ _ _ _ _ _ _ _ _ _ _ _ _ _ _ _ _ _ _ _ _ _ _ _ _ _ _ _ _ _ _ _ _ _ hK0 hK1 hK2 hK3 (by omega) hr1 hr2 (by omega) hr4 (by omega) _ fun v1 a'_2 x'_3 f'_4 c'_5 y15_6 z'_7 T'_8 R'_9 w10 gg11 hC12 hC13 hC14 hp15 hp16 hp17 => ?_)))
  have fr18 := wfM_tr fr0 gg11 nX0
  have hC19 := (gg11.2 15 (by (try dsimp only); decide)).trans hK1
  refine (?_ : R (_, _, .int (Int32.ofInt v1) :: [], w10, 0, 0))
  refine hR (?_ : R (_, _, _, _, _, _))
  exact hR (zret_i rfl (Nat.le_refl _) (zbo (by omega)) (h _ _ _ _ _ _ _ _ _ _ fr18 hC12 hC13 hC14 hp15 hp16 hp17))
set_option maxHeartbeats 4000000 in
theorem x_linesB (w : zW) (d : Nat) (f0 f10 f13 f15 f16 f17 f20 f21 f22 f23 f26 f28 f31 f32 f33 f38 f41 f44 a : Int) (x14 : Int64) (g15 g g23 g24 : Nat → Int32) (f c x0 x1 x2 : Int) (g1 g2 g3 g4 : Nat → Int32) (hK0 : zix w 14 = some (.inr (11, [.int (Int32.ofInt f0), .ref 15, .ref 16, .ref 17, .ref 18, .ref 19, .ref 20, .ref 21, .ref 22, .int (Int32.ofInt (tE g f10 a)), .int (Int32.ofInt f10), .int (Int32.ofInt (tS g f10 a)), .int (Int32.ofInt (rK (tK g f10 a))), .int (Int32.ofInt f13), .long x14, .int (Int32.ofInt f15), .int (Int32.ofInt f16), .int (Int32.ofInt f17), .ref 23, .ref 24, .int (Int32.ofInt f20), .int (Int32.ofInt f21), .int (Int32.ofInt f22), .int (Int32.ofInt f23), .ref 25, .ref 26, .int (Int32.ofInt f26), .ref 27, .int (Int32.ofInt f28), .ref 28, .ref 29, .int (Int32.ofInt f31), .int (Int32.ofInt f32), .int (Int32.ofInt f33), .ref 30, .ref 31, .ref 32, .ref 33, .int (Int32.ofInt f38), .ref 34, .ref 35, .int (Int32.ofInt f41), .ref 36, .ref 37, .int (Int32.ofInt f44), .ref 38, .ref 39, .ref 40, .ref 41, .ref 42, .ref 43, .ref 44]))) (hK1 : zix w 15 = some (.inl (0, 2400, .inl g15))) (hK2 : zix w 23 = some (.inl (1, 121, .inl g23))) (hK3 : zix w 24 = some (.inl (1, 3, .inl g24))) (hr0 : 0 ≤ a ∧ a ≤ f10 ∧ f10 ≤ 600) (hr1 : ∀ i : Int, 0 ≤ i → i < f10 → tBy g15 i = tBy g i ∧ -128 ≤ tBy g i ∧ tBy g i ≤ 127) (hr2 : tK g f10 a = 2 → f13 = tV g f10 a) (hr3 : (-2147483648 ≤ f16 ∧ f16 ≤ 2147483647) ∧ (-2147483648 ≤ f17 ∧ f17 ≤ 2147483647)) (hr4 : RELB (f, c, x0, x1, x2, g1, g2, g3, g4) f16 f17 g23) (hr5 : tK g f10 a = 1 → x14.toInt = if tE g f10 a - tS g f10 a ≤ 8 then tkW g f10 a else 0) (Q : zQ) (h : ∀ (v : Int) (a' x' f' c' y15 : Int) (z' : Int64) (T' R' : Nat → Int32) (w' : zW), wfM (fun j => j ≠ 14 ∧ j ≠ 23 ∧ j ≠ 24) w w' → zix w' 14 = some (.inr (11, [.int (Int32.ofInt f0), .ref 15, .ref 16, .ref 17, .ref 18, .ref 19, .ref 20, .ref 21, .ref 22, .int (Int32.ofInt (tE g f10 a')), .int (Int32.ofInt f10), .int (Int32.ofInt (tS g f10 a')), .int (Int32.ofInt (rK (tK g f10 a'))), .int (Int32.ofInt x'), .long z', .int (Int32.ofInt y15), .int (Int32.ofInt f'), .int (Int32.ofInt c'), .ref 23, .ref 24, .int (Int32.ofInt f20), .int (Int32.ofInt f21), .int (Int32.ofInt f22), .int (Int32.ofInt f23), .ref 25, .ref 26, .int (Int32.ofInt f26), .ref 27, .int (Int32.ofInt f28), .ref 28, .ref 29, .int (Int32.ofInt f31), .int (Int32.ofInt f32), .int (Int32.ofInt f33), .ref 30, .ref 31, .ref 32, .ref 33, .int (Int32.ofInt f38), .ref 34, .ref 35, .int (Int32.ofInt f41), .ref 36, .ref 37, .int (Int32.ofInt f44), .ref 38, .ref 39, .ref 40, .ref 41, .ref 42, .ref 43, .ref 44])) → zix w' 23 = some (.inl (1, 121, .inl T')) → zix w' 24 = some (.inl (1, 3, .inl R')) → (LSP g f10 (teF g f10 (tlB g f10) 601 a (f, c, x0, x1, x2, g1, g2, g3, g4)) v y15 (fun X => RELB X f' c' T')) → ((v = 0 ∨ v = 1) ∧ r32 f' ∧ r32 c' ∧ 0 ≤ a' ∧ a' ≤ f10) → Q (some (.int (Int32.ofInt v))) w') : zCl zTab (d + 8) iX12_lines [.ref 14, .int (Int32.ofInt 0)] w 0 0 Q := by
  refine zCl_i (M := kX12_lines) rfl (Nat.le_of_ble_eq_true rfl) fun R hR => ?_
  replace hr2 : FX _ := hr2
  replace hr5 : FX _ := hr5
  have fr0 : wfM (fun j => j ≠ 14 ∧ j ≠ 23 ∧ j ≠ 24) w w := wfM_rf _ w
  have nX0 : FX (∀ j : Nat, (j ≠ 14 ∧ j ≠ 23 ∧ j ≠ 24) → (j ≠ 14 ∧ j ≠ 23 ∧ j ≠ 24)) := fun j hj => by omega
  have nX1 : FX (∀ j : Nat, (j ≠ 14 ∧ j ≠ 23 ∧ j ≠ 24) → (j ≠ 14)) := fun j hj => by omega
  iterate 2 refine hR (?_ : R (_, _, _, _, _, _))
  have lp2 : ∀ (N : Nat) (fi : Int) (a2 xv f2 c2 yq : Int) (z2 : Int64) (T2 R2 : Nat → Int32) (w_2 : zW), (wfM (fun j => j ≠ 14 ∧ j ≠ 23 ∧ j ≠ 24) w w_2) → (zix w_2 14 = some (.inr (11, [.int (Int32.ofInt f0), .ref 15, .ref 16, .ref 17, .ref 18, .ref 19, .ref 20, .ref 21, .ref 22, .int (Int32.ofInt (tE g f10 a2)), .int (Int32.ofInt f10), .int (Int32.ofInt (tS g f10 a2)), .int (Int32.ofInt (rK (tK g f10 a2))), .int (Int32.ofInt xv), .long z2, .int (Int32.ofInt yq), .int (Int32.ofInt f2), .int (Int32.ofInt c2), .ref 23, .ref 24, .int (Int32.ofInt f20), .int (Int32.ofInt f21), .int (Int32.ofInt f22), .int (Int32.ofInt f23), .ref 25, .ref 26, .int (Int32.ofInt f26), .ref 27, .int (Int32.ofInt f28), .ref 28, .ref 29, .int (Int32.ofInt f31), .int (Int32.ofInt f32), .int (Int32.ofInt f33), .ref 30, .ref 31, .ref 32, .ref 33, .int (Int32.ofInt f38), .ref 34, .ref 35, .int (Int32.ofInt f41), .ref 36, .ref 37, .int (Int32.ofInt f44), .ref 38, .ref 39, .ref 40, .ref 41, .ref 42, .ref 43, .ref 44]))) → (zix w_2 15 = some (.inl (0, 2400, .inl g15))) → (zix w_2 23 = some (.inl (1, 121, .inl T2))) → (zix w_2 24 = some (.inl (1, 3, .inl R2))) → (0 ≤ fi ∧ fi ≤ 1) → (tK g f10 a2 = 2 → xv = tV g f10 a2) → (0 ≤ a2 ∧ a2 ≤ f10 ∧ r32 f2 ∧ r32 c2) → (fi = 1 → tK g f10 a2 = 1 → z2.toInt = if tE g f10 a2 - tS g f10 a2 ≤ 8 then tkW g f10 a2 else 0) → ((fi = 1 ∧ ∃ (X : tpB) (nn : Int), nn ≤ a2 ∧ 0 ≤ nn ∧ teF g f10 (tlB g f10) (601 - nn).toNat a2 X = teF g f10 (tlB g f10) 601 a (f, c, x0, x1, x2, g1, g2, g3, g4) ∧ RELB X f2 c2 T2) ∨ (fi = 0 ∧ ∃ (ax : Int) (X : tpB), teF g f10 (tlB g f10) 601 a (f, c, x0, x1, x2, g1, g2, g3, g4) = (false, ax, X) ∧ yq = tS g f10 ax)) → (2 * (601 - a2) + fi < N) → R (2, [some (.ref 14), some (.int (Int32.ofInt 0)), some (.int (Int32.ofInt fi))], [], w_2, 0, 0) := by
    intro N
    induction N with
    | zero => intros; omega
    | succ N ih2 =>
      intro fi a2 xv f2 c2 yq z2 T2 R2 w_2 fr_2 hC14_2 hC15_2 hC23_2 hC24_2 hf0_2 hp0_2 hp1_2 hp2_2 hp3_2 hN2
      replace hp0_2 : FX _ := hp0_2
      replace hp2_2 : FX _ := hp2_2
      replace hp3_2 : FX _ := hp3_2
      have hb1 := tS_b (g := g) (n := f10) (a := a2) (by omega) (by omega)
      have hb2 := tE_b (g := g) (n := f10) (a := a2) (by omega) (by omega)
      have hb3 := rK_r (g := g) (n := f10) (a := a2)
      refine hR (?_ : R (_, _, _, _, _, _))
      refine hR (k_eq (by omega) (fun hc4 => ?_) (fun hc4 => ?_))
      · skip
        refine hR (?_ : R (_, _, _, _, _, _))
        exact hR (zret_i rfl (Nat.le_refl _) (zbo (by omega)) (h _ _ _ _ _ _ _ _ _ _ fr_2 hC14_2 hC23_2 hC24_2 (Or.inr (hp3_2.resolve_left (fun q => absurd q.1 (by omega)))) (by omega)))
      obtain ⟨hf1, ⟨fX, cX, x0X, x1X, x2X, k1X, k2X, k3X, k4X⟩, nn, hn1, hn2, hte, hrel⟩ := hp3_2.resolve_right (fun q => absurd q.1 (by omega))
      refine hR (?_ : R (_, _, _, _, _, _))
      refine hR (c_get hC14_2 rfl ?_)
      refine hR (k_eq (by omega) (fun hc5 => ?_) (fun hc5 => ?_))
      · skip
        refine hR (?_ : R (_, _, _, _, _, _))
        exact hR (zret_i rfl (Nat.le_refl _) (zbo (by omega)) (h _ _ _ _ _ _ _ _ _ _ fr_2 hC14_2 hC23_2 hC24_2 (Or.inl ⟨hf1, _, _, hte.symm.trans (teF_e (ms := 601) (Or.inr (by omega))), hrel⟩) (by omega)))
      have hn0 := tK_n (g := g) (n := f10) (a := a2) (by omega)
      iterate 3 refine hR (?_ : R (_, _, _, _, _, _))
      refine hR (c_get hC14_2 rfl ?_)
      refine hR (?_ : R (_, _, _, _, _, _))
      refine hR (j_ne (by omega) (by omega) (fun hc6 => ?_) (fun hc6 => ?_))
      · skip
        iterate 2 refine hR (?_ : R (_, _, _, _, _, _))
        refine hR (c_get hC14_2 rfl ?_)
        refine hR (c_obj hC14_2 (zcall_i 0 0 (Nat.le_of_ble_eq_true rfl) (Nat.le_of_ble_eq_true rfl) (x_lineOfB _ _ _ _ _ _ _ _ _ _ _ _ _ _ _ _ _ _ _ _ _ _ _ _ _ _ _ _ _ _ _ _ _ _ _ _ _ hC14_2 hC15_2 hC23_2 hC24_2 (by omega) hr1 hp0_2 (by omega) hrel (by omega) _ fun v7 a'_8 x'_9 f'_10 c'_11 y15_12 z'_13 T'_14 R'_15 w16 gg17 hC18 hC19 hC20 hp21 hp22 hp23 => ?_)))
        have fr24 := wfM_tr fr_2 gg17 nX0
        have hC25 := (gg17.2 15 (by (try dsimp only); decide)).trans hC15_2
        refine (?_ : R (_, _, .int (Int32.ofInt v7) :: [], w16, 0, 0))
        have htl := tl_of (ms := bMs) (fw := bFw) (tk := bTake) (lnq_w (ln := lnB) (by omega) (by omega) (by decide) lnB_L (Or.inr ⟨by omega, by decide⟩)) hp21
        replace htl : (v7 = 0 ∧ ∃ ax X, tlB g f10 a2 _ = (false, ax, X) ∧ y15_12 = tS g f10 ax) ∨ (v7 = 1 ∧ ∃ X, RELB X f'_10 c'_11 T'_14 ∧ tlB g f10 a2 _ = if tK g f10 a'_8 = 3 then (true, tE g f10 a'_8, X) else (false, a'_8, X)) := htl
        replace htl : FX _ := htl
        have hbd := hp23
        have hb26 := tS_b (g := g) (n := f10) (a := a'_8) (by omega) (by omega)
        have hb27 := tE_b (g := g) (n := f10) (a := a'_8) (by omega) (by omega)
        have hb28 := rK_r (g := g) (n := f10) (a := a'_8)
        iterate 2 refine hR (?_ : R (_, _, _, _, _, _))
        refine hR (k_eq (by omega) (fun hc29 => ?_) (fun hc29 => ?_))
        · skip
          refine hR (?_ : R (_, _, _, _, _, _))
          refine hR (k_eq (by omega) (fun _ => ?_) (fun hc => by omega))
          exact ih2 _ _ _ _ _ _ _ _ _ _ fr24 hC18 hC25 hC19 hC20 (by omega) hp22 (by omega) (fun q => absurd q (by omega)) (by rcases htl with ⟨q, ax, X3, q2, q3⟩ | ⟨q, _⟩; (· exact Or.inr ⟨by omega, ax, X3, hte.symm.trans (teF_f (ms := 601) (by omega) (by omega) q2), q3⟩); exact absurd q (by omega)) (by omega)
        refine hR (?_ : R (_, _, _, _, _, _))
        refine hR (c_get hC18 rfl ?_)
        refine hR (?_ : R (_, _, _, _, _, _))
        refine hR (j_eq (by omega) (by omega) (fun hc30 => ?_) (fun hc30 => ?_))
        rotate_left
        · skip
          refine hR (?_ : R (_, _, _, _, _, _))
          refine hR (c_obj hC18 (zcall_i 0 0 (Nat.le_of_ble_eq_true rfl) (Nat.le_of_ble_eq_true rfl) (x_fails _ _ _ _ _ _ _ _ _ _ _ _ _ _ _ _ _ _ _ _ _ _ _ _ hC18 _ fun v49 w50 gg51 hC52 hp53 => ?_)))
          have fr54 := wfM_tr fr24 gg51 nX1
          have hC55 := (gg51.2 15 (by (try dsimp only); decide)).trans hC25
          have hC56 := (gg51.2 23 (by (try dsimp only); decide)).trans hC19
          have hC57 := (gg51.2 24 (by (try dsimp only); decide)).trans hC20
          subst hp53
          refine (?_ : R (_, _, .int (Int32.ofInt 0) :: [], w50, 0, 0))
          iterate 2 refine hR (?_ : R (_, _, _, _, _, _))
          refine hR (k_eq (by omega) (fun _ => ?_) (fun hc => by omega))
          exact ih2 _ _ _ _ _ _ _ _ _ _ fr54 hC52 hC55 hC56 hC57 (by omega) hp22 (by omega) (fun q => absurd q (by omega)) (by rcases htl with ⟨q, _⟩ | ⟨q, X3, q2, q3⟩; (· exact absurd q (by omega)); rw [if_neg (by omega)] at q3; exact Or.inr ⟨rfl, _, X3, hte.symm.trans (teF_f (ms := 601) (by omega) (by omega) q3), rfl⟩) (by omega)
        refine hR (?_ : R (_, _, _, _, _, _))
        refine hR (k_eq (by omega) (fun hc => by omega) (fun _ => ?_))
        have hn3 := tK_n (g := g) (n := f10) (a := a'_8) (by omega)
        have hb31 := tS_b (g := g) (n := f10) (a := tE g f10 a'_8) (by omega) (by omega)
        have hb32 := tE_b (g := g) (n := f10) (a := tE g f10 a'_8) (by omega) (by omega)
        have hb33 := rK_r (g := g) (n := f10) (a := tE g f10 a'_8)
        refine hR (?_ : R (_, _, _, _, _, _))
        refine hR (c_obj hC18 (zcall_i 0 0 (Nat.le_of_ble_eq_true rfl) (Nat.le_of_ble_eq_true rfl) (x_token _ _ _ _ _ _ _ _ _ _ _ _ _ _ _ _ _ _ _ _ _ _ _ _ _ _ hC18 hC25 (by omega) hr1 _ fun y9_34 y11_35 y12_36 y13_37 y14_38 w39 gg40 hC41 hp42 => ?_)))
        have fr43 := wfM_tr fr24 gg40 nX1
        have hC44 := (gg40.2 15 (by (try dsimp only); decide)).trans hC25
        have hC45 := (gg40.2 23 (by (try dsimp only); decide)).trans hC19
        have hC46 := (gg40.2 24 (by (try dsimp only); decide)).trans hC20
        obtain ⟨rfl, rfl, rfl, hx47, hw48⟩ := hp42
        replace hx47 : FX _ := hx47
        replace hw48 : FX _ := hw48
        refine (?_ : R (_, _, [], w39, 0, 0))
        refine hR (?_ : R (_, _, _, _, _, _))
        exact ih2 _ _ _ _ _ _ _ _ _ _ fr43 hC41 hC44 hC45 hC46 (by omega) hx47 (by omega) (fun _ => hw48) (by rcases htl with ⟨q, _⟩ | ⟨q, X3, q2, q3⟩; (· exact absurd q (by omega)); rw [if_pos (by omega)] at q3; exact Or.inl ⟨by omega, X3, nn + 1, by omega, by omega, (teF_s (ms := 601) (by omega) (by omega) q3).trans hte, q2⟩) (by omega)
      refine hR (?_ : R (_, _, _, _, _, _))
      refine hR (c_get hC14_2 rfl ?_)
      iterate 2 refine hR (?_ : R (_, _, _, _, _, _))
      refine hR (c_get hC14_2 rfl ?_)
      refine hR (c_obj hC14_2 (zcall_i 0 0 (Nat.le_of_ble_eq_true rfl) (Nat.le_of_ble_eq_true rfl) (x_lineOfB _ _ _ _ _ _ _ _ _ _ _ _ _ _ _ _ _ _ _ _ _ _ _ _ _ _ _ _ _ _ _ _ _ _ _ _ _ hC14_2 hC15_2 hC23_2 hC24_2 (by omega) hr1 hp0_2 (by omega) hrel (by omega) _ fun v58 a'_59 x'_60 f'_61 c'_62 y15_63 z'_64 T'_65 R'_66 w67 gg68 hC69 hC70 hC71 hp72 hp73 hp74 => ?_)))
      have fr75 := wfM_tr fr_2 gg68 nX0
      have hC76 := (gg68.2 15 (by (try dsimp only); decide)).trans hC15_2
      refine (?_ : R (_, _, .int (Int32.ofInt v58) :: [], w67, 0, 0))
      have htl := tl_of (ms := bMs) (fw := bFw) (tk := bTake) (lnq_w (ln := lnB) (by omega) (by omega) (by decide) lnB_L (Or.inl ⟨by omega, hp2_2 (by omega) (by omega)⟩)) hp72
      replace htl : (v58 = 0 ∧ ∃ ax X, tlB g f10 a2 _ = (false, ax, X) ∧ y15_63 = tS g f10 ax) ∨ (v58 = 1 ∧ ∃ X, RELB X f'_61 c'_62 T'_65 ∧ tlB g f10 a2 _ = if tK g f10 a'_59 = 3 then (true, tE g f10 a'_59, X) else (false, a'_59, X)) := htl
      replace htl : FX _ := htl
      have hbd := hp74
      have hb77 := tS_b (g := g) (n := f10) (a := a'_59) (by omega) (by omega)
      have hb78 := tE_b (g := g) (n := f10) (a := a'_59) (by omega) (by omega)
      have hb79 := rK_r (g := g) (n := f10) (a := a'_59)
      iterate 2 refine hR (?_ : R (_, _, _, _, _, _))
      refine hR (k_eq (by omega) (fun hc80 => ?_) (fun hc80 => ?_))
      · skip
        refine hR (?_ : R (_, _, _, _, _, _))
        refine hR (k_eq (by omega) (fun _ => ?_) (fun hc => by omega))
        exact ih2 _ _ _ _ _ _ _ _ _ _ fr75 hC69 hC76 hC70 hC71 (by omega) hp73 (by omega) (fun q => absurd q (by omega)) (by rcases htl with ⟨q, ax, X3, q2, q3⟩ | ⟨q, _⟩; (· exact Or.inr ⟨by omega, ax, X3, hte.symm.trans (teF_f (ms := 601) (by omega) (by omega) q2), q3⟩); exact absurd q (by omega)) (by omega)
      refine hR (?_ : R (_, _, _, _, _, _))
      refine hR (c_get hC69 rfl ?_)
      refine hR (?_ : R (_, _, _, _, _, _))
      refine hR (j_eq (by omega) (by omega) (fun hc81 => ?_) (fun hc81 => ?_))
      rotate_left
      · skip
        refine hR (?_ : R (_, _, _, _, _, _))
        refine hR (c_obj hC69 (zcall_i 0 0 (Nat.le_of_ble_eq_true rfl) (Nat.le_of_ble_eq_true rfl) (x_fails _ _ _ _ _ _ _ _ _ _ _ _ _ _ _ _ _ _ _ _ _ _ _ _ hC69 _ fun v100 w101 gg102 hC103 hp104 => ?_)))
        have fr105 := wfM_tr fr75 gg102 nX1
        have hC106 := (gg102.2 15 (by (try dsimp only); decide)).trans hC76
        have hC107 := (gg102.2 23 (by (try dsimp only); decide)).trans hC70
        have hC108 := (gg102.2 24 (by (try dsimp only); decide)).trans hC71
        subst hp104
        refine (?_ : R (_, _, .int (Int32.ofInt 0) :: [], w101, 0, 0))
        iterate 2 refine hR (?_ : R (_, _, _, _, _, _))
        refine hR (k_eq (by omega) (fun _ => ?_) (fun hc => by omega))
        exact ih2 _ _ _ _ _ _ _ _ _ _ fr105 hC103 hC106 hC107 hC108 (by omega) hp73 (by omega) (fun q => absurd q (by omega)) (by rcases htl with ⟨q, _⟩ | ⟨q, X3, q2, q3⟩; (· exact absurd q (by omega)); rw [if_neg (by omega)] at q3; exact Or.inr ⟨rfl, _, X3, hte.symm.trans (teF_f (ms := 601) (by omega) (by omega) q3), rfl⟩) (by omega)
      refine hR (?_ : R (_, _, _, _, _, _))
      refine hR (k_eq (by omega) (fun hc => by omega) (fun _ => ?_))
      have hn3 := tK_n (g := g) (n := f10) (a := a'_59) (by omega)
      have hb82 := tS_b (g := g) (n := f10) (a := tE g f10 a'_59) (by omega) (by omega)
      have hb83 := tE_b (g := g) (n := f10) (a := tE g f10 a'_59) (by omega) (by omega)
      have hb84 := rK_r (g := g) (n := f10) (a := tE g f10 a'_59)
      refine hR (?_ : R (_, _, _, _, _, _))
      refine hR (c_obj hC69 (zcall_i 0 0 (Nat.le_of_ble_eq_true rfl) (Nat.le_of_ble_eq_true rfl) (x_token _ _ _ _ _ _ _ _ _ _ _ _ _ _ _ _ _ _ _ _ _ _ _ _ _ _ hC69 hC76 (by omega) hr1 _ fun y9_85 y11_86 y12_87 y13_88 y14_89 w90 gg91 hC92 hp93 => ?_)))
      have fr94 := wfM_tr fr75 gg91 nX1
      have hC95 := (gg91.2 15 (by (try dsimp only); decide)).trans hC76
      have hC96 := (gg91.2 23 (by (try dsimp only); decide)).trans hC70
      have hC97 := (gg91.2 24 (by (try dsimp only); decide)).trans hC71
      obtain ⟨rfl, rfl, rfl, hx98, hw99⟩ := hp93
      replace hx98 : FX _ := hx98
      replace hw99 : FX _ := hw99
      refine (?_ : R (_, _, [], w90, 0, 0))
      refine hR (?_ : R (_, _, _, _, _, _))
      exact ih2 _ _ _ _ _ _ _ _ _ _ fr94 hC92 hC95 hC96 hC97 (by omega) hx98 (by omega) (fun _ => hw99) (by rcases htl with ⟨q, _⟩ | ⟨q, X3, q2, q3⟩; (· exact absurd q (by omega)); rw [if_pos (by omega)] at q3; exact Or.inl ⟨by omega, X3, nn + 1, by omega, by omega, (teF_s (ms := 601) (by omega) (by omega) q3).trans hte, q2⟩) (by omega)
  exact lp2 400000000 _ _ _ _ _ _ _ _ _ _ fr0 hK0 hK1 hK2 hK3 (by omega) hr2 (by omega) (fun _ => hr5) (Or.inl ⟨rfl, _, 0, by omega, by omega, rfl, hr4⟩) (by omega)
theorem x_lineOfY (w : zW) (d : Nat) (a3 : Int) (lw : Int64) (f0 f10 f13 f15 f16 f17 f20 f21 f22 f23 f26 f28 f31 f32 f33 f38 f41 f44 a : Int) (x14 : Int64) (g15 g g23 g24 : Nat → Int32) (f c x0 : Int) (g1 g2 g3 : Nat → Int32) (hK0 : zix w 14 = some (.inr (11, [.int (Int32.ofInt f0), .ref 15, .ref 16, .ref 17, .ref 18, .ref 19, .ref 20, .ref 21, .ref 22, .int (Int32.ofInt (tE g f10 a)), .int (Int32.ofInt f10), .int (Int32.ofInt (tS g f10 a)), .int (Int32.ofInt (rK (tK g f10 a))), .int (Int32.ofInt f13), .long x14, .int (Int32.ofInt f15), .int (Int32.ofInt f16), .int (Int32.ofInt f17), .ref 23, .ref 24, .int (Int32.ofInt f20), .int (Int32.ofInt f21), .int (Int32.ofInt f22), .int (Int32.ofInt f23), .ref 25, .ref 26, .int (Int32.ofInt f26), .ref 27, .int (Int32.ofInt f28), .ref 28, .ref 29, .int (Int32.ofInt f31), .int (Int32.ofInt f32), .int (Int32.ofInt f33), .ref 30, .ref 31, .ref 32, .ref 33, .int (Int32.ofInt f38), .ref 34, .ref 35, .int (Int32.ofInt f41), .ref 36, .ref 37, .int (Int32.ofInt f44), .ref 38, .ref 39, .ref 40, .ref 41, .ref 42, .ref 43, .ref 44]))) (hK1 : zix w 15 = some (.inl (0, 2400, .inl g15))) (hK2 : zix w 23 = some (.inl (1, 121, .inl g23))) (hK3 : zix w 24 = some (.inl (1, 3, .inl g24))) (hr0 : 0 ≤ a ∧ a ≤ f10 ∧ f10 ≤ 600) (hr1 : ∀ i : Int, 0 ≤ i → i < f10 → tBy g15 i = tBy g i ∧ -128 ≤ tBy g i ∧ tBy g i ≤ 127) (hr2 : tK g f10 a = 2 → f13 = tV g f10 a) (hr3 : (-2147483648 ≤ f16 ∧ f16 ≤ 2147483647) ∧ (-2147483648 ≤ f17 ∧ f17 ≤ 2147483647)) (hr4 : RELY (f, c, x0, g1, g2, g3) f16 f17 g23) (hr5 : a3 = tS g f10 a ∧ tS g f10 a < tE g f10 a) (Q : zQ) (h : ∀ (v : Int) (a' x' f' c' y15 : Int) (z' : Int64) (T' R' : Nat → Int32) (w' : zW), wfM (fun j => j ≠ 14 ∧ j ≠ 23 ∧ j ≠ 24) w w' → zix w' 14 = some (.inr (11, [.int (Int32.ofInt f0), .ref 15, .ref 16, .ref 17, .ref 18, .ref 19, .ref 20, .ref 21, .ref 22, .int (Int32.ofInt (tE g f10 a')), .int (Int32.ofInt f10), .int (Int32.ofInt (tS g f10 a')), .int (Int32.ofInt (rK (tK g f10 a'))), .int (Int32.ofInt x'), .long z', .int (Int32.ofInt y15), .int (Int32.ofInt f'), .int (Int32.ofInt c'), .ref 23, .ref 24, .int (Int32.ofInt f20), .int (Int32.ofInt f21), .int (Int32.ofInt f22), .int (Int32.ofInt f23), .ref 25, .ref 26, .int (Int32.ofInt f26), .ref 27, .int (Int32.ofInt f28), .ref 28, .ref 29, .int (Int32.ofInt f31), .int (Int32.ofInt f32), .int (Int32.ofInt f33), .ref 30, .ref 31, .ref 32, .ref 33, .int (Int32.ofInt f38), .ref 34, .ref 35, .int (Int32.ofInt f41), .ref 36, .ref 37, .int (Int32.ofInt f44), .ref 38, .ref 39, .ref 40, .ref 41, .ref 42, .ref 43, .ref 44])) → zix w' 23 = some (.inl (1, 121, .inl T')) → zix w' 24 = some (.inl (1, 3, .inl R')) → ((lnY lw.toInt = -1 ∧ v = 0 ∧ y15 = tS g f10 a) ∨ (lnY lw.toInt ≠ -1 ∧ LNP g f10 (yMs (lnY lw.toInt)) (nmF g f10 (yTake (lnY lw.toInt)) (yMs (lnY lw.toInt)).toNat 0 (tE g f10 a) (yBeg (lnY lw.toInt) (tS g f10 a) (f, c, x0, g1, g2, g3))) v a' y15 (fun X => RELY X f' c' T'))) → (tK g f10 a' = 2 → x' = tV g f10 a') → (a ≤ a' ∧ a' ≤ f10 ∧ (v = 0 ∨ v = 1) ∧ r32 f' ∧ r32 c') → Q (some (.int (Int32.ofInt v))) w') : zCl zTab (d + 6) iX12_lineOf [.ref 14, .int (Int32.ofInt 1), .long lw, .int (Int32.ofInt a3)] w 0 0 Q := by
  refine zCl_i (M := kX12_lineOf) rfl (Nat.le_of_ble_eq_true rfl) fun R hR => ?_
  have fr0 : wfM (fun j => j ≠ 14 ∧ j ≠ 23 ∧ j ≠ 24) w w := wfM_rf _ w
  have hbv := hr5.1
  have nX0 : FX (∀ j : Nat, (j ≠ 14 ∧ j ≠ 23 ∧ j ≠ 24) → (j ≠ 14 ∧ j ≠ 23 ∧ j ≠ 24)) := fun j hj => by omega
  refine hR (?_ : R (_, _, _, _, _, _))
  refine hR (k_ne (by omega) (fun _ => ?_) (fun hc => by omega))
  iterate 2 refine hR (?_ : R (_, _, _, _, _, _))
  refine hR (j_ne (by omega) (by omega) (fun hc => by omega) (fun _ => ?_))
  iterate 3 refine hR (?_ : R (_, _, _, _, _, _))
  refine hR (c_obj hK0 (zcall_i 0 0 (Nat.le_of_ble_eq_true rfl) (Nat.le_of_ble_eq_true rfl) (x_yearLine _ _ _ _ _ _ _ _ _ _ _ _ _ _ _ _ _ _ _ _ _ _ _ _ _ _ _ _ _ _ _ _ _ _ hK0 hK1 hK2 hK3 (by omega) hr1 hr2 (by omega) hr4 (by omega) _ fun v1 a'_2 x'_3 f'_4 c'_5 y15_6 z'_7 T'_8 R'_9 w10 gg11 hC12 hC13 hC14 hp15 hp16 hp17 => ?_)))
  have fr18 := wfM_tr fr0 gg11 nX0
  have hC19 := (gg11.2 15 (by (try dsimp only); decide)).trans hK1
  refine (?_ : R (_, _, .int (Int32.ofInt v1) :: [], w10, 0, 0))
  refine hR (?_ : R (_, _, _, _, _, _))
  exact hR (zret_i rfl (Nat.le_refl _) (zbo (by omega)) (h _ _ _ _ _ _ _ _ _ _ fr18 hC12 hC13 hC14 hp15 hp16 hp17))
set_option maxHeartbeats 4000000 in
theorem x_linesY (w : zW) (d : Nat) (f0 f10 f13 f15 f16 f17 f20 f21 f22 f23 f26 f28 f31 f32 f33 f38 f41 f44 a : Int) (x14 : Int64) (g15 g g23 g24 : Nat → Int32) (f c x0 : Int) (g1 g2 g3 : Nat → Int32) (hK0 : zix w 14 = some (.inr (11, [.int (Int32.ofInt f0), .ref 15, .ref 16, .ref 17, .ref 18, .ref 19, .ref 20, .ref 21, .ref 22, .int (Int32.ofInt (tE g f10 a)), .int (Int32.ofInt f10), .int (Int32.ofInt (tS g f10 a)), .int (Int32.ofInt (rK (tK g f10 a))), .int (Int32.ofInt f13), .long x14, .int (Int32.ofInt f15), .int (Int32.ofInt f16), .int (Int32.ofInt f17), .ref 23, .ref 24, .int (Int32.ofInt f20), .int (Int32.ofInt f21), .int (Int32.ofInt f22), .int (Int32.ofInt f23), .ref 25, .ref 26, .int (Int32.ofInt f26), .ref 27, .int (Int32.ofInt f28), .ref 28, .ref 29, .int (Int32.ofInt f31), .int (Int32.ofInt f32), .int (Int32.ofInt f33), .ref 30, .ref 31, .ref 32, .ref 33, .int (Int32.ofInt f38), .ref 34, .ref 35, .int (Int32.ofInt f41), .ref 36, .ref 37, .int (Int32.ofInt f44), .ref 38, .ref 39, .ref 40, .ref 41, .ref 42, .ref 43, .ref 44]))) (hK1 : zix w 15 = some (.inl (0, 2400, .inl g15))) (hK2 : zix w 23 = some (.inl (1, 121, .inl g23))) (hK3 : zix w 24 = some (.inl (1, 3, .inl g24))) (hr0 : 0 ≤ a ∧ a ≤ f10 ∧ f10 ≤ 600) (hr1 : ∀ i : Int, 0 ≤ i → i < f10 → tBy g15 i = tBy g i ∧ -128 ≤ tBy g i ∧ tBy g i ≤ 127) (hr2 : tK g f10 a = 2 → f13 = tV g f10 a) (hr3 : (-2147483648 ≤ f16 ∧ f16 ≤ 2147483647) ∧ (-2147483648 ≤ f17 ∧ f17 ≤ 2147483647)) (hr4 : RELY (f, c, x0, g1, g2, g3) f16 f17 g23) (hr5 : tK g f10 a = 1 → x14.toInt = if tE g f10 a - tS g f10 a ≤ 8 then tkW g f10 a else 0) (Q : zQ) (h : ∀ (v : Int) (a' x' f' c' y15 : Int) (z' : Int64) (T' R' : Nat → Int32) (w' : zW), wfM (fun j => j ≠ 14 ∧ j ≠ 23 ∧ j ≠ 24) w w' → zix w' 14 = some (.inr (11, [.int (Int32.ofInt f0), .ref 15, .ref 16, .ref 17, .ref 18, .ref 19, .ref 20, .ref 21, .ref 22, .int (Int32.ofInt (tE g f10 a')), .int (Int32.ofInt f10), .int (Int32.ofInt (tS g f10 a')), .int (Int32.ofInt (rK (tK g f10 a'))), .int (Int32.ofInt x'), .long z', .int (Int32.ofInt y15), .int (Int32.ofInt f'), .int (Int32.ofInt c'), .ref 23, .ref 24, .int (Int32.ofInt f20), .int (Int32.ofInt f21), .int (Int32.ofInt f22), .int (Int32.ofInt f23), .ref 25, .ref 26, .int (Int32.ofInt f26), .ref 27, .int (Int32.ofInt f28), .ref 28, .ref 29, .int (Int32.ofInt f31), .int (Int32.ofInt f32), .int (Int32.ofInt f33), .ref 30, .ref 31, .ref 32, .ref 33, .int (Int32.ofInt f38), .ref 34, .ref 35, .int (Int32.ofInt f41), .ref 36, .ref 37, .int (Int32.ofInt f44), .ref 38, .ref 39, .ref 40, .ref 41, .ref 42, .ref 43, .ref 44])) → zix w' 23 = some (.inl (1, 121, .inl T')) → zix w' 24 = some (.inl (1, 3, .inl R')) → (LSP g f10 (teF g f10 (tlY g f10) 601 a (f, c, x0, g1, g2, g3)) v y15 (fun X => RELY X f' c' T')) → ((v = 0 ∨ v = 1) ∧ r32 f' ∧ r32 c' ∧ 0 ≤ a' ∧ a' ≤ f10) → Q (some (.int (Int32.ofInt v))) w') : zCl zTab (d + 7) iX12_lines [.ref 14, .int (Int32.ofInt 1)] w 0 0 Q := by
  refine zCl_i (M := kX12_lines) rfl (Nat.le_of_ble_eq_true rfl) fun R hR => ?_
  replace hr2 : FX _ := hr2
  replace hr5 : FX _ := hr5
  have fr0 : wfM (fun j => j ≠ 14 ∧ j ≠ 23 ∧ j ≠ 24) w w := wfM_rf _ w
  have nX0 : FX (∀ j : Nat, (j ≠ 14 ∧ j ≠ 23 ∧ j ≠ 24) → (j ≠ 14 ∧ j ≠ 23 ∧ j ≠ 24)) := fun j hj => by omega
  have nX1 : FX (∀ j : Nat, (j ≠ 14 ∧ j ≠ 23 ∧ j ≠ 24) → (j ≠ 14)) := fun j hj => by omega
  iterate 2 refine hR (?_ : R (_, _, _, _, _, _))
  have lp2 : ∀ (N : Nat) (fi : Int) (a2 xv f2 c2 yq : Int) (z2 : Int64) (T2 R2 : Nat → Int32) (w_2 : zW), (wfM (fun j => j ≠ 14 ∧ j ≠ 23 ∧ j ≠ 24) w w_2) → (zix w_2 14 = some (.inr (11, [.int (Int32.ofInt f0), .ref 15, .ref 16, .ref 17, .ref 18, .ref 19, .ref 20, .ref 21, .ref 22, .int (Int32.ofInt (tE g f10 a2)), .int (Int32.ofInt f10), .int (Int32.ofInt (tS g f10 a2)), .int (Int32.ofInt (rK (tK g f10 a2))), .int (Int32.ofInt xv), .long z2, .int (Int32.ofInt yq), .int (Int32.ofInt f2), .int (Int32.ofInt c2), .ref 23, .ref 24, .int (Int32.ofInt f20), .int (Int32.ofInt f21), .int (Int32.ofInt f22), .int (Int32.ofInt f23), .ref 25, .ref 26, .int (Int32.ofInt f26), .ref 27, .int (Int32.ofInt f28), .ref 28, .ref 29, .int (Int32.ofInt f31), .int (Int32.ofInt f32), .int (Int32.ofInt f33), .ref 30, .ref 31, .ref 32, .ref 33, .int (Int32.ofInt f38), .ref 34, .ref 35, .int (Int32.ofInt f41), .ref 36, .ref 37, .int (Int32.ofInt f44), .ref 38, .ref 39, .ref 40, .ref 41, .ref 42, .ref 43, .ref 44]))) → (zix w_2 15 = some (.inl (0, 2400, .inl g15))) → (zix w_2 23 = some (.inl (1, 121, .inl T2))) → (zix w_2 24 = some (.inl (1, 3, .inl R2))) → (0 ≤ fi ∧ fi ≤ 1) → (tK g f10 a2 = 2 → xv = tV g f10 a2) → (0 ≤ a2 ∧ a2 ≤ f10 ∧ r32 f2 ∧ r32 c2) → (fi = 1 → tK g f10 a2 = 1 → z2.toInt = if tE g f10 a2 - tS g f10 a2 ≤ 8 then tkW g f10 a2 else 0) → ((fi = 1 ∧ ∃ (X : tpY) (nn : Int), nn ≤ a2 ∧ 0 ≤ nn ∧ teF g f10 (tlY g f10) (601 - nn).toNat a2 X = teF g f10 (tlY g f10) 601 a (f, c, x0, g1, g2, g3) ∧ RELY X f2 c2 T2) ∨ (fi = 0 ∧ ∃ (ax : Int) (X : tpY), teF g f10 (tlY g f10) 601 a (f, c, x0, g1, g2, g3) = (false, ax, X) ∧ yq = tS g f10 ax)) → (2 * (601 - a2) + fi < N) → R (2, [some (.ref 14), some (.int (Int32.ofInt 1)), some (.int (Int32.ofInt fi))], [], w_2, 0, 0) := by
    intro N
    induction N with
    | zero => intros; omega
    | succ N ih2 =>
      intro fi a2 xv f2 c2 yq z2 T2 R2 w_2 fr_2 hC14_2 hC15_2 hC23_2 hC24_2 hf0_2 hp0_2 hp1_2 hp2_2 hp3_2 hN2
      replace hp0_2 : FX _ := hp0_2
      replace hp2_2 : FX _ := hp2_2
      replace hp3_2 : FX _ := hp3_2
      have hb1 := tS_b (g := g) (n := f10) (a := a2) (by omega) (by omega)
      have hb2 := tE_b (g := g) (n := f10) (a := a2) (by omega) (by omega)
      have hb3 := rK_r (g := g) (n := f10) (a := a2)
      refine hR (?_ : R (_, _, _, _, _, _))
      refine hR (k_eq (by omega) (fun hc4 => ?_) (fun hc4 => ?_))
      · skip
        refine hR (?_ : R (_, _, _, _, _, _))
        exact hR (zret_i rfl (Nat.le_refl _) (zbo (by omega)) (h _ _ _ _ _ _ _ _ _ _ fr_2 hC14_2 hC23_2 hC24_2 (Or.inr (hp3_2.resolve_left (fun q => absurd q.1 (by omega)))) (by omega)))
      obtain ⟨hf1, ⟨fX, cX, x0X, k1X, k2X, k3X⟩, nn, hn1, hn2, hte, hrel⟩ := hp3_2.resolve_right (fun q => absurd q.1 (by omega))
      refine hR (?_ : R (_, _, _, _, _, _))
      refine hR (c_get hC14_2 rfl ?_)
      refine hR (k_eq (by omega) (fun hc5 => ?_) (fun hc5 => ?_))
      · skip
        refine hR (?_ : R (_, _, _, _, _, _))
        exact hR (zret_i rfl (Nat.le_refl _) (zbo (by omega)) (h _ _ _ _ _ _ _ _ _ _ fr_2 hC14_2 hC23_2 hC24_2 (Or.inl ⟨hf1, _, _, hte.symm.trans (teF_e (ms := 601) (Or.inr (by omega))), hrel⟩) (by omega)))
      have hn0 := tK_n (g := g) (n := f10) (a := a2) (by omega)
      iterate 3 refine hR (?_ : R (_, _, _, _, _, _))
      refine hR (c_get hC14_2 rfl ?_)
      refine hR (?_ : R (_, _, _, _, _, _))
      refine hR (j_ne (by omega) (by omega) (fun hc6 => ?_) (fun hc6 => ?_))
      · skip
        iterate 2 refine hR (?_ : R (_, _, _, _, _, _))
        refine hR (c_get hC14_2 rfl ?_)
        refine hR (c_obj hC14_2 (zcall_i 0 0 (Nat.le_of_ble_eq_true rfl) (Nat.le_of_ble_eq_true rfl) (x_lineOfY _ _ _ _ _ _ _ _ _ _ _ _ _ _ _ _ _ _ _ _ _ _ _ _ _ _ _ _ _ _ _ _ _ _ hC14_2 hC15_2 hC23_2 hC24_2 (by omega) hr1 hp0_2 (by omega) hrel (by omega) _ fun v7 a'_8 x'_9 f'_10 c'_11 y15_12 z'_13 T'_14 R'_15 w16 gg17 hC18 hC19 hC20 hp21 hp22 hp23 => ?_)))
        have fr24 := wfM_tr fr_2 gg17 nX0
        have hC25 := (gg17.2 15 (by (try dsimp only); decide)).trans hC15_2
        refine (?_ : R (_, _, .int (Int32.ofInt v7) :: [], w16, 0, 0))
        have htl := tl_of (ms := yMs) (fw := yMs) (tk := yTake) (lnq_w (ln := lnY) (by omega) (by omega) (by decide) lnY_L (Or.inr ⟨by omega, by decide⟩)) hp21
        replace htl : (v7 = 0 ∧ ∃ ax X, tlY g f10 a2 _ = (false, ax, X) ∧ y15_12 = tS g f10 ax) ∨ (v7 = 1 ∧ ∃ X, RELY X f'_10 c'_11 T'_14 ∧ tlY g f10 a2 _ = if tK g f10 a'_8 = 3 then (true, tE g f10 a'_8, X) else (false, a'_8, X)) := htl
        replace htl : FX _ := htl
        have hbd := hp23
        have hb26 := tS_b (g := g) (n := f10) (a := a'_8) (by omega) (by omega)
        have hb27 := tE_b (g := g) (n := f10) (a := a'_8) (by omega) (by omega)
        have hb28 := rK_r (g := g) (n := f10) (a := a'_8)
        iterate 2 refine hR (?_ : R (_, _, _, _, _, _))
        refine hR (k_eq (by omega) (fun hc29 => ?_) (fun hc29 => ?_))
        · skip
          refine hR (?_ : R (_, _, _, _, _, _))
          refine hR (k_eq (by omega) (fun _ => ?_) (fun hc => by omega))
          exact ih2 _ _ _ _ _ _ _ _ _ _ fr24 hC18 hC25 hC19 hC20 (by omega) hp22 (by omega) (fun q => absurd q (by omega)) (by rcases htl with ⟨q, ax, X3, q2, q3⟩ | ⟨q, _⟩; (· exact Or.inr ⟨by omega, ax, X3, hte.symm.trans (teF_f (ms := 601) (by omega) (by omega) q2), q3⟩); exact absurd q (by omega)) (by omega)
        refine hR (?_ : R (_, _, _, _, _, _))
        refine hR (c_get hC18 rfl ?_)
        refine hR (?_ : R (_, _, _, _, _, _))
        refine hR (j_eq (by omega) (by omega) (fun hc30 => ?_) (fun hc30 => ?_))
        rotate_left
        · skip
          refine hR (?_ : R (_, _, _, _, _, _))
          refine hR (c_obj hC18 (zcall_i 0 0 (Nat.le_of_ble_eq_true rfl) (Nat.le_of_ble_eq_true rfl) (x_fails _ _ _ _ _ _ _ _ _ _ _ _ _ _ _ _ _ _ _ _ _ _ _ _ hC18 _ fun v49 w50 gg51 hC52 hp53 => ?_)))
          have fr54 := wfM_tr fr24 gg51 nX1
          have hC55 := (gg51.2 15 (by (try dsimp only); decide)).trans hC25
          have hC56 := (gg51.2 23 (by (try dsimp only); decide)).trans hC19
          have hC57 := (gg51.2 24 (by (try dsimp only); decide)).trans hC20
          subst hp53
          refine (?_ : R (_, _, .int (Int32.ofInt 0) :: [], w50, 0, 0))
          iterate 2 refine hR (?_ : R (_, _, _, _, _, _))
          refine hR (k_eq (by omega) (fun _ => ?_) (fun hc => by omega))
          exact ih2 _ _ _ _ _ _ _ _ _ _ fr54 hC52 hC55 hC56 hC57 (by omega) hp22 (by omega) (fun q => absurd q (by omega)) (by rcases htl with ⟨q, _⟩ | ⟨q, X3, q2, q3⟩; (· exact absurd q (by omega)); rw [if_neg (by omega)] at q3; exact Or.inr ⟨rfl, _, X3, hte.symm.trans (teF_f (ms := 601) (by omega) (by omega) q3), rfl⟩) (by omega)
        refine hR (?_ : R (_, _, _, _, _, _))
        refine hR (k_eq (by omega) (fun hc => by omega) (fun _ => ?_))
        have hn3 := tK_n (g := g) (n := f10) (a := a'_8) (by omega)
        have hb31 := tS_b (g := g) (n := f10) (a := tE g f10 a'_8) (by omega) (by omega)
        have hb32 := tE_b (g := g) (n := f10) (a := tE g f10 a'_8) (by omega) (by omega)
        have hb33 := rK_r (g := g) (n := f10) (a := tE g f10 a'_8)
        refine hR (?_ : R (_, _, _, _, _, _))
        refine hR (c_obj hC18 (zcall_i 0 0 (Nat.le_of_ble_eq_true rfl) (Nat.le_of_ble_eq_true rfl) (x_token _ _ _ _ _ _ _ _ _ _ _ _ _ _ _ _ _ _ _ _ _ _ _ _ _ _ hC18 hC25 (by omega) hr1 _ fun y9_34 y11_35 y12_36 y13_37 y14_38 w39 gg40 hC41 hp42 => ?_)))
        have fr43 := wfM_tr fr24 gg40 nX1
        have hC44 := (gg40.2 15 (by (try dsimp only); decide)).trans hC25
        have hC45 := (gg40.2 23 (by (try dsimp only); decide)).trans hC19
        have hC46 := (gg40.2 24 (by (try dsimp only); decide)).trans hC20
        obtain ⟨rfl, rfl, rfl, hx47, hw48⟩ := hp42
        replace hx47 : FX _ := hx47
        replace hw48 : FX _ := hw48
        refine (?_ : R (_, _, [], w39, 0, 0))
        refine hR (?_ : R (_, _, _, _, _, _))
        exact ih2 _ _ _ _ _ _ _ _ _ _ fr43 hC41 hC44 hC45 hC46 (by omega) hx47 (by omega) (fun _ => hw48) (by rcases htl with ⟨q, _⟩ | ⟨q, X3, q2, q3⟩; (· exact absurd q (by omega)); rw [if_pos (by omega)] at q3; exact Or.inl ⟨by omega, X3, nn + 1, by omega, by omega, (teF_s (ms := 601) (by omega) (by omega) q3).trans hte, q2⟩) (by omega)
      refine hR (?_ : R (_, _, _, _, _, _))
      refine hR (c_get hC14_2 rfl ?_)
      iterate 2 refine hR (?_ : R (_, _, _, _, _, _))
      refine hR (c_get hC14_2 rfl ?_)
      refine hR (c_obj hC14_2 (zcall_i 0 0 (Nat.le_of_ble_eq_true rfl) (Nat.le_of_ble_eq_true rfl) (x_lineOfY _ _ _ _ _ _ _ _ _ _ _ _ _ _ _ _ _ _ _ _ _ _ _ _ _ _ _ _ _ _ _ _ _ _ hC14_2 hC15_2 hC23_2 hC24_2 (by omega) hr1 hp0_2 (by omega) hrel (by omega) _ fun v58 a'_59 x'_60 f'_61 c'_62 y15_63 z'_64 T'_65 R'_66 w67 gg68 hC69 hC70 hC71 hp72 hp73 hp74 => ?_)))
      have fr75 := wfM_tr fr_2 gg68 nX0
      have hC76 := (gg68.2 15 (by (try dsimp only); decide)).trans hC15_2
      refine (?_ : R (_, _, .int (Int32.ofInt v58) :: [], w67, 0, 0))
      have htl := tl_of (ms := yMs) (fw := yMs) (tk := yTake) (lnq_w (ln := lnY) (by omega) (by omega) (by decide) lnY_L (Or.inl ⟨by omega, hp2_2 (by omega) (by omega)⟩)) hp72
      replace htl : (v58 = 0 ∧ ∃ ax X, tlY g f10 a2 _ = (false, ax, X) ∧ y15_63 = tS g f10 ax) ∨ (v58 = 1 ∧ ∃ X, RELY X f'_61 c'_62 T'_65 ∧ tlY g f10 a2 _ = if tK g f10 a'_59 = 3 then (true, tE g f10 a'_59, X) else (false, a'_59, X)) := htl
      replace htl : FX _ := htl
      have hbd := hp74
      have hb77 := tS_b (g := g) (n := f10) (a := a'_59) (by omega) (by omega)
      have hb78 := tE_b (g := g) (n := f10) (a := a'_59) (by omega) (by omega)
      have hb79 := rK_r (g := g) (n := f10) (a := a'_59)
      iterate 2 refine hR (?_ : R (_, _, _, _, _, _))
      refine hR (k_eq (by omega) (fun hc80 => ?_) (fun hc80 => ?_))
      · skip
        refine hR (?_ : R (_, _, _, _, _, _))
        refine hR (k_eq (by omega) (fun _ => ?_) (fun hc => by omega))
        exact ih2 _ _ _ _ _ _ _ _ _ _ fr75 hC69 hC76 hC70 hC71 (by omega) hp73 (by omega) (fun q => absurd q (by omega)) (by rcases htl with ⟨q, ax, X3, q2, q3⟩ | ⟨q, _⟩; (· exact Or.inr ⟨by omega, ax, X3, hte.symm.trans (teF_f (ms := 601) (by omega) (by omega) q2), q3⟩); exact absurd q (by omega)) (by omega)
      refine hR (?_ : R (_, _, _, _, _, _))
      refine hR (c_get hC69 rfl ?_)
      refine hR (?_ : R (_, _, _, _, _, _))
      refine hR (j_eq (by omega) (by omega) (fun hc81 => ?_) (fun hc81 => ?_))
      rotate_left
      · skip
        refine hR (?_ : R (_, _, _, _, _, _))
        refine hR (c_obj hC69 (zcall_i 0 0 (Nat.le_of_ble_eq_true rfl) (Nat.le_of_ble_eq_true rfl) (x_fails _ _ _ _ _ _ _ _ _ _ _ _ _ _ _ _ _ _ _ _ _ _ _ _ hC69 _ fun v100 w101 gg102 hC103 hp104 => ?_)))
        have fr105 := wfM_tr fr75 gg102 nX1
        have hC106 := (gg102.2 15 (by (try dsimp only); decide)).trans hC76
        have hC107 := (gg102.2 23 (by (try dsimp only); decide)).trans hC70
        have hC108 := (gg102.2 24 (by (try dsimp only); decide)).trans hC71
        subst hp104
        refine (?_ : R (_, _, .int (Int32.ofInt 0) :: [], w101, 0, 0))
        iterate 2 refine hR (?_ : R (_, _, _, _, _, _))
        refine hR (k_eq (by omega) (fun _ => ?_) (fun hc => by omega))
        exact ih2 _ _ _ _ _ _ _ _ _ _ fr105 hC103 hC106 hC107 hC108 (by omega) hp73 (by omega) (fun q => absurd q (by omega)) (by rcases htl with ⟨q, _⟩ | ⟨q, X3, q2, q3⟩; (· exact absurd q (by omega)); rw [if_neg (by omega)] at q3; exact Or.inr ⟨rfl, _, X3, hte.symm.trans (teF_f (ms := 601) (by omega) (by omega) q3), rfl⟩) (by omega)
      refine hR (?_ : R (_, _, _, _, _, _))
      refine hR (k_eq (by omega) (fun hc => by omega) (fun _ => ?_))
      have hn3 := tK_n (g := g) (n := f10) (a := a'_59) (by omega)
      have hb82 := tS_b (g := g) (n := f10) (a := tE g f10 a'_59) (by omega) (by omega)
      have hb83 := tE_b (g := g) (n := f10) (a := tE g f10 a'_59) (by omega) (by omega)
      have hb84 := rK_r (g := g) (n := f10) (a := tE g f10 a'_59)
      refine hR (?_ : R (_, _, _, _, _, _))
      refine hR (c_obj hC69 (zcall_i 0 0 (Nat.le_of_ble_eq_true rfl) (Nat.le_of_ble_eq_true rfl) (x_token _ _ _ _ _ _ _ _ _ _ _ _ _ _ _ _ _ _ _ _ _ _ _ _ _ _ hC69 hC76 (by omega) hr1 _ fun y9_85 y11_86 y12_87 y13_88 y14_89 w90 gg91 hC92 hp93 => ?_)))
      have fr94 := wfM_tr fr75 gg91 nX1
      have hC95 := (gg91.2 15 (by (try dsimp only); decide)).trans hC76
      have hC96 := (gg91.2 23 (by (try dsimp only); decide)).trans hC70
      have hC97 := (gg91.2 24 (by (try dsimp only); decide)).trans hC71
      obtain ⟨rfl, rfl, rfl, hx98, hw99⟩ := hp93
      replace hx98 : FX _ := hx98
      replace hw99 : FX _ := hw99
      refine (?_ : R (_, _, [], w90, 0, 0))
      refine hR (?_ : R (_, _, _, _, _, _))
      exact ih2 _ _ _ _ _ _ _ _ _ _ fr94 hC92 hC95 hC96 hC97 (by omega) hx98 (by omega) (fun _ => hw99) (by rcases htl with ⟨q, _⟩ | ⟨q, X3, q2, q3⟩; (· exact absurd q (by omega)); rw [if_pos (by omega)] at q3; exact Or.inl ⟨by omega, X3, nn + 1, by omega, by omega, (teF_s (ms := 601) (by omega) (by omega) q3).trans hte, q2⟩) (by omega)
  exact lp2 400000000 _ _ _ _ _ _ _ _ _ _ fr0 hK0 hK1 hK2 hK3 (by omega) hr2 (by omega) (fun _ => hr5) (Or.inl ⟨rfl, _, 0, by omega, by omega, rfl, hr4⟩) (by omega)
theorem x_lineOfS (w : zW) (d : Nat) (a3 : Int) (lw : Int64) (f0 f10 f13 f15 f16 f17 f20 f21 f22 f23 f26 f28 f31 f32 f33 f38 f41 f44 a : Int) (x14 : Int64) (g15 g g23 g24 : Nat → Int32) (f c x0 : Int) (g1 g2 : Nat → Int32) (hK0 : zix w 14 = some (.inr (11, [.int (Int32.ofInt f0), .ref 15, .ref 16, .ref 17, .ref 18, .ref 19, .ref 20, .ref 21, .ref 22, .int (Int32.ofInt (tE g f10 a)), .int (Int32.ofInt f10), .int (Int32.ofInt (tS g f10 a)), .int (Int32.ofInt (rK (tK g f10 a))), .int (Int32.ofInt f13), .long x14, .int (Int32.ofInt f15), .int (Int32.ofInt f16), .int (Int32.ofInt f17), .ref 23, .ref 24, .int (Int32.ofInt f20), .int (Int32.ofInt f21), .int (Int32.ofInt f22), .int (Int32.ofInt f23), .ref 25, .ref 26, .int (Int32.ofInt f26), .ref 27, .int (Int32.ofInt f28), .ref 28, .ref 29, .int (Int32.ofInt f31), .int (Int32.ofInt f32), .int (Int32.ofInt f33), .ref 30, .ref 31, .ref 32, .ref 33, .int (Int32.ofInt f38), .ref 34, .ref 35, .int (Int32.ofInt f41), .ref 36, .ref 37, .int (Int32.ofInt f44), .ref 38, .ref 39, .ref 40, .ref 41, .ref 42, .ref 43, .ref 44]))) (hK1 : zix w 15 = some (.inl (0, 2400, .inl g15))) (hK2 : zix w 23 = some (.inl (1, 121, .inl g23))) (hK3 : zix w 24 = some (.inl (1, 3, .inl g24))) (hr0 : 0 ≤ a ∧ a ≤ f10 ∧ f10 ≤ 600) (hr1 : ∀ i : Int, 0 ≤ i → i < f10 → tBy g15 i = tBy g i ∧ -128 ≤ tBy g i ∧ tBy g i ≤ 127) (hr2 : tK g f10 a = 2 → f13 = tV g f10 a) (hr3 : (-2147483648 ≤ f16 ∧ f16 ≤ 2147483647) ∧ (-2147483648 ≤ f17 ∧ f17 ≤ 2147483647)) (hr4 : RELS (f, c, x0, g1, g2) f16 f17 g23) (hr5 : a3 = tS g f10 a ∧ tS g f10 a < tE g f10 a) (Q : zQ) (h : ∀ (v : Int) (a' x' f' c' y15 : Int) (z' : Int64) (T' R' : Nat → Int32) (w' : zW), wfM (fun j => j ≠ 14 ∧ j ≠ 23 ∧ j ≠ 24) w w' → zix w' 14 = some (.inr (11, [.int (Int32.ofInt f0), .ref 15, .ref 16, .ref 17, .ref 18, .ref 19, .ref 20, .ref 21, .ref 22, .int (Int32.ofInt (tE g f10 a')), .int (Int32.ofInt f10), .int (Int32.ofInt (tS g f10 a')), .int (Int32.ofInt (rK (tK g f10 a'))), .int (Int32.ofInt x'), .long z', .int (Int32.ofInt y15), .int (Int32.ofInt f'), .int (Int32.ofInt c'), .ref 23, .ref 24, .int (Int32.ofInt f20), .int (Int32.ofInt f21), .int (Int32.ofInt f22), .int (Int32.ofInt f23), .ref 25, .ref 26, .int (Int32.ofInt f26), .ref 27, .int (Int32.ofInt f28), .ref 28, .ref 29, .int (Int32.ofInt f31), .int (Int32.ofInt f32), .int (Int32.ofInt f33), .ref 30, .ref 31, .ref 32, .ref 33, .int (Int32.ofInt f38), .ref 34, .ref 35, .int (Int32.ofInt f41), .ref 36, .ref 37, .int (Int32.ofInt f44), .ref 38, .ref 39, .ref 40, .ref 41, .ref 42, .ref 43, .ref 44])) → zix w' 23 = some (.inl (1, 121, .inl T')) → zix w' 24 = some (.inl (1, 3, .inl R')) → ((lnS lw.toInt = -1 ∧ v = 0 ∧ y15 = tS g f10 a) ∨ (lnS lw.toInt ≠ -1 ∧ LNP g f10 (1) (nmF g f10 sTake 600 0 (tE g f10 a) (sBeg (lnS lw.toInt) (tS g f10 a) (f, c, x0, g1, g2))) v a' y15 (fun X => RELS X f' c' T'))) → (tK g f10 a' = 2 → x' = tV g f10 a') → (a ≤ a' ∧ a' ≤ f10 ∧ (v = 0 ∨ v = 1) ∧ r32 f' ∧ r32 c') → Q (some (.int (Int32.ofInt v))) w') : zCl zTab (d + 7) iX12_lineOf [.ref 14, .int (Int32.ofInt 2), .long lw, .int (Int32.ofInt a3)] w 0 0 Q := by
  refine zCl_i (M := kX12_lineOf) rfl (Nat.le_of_ble_eq_true rfl) fun R hR => ?_
  have fr0 : wfM (fun j => j ≠ 14 ∧ j ≠ 23 ∧ j ≠ 24) w w := wfM_rf _ w
  have hbv := hr5.1
  have nX0 : FX (∀ j : Nat, (j ≠ 14 ∧ j ≠ 23 ∧ j ≠ 24) → (j ≠ 14 ∧ j ≠ 23 ∧ j ≠ 24)) := fun j hj => by omega
  refine hR (?_ : R (_, _, _, _, _, _))
  refine hR (k_ne (by omega) (fun _ => ?_) (fun hc => by omega))
  iterate 2 refine hR (?_ : R (_, _, _, _, _, _))
  refine hR (j_ne (by omega) (by omega) (fun _ => ?_) (fun hc => by omega))
  iterate 3 refine hR (?_ : R (_, _, _, _, _, _))
  refine hR (c_obj hK0 (zcall_i 0 0 (Nat.le_of_ble_eq_true rfl) (Nat.le_of_ble_eq_true rfl) (x_sightLine _ _ _ _ _ _ _ _ _ _ _ _ _ _ _ _ _ _ _ _ _ _ _ _ _ _ _ _ _ _ _ _ _ hK0 hK1 hK2 hK3 (by omega) hr1 hr2 (by omega) hr4 (by omega) _ fun v1 a'_2 x'_3 f'_4 c'_5 y15_6 z'_7 T'_8 R'_9 w10 gg11 hC12 hC13 hC14 hp15 hp16 hp17 => ?_)))
  have fr18 := wfM_tr fr0 gg11 nX0
  have hC19 := (gg11.2 15 (by (try dsimp only); decide)).trans hK1
  refine (?_ : R (_, _, .int (Int32.ofInt v1) :: [], w10, 0, 0))
  exact hR (zret_i rfl (Nat.le_refl _) (zbo (by omega)) (h _ _ _ _ _ _ _ _ _ _ fr18 hC12 hC13 hC14 hp15 hp16 hp17))
set_option maxHeartbeats 4000000 in
theorem x_linesS (w : zW) (d : Nat) (f0 f10 f13 f15 f16 f17 f20 f21 f22 f23 f26 f28 f31 f32 f33 f38 f41 f44 a : Int) (x14 : Int64) (g15 g g23 g24 : Nat → Int32) (f c x0 : Int) (g1 g2 : Nat → Int32) (hK0 : zix w 14 = some (.inr (11, [.int (Int32.ofInt f0), .ref 15, .ref 16, .ref 17, .ref 18, .ref 19, .ref 20, .ref 21, .ref 22, .int (Int32.ofInt (tE g f10 a)), .int (Int32.ofInt f10), .int (Int32.ofInt (tS g f10 a)), .int (Int32.ofInt (rK (tK g f10 a))), .int (Int32.ofInt f13), .long x14, .int (Int32.ofInt f15), .int (Int32.ofInt f16), .int (Int32.ofInt f17), .ref 23, .ref 24, .int (Int32.ofInt f20), .int (Int32.ofInt f21), .int (Int32.ofInt f22), .int (Int32.ofInt f23), .ref 25, .ref 26, .int (Int32.ofInt f26), .ref 27, .int (Int32.ofInt f28), .ref 28, .ref 29, .int (Int32.ofInt f31), .int (Int32.ofInt f32), .int (Int32.ofInt f33), .ref 30, .ref 31, .ref 32, .ref 33, .int (Int32.ofInt f38), .ref 34, .ref 35, .int (Int32.ofInt f41), .ref 36, .ref 37, .int (Int32.ofInt f44), .ref 38, .ref 39, .ref 40, .ref 41, .ref 42, .ref 43, .ref 44]))) (hK1 : zix w 15 = some (.inl (0, 2400, .inl g15))) (hK2 : zix w 23 = some (.inl (1, 121, .inl g23))) (hK3 : zix w 24 = some (.inl (1, 3, .inl g24))) (hr0 : 0 ≤ a ∧ a ≤ f10 ∧ f10 ≤ 600) (hr1 : ∀ i : Int, 0 ≤ i → i < f10 → tBy g15 i = tBy g i ∧ -128 ≤ tBy g i ∧ tBy g i ≤ 127) (hr2 : tK g f10 a = 2 → f13 = tV g f10 a) (hr3 : (-2147483648 ≤ f16 ∧ f16 ≤ 2147483647) ∧ (-2147483648 ≤ f17 ∧ f17 ≤ 2147483647)) (hr4 : RELS (f, c, x0, g1, g2) f16 f17 g23) (hr5 : tK g f10 a = 1 → x14.toInt = if tE g f10 a - tS g f10 a ≤ 8 then tkW g f10 a else 0) (Q : zQ) (h : ∀ (v : Int) (a' x' f' c' y15 : Int) (z' : Int64) (T' R' : Nat → Int32) (w' : zW), wfM (fun j => j ≠ 14 ∧ j ≠ 23 ∧ j ≠ 24) w w' → zix w' 14 = some (.inr (11, [.int (Int32.ofInt f0), .ref 15, .ref 16, .ref 17, .ref 18, .ref 19, .ref 20, .ref 21, .ref 22, .int (Int32.ofInt (tE g f10 a')), .int (Int32.ofInt f10), .int (Int32.ofInt (tS g f10 a')), .int (Int32.ofInt (rK (tK g f10 a'))), .int (Int32.ofInt x'), .long z', .int (Int32.ofInt y15), .int (Int32.ofInt f'), .int (Int32.ofInt c'), .ref 23, .ref 24, .int (Int32.ofInt f20), .int (Int32.ofInt f21), .int (Int32.ofInt f22), .int (Int32.ofInt f23), .ref 25, .ref 26, .int (Int32.ofInt f26), .ref 27, .int (Int32.ofInt f28), .ref 28, .ref 29, .int (Int32.ofInt f31), .int (Int32.ofInt f32), .int (Int32.ofInt f33), .ref 30, .ref 31, .ref 32, .ref 33, .int (Int32.ofInt f38), .ref 34, .ref 35, .int (Int32.ofInt f41), .ref 36, .ref 37, .int (Int32.ofInt f44), .ref 38, .ref 39, .ref 40, .ref 41, .ref 42, .ref 43, .ref 44])) → zix w' 23 = some (.inl (1, 121, .inl T')) → zix w' 24 = some (.inl (1, 3, .inl R')) → (LSP g f10 (teF g f10 (tlS g f10) 601 a (f, c, x0, g1, g2)) v y15 (fun X => RELS X f' c' T')) → ((v = 0 ∨ v = 1) ∧ r32 f' ∧ r32 c' ∧ 0 ≤ a' ∧ a' ≤ f10) → Q (some (.int (Int32.ofInt v))) w') : zCl zTab (d + 8) iX12_lines [.ref 14, .int (Int32.ofInt 2)] w 0 0 Q := by
  refine zCl_i (M := kX12_lines) rfl (Nat.le_of_ble_eq_true rfl) fun R hR => ?_
  replace hr2 : FX _ := hr2
  replace hr5 : FX _ := hr5
  have fr0 : wfM (fun j => j ≠ 14 ∧ j ≠ 23 ∧ j ≠ 24) w w := wfM_rf _ w
  have nX0 : FX (∀ j : Nat, (j ≠ 14 ∧ j ≠ 23 ∧ j ≠ 24) → (j ≠ 14 ∧ j ≠ 23 ∧ j ≠ 24)) := fun j hj => by omega
  have nX1 : FX (∀ j : Nat, (j ≠ 14 ∧ j ≠ 23 ∧ j ≠ 24) → (j ≠ 14)) := fun j hj => by omega
  iterate 2 refine hR (?_ : R (_, _, _, _, _, _))
  have lp2 : ∀ (N : Nat) (fi : Int) (a2 xv f2 c2 yq : Int) (z2 : Int64) (T2 R2 : Nat → Int32) (w_2 : zW), (wfM (fun j => j ≠ 14 ∧ j ≠ 23 ∧ j ≠ 24) w w_2) → (zix w_2 14 = some (.inr (11, [.int (Int32.ofInt f0), .ref 15, .ref 16, .ref 17, .ref 18, .ref 19, .ref 20, .ref 21, .ref 22, .int (Int32.ofInt (tE g f10 a2)), .int (Int32.ofInt f10), .int (Int32.ofInt (tS g f10 a2)), .int (Int32.ofInt (rK (tK g f10 a2))), .int (Int32.ofInt xv), .long z2, .int (Int32.ofInt yq), .int (Int32.ofInt f2), .int (Int32.ofInt c2), .ref 23, .ref 24, .int (Int32.ofInt f20), .int (Int32.ofInt f21), .int (Int32.ofInt f22), .int (Int32.ofInt f23), .ref 25, .ref 26, .int (Int32.ofInt f26), .ref 27, .int (Int32.ofInt f28), .ref 28, .ref 29, .int (Int32.ofInt f31), .int (Int32.ofInt f32), .int (Int32.ofInt f33), .ref 30, .ref 31, .ref 32, .ref 33, .int (Int32.ofInt f38), .ref 34, .ref 35, .int (Int32.ofInt f41), .ref 36, .ref 37, .int (Int32.ofInt f44), .ref 38, .ref 39, .ref 40, .ref 41, .ref 42, .ref 43, .ref 44]))) → (zix w_2 15 = some (.inl (0, 2400, .inl g15))) → (zix w_2 23 = some (.inl (1, 121, .inl T2))) → (zix w_2 24 = some (.inl (1, 3, .inl R2))) → (0 ≤ fi ∧ fi ≤ 1) → (tK g f10 a2 = 2 → xv = tV g f10 a2) → (0 ≤ a2 ∧ a2 ≤ f10 ∧ r32 f2 ∧ r32 c2) → (fi = 1 → tK g f10 a2 = 1 → z2.toInt = if tE g f10 a2 - tS g f10 a2 ≤ 8 then tkW g f10 a2 else 0) → ((fi = 1 ∧ ∃ (X : tpS) (nn : Int), nn ≤ a2 ∧ 0 ≤ nn ∧ teF g f10 (tlS g f10) (601 - nn).toNat a2 X = teF g f10 (tlS g f10) 601 a (f, c, x0, g1, g2) ∧ RELS X f2 c2 T2) ∨ (fi = 0 ∧ ∃ (ax : Int) (X : tpS), teF g f10 (tlS g f10) 601 a (f, c, x0, g1, g2) = (false, ax, X) ∧ yq = tS g f10 ax)) → (2 * (601 - a2) + fi < N) → R (2, [some (.ref 14), some (.int (Int32.ofInt 2)), some (.int (Int32.ofInt fi))], [], w_2, 0, 0) := by
    intro N
    induction N with
    | zero => intros; omega
    | succ N ih2 =>
      intro fi a2 xv f2 c2 yq z2 T2 R2 w_2 fr_2 hC14_2 hC15_2 hC23_2 hC24_2 hf0_2 hp0_2 hp1_2 hp2_2 hp3_2 hN2
      replace hp0_2 : FX _ := hp0_2
      replace hp2_2 : FX _ := hp2_2
      replace hp3_2 : FX _ := hp3_2
      have hb1 := tS_b (g := g) (n := f10) (a := a2) (by omega) (by omega)
      have hb2 := tE_b (g := g) (n := f10) (a := a2) (by omega) (by omega)
      have hb3 := rK_r (g := g) (n := f10) (a := a2)
      refine hR (?_ : R (_, _, _, _, _, _))
      refine hR (k_eq (by omega) (fun hc4 => ?_) (fun hc4 => ?_))
      · skip
        refine hR (?_ : R (_, _, _, _, _, _))
        exact hR (zret_i rfl (Nat.le_refl _) (zbo (by omega)) (h _ _ _ _ _ _ _ _ _ _ fr_2 hC14_2 hC23_2 hC24_2 (Or.inr (hp3_2.resolve_left (fun q => absurd q.1 (by omega)))) (by omega)))
      obtain ⟨hf1, ⟨fX, cX, x0X, k1X, k2X⟩, nn, hn1, hn2, hte, hrel⟩ := hp3_2.resolve_right (fun q => absurd q.1 (by omega))
      refine hR (?_ : R (_, _, _, _, _, _))
      refine hR (c_get hC14_2 rfl ?_)
      refine hR (k_eq (by omega) (fun hc5 => ?_) (fun hc5 => ?_))
      · skip
        refine hR (?_ : R (_, _, _, _, _, _))
        exact hR (zret_i rfl (Nat.le_refl _) (zbo (by omega)) (h _ _ _ _ _ _ _ _ _ _ fr_2 hC14_2 hC23_2 hC24_2 (Or.inl ⟨hf1, _, _, hte.symm.trans (teF_e (ms := 601) (Or.inr (by omega))), hrel⟩) (by omega)))
      have hn0 := tK_n (g := g) (n := f10) (a := a2) (by omega)
      iterate 3 refine hR (?_ : R (_, _, _, _, _, _))
      refine hR (c_get hC14_2 rfl ?_)
      refine hR (?_ : R (_, _, _, _, _, _))
      refine hR (j_ne (by omega) (by omega) (fun hc6 => ?_) (fun hc6 => ?_))
      · skip
        iterate 2 refine hR (?_ : R (_, _, _, _, _, _))
        refine hR (c_get hC14_2 rfl ?_)
        refine hR (c_obj hC14_2 (zcall_i 0 0 (Nat.le_of_ble_eq_true rfl) (Nat.le_of_ble_eq_true rfl) (x_lineOfS _ _ _ _ _ _ _ _ _ _ _ _ _ _ _ _ _ _ _ _ _ _ _ _ _ _ _ _ _ _ _ _ _ hC14_2 hC15_2 hC23_2 hC24_2 (by omega) hr1 hp0_2 (by omega) hrel (by omega) _ fun v7 a'_8 x'_9 f'_10 c'_11 y15_12 z'_13 T'_14 R'_15 w16 gg17 hC18 hC19 hC20 hp21 hp22 hp23 => ?_)))
        have fr24 := wfM_tr fr_2 gg17 nX0
        have hC25 := (gg17.2 15 (by (try dsimp only); decide)).trans hC15_2
        refine (?_ : R (_, _, .int (Int32.ofInt v7) :: [], w16, 0, 0))
        have htl := tl_of (ms := (fun _ => 600)) (fw := (fun _ => 1)) (tk := (fun _ => sTake)) (lnq_w (ln := lnS) (by omega) (by omega) (by decide) lnS_L (Or.inr ⟨by omega, by decide⟩)) hp21
        replace htl : (v7 = 0 ∧ ∃ ax X, tlS g f10 a2 _ = (false, ax, X) ∧ y15_12 = tS g f10 ax) ∨ (v7 = 1 ∧ ∃ X, RELS X f'_10 c'_11 T'_14 ∧ tlS g f10 a2 _ = if tK g f10 a'_8 = 3 then (true, tE g f10 a'_8, X) else (false, a'_8, X)) := htl
        replace htl : FX _ := htl
        have hbd := hp23
        have hb26 := tS_b (g := g) (n := f10) (a := a'_8) (by omega) (by omega)
        have hb27 := tE_b (g := g) (n := f10) (a := a'_8) (by omega) (by omega)
        have hb28 := rK_r (g := g) (n := f10) (a := a'_8)
        iterate 2 refine hR (?_ : R (_, _, _, _, _, _))
        refine hR (k_eq (by omega) (fun hc29 => ?_) (fun hc29 => ?_))
        · skip
          refine hR (?_ : R (_, _, _, _, _, _))
          refine hR (k_eq (by omega) (fun _ => ?_) (fun hc => by omega))
          exact ih2 _ _ _ _ _ _ _ _ _ _ fr24 hC18 hC25 hC19 hC20 (by omega) hp22 (by omega) (fun q => absurd q (by omega)) (by rcases htl with ⟨q, ax, X3, q2, q3⟩ | ⟨q, _⟩; (· exact Or.inr ⟨by omega, ax, X3, hte.symm.trans (teF_f (ms := 601) (by omega) (by omega) q2), q3⟩); exact absurd q (by omega)) (by omega)
        refine hR (?_ : R (_, _, _, _, _, _))
        refine hR (c_get hC18 rfl ?_)
        refine hR (?_ : R (_, _, _, _, _, _))
        refine hR (j_eq (by omega) (by omega) (fun hc30 => ?_) (fun hc30 => ?_))
        rotate_left
        · skip
          refine hR (?_ : R (_, _, _, _, _, _))
          refine hR (c_obj hC18 (zcall_i 0 0 (Nat.le_of_ble_eq_true rfl) (Nat.le_of_ble_eq_true rfl) (x_fails _ _ _ _ _ _ _ _ _ _ _ _ _ _ _ _ _ _ _ _ _ _ _ _ hC18 _ fun v49 w50 gg51 hC52 hp53 => ?_)))
          have fr54 := wfM_tr fr24 gg51 nX1
          have hC55 := (gg51.2 15 (by (try dsimp only); decide)).trans hC25
          have hC56 := (gg51.2 23 (by (try dsimp only); decide)).trans hC19
          have hC57 := (gg51.2 24 (by (try dsimp only); decide)).trans hC20
          subst hp53
          refine (?_ : R (_, _, .int (Int32.ofInt 0) :: [], w50, 0, 0))
          iterate 2 refine hR (?_ : R (_, _, _, _, _, _))
          refine hR (k_eq (by omega) (fun _ => ?_) (fun hc => by omega))
          exact ih2 _ _ _ _ _ _ _ _ _ _ fr54 hC52 hC55 hC56 hC57 (by omega) hp22 (by omega) (fun q => absurd q (by omega)) (by rcases htl with ⟨q, _⟩ | ⟨q, X3, q2, q3⟩; (· exact absurd q (by omega)); rw [if_neg (by omega)] at q3; exact Or.inr ⟨rfl, _, X3, hte.symm.trans (teF_f (ms := 601) (by omega) (by omega) q3), rfl⟩) (by omega)
        refine hR (?_ : R (_, _, _, _, _, _))
        refine hR (k_eq (by omega) (fun hc => by omega) (fun _ => ?_))
        have hn3 := tK_n (g := g) (n := f10) (a := a'_8) (by omega)
        have hb31 := tS_b (g := g) (n := f10) (a := tE g f10 a'_8) (by omega) (by omega)
        have hb32 := tE_b (g := g) (n := f10) (a := tE g f10 a'_8) (by omega) (by omega)
        have hb33 := rK_r (g := g) (n := f10) (a := tE g f10 a'_8)
        refine hR (?_ : R (_, _, _, _, _, _))
        refine hR (c_obj hC18 (zcall_i 0 0 (Nat.le_of_ble_eq_true rfl) (Nat.le_of_ble_eq_true rfl) (x_token _ _ _ _ _ _ _ _ _ _ _ _ _ _ _ _ _ _ _ _ _ _ _ _ _ _ hC18 hC25 (by omega) hr1 _ fun y9_34 y11_35 y12_36 y13_37 y14_38 w39 gg40 hC41 hp42 => ?_)))
        have fr43 := wfM_tr fr24 gg40 nX1
        have hC44 := (gg40.2 15 (by (try dsimp only); decide)).trans hC25
        have hC45 := (gg40.2 23 (by (try dsimp only); decide)).trans hC19
        have hC46 := (gg40.2 24 (by (try dsimp only); decide)).trans hC20
        obtain ⟨rfl, rfl, rfl, hx47, hw48⟩ := hp42
        replace hx47 : FX _ := hx47
        replace hw48 : FX _ := hw48
        refine (?_ : R (_, _, [], w39, 0, 0))
        refine hR (?_ : R (_, _, _, _, _, _))
        exact ih2 _ _ _ _ _ _ _ _ _ _ fr43 hC41 hC44 hC45 hC46 (by omega) hx47 (by omega) (fun _ => hw48) (by rcases htl with ⟨q, _⟩ | ⟨q, X3, q2, q3⟩; (· exact absurd q (by omega)); rw [if_pos (by omega)] at q3; exact Or.inl ⟨by omega, X3, nn + 1, by omega, by omega, (teF_s (ms := 601) (by omega) (by omega) q3).trans hte, q2⟩) (by omega)
      refine hR (?_ : R (_, _, _, _, _, _))
      refine hR (c_get hC14_2 rfl ?_)
      iterate 2 refine hR (?_ : R (_, _, _, _, _, _))
      refine hR (c_get hC14_2 rfl ?_)
      refine hR (c_obj hC14_2 (zcall_i 0 0 (Nat.le_of_ble_eq_true rfl) (Nat.le_of_ble_eq_true rfl) (x_lineOfS _ _ _ _ _ _ _ _ _ _ _ _ _ _ _ _ _ _ _ _ _ _ _ _ _ _ _ _ _ _ _ _ _ hC14_2 hC15_2 hC23_2 hC24_2 (by omega) hr1 hp0_2 (by omega) hrel (by omega) _ fun v58 a'_59 x'_60 f'_61 c'_62 y15_63 z'_64 T'_65 R'_66 w67 gg68 hC69 hC70 hC71 hp72 hp73 hp74 => ?_)))
      have fr75 := wfM_tr fr_2 gg68 nX0
      have hC76 := (gg68.2 15 (by (try dsimp only); decide)).trans hC15_2
      refine (?_ : R (_, _, .int (Int32.ofInt v58) :: [], w67, 0, 0))
      have htl := tl_of (ms := (fun _ => 600)) (fw := (fun _ => 1)) (tk := (fun _ => sTake)) (lnq_w (ln := lnS) (by omega) (by omega) (by decide) lnS_L (Or.inl ⟨by omega, hp2_2 (by omega) (by omega)⟩)) hp72
      replace htl : (v58 = 0 ∧ ∃ ax X, tlS g f10 a2 _ = (false, ax, X) ∧ y15_63 = tS g f10 ax) ∨ (v58 = 1 ∧ ∃ X, RELS X f'_61 c'_62 T'_65 ∧ tlS g f10 a2 _ = if tK g f10 a'_59 = 3 then (true, tE g f10 a'_59, X) else (false, a'_59, X)) := htl
      replace htl : FX _ := htl
      have hbd := hp74
      have hb77 := tS_b (g := g) (n := f10) (a := a'_59) (by omega) (by omega)
      have hb78 := tE_b (g := g) (n := f10) (a := a'_59) (by omega) (by omega)
      have hb79 := rK_r (g := g) (n := f10) (a := a'_59)
      iterate 2 refine hR (?_ : R (_, _, _, _, _, _))
      refine hR (k_eq (by omega) (fun hc80 => ?_) (fun hc80 => ?_))
      · skip
        refine hR (?_ : R (_, _, _, _, _, _))
        refine hR (k_eq (by omega) (fun _ => ?_) (fun hc => by omega))
        exact ih2 _ _ _ _ _ _ _ _ _ _ fr75 hC69 hC76 hC70 hC71 (by omega) hp73 (by omega) (fun q => absurd q (by omega)) (by rcases htl with ⟨q, ax, X3, q2, q3⟩ | ⟨q, _⟩; (· exact Or.inr ⟨by omega, ax, X3, hte.symm.trans (teF_f (ms := 601) (by omega) (by omega) q2), q3⟩); exact absurd q (by omega)) (by omega)
      refine hR (?_ : R (_, _, _, _, _, _))
      refine hR (c_get hC69 rfl ?_)
      refine hR (?_ : R (_, _, _, _, _, _))
      refine hR (j_eq (by omega) (by omega) (fun hc81 => ?_) (fun hc81 => ?_))
      rotate_left
      · skip
        refine hR (?_ : R (_, _, _, _, _, _))
        refine hR (c_obj hC69 (zcall_i 0 0 (Nat.le_of_ble_eq_true rfl) (Nat.le_of_ble_eq_true rfl) (x_fails _ _ _ _ _ _ _ _ _ _ _ _ _ _ _ _ _ _ _ _ _ _ _ _ hC69 _ fun v100 w101 gg102 hC103 hp104 => ?_)))
        have fr105 := wfM_tr fr75 gg102 nX1
        have hC106 := (gg102.2 15 (by (try dsimp only); decide)).trans hC76
        have hC107 := (gg102.2 23 (by (try dsimp only); decide)).trans hC70
        have hC108 := (gg102.2 24 (by (try dsimp only); decide)).trans hC71
        subst hp104
        refine (?_ : R (_, _, .int (Int32.ofInt 0) :: [], w101, 0, 0))
        iterate 2 refine hR (?_ : R (_, _, _, _, _, _))
        refine hR (k_eq (by omega) (fun _ => ?_) (fun hc => by omega))
        exact ih2 _ _ _ _ _ _ _ _ _ _ fr105 hC103 hC106 hC107 hC108 (by omega) hp73 (by omega) (fun q => absurd q (by omega)) (by rcases htl with ⟨q, _⟩ | ⟨q, X3, q2, q3⟩; (· exact absurd q (by omega)); rw [if_neg (by omega)] at q3; exact Or.inr ⟨rfl, _, X3, hte.symm.trans (teF_f (ms := 601) (by omega) (by omega) q3), rfl⟩) (by omega)
      refine hR (?_ : R (_, _, _, _, _, _))
      refine hR (k_eq (by omega) (fun hc => by omega) (fun _ => ?_))
      have hn3 := tK_n (g := g) (n := f10) (a := a'_59) (by omega)
      have hb82 := tS_b (g := g) (n := f10) (a := tE g f10 a'_59) (by omega) (by omega)
      have hb83 := tE_b (g := g) (n := f10) (a := tE g f10 a'_59) (by omega) (by omega)
      have hb84 := rK_r (g := g) (n := f10) (a := tE g f10 a'_59)
      refine hR (?_ : R (_, _, _, _, _, _))
      refine hR (c_obj hC69 (zcall_i 0 0 (Nat.le_of_ble_eq_true rfl) (Nat.le_of_ble_eq_true rfl) (x_token _ _ _ _ _ _ _ _ _ _ _ _ _ _ _ _ _ _ _ _ _ _ _ _ _ _ hC69 hC76 (by omega) hr1 _ fun y9_85 y11_86 y12_87 y13_88 y14_89 w90 gg91 hC92 hp93 => ?_)))
      have fr94 := wfM_tr fr75 gg91 nX1
      have hC95 := (gg91.2 15 (by (try dsimp only); decide)).trans hC76
      have hC96 := (gg91.2 23 (by (try dsimp only); decide)).trans hC70
      have hC97 := (gg91.2 24 (by (try dsimp only); decide)).trans hC71
      obtain ⟨rfl, rfl, rfl, hx98, hw99⟩ := hp93
      replace hx98 : FX _ := hx98
      replace hw99 : FX _ := hw99
      refine (?_ : R (_, _, [], w90, 0, 0))
      refine hR (?_ : R (_, _, _, _, _, _))
      exact ih2 _ _ _ _ _ _ _ _ _ _ fr94 hC92 hC95 hC96 hC97 (by omega) hx98 (by omega) (fun _ => hw99) (by rcases htl with ⟨q, _⟩ | ⟨q, X3, q2, q3⟩; (· exact absurd q (by omega)); rw [if_pos (by omega)] at q3; exact Or.inl ⟨by omega, X3, nn + 1, by omega, by omega, (teF_s (ms := 601) (by omega) (by omega) q3).trans hte, q2⟩) (by omega)
  exact lp2 400000000 _ _ _ _ _ _ _ _ _ _ fr0 hK0 hK1 hK2 hK3 (by omega) hr2 (by omega) (fun _ => hr5) (Or.inl ⟨rfl, _, 0, by omega, by omega, rfl, hr4⟩) (by omega)
