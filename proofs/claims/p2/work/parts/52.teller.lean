/-! STRINGS: length and charAt of the constants. -/
def slen (j : Nat) : Int := ((zslens.getD (j - 1) 0 : Nat) : Int)
def chv (q : Nat) (i : Int) : Int32 := (((zsbyts.getD (q - 101) []).getD i.toNat 0 &&& 255).toUInt32 % 65536).toInt32
theorem zor_f {b : Bool} {A B : Prop} (hb : b = false) (h : B) : zor b A B := by subst hb; exact h
theorem nar_c (y : Int32) : narrow .char (.int (y.toUInt32 % 65536).toInt32) = .int (y.toUInt32 % 65536).toInt32 := by
  show Value.int (vp_nar .char _) = _
  rw [pk_vc]
theorem slen_ok : ∀ j, zstr j = true → (3 ≤ slen j ∧ slen j ≤ 7) ∧ Int32.ofNat (zslens.getD (j + 100 - 101) 0) >>> (Int32.ofInt 0 &&& 31) = Int32.ofInt (slen j) ∧ zsby (j + 100) = true ∧ Nat.beq (j + 100) 0 = false
  | 0 => by decide
  | 1 => by decide
  | 2 => by decide
  | 3 => by decide
  | 4 => by decide
  | 5 => by decide
  | 6 => by decide
  | 7 => by decide
  | 8 => by decide
  | 9 => by decide
  | 10 => by decide
  | 11 => by decide
  | 12 => by decide
  | 13 => by decide
  | 14 => by decide
  | 15 => by decide
  | n + 16 => fun h => by
    exfalso
    unfold zstr at h
    simp at h
theorem c_coder (w : zW) (d j : Nat) (hj : zstr j = true) (Q : zQ) (h : Q (some (.int (Int32.ofInt 0))) w) : zCl zTab (d + 1) iJ0_coder_7d493 [.retAddr j] w 0 0 Q := by
  refine zCl_i (M := kJ0_coder_7d493) rfl (Nat.le_of_ble_eq_true rfl) fun R hR => ?_
  refine hR (?_ : R (_, _, _, _, _, _))
  refine hR ⟨fun h0 => absurd h0 (by decide), fun _ => ?_⟩
  refine hR (?_ : R (_, _, _, _, _, _))
  refine hR (zif_i (by rw [hj]; rfl) (?_ : R (_, _, _, _, _, _)))
  refine hR (?_ : R (_, _, _, _, _, _))
  exact hR (zret_i rfl (Nat.le_refl _) rfl h)
theorem c_latin (w : zW) (d j : Nat) (hj : zstr j = true) (Q : zQ) (h : Q (some (.int (Int32.ofInt 1))) w) : zCl zTab (d + 1) iJ0_isLatin1_aae02 [.retAddr j] w 0 0 Q := by
  refine zCl_i (M := kJ0_isLatin1_aae02) rfl (Nat.le_of_ble_eq_true rfl) fun R hR => ?_
  refine hR (?_ : R (_, _, _, _, _, _))
  refine hR ⟨fun h0 => absurd h0 (by decide), fun _ => ?_⟩
  refine hR (?_ : R (_, _, _, _, _, _))
  refine hR (zif_i (by rw [hj]; rfl) (?_ : R (_, _, _, _, _, _)))
  refine hR ⟨fun h0 => absurd rfl h0, fun _ => ?_⟩
  iterate 2 refine hR (?_ : R (_, _, _, _, _, _))
  exact hR (zret_i rfl (Nat.le_refl _) (Or.inr rfl) h)
theorem c_slen (w : zW) (d : Nat) (j : Nat) (hr0 : zstr j = true) (Q : zQ) (h : ∀ (v : Int), (v = slen j) → (3 ≤ v ∧ v ≤ 7) → Q (some (.int (Int32.ofInt v))) w) : zCl zTab (d + 2) iJ0_length_8abf5 [.retAddr j] w 0 0 Q := by
  obtain ⟨h1, h2, h3, h4⟩ := slen_ok j hr0
  refine zCl_i (M := kJ0_length_8abf5) rfl (Nat.le_of_ble_eq_true rfl) fun R hR => ?_
  refine hR (?_ : R (_, _, _, _, _, _))
  refine hR (zif_i (by rw [hr0]; rfl) (?_ : R (_, _, _, _, _, _)))
  refine hR (zif_i h3 (?_ : R (_, _, _, _, _, _)))
  refine hR (?_ : R (_, _, _, _, _, _))
  refine hR (zif_i (by rw [hr0]; rfl) (zcall_i 0 0 (Nat.le_of_ble_eq_true rfl) (Nat.le_of_ble_eq_true rfl) (c_coder _ _ j hr0 _ ?_)))
  refine (?_ : R (_, _, .int (Int32.ofInt 0) :: .int (Int32.ofNat (zslens.getD (j + 100 - 101) 0)) :: [], w, 0, 0))
  refine hR (t_c (slen j) h2 ?_)
  exact hR (zret_i rfl (Nat.le_refl _) trivial (h _ rfl h1))
theorem c_chk3 (w : zW) (d : Nat) (i n : Int) (h0 : 0 ≤ i) (h1 : i < n) (hn : n ≤ 600) (Q : zQ) (h : Q (some (.int (Int32.ofInt i))) w) : zCl zTab (d + 1) iJ3_checkIndex_8e157 [.int (Int32.ofInt i), .int (Int32.ofInt n), .retAddr 99] w 0 0 Q := by
  refine zCl_i (M := kJ3_checkIndex_8e157) rfl (Nat.le_of_ble_eq_true rfl) fun R hR => ?_
  refine hR (?_ : R (_, _, _, _, _, _))
  refine hR (k_lt (by omega) (fun hc => by omega) (fun _ => ?_))
  iterate 2 refine hR (?_ : R (_, _, _, _, _, _))
  refine hR (j_lt (by omega) (by omega) (fun _ => ?_) (fun hc => by omega))
  refine hR (?_ : R (_, _, _, _, _, _))
  exact hR (zret_i rfl (Nat.le_refl _) trivial h)
theorem c_chk (w : zW) (d : Nat) (i n : Int) (h0 : 0 ≤ i) (h1 : i < n) (hn : n ≤ 600) (Q : zQ) (h : Q none w) : zCl zTab (d + 2) iJ0_checkIndex_df160 [.int (Int32.ofInt i), .int (Int32.ofInt n)] w 0 0 Q := by
  refine zCl_i (M := kJ0_checkIndex_df160) rfl (Nat.le_of_ble_eq_true rfl) fun R hR => ?_
  iterate 3 refine hR (?_ : R (_, _, _, _, _, _))
  refine hR (zcall_i 0 0 (Nat.le_of_ble_eq_true rfl) (Nat.le_of_ble_eq_true rfl) (c_chk3 _ _ i n h0 h1 hn _ ?_))
  refine (?_ : R (_, _, .int (Int32.ofInt i) :: [], w, 0, 0))
  refine hR (?_ : R (_, _, _, _, _, _))
  exact hR (zret_i rfl (Nat.le_refl _) rfl h)
theorem c_l1 (w : zW) (d q : Nat) (i : Int) (hq : zsby q = true) (hq0 : Nat.beq q 0 = false) (h0 : 0 ≤ i) (h1 : i < ((zslens.getD (q - 101) 0 : Nat) : Int)) (hl : zslens.getD (q - 101) 0 ≤ 7) (Q : zQ) (h : ∀ v : Int, v = (chv q i).toInt → (-2147483648 ≤ v ∧ v ≤ 2147483647) → narrow .char (.int (Int32.ofInt v)) = .int (Int32.ofInt v) → Q (some (.int (Int32.ofInt v))) w) : zCl zTab (d + 3) iJ1_charAt_3b067 [.retAddr q, .int (Int32.ofInt i)] w 0 0 Q := by
  refine zCl_i (M := kJ1_charAt_3b067) rfl (Nat.le_of_ble_eq_true rfl) fun R hR => ?_
  iterate 2 refine hR (?_ : R (_, _, _, _, _, _))
  refine hR (zor_f hq0 (zif_i hq (?_ : R (_, _, _, _, _, _))))
  refine hR (zcall_i 0 0 (Nat.le_of_ble_eq_true rfl) (Nat.le_of_ble_eq_true rfl) (c_chk _ _ i _ h0 h1 (by omega) _ ?_))
  refine (?_ : R (_, _, [], w, 0, 0))
  iterate 2 refine hR (?_ : R (_, _, _, _, _, _))
  refine hR (zif_i hq ⟨zvin h0 h1 (by omega), (?_ : R (_, _, _, _, _, _))⟩)
  iterate 3 refine hR (?_ : R (_, _, _, _, _, _))
  have hx : ∀ x : Int32, x = chv q i → R (14, [some (.retAddr q), some (.int (Int32.ofInt i))], [.int x], w, 0, 0) := by
    intro x hx
    have hn : narrow .char (.int x) = .int x := by rw [hx]; exact nar_c _
    have he : Int32.ofInt x.toInt = x := Int32.ofInt_toInt x
    refine hR (zret_i rfl (Nat.le_refl _) hn ?_)
    rw [← he]
    exact h _ (by rw [hx]) (zrg _) (by rw [he]; exact hn)
  refine hx _ ?_
  unfold chv
  rw [show (Int32.ofInt i).toNatClampNeg = i.toNat from zcl h0 (by omega)]
  rfl
theorem c_charAt (w : zW) (d : Nat) (j : Nat) (a1 : Int) (hr0 : zstr j = true) (hr1 : 0 ≤ a1 ∧ a1 < slen j) (Q : zQ) (h : ∀ (v : Int), (v = (chv (j + 100) a1).toInt) → (-2147483648 ≤ v ∧ v ≤ 2147483647) → Q (some (.int (Int32.ofInt v))) w) : zCl zTab (d + 4) iJ0_charAt_5068e [.retAddr j, .int (Int32.ofInt a1)] w 0 0 Q := by
  obtain ⟨h1, h2, h3, h4⟩ := slen_ok j hr0
  unfold slen at h1 hr1
  have e : j + 100 - 101 = j - 1 := by omega
  refine zCl_i (M := kJ0_charAt_5068e) rfl (Nat.le_of_ble_eq_true rfl) fun R hR => ?_
  refine hR (?_ : R (_, _, _, _, _, _))
  refine hR (zif_i (by rw [hr0]; rfl) (zcall_i 0 0 (Nat.le_of_ble_eq_true rfl) (Nat.le_of_ble_eq_true rfl) (c_latin _ _ j hr0 _ ?_)))
  refine (?_ : R (_, _, .int (Int32.ofInt 1) :: [], w, 0, 0))
  refine hR ⟨fun h0 => absurd h0 (by decide), fun _ => ?_⟩
  refine hR (?_ : R (_, _, _, _, _, _))
  refine hR (zif_i (by rw [hr0]; rfl) (?_ : R (_, _, _, _, _, _)))
  refine hR (?_ : R (_, _, _, _, _, _))
  refine hR (zcall_i 0 0 (Nat.le_of_ble_eq_true rfl) (Nat.le_of_ble_eq_true rfl) (c_l1 _ _ (j + 100) a1 h3 h4 hr1.1 (by rw [e]; exact hr1.2) (by rw [e]; omega) _ fun v e1 e2 e3 => ?_))
  refine (?_ : R (_, _, .int (Int32.ofInt v) :: [], w, 0, 0))
  exact hR (zret_i rfl (Nat.le_refl _) e3 (h v e1 e2))
/-- the teller at work: its fields, and what is known of length, at, start, value, fault -/
def TE (ρ : Nat → Nat) (w : zW) (p : Nat) (P : Int → Int → Int → Int → Int → Prop) : Prop := ∃ (t : Nat) (l a k s v f c : Int), zix w p = some (.inr (6, [.ref t, .int (Int32.ofInt l), .int (Int32.ofInt a), .int (Int32.ofInt k), .int (Int32.ofInt s), .int (Int32.ofInt v), .int (Int32.ofInt f), .int (Int32.ofInt c)])) ∧ ρ t = 3 ∧ ((-2147483648 ≤ l ∧ l ≤ 2147483647) ∧ (-2147483648 ≤ a ∧ a ≤ 2147483647) ∧ (-2147483648 ≤ k ∧ k ≤ 2147483647) ∧ (-2147483648 ≤ s ∧ s ≤ 2147483647) ∧ (-2147483648 ≤ v ∧ v ≤ 2147483647) ∧ (-2147483648 ≤ f ∧ f ≤ 2147483647) ∧ (-2147483648 ≤ c ∧ c ≤ 2147483647)) ∧ P l a s v f
theorem te_of {ρ : Nat → Nat} {w : zW} {p t : Nat} {l a k s v f c : Int} {P : Int → Int → Int → Int → Int → Prop} (h : zix w p = some (.inr (6, [.ref t, .int (Int32.ofInt l), .int (Int32.ofInt a), .int (Int32.ofInt k), .int (Int32.ofInt s), .int (Int32.ofInt v), .int (Int32.ofInt f), .int (Int32.ofInt c)]))) (ht : ρ t = 3) (hr : (-2147483648 ≤ l ∧ l ≤ 2147483647) ∧ (-2147483648 ≤ a ∧ a ≤ 2147483647) ∧ (-2147483648 ≤ k ∧ k ≤ 2147483647) ∧ (-2147483648 ≤ s ∧ s ≤ 2147483647) ∧ (-2147483648 ≤ v ∧ v ≤ 2147483647) ∧ (-2147483648 ≤ f ∧ f ≤ 2147483647) ∧ (-2147483648 ≤ c ∧ c ≤ 2147483647)) (hP : P l a s v f) : TE ρ w p P := ⟨t, l, a, k, s, v, f, c, h, ht, hr, hP⟩
theorem te_mo {ρ : Nat → Nat} {w : zW} {p : Nat} {P P' : Int → Int → Int → Int → Int → Prop} (h : TE ρ w p P) (hi : ∀ l a s v f, P l a s v f → P' l a s v f) : TE ρ w p P' := by
  obtain ⟨t, l, a, k, s, v, f, c, h1, h2, h3, h4⟩ := h
  exact ⟨t, l, a, k, s, v, f, c, h1, h2, h3, hi _ _ _ _ _ h4⟩
theorem c_vt0 {w : zW} {q a : Nat} {fs : List Value} {f : Nat → Nat → Prop} (h : zix w q = some (.inr (0, fs))) (hk : f 0 (a % 1000)) : zvt w q a f := by unfold zvt; rw [h]; exact hk
theorem c_vt9 {w : zW} {q a : Nat} {fs : List Value} {f : Nat → Nat → Prop} (h : zix w q = some (.inr (9, fs))) (hk : f 9 (a / 1000 % 1000)) : zvt w q a f := by unfold zvt; rw [h]; exact hk
theorem c_vt5 {w : zW} {q a : Nat} {fs : List Value} {f : Nat → Nat → Prop} (h : zix w q = some (.inr (5, fs))) (hk : f 5 (a / 1000000)) : zvt w q a f := by unfold zvt; rw [h]; exact hk
theorem c_isLetter {ρ : Nat → Nat} {w : zW} (d : Nat) (p : Nat) (a1 : Int) (hw : CI ρ w) (hρp : ρ p = 9) (hr0 : TE ρ w p (fun l a s v f => True)) (hr1 : 0 ≤ a1 ∧ a1 ≤ 599) (Q : zQ) (h : ∀ (v : Int), (v = 0 ∨ v = 1) → Q (some (.int (Int32.ofInt v))) w) : zCl zTab (d + 1) iX7_isLetter [.ref p, .int (Int32.ofInt a1)] w 0 0 Q := by
  refine zCl_i (M := kX7_isLetter) rfl (Nat.le_of_ble_eq_true rfl) fun R hR => ?_
  have fr0 := wfR_rf [] ρ w
  obtain ⟨t_1, l_1, a_1, k_1, s_1, v_1, f_1, c_1, hT1, ht1, hTr1, hTp1⟩ := hr0
  (try dsimp only at hTp1)
  refine hR (?_ : R (_, _, _, _, _, _))
  refine hR (c_get hT1 rfl ?_)
  refine hR (?_ : R (_, _, _, _, _, _))
  refine hR (c_bld hw (by rw [ht1]; rfl) (by omega) (by omega) (Nat.le_of_ble_eq_true rfl) fun v2 rv2 => ?_)
  refine hR (t_c 97 (by decide) ?_)
  refine hR (j_any ?_ ?_)
  · skip
    refine hR (?_ : R (_, _, _, _, _, _))
    exact hR (zret_i rfl (Nat.le_refl _) (zbo (by omega)) (h _ (by omega)))
  refine hR (?_ : R (_, _, _, _, _, _))
  refine hR (c_get hT1 rfl ?_)
  refine hR (?_ : R (_, _, _, _, _, _))
  refine hR (c_bld hw (by rw [ht1]; rfl) (by omega) (by omega) (Nat.le_of_ble_eq_true rfl) fun v3 rv3 => ?_)
  refine hR (t_c 122 (by decide) ?_)
  refine hR (j_any ?_ ?_)
  · skip
    refine hR (?_ : R (_, _, _, _, _, _))
    exact hR (zret_i rfl (Nat.le_refl _) (zbo (by omega)) (h _ (by omega)))
  iterate 2 refine hR (?_ : R (_, _, _, _, _, _))
  exact hR (zret_i rfl (Nat.le_refl _) (zbo (by omega)) (h _ (by omega)))
theorem c_isDigit {ρ : Nat → Nat} {w : zW} (d : Nat) (p : Nat) (a1 : Int) (hw : CI ρ w) (hρp : ρ p = 9) (hr0 : TE ρ w p (fun l a s v f => True)) (hr1 : 0 ≤ a1 ∧ a1 ≤ 599) (Q : zQ) (h : ∀ (v : Int), (v = 0 ∨ v = 1) → Q (some (.int (Int32.ofInt v))) w) : zCl zTab (d + 1) iX7_isDigit [.ref p, .int (Int32.ofInt a1)] w 0 0 Q := by
  refine zCl_i (M := kX7_isDigit) rfl (Nat.le_of_ble_eq_true rfl) fun R hR => ?_
  have fr0 := wfR_rf [] ρ w
  obtain ⟨t_1, l_1, a_1, k_1, s_1, v_1, f_1, c_1, hT1, ht1, hTr1, hTp1⟩ := hr0
  (try dsimp only at hTp1)
  refine hR (?_ : R (_, _, _, _, _, _))
  refine hR (c_get hT1 rfl ?_)
  refine hR (?_ : R (_, _, _, _, _, _))
  refine hR (c_bld hw (by rw [ht1]; rfl) (by omega) (by omega) (Nat.le_of_ble_eq_true rfl) fun v2 rv2 => ?_)
  refine hR (t_c 48 (by decide) ?_)
  refine hR (j_any ?_ ?_)
  · skip
    refine hR (?_ : R (_, _, _, _, _, _))
    exact hR (zret_i rfl (Nat.le_refl _) (zbo (by omega)) (h _ (by omega)))
  refine hR (?_ : R (_, _, _, _, _, _))
  refine hR (c_get hT1 rfl ?_)
  refine hR (?_ : R (_, _, _, _, _, _))
  refine hR (c_bld hw (by rw [ht1]; rfl) (by omega) (by omega) (Nat.le_of_ble_eq_true rfl) fun v3 rv3 => ?_)
  refine hR (t_c 57 (by decide) ?_)
  refine hR (j_any ?_ ?_)
  · skip
    refine hR (?_ : R (_, _, _, _, _, _))
    exact hR (zret_i rfl (Nat.le_refl _) (zbo (by omega)) (h _ (by omega)))
  iterate 2 refine hR (?_ : R (_, _, _, _, _, _))
  exact hR (zret_i rfl (Nat.le_refl _) (zbo (by omega)) (h _ (by omega)))
theorem c_advanceDigits {ρ : Nat → Nat} {w : zW} (d : Nat) (p : Nat) (f0 : Int) (hw : CI ρ w) (hρp : ρ p = 9) (hr0 : TE ρ w p (fun l a s v f => 0 ≤ s ∧ s ≤ a ∧ a ≤ l ∧ l ≤ 600 ∧ f = f0)) (Q : zQ) (h : ∀ (w' : zW), CI ρ w' → wfR [9] ρ w w' → (TE ρ w' p (fun l a s v f => 0 ≤ s ∧ s ≤ a ∧ a ≤ l ∧ l ≤ 600 ∧ f = f0)) → Q (none) w') : zCl zTab (d + 2) iX7_advanceDigits [.ref p] w 0 0 Q := by
  refine zCl_i (M := kX7_advanceDigits) rfl (Nat.le_of_ble_eq_true rfl) fun R hR => ?_
  have fr0 := wfR_rf [9] ρ w
  obtain ⟨t_1, l_1, a_1, k_1, s_1, v_1, f_1, c_1, hT1, ht1, hTr1, hTp1⟩ := hr0
  (try dsimp only at hTp1)
  iterate 2 refine hR (?_ : R (_, _, _, _, _, _))
  refine hR (c_put hT1 rfl rfl fun w2 f2 hO2 => ?_)
  have hw2 := CI_w9 hw hρp f2 (y0 := some t_1) hO2 ⟨(fun z h => by cases h; exact ht1), ⟨by omega, by omega⟩, ⟨by omega, by omega⟩, ⟨by omega, by omega⟩, ⟨by omega, by omega⟩, ⟨by omega, by omega⟩, ⟨by omega, by omega⟩, ⟨by omega, by omega⟩⟩
  have fr3 := wfR_st fr0 f2 (by rw [hρp]; decide)
  have lp5 : ∀ (N : Nat) (w_5 : zW) (at3 : Int) (vd : Int), (CI ρ w_5) → (wfR [9] ρ w w_5) → (zix w_5 p = some (.inr (6, [.ref t_1, .int (Int32.ofInt l_1), .int (Int32.ofInt at3), .int (Int32.ofInt k_1), .int (Int32.ofInt s_1), .int (Int32.ofInt vd), .int (Int32.ofInt f_1), .int (Int32.ofInt c_1)]))) → (0 ≤ at3 ∧ at3 ≤ 600) → (-2147483648 ≤ vd ∧ vd ≤ 2147483647) → (s_1 ≤ at3 ∧ at3 ≤ l_1) → (601 - at3 < N) → R (5, [some (.ref p)], [], w_5, 0, 0) := by
    intro N
    induction N with
    | zero => intros; omega
    | succ N ih5 =>
      intro w_5 at3 vd hw_5 fr_5 hOp_5 hf0_5 hf1_5 hp0_5 hN5
      refine hR (?_ : R (_, _, _, _, _, _))
      refine hR (c_get hOp_5 rfl ?_)
      refine hR (?_ : R (_, _, _, _, _, _))
      refine hR (c_get hOp_5 rfl ?_)
      refine hR (j_ge (by omega) (by omega) (fun hc4 => ?_) (fun hc4 => ?_))
      · skip
        iterate 2 refine hR (?_ : R (_, _, _, _, _, _))
        refine hR (c_get hOp_5 rfl ?_)
        refine hR (?_ : R (_, _, _, _, _, _))
        refine hR (c_get hOp_5 rfl ?_)
        refine hR (t_sub ?_)
        refine hR (?_ : R (_, _, _, _, _, _))
        refine hR (j_gt (by omega) (by omega) (fun hc5 => ?_) (fun hc5 => ?_))
        · skip
          refine hR (?_ : R (_, _, _, _, _, _))
          refine hR (c_put hOp_5 rfl rfl fun w6 f6 hO6 => ?_)
          have hw6 := CI_w9 hw_5 hρp f6 (y0 := some t_1) hO6 ⟨(fun z h => by cases h; exact ht1), ⟨by omega, by omega⟩, ⟨by omega, by omega⟩, ⟨by omega, by omega⟩, ⟨by omega, by omega⟩, ⟨by omega, by omega⟩, ⟨by omega, by omega⟩, ⟨by omega, by omega⟩⟩
          have fr7 := wfR_st fr_5 f6 (by rw [hρp]; decide)
          exact hR (zret_i rfl (Nat.le_refl _) rfl (h _ hw6 fr7 (te_of hO6 ht1 (by omega) (by (try dsimp only); omega))))
        iterate 2 refine hR (?_ : R (_, _, _, _, _, _))
        refine hR (c_put hOp_5 rfl rfl fun w8 f8 hO8 => ?_)
        have hw8 := CI_w9 hw_5 hρp f8 (y0 := some t_1) hO8 ⟨(fun z h => by cases h; exact ht1), ⟨by omega, by omega⟩, ⟨by omega, by omega⟩, ⟨by omega, by omega⟩, ⟨by omega, by omega⟩, ⟨by omega, by omega⟩, ⟨by omega, by omega⟩, ⟨by omega, by omega⟩⟩
        have fr9 := wfR_st fr_5 f8 (by rw [hρp]; decide)
        exact hR (zret_i rfl (Nat.le_refl _) rfl (h _ hw8 fr9 (te_of hO8 ht1 (by omega) (by (try dsimp only); omega))))
      iterate 2 refine hR (?_ : R (_, _, _, _, _, _))
      refine hR (c_get hOp_5 rfl ?_)
      refine hR (c_obj hOp_5 (zcall_i 0 0 (Nat.le_of_ble_eq_true rfl) (Nat.le_of_ble_eq_true rfl) (c_isDigit _ p at3 hw_5 hρp (te_of hOp_5 ht1 (by omega) trivial) (by omega) _ fun v10 hp12 => ?_)))
      refine (?_ : R (_, _, (.int (Int32.ofInt v10)) :: [], w_5, 0, 0))
      refine hR (k_eq (by omega) (fun hc13 => ?_) (fun hc13 => ?_))
      · skip
        iterate 2 refine hR (?_ : R (_, _, _, _, _, _))
        refine hR (c_get hOp_5 rfl ?_)
        refine hR (?_ : R (_, _, _, _, _, _))
        refine hR (c_get hOp_5 rfl ?_)
        refine hR (t_sub ?_)
        refine hR (?_ : R (_, _, _, _, _, _))
        refine hR (j_gt (by omega) (by omega) (fun hc14 => ?_) (fun hc14 => ?_))
        · skip
          refine hR (?_ : R (_, _, _, _, _, _))
          refine hR (c_put hOp_5 rfl rfl fun w15 f15 hO15 => ?_)
          have hw15 := CI_w9 hw_5 hρp f15 (y0 := some t_1) hO15 ⟨(fun z h => by cases h; exact ht1), ⟨by omega, by omega⟩, ⟨by omega, by omega⟩, ⟨by omega, by omega⟩, ⟨by omega, by omega⟩, ⟨by omega, by omega⟩, ⟨by omega, by omega⟩, ⟨by omega, by omega⟩⟩
          have fr16 := wfR_st fr_5 f15 (by rw [hρp]; decide)
          exact hR (zret_i rfl (Nat.le_refl _) rfl (h _ hw15 fr16 (te_of hO15 ht1 (by omega) (by (try dsimp only); omega))))
        iterate 2 refine hR (?_ : R (_, _, _, _, _, _))
        refine hR (c_put hOp_5 rfl rfl fun w17 f17 hO17 => ?_)
        have hw17 := CI_w9 hw_5 hρp f17 (y0 := some t_1) hO17 ⟨(fun z h => by cases h; exact ht1), ⟨by omega, by omega⟩, ⟨by omega, by omega⟩, ⟨by omega, by omega⟩, ⟨by omega, by omega⟩, ⟨by omega, by omega⟩, ⟨by omega, by omega⟩, ⟨by omega, by omega⟩⟩
        have fr18 := wfR_st fr_5 f17 (by rw [hρp]; decide)
        exact hR (zret_i rfl (Nat.le_refl _) rfl (h _ hw17 fr18 (te_of hO17 ht1 (by omega) (by (try dsimp only); omega))))
      refine hR (?_ : R (_, _, _, _, _, _))
      refine hR (c_get hOp_5 rfl ?_)
      refine hR (?_ : R (_, _, _, _, _, _))
      refine hR (c_get hOp_5 rfl ?_)
      refine hR (t_sub ?_)
      refine hR (?_ : R (_, _, _, _, _, _))
      refine hR (j_ge (by omega) (by omega) (fun hc19 => ?_) (fun hc19 => ?_))
      · skip
        iterate 2 refine hR (?_ : R (_, _, _, _, _, _))
        refine hR (c_get hOp_5 rfl ?_)
        refine hR (?_ : R (_, _, _, _, _, _))
        refine hR (t_add ?_)
        refine hR (c_put hOp_5 rfl rfl fun w20 f20 hO20 => ?_)
        have hw20 := CI_w9 hw_5 hρp f20 (y0 := some t_1) hO20 ⟨(fun z h => by cases h; exact ht1), ⟨by omega, by omega⟩, ⟨by omega, by omega⟩, ⟨by omega, by omega⟩, ⟨by omega, by omega⟩, ⟨by omega, by omega⟩, ⟨by omega, by omega⟩, ⟨by omega, by omega⟩⟩
        have fr21 := wfR_st fr_5 f20 (by rw [hρp]; decide)
        refine hR (?_ : R (_, _, _, _, _, _))
        exact ih5 _ _ _ hw20 fr21 hO20 (by omega) (by omega) (by omega) (by omega)
      iterate 2 refine hR (?_ : R (_, _, _, _, _, _))
      refine hR (c_get hOp_5 rfl ?_)
      refine hR (t_c 10 (by decide) ?_)
      refine hR (t_o fun v22 rv22 => ?_)
      refine hR (?_ : R (_, _, _, _, _, _))
      refine hR (c_get hOp_5 rfl ?_)
      refine hR (?_ : R (_, _, _, _, _, _))
      refine hR (c_get hOp_5 rfl ?_)
      refine hR (c_bld hw_5 (by rw [ht1]; rfl) (by omega) (by omega) (Nat.le_of_ble_eq_true rfl) fun v23 rv23 => ?_)
      refine hR (t_c 48 (by decide) ?_)
      refine hR (t_o fun v24 rv24 => ?_)
      refine hR (t_o fun v25 rv25 => ?_)
      refine hR (c_put hOp_5 rfl rfl fun w26 f26 hO26 => ?_)
      have hw26 := CI_w9 hw_5 hρp f26 (y0 := some t_1) hO26 ⟨(fun z h => by cases h; exact ht1), ⟨by omega, by omega⟩, ⟨by omega, by omega⟩, ⟨by omega, by omega⟩, ⟨by omega, by omega⟩, ⟨by omega, by omega⟩, ⟨by omega, by omega⟩, ⟨by omega, by omega⟩⟩
      have fr27 := wfR_st fr_5 f26 (by rw [hρp]; decide)
      iterate 2 refine hR (?_ : R (_, _, _, _, _, _))
      refine hR (c_get hO26 rfl ?_)
      refine hR (?_ : R (_, _, _, _, _, _))
      refine hR (t_add ?_)
      refine hR (c_put hO26 rfl rfl fun w28 f28 hO28 => ?_)
      have hw28 := CI_w9 hw26 hρp f28 (y0 := some t_1) hO28 ⟨(fun z h => by cases h; exact ht1), ⟨by omega, by omega⟩, ⟨by omega, by omega⟩, ⟨by omega, by omega⟩, ⟨by omega, by omega⟩, ⟨by omega, by omega⟩, ⟨by omega, by omega⟩, ⟨by omega, by omega⟩⟩
      have fr29 := wfR_st fr27 f28 (by rw [hρp]; decide)
      refine hR (?_ : R (_, _, _, _, _, _))
      exact ih5 _ _ _ hw28 fr29 hO28 (by omega) (by omega) (by omega) (by omega)
  exact lp5 400000000 _ _ _ hw2 fr3 hO2 (by omega) (by omega) (by omega) (by omega)
theorem c_advance {ρ : Nat → Nat} {w : zW} (d : Nat) (p : Nat) (f0 : Int) (hw : CI ρ w) (hρp : ρ p = 9) (hr0 : TE ρ w p (fun l a s v f => 0 ≤ a ∧ a ≤ l ∧ l ≤ 600 ∧ f = f0)) (Q : zQ) (h : ∀ (w' : zW), CI ρ w' → wfR [9] ρ w w' → (TE ρ w' p (fun l a s v f => 0 ≤ s ∧ s ≤ a ∧ a ≤ l ∧ l ≤ 600 ∧ f = f0)) → Q (none) w') : zCl zTab (d + 3) iX7_advance [.ref p] w 0 0 Q := by
  refine zCl_i (M := kX7_advance) rfl (Nat.le_of_ble_eq_true rfl) fun R hR => ?_
  have fr0 := wfR_rf [9] ρ w
  obtain ⟨t_1, l_1, a_1, k_1, s_1, v_1, f_1, c_1, hT1, ht1, hTr1, hTp1⟩ := hr0
  (try dsimp only at hTp1)
  have lp0 : ∀ (N : Nat) (w_0 : zW) (at1 : Int), (CI ρ w_0) → (wfR [9] ρ w w_0) → (zix w_0 p = some (.inr (6, [.ref t_1, .int (Int32.ofInt l_1), .int (Int32.ofInt at1), .int (Int32.ofInt k_1), .int (Int32.ofInt s_1), .int (Int32.ofInt v_1), .int (Int32.ofInt f_1), .int (Int32.ofInt c_1)]))) → (0 ≤ at1 ∧ at1 ≤ 600) → (at1 ≤ l_1) → (601 - at1 < N) → R (0, [some (.ref p)], [], w_0, 0, 0) := by
    intro N
    induction N with
    | zero => intros; omega
    | succ N ih0 =>
      intro w_0 at1 hw_0 fr_0 hOp_0 hf0_0 hp0_0 hN0
      refine hR (?_ : R (_, _, _, _, _, _))
      refine hR (c_get hOp_0 rfl ?_)
      refine hR (?_ : R (_, _, _, _, _, _))
      refine hR (c_get hOp_0 rfl ?_)
      refine hR (j_ge (by omega) (by omega) (fun hc2 => ?_) (fun hc2 => ?_))
      · skip
        iterate 2 refine hR (?_ : R (_, _, _, _, _, _))
        refine hR (c_get hOp_0 rfl ?_)
        refine hR (c_put hOp_0 rfl rfl fun w3 f3 hO3 => ?_)
        have hw3 := CI_w9 hw_0 hρp f3 (y0 := some t_1) hO3 ⟨(fun z h => by cases h; exact ht1), ⟨by omega, by omega⟩, ⟨by omega, by omega⟩, ⟨by omega, by omega⟩, ⟨by omega, by omega⟩, ⟨by omega, by omega⟩, ⟨by omega, by omega⟩, ⟨by omega, by omega⟩⟩
        have fr4 := wfR_st fr_0 f3 (by rw [hρp]; decide)
        refine hR (?_ : R (_, _, _, _, _, _))
        refine hR (c_get hO3 rfl ?_)
        refine hR (?_ : R (_, _, _, _, _, _))
        refine hR (c_get hO3 rfl ?_)
        refine hR (j_lt (by omega) (by omega) (fun hc => by omega) (fun _ => ?_))
        iterate 2 refine hR (?_ : R (_, _, _, _, _, _))
        refine hR (c_put hO3 rfl rfl fun w5 f5 hO5 => ?_)
        have hw5 := CI_w9 hw3 hρp f5 (y0 := some t_1) hO5 ⟨(fun z h => by cases h; exact ht1), ⟨by omega, by omega⟩, ⟨by omega, by omega⟩, ⟨by omega, by omega⟩, ⟨by omega, by omega⟩, ⟨by omega, by omega⟩, ⟨by omega, by omega⟩, ⟨by omega, by omega⟩⟩
        have fr6 := wfR_st fr4 f5 (by rw [hρp]; decide)
        refine hR (?_ : R (_, _, _, _, _, _))
        exact hR (zret_i rfl (Nat.le_refl _) rfl (h _ hw5 fr6 (te_of hO5 ht1 (by omega) (by (try dsimp only); omega))))
      refine hR (?_ : R (_, _, _, _, _, _))
      refine hR (c_get hOp_0 rfl ?_)
      refine hR (?_ : R (_, _, _, _, _, _))
      refine hR (c_get hOp_0 rfl ?_)
      refine hR (c_bld hw_0 (by rw [ht1]; rfl) (by omega) (by omega) (Nat.le_of_ble_eq_true rfl) fun v7 rv7 => ?_)
      refine hR (t_c 10 (by decide) ?_)
      refine hR (j_any ?_ ?_)
      · skip
        iterate 2 refine hR (?_ : R (_, _, _, _, _, _))
        refine hR (c_get hOp_0 rfl ?_)
        refine hR (?_ : R (_, _, _, _, _, _))
        refine hR (t_add ?_)
        refine hR (c_put hOp_0 rfl rfl fun w8 f8 hO8 => ?_)
        have hw8 := CI_w9 hw_0 hρp f8 (y0 := some t_1) hO8 ⟨(fun z h => by cases h; exact ht1), ⟨by omega, by omega⟩, ⟨by omega, by omega⟩, ⟨by omega, by omega⟩, ⟨by omega, by omega⟩, ⟨by omega, by omega⟩, ⟨by omega, by omega⟩, ⟨by omega, by omega⟩⟩
        have fr9 := wfR_st fr_0 f8 (by rw [hρp]; decide)
        refine hR (?_ : R (_, _, _, _, _, _))
        exact ih0 _ _ hw8 fr9 hO8 (by omega) (by omega) (by omega)
      refine hR (?_ : R (_, _, _, _, _, _))
      refine hR (c_get hOp_0 rfl ?_)
      refine hR (?_ : R (_, _, _, _, _, _))
      refine hR (c_get hOp_0 rfl ?_)
      refine hR (c_bld hw_0 (by rw [ht1]; rfl) (by omega) (by omega) (Nat.le_of_ble_eq_true rfl) fun v10 rv10 => ?_)
      refine hR (t_c 32 (by decide) ?_)
      refine hR (j_any ?_ ?_)
      rotate_left
      · skip
        iterate 2 refine hR (?_ : R (_, _, _, _, _, _))
        refine hR (c_get hOp_0 rfl ?_)
        refine hR (?_ : R (_, _, _, _, _, _))
        refine hR (t_add ?_)
        refine hR (c_put hOp_0 rfl rfl fun w43 f43 hO43 => ?_)
        have hw43 := CI_w9 hw_0 hρp f43 (y0 := some t_1) hO43 ⟨(fun z h => by cases h; exact ht1), ⟨by omega, by omega⟩, ⟨by omega, by omega⟩, ⟨by omega, by omega⟩, ⟨by omega, by omega⟩, ⟨by omega, by omega⟩, ⟨by omega, by omega⟩, ⟨by omega, by omega⟩⟩
        have fr44 := wfR_st fr_0 f43 (by rw [hρp]; decide)
        refine hR (?_ : R (_, _, _, _, _, _))
        exact ih0 _ _ hw43 fr44 hO43 (by omega) (by omega) (by omega)
      iterate 2 refine hR (?_ : R (_, _, _, _, _, _))
      refine hR (c_get hOp_0 rfl ?_)
      refine hR (c_put hOp_0 rfl rfl fun w11 f11 hO11 => ?_)
      have hw11 := CI_w9 hw_0 hρp f11 (y0 := some t_1) hO11 ⟨(fun z h => by cases h; exact ht1), ⟨by omega, by omega⟩, ⟨by omega, by omega⟩, ⟨by omega, by omega⟩, ⟨by omega, by omega⟩, ⟨by omega, by omega⟩, ⟨by omega, by omega⟩, ⟨by omega, by omega⟩⟩
      have fr12 := wfR_st fr_0 f11 (by rw [hρp]; decide)
      refine hR (?_ : R (_, _, _, _, _, _))
      refine hR (c_get hO11 rfl ?_)
      refine hR (?_ : R (_, _, _, _, _, _))
      refine hR (c_get hO11 rfl ?_)
      refine hR (j_lt (by omega) (by omega) (fun _ => ?_) (fun hc => by omega))
      iterate 2 refine hR (?_ : R (_, _, _, _, _, _))
      refine hR (c_get hO11 rfl ?_)
      refine hR (c_obj hO11 (zcall_i 0 0 (Nat.le_of_ble_eq_true rfl) (Nat.le_of_ble_eq_true rfl) (c_isLetter _ p at1 hw11 hρp (te_of hO11 ht1 (by omega) trivial) (by omega) _ fun v13 hp15 => ?_)))
      refine (?_ : R (_, _, (.int (Int32.ofInt v13)) :: [], w11, 0, 0))
      refine hR (k_eq (by omega) (fun hc16 => ?_) (fun hc16 => ?_))
      rotate_left
      · skip
        iterate 2 refine hR (?_ : R (_, _, _, _, _, _))
        refine hR (c_put hO11 rfl rfl fun w34 f34 hO34 => ?_)
        have hw34 := CI_w9 hw11 hρp f34 (y0 := some t_1) hO34 ⟨(fun z h => by cases h; exact ht1), ⟨by omega, by omega⟩, ⟨by omega, by omega⟩, ⟨by omega, by omega⟩, ⟨by omega, by omega⟩, ⟨by omega, by omega⟩, ⟨by omega, by omega⟩, ⟨by omega, by omega⟩⟩
        have fr35 := wfR_st fr12 f34 (by rw [hρp]; decide)
        have lp95 : ∀ (N : Nat) (w_95 : zW) (at2 : Int), (CI ρ w_95) → (wfR [9] ρ w w_95) → (zix w_95 p = some (.inr (6, [.ref t_1, .int (Int32.ofInt l_1), .int (Int32.ofInt at2), .int (Int32.ofInt 1), .int (Int32.ofInt at1), .int (Int32.ofInt v_1), .int (Int32.ofInt f_1), .int (Int32.ofInt c_1)]))) → (0 ≤ at2 ∧ at2 ≤ 600) → (at1 ≤ at2 ∧ at2 ≤ l_1) → (601 - at2 < N) → R (95, [some (.ref p)], [], w_95, 0, 0) := by
          intro N
          induction N with
          | zero => intros; omega
          | succ N ih95 =>
            intro w_95 at2 hw_95 fr_95 hOp_95 hf0_95 hp0_95 hN95
            refine hR (?_ : R (_, _, _, _, _, _))
            refine hR (c_get hOp_95 rfl ?_)
            refine hR (?_ : R (_, _, _, _, _, _))
            refine hR (c_get hOp_95 rfl ?_)
            refine hR (j_ge (by omega) (by omega) (fun hc36 => ?_) (fun hc36 => ?_))
            · skip
              exact hR (zret_i rfl (Nat.le_refl _) rfl (h _ hw_95 fr_95 (te_of hOp_95 ht1 (by omega) (by (try dsimp only); omega))))
            iterate 2 refine hR (?_ : R (_, _, _, _, _, _))
            refine hR (c_get hOp_95 rfl ?_)
            refine hR (c_obj hOp_95 (zcall_i 0 0 (Nat.le_of_ble_eq_true rfl) (Nat.le_of_ble_eq_true rfl) (c_isLetter _ p at2 hw_95 hρp (te_of hOp_95 ht1 (by omega) trivial) (by omega) _ fun v37 hp39 => ?_)))
            refine (?_ : R (_, _, (.int (Int32.ofInt v37)) :: [], w_95, 0, 0))
            refine hR (k_eq (by omega) (fun hc40 => ?_) (fun hc40 => ?_))
            · skip
              exact hR (zret_i rfl (Nat.le_refl _) rfl (h _ hw_95 fr_95 (te_of hOp_95 ht1 (by omega) (by (try dsimp only); omega))))
            iterate 2 refine hR (?_ : R (_, _, _, _, _, _))
            refine hR (c_get hOp_95 rfl ?_)
            refine hR (?_ : R (_, _, _, _, _, _))
            refine hR (t_add ?_)
            refine hR (c_put hOp_95 rfl rfl fun w41 f41 hO41 => ?_)
            have hw41 := CI_w9 hw_95 hρp f41 (y0 := some t_1) hO41 ⟨(fun z h => by cases h; exact ht1), ⟨by omega, by omega⟩, ⟨by omega, by omega⟩, ⟨by omega, by omega⟩, ⟨by omega, by omega⟩, ⟨by omega, by omega⟩, ⟨by omega, by omega⟩, ⟨by omega, by omega⟩⟩
            have fr42 := wfR_st fr_95 f41 (by rw [hρp]; decide)
            refine hR (?_ : R (_, _, _, _, _, _))
            exact ih95 _ _ hw41 fr42 hO41 (by omega) (by omega) (by omega)
        exact lp95 400000000 _ _ hw34 fr35 hO34 (by omega) (by omega) (by omega)
      iterate 2 refine hR (?_ : R (_, _, _, _, _, _))
      refine hR (c_get hO11 rfl ?_)
      refine hR (c_obj hO11 (zcall_i 0 0 (Nat.le_of_ble_eq_true rfl) (Nat.le_of_ble_eq_true rfl) (c_isDigit _ p at1 hw11 hρp (te_of hO11 ht1 (by omega) trivial) (by omega) _ fun v17 hp19 => ?_)))
      refine (?_ : R (_, _, (.int (Int32.ofInt v17)) :: [], w11, 0, 0))
      refine hR (k_eq (by omega) (fun hc20 => ?_) (fun hc20 => ?_))
      rotate_left
      · skip
        refine hR (?_ : R (_, _, _, _, _, _))
        refine hR (c_obj hO11 (zcall_i 0 0 (Nat.le_of_ble_eq_true rfl) (Nat.le_of_ble_eq_true rfl) (c_advanceDigits _ p f0 hw11 hρp (te_of hO11 ht1 (by omega) (by (try dsimp only); omega)) _ fun w30 hw30 g30 hp31 => ?_)))
        have fr32 := wfR_tr fr12 g30 (by decide)
        refine (?_ : R (_, _, [], w30, 0, 0))
        obtain ⟨t_33, l_33, a_33, k_33, s_33, v_33, f_33, c_33, hT33, ht33, hTr33, hTp33⟩ := hp31
        (try dsimp only at hTp33)
        refine hR (?_ : R (_, _, _, _, _, _))
        exact hR (zret_i rfl (Nat.le_refl _) rfl (h _ hw30 fr32 (te_of hT33 ht33 (by omega) (by (try dsimp only); omega))))
      iterate 2 refine hR (?_ : R (_, _, _, _, _, _))
      refine hR (c_get hO11 rfl ?_)
      refine hR (?_ : R (_, _, _, _, _, _))
      refine hR (c_get hO11 rfl ?_)
      refine hR (c_bld hw11 (by rw [ht1]; rfl) (by omega) (by omega) (Nat.le_of_ble_eq_true rfl) fun v21 rv21 => ?_)
      refine hR (t_c 59 (by decide) ?_)
      refine hR (j_any ?_ ?_)
      · skip
        refine hR (?_ : R (_, _, _, _, _, _))
        refine hR (c_put hO11 rfl rfl fun w22 f22 hO22 => ?_)
        have hw22 := CI_w9 hw11 hρp f22 (y0 := some t_1) hO22 ⟨(fun z h => by cases h; exact ht1), ⟨by omega, by omega⟩, ⟨by omega, by omega⟩, ⟨by omega, by omega⟩, ⟨by omega, by omega⟩, ⟨by omega, by omega⟩, ⟨by omega, by omega⟩, ⟨by omega, by omega⟩⟩
        have fr23 := wfR_st fr12 f22 (by rw [hρp]; decide)
        iterate 2 refine hR (?_ : R (_, _, _, _, _, _))
        refine hR (c_get hO22 rfl ?_)
        refine hR (?_ : R (_, _, _, _, _, _))
        refine hR (t_add ?_)
        refine hR (c_put hO22 rfl rfl fun w24 f24 hO24 => ?_)
        have hw24 := CI_w9 hw22 hρp f24 (y0 := some t_1) hO24 ⟨(fun z h => by cases h; exact ht1), ⟨by omega, by omega⟩, ⟨by omega, by omega⟩, ⟨by omega, by omega⟩, ⟨by omega, by omega⟩, ⟨by omega, by omega⟩, ⟨by omega, by omega⟩, ⟨by omega, by omega⟩⟩
        have fr25 := wfR_st fr23 f24 (by rw [hρp]; decide)
        exact hR (zret_i rfl (Nat.le_refl _) rfl (h _ hw24 fr25 (te_of hO24 ht1 (by omega) (by (try dsimp only); omega))))
      iterate 2 refine hR (?_ : R (_, _, _, _, _, _))
      refine hR (c_put hO11 rfl rfl fun w26 f26 hO26 => ?_)
      have hw26 := CI_w9 hw11 hρp f26 (y0 := some t_1) hO26 ⟨(fun z h => by cases h; exact ht1), ⟨by omega, by omega⟩, ⟨by omega, by omega⟩, ⟨by omega, by omega⟩, ⟨by omega, by omega⟩, ⟨by omega, by omega⟩, ⟨by omega, by omega⟩, ⟨by omega, by omega⟩⟩
      have fr27 := wfR_st fr12 f26 (by rw [hρp]; decide)
      iterate 2 refine hR (?_ : R (_, _, _, _, _, _))
      refine hR (c_get hO26 rfl ?_)
      refine hR (?_ : R (_, _, _, _, _, _))
      refine hR (t_add ?_)
      refine hR (c_put hO26 rfl rfl fun w28 f28 hO28 => ?_)
      have hw28 := CI_w9 hw26 hρp f28 (y0 := some t_1) hO28 ⟨(fun z h => by cases h; exact ht1), ⟨by omega, by omega⟩, ⟨by omega, by omega⟩, ⟨by omega, by omega⟩, ⟨by omega, by omega⟩, ⟨by omega, by omega⟩, ⟨by omega, by omega⟩, ⟨by omega, by omega⟩⟩
      have fr29 := wfR_st fr27 f28 (by rw [hρp]; decide)
      exact hR (zret_i rfl (Nat.le_refl _) rfl (h _ hw28 fr29 (te_of hO28 ht1 (by omega) (by (try dsimp only); omega))))
  exact lp0 400000000 _ _ hw fr0 hT1 (by omega) (by omega) (by omega)
theorem c_isAtHand {ρ : Nat → Nat} {w : zW} (d : Nat) (p j : Nat) (hw : CI ρ w) (hρp : ρ p = 9) (hr0 : TE ρ w p (fun l a s v f => 0 ≤ s ∧ s ≤ a ∧ a ≤ l ∧ l ≤ 600)) (hr1 : zstr j = true) (Q : zQ) (h : ∀ (v : Int), (v = 0 ∨ v = 1) → Q (some (.int (Int32.ofInt v))) w) : zCl zTab (d + 5) iX7_isAtHand [.ref p, .retAddr j] w 0 0 Q := by
  refine zCl_i (M := kX7_isAtHand) rfl (Nat.le_of_ble_eq_true rfl) fun R hR => ?_
  have fr0 := wfR_rf [] ρ w
  obtain ⟨t_1, l_1, a_1, k_1, s_1, v_1, f_1, c_1, hT1, ht1, hTr1, hTp1⟩ := hr0
  (try dsimp only at hTp1)
  refine hR (?_ : R (_, _, _, _, _, _))
  refine hR (c_get hT1 rfl ?_)
  refine hR (?_ : R (_, _, _, _, _, _))
  refine hR (c_get hT1 rfl ?_)
  refine hR (t_sub ?_)
  refine hR (?_ : R (_, _, _, _, _, _))
  refine hR (zif_i (by rw [hr1]; rfl) (zcall_i 0 0 (Nat.le_of_ble_eq_true rfl) (Nat.le_of_ble_eq_true rfl) (c_slen _ _ j hr1 _ fun v2 hp4 hp5 => ?_)))
  refine (?_ : R (_, _, (.int (Int32.ofInt v2)) :: (.int (Int32.ofInt (a_1 - s_1))) :: [], w, 0, 0))
  refine hR (j_eq (by omega) (by omega) (fun hc6 => ?_) (fun hc6 => ?_))
  rotate_left
  · skip
    refine hR (?_ : R (_, _, _, _, _, _))
    exact hR (zret_i rfl (Nat.le_refl _) (zbo (by omega)) (h _ (by omega)))
  iterate 2 refine hR (?_ : R (_, _, _, _, _, _))
  have lp20 : ∀ (N : Nat) (i : Int), (0 ≤ i ∧ i ≤ 7) → (8 - i < N) → R (20, [some (.ref p), some (.retAddr j), some (.int (Int32.ofInt i))], [], w, 0, 0) := by
    intro N
    induction N with
    | zero => intros; omega
    | succ N ih20 =>
      intro i hf0_20 hN20
      iterate 2 refine hR (?_ : R (_, _, _, _, _, _))
      refine hR (zif_i (by rw [hr1]; rfl) (zcall_i 0 0 (Nat.le_of_ble_eq_true rfl) (Nat.le_of_ble_eq_true rfl) (c_slen _ _ j hr1 _ fun v7 hp9 hp10 => ?_)))
      refine (?_ : R (_, _, (.int (Int32.ofInt v7)) :: (.int (Int32.ofInt i)) :: [], w, 0, 0))
      refine hR (j_ge (by omega) (by omega) (fun hc11 => ?_) (fun hc11 => ?_))
      · skip
        refine hR (?_ : R (_, _, _, _, _, _))
        exact hR (zret_i rfl (Nat.le_refl _) (zbo (by omega)) (h _ (by omega)))
      refine hR (?_ : R (_, _, _, _, _, _))
      refine hR (c_get hT1 rfl ?_)
      refine hR (?_ : R (_, _, _, _, _, _))
      refine hR (c_get hT1 rfl ?_)
      refine hR (?_ : R (_, _, _, _, _, _))
      refine hR (t_add ?_)
      refine hR (c_bld hw (by rw [ht1]; rfl) (by omega) (by omega) (Nat.le_of_ble_eq_true rfl) fun v12 rv12 => ?_)
      iterate 2 refine hR (?_ : R (_, _, _, _, _, _))
      refine hR (zif_i (by rw [hr1]; rfl) (zcall_i 0 0 (Nat.le_of_ble_eq_true rfl) (Nat.le_of_ble_eq_true rfl) (c_charAt _ _ j i hr1 (by omega) _ fun v13 hp15 hp16 => ?_)))
      refine (?_ : R (_, _, (.int (Int32.ofInt v13)) :: (.int (Int32.ofInt v12)) :: [], w, 0, 0))
      refine hR (j_any ?_ ?_)
      rotate_left
      · skip
        refine hR (?_ : R (_, _, _, _, _, _))
        exact hR (zret_i rfl (Nat.le_refl _) (zbo (by omega)) (h _ (by omega)))
      refine hR (t_inc ?_)
      refine hR (?_ : R (_, _, _, _, _, _))
      exact ih20 _ (by omega) (by omega)
  exact lp20 400000000 _ (by omega) (by omega)
theorem c_faultHere {ρ : Nat → Nat} {w : zW} (d : Nat) (p : Nat) (a1 : Int) (v0 : Int) (hw : CI ρ w) (hρp : ρ p = 9) (hr0 : TE ρ w p (fun l a s v f => 0 ≤ s ∧ s ≤ a ∧ a ≤ l ∧ l ≤ 600 ∧ v = v0)) (hr1 : 1 ≤ a1 ∧ a1 ≤ 4) (Q : zQ) (h : ∀ (w' : zW), CI ρ w' → wfR [9] ρ w w' → (TE ρ w' p (fun l a s v f => (0 ≤ s ∧ s ≤ a ∧ a ≤ l ∧ l ≤ 600) ∧ v = v0 ∧ f ≠ 0)) → Q (none) w') : zCl zTab (d + 1) iX7_faultHere [.ref p, .int (Int32.ofInt a1)] w 0 0 Q := by
  refine zCl_i (M := kX7_faultHere) rfl (Nat.le_of_ble_eq_true rfl) fun R hR => ?_
  have fr0 := wfR_rf [9] ρ w
  obtain ⟨t_1, l_1, a_1, k_1, s_1, v_1, f_1, c_1, hT1, ht1, hTr1, hTp1⟩ := hr0
  (try dsimp only at hTp1)
  refine hR (?_ : R (_, _, _, _, _, _))
  refine hR (c_get hT1 rfl ?_)
  refine hR (k_eq (by omega) (fun hc2 => ?_) (fun hc2 => ?_))
  · skip
    iterate 2 refine hR (?_ : R (_, _, _, _, _, _))
    refine hR (c_put hT1 rfl rfl fun w3 f3 hO3 => ?_)
    have hw3 := CI_w9 hw hρp f3 (y0 := some t_1) hO3 ⟨(fun z h => by cases h; exact ht1), ⟨by omega, by omega⟩, ⟨by omega, by omega⟩, ⟨by omega, by omega⟩, ⟨by omega, by omega⟩, ⟨by omega, by omega⟩, ⟨by omega, by omega⟩, ⟨by omega, by omega⟩⟩
    have fr4 := wfR_st fr0 f3 (by rw [hρp]; decide)
    iterate 2 refine hR (?_ : R (_, _, _, _, _, _))
    refine hR (c_get hO3 rfl ?_)
    refine hR (c_put hO3 rfl rfl fun w5 f5 hO5 => ?_)
    have hw5 := CI_w9 hw3 hρp f5 (y0 := some t_1) hO5 ⟨(fun z h => by cases h; exact ht1), ⟨by omega, by omega⟩, ⟨by omega, by omega⟩, ⟨by omega, by omega⟩, ⟨by omega, by omega⟩, ⟨by omega, by omega⟩, ⟨by omega, by omega⟩, ⟨by omega, by omega⟩⟩
    have fr6 := wfR_st fr4 f5 (by rw [hρp]; decide)
    exact hR (zret_i rfl (Nat.le_refl _) rfl (h _ hw5 fr6 (te_of hO5 ht1 (by omega) (by (try dsimp only); omega))))
  refine hR (?_ : R (_, _, _, _, _, _))
  refine hR (c_get hT1 rfl ?_)
  refine hR (?_ : R (_, _, _, _, _, _))
  refine hR (c_get hT1 rfl ?_)
  refine hR (j_lt (by omega) (by omega) (fun hc7 => ?_) (fun hc7 => ?_))
  · skip
    iterate 2 refine hR (?_ : R (_, _, _, _, _, _))
    refine hR (c_put hT1 rfl rfl fun w8 f8 hO8 => ?_)
    have hw8 := CI_w9 hw hρp f8 (y0 := some t_1) hO8 ⟨(fun z h => by cases h; exact ht1), ⟨by omega, by omega⟩, ⟨by omega, by omega⟩, ⟨by omega, by omega⟩, ⟨by omega, by omega⟩, ⟨by omega, by omega⟩, ⟨by omega, by omega⟩, ⟨by omega, by omega⟩⟩
    have fr9 := wfR_st fr0 f8 (by rw [hρp]; decide)
    iterate 2 refine hR (?_ : R (_, _, _, _, _, _))
    refine hR (c_get hO8 rfl ?_)
    refine hR (c_put hO8 rfl rfl fun w10 f10 hO10 => ?_)
    have hw10 := CI_w9 hw8 hρp f10 (y0 := some t_1) hO10 ⟨(fun z h => by cases h; exact ht1), ⟨by omega, by omega⟩, ⟨by omega, by omega⟩, ⟨by omega, by omega⟩, ⟨by omega, by omega⟩, ⟨by omega, by omega⟩, ⟨by omega, by omega⟩, ⟨by omega, by omega⟩⟩
    have fr11 := wfR_st fr9 f10 (by rw [hρp]; decide)
    exact hR (zret_i rfl (Nat.le_refl _) rfl (h _ hw10 fr11 (te_of hO10 ht1 (by omega) (by (try dsimp only); omega))))
  refine hR (?_ : R (_, _, _, _, _, _))
  refine hR (c_get hT1 rfl ?_)
  refine hR (?_ : R (_, _, _, _, _, _))
  refine hR (c_get hT1 rfl ?_)
  refine hR (j_ne (by omega) (by omega) (fun hc12 => ?_) (fun hc12 => ?_))
  · skip
    exact hR (zret_i rfl (Nat.le_refl _) rfl (h _ hw fr0 (te_of hT1 ht1 (by omega) (by (try dsimp only); omega))))
  iterate 2 refine hR (?_ : R (_, _, _, _, _, _))
  refine hR (c_get hT1 rfl ?_)
  refine hR (j_ge (by omega) (by omega) (fun hc13 => ?_) (fun hc13 => ?_))
  · skip
    exact hR (zret_i rfl (Nat.le_refl _) rfl (h _ hw fr0 (te_of hT1 ht1 (by omega) (by (try dsimp only); omega))))
  iterate 2 refine hR (?_ : R (_, _, _, _, _, _))
  refine hR (c_put hT1 rfl rfl fun w14 f14 hO14 => ?_)
  have hw14 := CI_w9 hw hρp f14 (y0 := some t_1) hO14 ⟨(fun z h => by cases h; exact ht1), ⟨by omega, by omega⟩, ⟨by omega, by omega⟩, ⟨by omega, by omega⟩, ⟨by omega, by omega⟩, ⟨by omega, by omega⟩, ⟨by omega, by omega⟩, ⟨by omega, by omega⟩⟩
  have fr15 := wfR_st fr0 f14 (by rw [hρp]; decide)
  iterate 2 refine hR (?_ : R (_, _, _, _, _, _))
  refine hR (c_get hO14 rfl ?_)
  refine hR (c_put hO14 rfl rfl fun w16 f16 hO16 => ?_)
  have hw16 := CI_w9 hw14 hρp f16 (y0 := some t_1) hO16 ⟨(fun z h => by cases h; exact ht1), ⟨by omega, by omega⟩, ⟨by omega, by omega⟩, ⟨by omega, by omega⟩, ⟨by omega, by omega⟩, ⟨by omega, by omega⟩, ⟨by omega, by omega⟩, ⟨by omega, by omega⟩⟩
  have fr17 := wfR_st fr15 f16 (by rw [hρp]; decide)
  exact hR (zret_i rfl (Nat.le_refl _) rfl (h _ hw16 fr17 (te_of hO16 ht1 (by omega) (by (try dsimp only); omega))))
theorem c_isWithin {ρ : Nat → Nat} {w : zW} (d : Nat) (p : Nat) (a1 a2 : Int) (v0 f0 : Int) (hw : CI ρ w) (hρp : ρ p = 9) (hr0 : TE ρ w p (fun l a s v f => 0 ≤ s ∧ s ≤ a ∧ a ≤ l ∧ l ≤ 600 ∧ v = v0 ∧ f = f0)) (hr1 : 0 ≤ a1 ∧ a1 ≤ 9 ∧ 0 ≤ a2 ∧ a2 ≤ 9) (Q : zQ) (h : ∀ (v : Int) (w' : zW), CI ρ w' → wfR [9] ρ w w' → (v = 0 ∨ v = 1) → (v = 0 ∨ (a1 ≤ v0 ∧ v0 ≤ a2)) → (TE ρ w' p (fun l a s x f => (0 ≤ s ∧ s ≤ a ∧ a ≤ l ∧ l ≤ 600) ∧ x = v0 ∧ ((v = 1 ∧ f = f0) ∨ f ≠ 0))) → Q (some (.int (Int32.ofInt v))) w') : zCl zTab (d + 2) iX7_isWithin [.ref p, .int (Int32.ofInt a1), .int (Int32.ofInt a2)] w 0 0 Q := by
  refine zCl_i (M := kX7_isWithin) rfl (Nat.le_of_ble_eq_true rfl) fun R hR => ?_
  have fr0 := wfR_rf [9] ρ w
  obtain ⟨t_1, l_1, a_1, k_1, s_1, v_1, f_1, c_1, hT1, ht1, hTr1, hTp1⟩ := hr0
  (try dsimp only at hTp1)
  refine hR (?_ : R (_, _, _, _, _, _))
  refine hR (c_get hT1 rfl ?_)
  refine hR (?_ : R (_, _, _, _, _, _))
  refine hR (j_lt (by omega) (by omega) (fun hc2 => ?_) (fun hc2 => ?_))
  · skip
    iterate 2 refine hR (?_ : R (_, _, _, _, _, _))
    refine hR (c_obj hT1 (zcall_i 0 0 (Nat.le_of_ble_eq_true rfl) (Nat.le_of_ble_eq_true rfl) (c_faultHere _ p 2 v0 hw hρp (te_of hT1 ht1 (by omega) (by (try dsimp only); omega)) (by omega) _ fun w3 hw3 g3 hp4 => ?_)))
    have fr5 := wfR_tr fr0 g3 (by decide)
    refine (?_ : R (_, _, [], w3, 0, 0))
    obtain ⟨t_6, l_6, a_6, k_6, s_6, v_6, f_6, c_6, hT6, ht6, hTr6, hTp6⟩ := hp4
    (try dsimp only at hTp6)
    refine hR (?_ : R (_, _, _, _, _, _))
    exact hR (zret_i rfl (Nat.le_refl _) (zbo (by omega)) (h _ _ hw3 fr5 (by omega) (by omega) (te_of hT6 ht6 (by omega) (by (try dsimp only); omega))))
  refine hR (?_ : R (_, _, _, _, _, _))
  refine hR (c_get hT1 rfl ?_)
  refine hR (?_ : R (_, _, _, _, _, _))
  refine hR (j_le (by omega) (by omega) (fun hc7 => ?_) (fun hc7 => ?_))
  · skip
    refine hR (?_ : R (_, _, _, _, _, _))
    exact hR (zret_i rfl (Nat.le_refl _) (zbo (by omega)) (h _ _ hw fr0 (by omega) (by omega) (te_of hT1 ht1 (by omega) (by (try dsimp only); omega))))
  iterate 2 refine hR (?_ : R (_, _, _, _, _, _))
  refine hR (c_obj hT1 (zcall_i 0 0 (Nat.le_of_ble_eq_true rfl) (Nat.le_of_ble_eq_true rfl) (c_faultHere _ p 2 v0 hw hρp (te_of hT1 ht1 (by omega) (by (try dsimp only); omega)) (by omega) _ fun w8 hw8 g8 hp9 => ?_)))
  have fr10 := wfR_tr fr0 g8 (by decide)
  refine (?_ : R (_, _, [], w8, 0, 0))
  obtain ⟨t_11, l_11, a_11, k_11, s_11, v_11, f_11, c_11, hT11, ht11, hTr11, hTp11⟩ := hp9
  (try dsimp only at hTp11)
  refine hR (?_ : R (_, _, _, _, _, _))
  exact hR (zret_i rfl (Nat.le_refl _) (zbo (by omega)) (h _ _ hw8 fr10 (by omega) (by omega) (te_of hT11 ht11 (by omega) (by (try dsimp only); omega))))
