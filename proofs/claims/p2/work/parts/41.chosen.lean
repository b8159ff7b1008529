/-- the cell of a reading holds v -/
def kn (w : zW) (p : Nat) (at_ v : Int) : Prop := ∃ g : Nat → Int32, zix w (p + 1) = some (.inl (1, 27305, .inl g)) ∧ (g at_.toNat).toInt = v
theorem c_afterE {ρ : Nat → Nat} {w : zW} (d p : Nat) (a1 a2 : Int) (hw : CI ρ w) (hρp : ρ p = 50) (hr0 : 0 ≤ a1 ∧ a1 ≤ 4) (hr1 : 0 ≤ a2 ∧ a2 ≤ 5460) (Q : zQ) (h : ∀ (v : Int) (w' : zW), CI ρ w' → wfR [51] ρ w w' → (0 ≤ v ∧ v ≤ 5460) → (kn w' p (a1 * 5461 + a2) v) → (∀ m, kn w p (a1 * 5461 + a2) m → m ≠ -1 → v = m) → Q (some (.int (Int32.ofInt v))) w') : zCl zTab (d + 4) iX4_after [.ref p, .int (Int32.ofInt a1), .int (Int32.ofInt a2)] w 0 0 Q := by
  obtain ⟨b, z2, z3, hO, hρb, hk1, _, _, _⟩ := CI_o50 hw hρp
  obtain ⟨g, hg, hB⟩ := CI_ar hw (q := p + 1) (by rw [hk1]; rfl)
  obtain ⟨x0, x1, x2, hOb, _⟩ := CI_o20 hw hρb
  refine zCl_i (M := kX4_after) rfl (Nat.le_of_ble_eq_true rfl) fun R hR => ?_
  have tail : ∀ (w1 : zW) (g1 : Nat → Int32), CI ρ w1 → wfR [51] ρ w w1 → zix w1 (p + 1) = some (.inl (1, 27305, .inl g1)) → (0 ≤ (g1 (a1 * 5461 + a2).toNat).toInt ∧ (g1 (a1 * 5461 + a2).toNat).toInt ≤ 5460) → (∀ m, kn w p (a1 * 5461 + a2) m → m ≠ -1 → (g1 (a1 * 5461 + a2).toNat).toInt = m) → R (33, [some (.ref p), some (.int (Int32.ofInt a1)), some (.int (Int32.ofInt a2)), some (.int (Int32.ofInt (a1 * 5461 + a2)))], [], w1, 0, 0) := by
    intro w1 g1 hw1 f1 hg1 hb hm
    have hO1 := (f1.2 p (by rw [hρp]; decide)).trans hO
    refine hR (?_ : R (_, _, _, _, _, _))
    refine hR (c_get hO1 rfl ?_)
    refine hR (?_ : R (_, _, _, _, _, _))
    refine hR (c_aldE hg1 (by omega) (by omega) (by omega) fun v e hv => ?_)
    exact hR (zret_i rfl (Nat.le_refl _) trivial (h _ _ hw1 f1 (by rw [e]; exact hb) ⟨g1, hg1, e.symm⟩ (fun m h1 h2 => e.trans (hm m h1 h2))))
  refine hR (?_ : R (_, _, _, _, _, _))
  refine hR (t_c 5461 (by decide) ?_)
  refine hR (t_mul ?_)
  refine hR (?_ : R (_, _, _, _, _, _))
  refine hR (t_add ?_)
  iterate 2 refine hR (?_ : R (_, _, _, _, _, _))
  refine hR (c_get hO rfl ?_)
  refine hR (?_ : R (_, _, _, _, _, _))
  refine hR (c_aldE hg (by omega) (by omega) (by omega) fun v e hv => ?_)
  refine hR (?_ : R (_, _, _, _, _, _))
  have hBv := hB (a1 * 5461 + a2).toNat
  have hkn : ∀ m, kn w p (a1 * 5461 + a2) m → m = v := by
    intro m hm
    obtain ⟨g2, h2, h3⟩ := hm
    rw [hg] at h2
    cases h2
    rw [← h3, e]
  refine hR (j_ne (by omega) (by omega) (fun hc => ?_) (fun hc => ?_))
  · exact tail w g hw (wfR_rf _ _ _) hg (by omega) (fun m h1 _ => by rw [hkn m h1, e])
  · refine hR (?_ : R (_, _, _, _, _, _))
    refine hR (c_get hO rfl ?_)
    iterate 2 refine hR (?_ : R (_, _, _, _, _, _))
    refine hR (c_get hO rfl ?_)
    iterate 2 refine hR (?_ : R (_, _, _, _, _, _))
    refine hR (c_obj hOb (zcall_i 0 0 (Nat.le_of_ble_eq_true rfl) (Nat.le_of_ble_eq_true rfl) (c_readBy _ b a1 a2 hw hρb hr0 hr1 _ fun v2 hv2 => ?_)))
    refine (?_ : R (_, _, .int (Int32.ofInt v2) :: .int (Int32.ofInt (a1 * 5461 + a2)) :: .ref (p + 1) :: [], w, 0, 0))
    refine hR (c_astE hw hg hB (by rw [hk1]; rfl) ⟨by rw [hk1]; decide, by rw [hk1]; decide⟩ (by omega) (by omega) (by omega) (by omega) (by omega) fun w1 hw1 f1 hg1 hB1 => ?_)
    refine tail w1 _ hw1 (wfR_st (wfR_rf _ _ _) f1 (by rw [hk1]; decide)) hg1 ?_ ?_
    · rw [pk_us, zti (by omega) (by omega)]
      exact hv2
    · intro m h1 h2
      have := hkn m h1
      omega
/-- a reading of a TEXT at a node comes to a TEXT that has a node -/
def GA (w : zW) (p : Nat) (x r : Int) : Prop := ∃ (z : Nat) (fs : List Value) (gt gno : Nat → Int32) (t m : Int), zix w p = some (.inr (2, .ref z :: fs)) ∧ zix w (p + 3) = some (.inl (1, 25750, .inl gt)) ∧ (gt x.toNat).toInt = t ∧ kn w z (r * 5461 + t) m ∧ (0 ≤ m ∧ m ≤ 5460) ∧ zix w (p + 6) = some (.inl (1, 5461, .inl gno)) ∧ (gno m.toNat).toInt ≠ -1
theorem c_firstAsGood {ρ : Nat → Nat} {w : zW} (d : Nat) (p : Nat) (a1 a2 : Int) (hw : CI ρ w) (hρp : ρ p = 70) (hnp : nn w p) (hr0 : 0 ≤ a1 ∧ a1 ≤ 9) (hr1 : 0 ≤ a2 ∧ a2 ≤ 25749) (Q : zQ) (h : ∀ (v : Int) (w' : zW), CI ρ w' → wfR [51] ρ w w' → (v = -1 ∨ ((0 ≤ v ∧ v ≤ 4) ∧ GA w' p a2 v)) → Q (some (.int (Int32.ofInt v))) w') : zCl zTab (d + 5) iX2_firstAsGood [.ref p, .int (Int32.ofInt a1), .int (Int32.ofInt a2)] w 0 0 Q := by
  refine zCl_i (M := kX2_firstAsGood) rfl (Nat.le_of_ble_eq_true rfl) fun R hR => ?_
  have fr0 := wfR_rf [51] ρ w
  iterate 2 refine hR (?_ : R (_, _, _, _, _, _))
  have lp2 : ∀ (N : Nat) (r : Int) (o4_2 : Option Value) (w_2 : zW), (zc2 o4_2 = false) → (CI ρ w_2) → (wfR [51] ρ w w_2) → (nn w_2 p) → (0 ≤ r ∧ r ≤ 5) → (6 - r < N) → R (2, [some (.ref p), some (.int (Int32.ofInt a1)), some (.int (Int32.ofInt a2)), some (.int (Int32.ofInt r)), o4_2], [], w_2, 0, 0) := by
    intro N
    induction N with
    | zero => intros; omega
    | succ N ih2 =>
      intro r o4_2 w_2 hzo4_2 hw_2 fr_2 hnp_2 hf0_2 hN2
      iterate 2 refine hR (?_ : R (_, _, _, _, _, _))
      obtain ⟨y0_1, x1_1, x2_1, x3_1, hO1, hk1_0, hk1_1, hk1_2, hk1_3, hk1_4, hk1_5, hk1_6, hk1_7, hk1_8, hk1_9⟩ := CI_o70 hw_2 hρp
      refine hR (c_get hO1 rfl ?_)
      obtain ⟨z2, rfl⟩ := nn_some hnp_2 hO1
      have hz2 : ρ z2 = 50 := hk1_0 z2 rfl
      obtain ⟨z0_3, z2_3, z3_3, hO3, hk3_0, hk3_1, hk3_2, hk3_3, hk3_4⟩ := CI_o50 hw_2 hz2
      refine hR (c_get hO3 rfl ?_)
      obtain ⟨x0_4, x1_4, x2_4, hO4, hk4_0, hk4_1, hk4_2, hk4_3, hk4_4, hk4_5, hk4_6⟩ := CI_o20 hw_2 hk3_0
      refine hR (c_get hO4 rfl ?_)
      refine hR (j_ge (by omega) (by omega) (fun hc5 => ?_) (fun hc5 => ?_))
      · skip
        refine hR (?_ : R (_, _, _, _, _, _))
        exact hR (zret_i rfl (Nat.le_refl _) trivial (h _ _ hw_2 fr_2 (Or.inl rfl)))
      iterate 2 refine hR (?_ : R (_, _, _, _, _, _))
      refine hR (c_obj hO1 (zcall_i 0 0 (Nat.le_of_ble_eq_true rfl) (Nat.le_of_ble_eq_true rfl) (c_onesAt _ p a1 hw_2 hρp (by omega) _ fun v6 hp8 => ?_)))
      refine (?_ : R (_, _, (.int (Int32.ofInt v6)) :: [], w_2, 0, 0))
      refine hR (?_ : R (_, _, _, _, _, _))
      refine hR (zcall_i 0 0 (Nat.le_of_ble_eq_true rfl) (Nat.le_of_ble_eq_true rfl) (c_isIn _ _ v6 r _ fun v9 hp11 => ?_))
      refine (?_ : R (_, _, (.int (Int32.ofInt v9)) :: [], w_2, 0, 0))
      refine hR (k_eq (by omega) (fun hc12 => ?_) (fun hc12 => ?_))
      · skip
        iterate 4 refine hR (?_ : R (_, _, _, _, _, _))
        refine hR (j_eq (by omega) (by omega) (fun _ => ?_) (fun hc => by omega))
        refine hR (t_inc ?_)
        refine hR (?_ : R (_, _, _, _, _, _))
        exact ih2 _ _ _ (by rfl) hw_2 fr_2 hnp_2 (by omega) (by omega)
      refine hR (?_ : R (_, _, _, _, _, _))
      refine hR (c_get hO1 rfl ?_)
      refine hR (?_ : R (_, _, _, _, _, _))
      refine hR (c_get hO1 rfl ?_)
      iterate 2 refine hR (?_ : R (_, _, _, _, _, _))
      refine hR (c_get hO1 rfl ?_)
      refine hR (?_ : R (_, _, _, _, _, _))
      obtain ⟨ge14, hge14, hBe14⟩ := CI_ar hw_2 (q := p + 3) (by rw [hk1_6]; rfl)
      refine hR (c_aldE hge14 (by omega) (by omega) (Nat.le_of_ble_eq_true rfl) fun v13 e14 rv13 => ?_)
      have bv13 : 0 ≤ v13 ∧ v13 ≤ 5460 := by rw [e14]; exact hBe14 _
      refine hR (c_obj hO3 (zcall_i 0 0 (Nat.le_of_ble_eq_true rfl) (Nat.le_of_ble_eq_true rfl) (c_afterE _ z2 r v13 hw_2 hz2 (by omega) (by omega) _ fun v15 w16 hw16 g16 hp17 hp18 hp19 => ?_)))
      have fr20 := wfR_tr fr_2 g16 (by decide)
      have hn21 := nn_eq (g16.2 p (by rw [hρp]; decide)) hnp_2
      have hO22 := (g16.2 p (by rw [hρp]; decide)).trans hO1
      have hO23 := (g16.2 z2 (by rw [hz2]; decide)).trans hO3
      have hO24 := (g16.2 z0_3 (by rw [hk3_0]; decide)).trans hO4
      refine (?_ : R (_, _, (.int (Int32.ofInt v15)) :: (.ref (p + 6)) :: [], w16, 0, 0))
      have hx25 := (g16.2 (p + 3) (by rw [hk1_6]; decide)).trans hge14
      obtain ⟨ge27, hge27, hBe27⟩ := CI_ar hw16 (q := p + 6) (by rw [hk1_9]; rfl)
      refine hR (c_aldE hge27 (by omega) (by omega) (Nat.le_of_ble_eq_true rfl) fun v26 e27 rv26 => ?_)
      have bv26 : (-1) ≤ v26 ∧ v26 ≤ 25749 := by rw [e27]; exact hBe27 _
      iterate 4 refine hR (?_ : R (_, _, _, _, _, _))
      refine hR (j_eq (by omega) (by omega) (fun hc28 => ?_) (fun hc28 => ?_))
      · skip
        refine hR (t_inc ?_)
        refine hR (?_ : R (_, _, _, _, _, _))
        exact ih2 _ _ _ (by rfl) hw16 fr20 hn21 (by omega) (by omega)
      refine hR (?_ : R (_, _, _, _, _, _))
      refine hR (c_get hO22 rfl ?_)
      refine hR (?_ : R (_, _, _, _, _, _))
      refine hR (c_ald hw16 (by rw [hk1_8]; rfl) (by omega) (by omega) (Nat.le_of_ble_eq_true rfl) fun v29 lv29 uv29 => ?_)
      refine hR (?_ : R (_, _, _, _, _, _))
      refine hR (c_get hO22 rfl ?_)
      refine hR (?_ : R (_, _, _, _, _, _))
      refine hR (c_ald hw16 (by rw [hk1_8]; rfl) (by omega) (by omega) (Nat.le_of_ble_eq_true rfl) fun v30 lv30 uv30 => ?_)
      refine hR (j_any ?_ ?_)
      rotate_left
      · skip
        refine hR (?_ : R (_, _, _, _, _, _))
        exact hR (zret_i rfl (Nat.le_refl _) trivial (h _ _ hw16 fr20 (Or.inr ⟨by omega, _, _, _, _, _, _, hO22, hx25, e14.symm, hp18, hp17, hge27, by rw [← e27]; omega⟩)))
      refine hR (t_inc ?_)
      refine hR (?_ : R (_, _, _, _, _, _))
      exact ih2 _ _ _ (by rfl) hw16 fr20 hn21 (by omega) (by omega)
  exact lp2 400000000 _ _ _ (by rfl) hw fr0 hnp (by omega) (by omega)
theorem c_chosenAt {ρ : Nat → Nat} {w : zW} (d : Nat) (p : Nat) (a1 : Int) (hw : CI ρ w) (hρp : ρ p = 70) (hnp : nn w p) (hr0 : -2147483648 ≤ a1 ∧ a1 ≤ 2147483647) (Q : zQ) (h : ∀ (v : Int) (w' : zW), CI ρ w' → wfR [51, 76] ρ w w' → (-1 ≤ v ∧ v ≤ 4) → Q (some (.int (Int32.ofInt v))) w') : zCl zTab (d + 6) iX2_chosenAt [.ref p, .int (Int32.ofInt a1)] w 0 0 Q := by
  refine zCl_i (M := kX2_chosenAt) rfl (Nat.le_of_ble_eq_true rfl) fun R hR => ?_
  have fr0 := wfR_rf [51, 76] ρ w
  iterate 6 refine hR (?_ : R (_, _, _, _, _, _))
  have lp7 : ∀ (N : Nat) (x : Int) (ch : Int) (l : Int) (w_7 : zW), (CI ρ w_7) → (wfR [51, 76] ρ w w_7) → (nn w_7 p) → (0 ≤ x ∧ x ≤ 25749) → (-1 ≤ ch ∧ ch ≤ 4) → (0 ≤ l ∧ l ≤ 9) → (10 - l < N) → R (7, [some (.ref p), some (.int (Int32.ofInt a1)), some (.int (Int32.ofInt x)), some (.int (Int32.ofInt ch)), some (.int (Int32.ofInt l))], [], w_7, 0, 0) := by
    intro N
    induction N with
    | zero => intros; omega
    | succ N ih7 =>
      intro x ch l w_7 hw_7 fr_7 hnp_7 hf0_7 hf1_7 hf2_7 hN7
      iterate 2 refine hR (?_ : R (_, _, _, _, _, _))
      refine hR (j_gt (by omega) (by omega) (fun hc1 => ?_) (fun hc1 => ?_))
      · skip
        refine hR (?_ : R (_, _, _, _, _, _))
        exact hR (zret_i rfl (Nat.le_refl _) trivial (h _ _ hw_7 fr_7 (by omega)))
      iterate 2 refine hR (?_ : R (_, _, _, _, _, _))
      obtain ⟨y0_2, x1_2, x2_2, x3_2, hO2, hk2_0, hk2_1, hk2_2, hk2_3, hk2_4, hk2_5, hk2_6, hk2_7, hk2_8, hk2_9⟩ := CI_o70 hw_7 hρp
      refine hR (c_get hO2 rfl ?_)
      refine hR (j_ge (by omega) (by omega) (fun hc3 => ?_) (fun hc3 => ?_))
      · skip
        refine hR (?_ : R (_, _, _, _, _, _))
        exact hR (zret_i rfl (Nat.le_refl _) trivial (h _ _ hw_7 fr_7 (by omega)))
      iterate 3 refine hR (?_ : R (_, _, _, _, _, _))
      refine hR (t_add ?_)
      refine hR (c_obj hO2 (zcall_i 0 0 (Nat.le_of_ble_eq_true rfl) (Nat.le_of_ble_eq_true rfl) (c_recall _ p (l + 1) hw_7 hρp (by omega) _ fun w4 hw4 g4 => ?_)))
      have fr5 := wfR_tr fr_7 g4 (by decide)
      have hn6 := nn_eq (g4.2 p (by rw [hρp]; decide)) hnp_7
      have hO7 := (g4.2 p (by rw [hρp]; decide)).trans hO2
      refine (?_ : R (_, _, [], w4, 0, 0))
      iterate 3 refine hR (?_ : R (_, _, _, _, _, _))
      refine hR (c_obj hO7 (zcall_i 0 0 (Nat.le_of_ble_eq_true rfl) (Nat.le_of_ble_eq_true rfl) (c_firstAsGood _ p l x hw4 hρp hn6 (by omega) (by omega) _ fun v8 w9 hw9 g9 hp10 => ?_)))
      have fr11 := wfR_tr fr5 g9 (by decide)
      have hn12 := nn_eq (g9.2 p (by rw [hρp]; decide)) hn6
      have hO13 := (g9.2 p (by rw [hρp]; decide)).trans hO7
      refine (?_ : R (_, _, (.int (Int32.ofInt v8)) :: [], w9, 0, 0))
      iterate 3 refine hR (?_ : R (_, _, _, _, _, _))
      refine hR (j_eq (by omega) (by omega) (fun hc14 => ?_) (fun hc14 => ?_))
      · skip
        iterate 3 refine hR (?_ : R (_, _, _, _, _, _))
        refine hR (t_add ?_)
        refine hR (c_obj hO13 (zcall_i 0 0 (Nat.le_of_ble_eq_true rfl) (Nat.le_of_ble_eq_true rfl) (c_forget _ p (l + 1) hw9 hρp (by omega) _ fun w15 hw15 g15 => ?_)))
        have fr16 := wfR_tr fr11 g15 (by decide)
        have hn17 := nn_eq (g15.2 p (by rw [hρp]; decide)) hn12
        have hO18 := (g15.2 p (by rw [hρp]; decide)).trans hO13
        refine (?_ : R (_, _, [], w15, 0, 0))
        iterate 2 refine hR (?_ : R (_, _, _, _, _, _))
        refine hR (j_ne (by omega) (by omega) (fun hc => by omega) (fun _ => ?_))
        refine hR (?_ : R (_, _, _, _, _, _))
        exact hR (zret_i rfl (Nat.le_refl _) trivial (h _ _ hw15 fr16 (by omega)))
      obtain ⟨zzA19, fzA19, gtA19, gnoA19, xA19, mA19, A19a, A19b, A19c, A19d, A19e, A19f, A19g⟩ := (hp10.resolve_left (by omega)).2
      obtain ⟨z20, rfl⟩ := nn_some hn12 hO13
      have hz20 : ρ z20 = 50 := hk2_0 z20 rfl
      rw [hO13] at A19a
      have hqA19 : z20 = zzA19 := by cases A19a; rfl
      subst hqA19
      refine hR (?_ : R (_, _, _, _, _, _))
      refine hR (c_get hO13 rfl ?_)
      refine hR (?_ : R (_, _, _, _, _, _))
      refine hR (c_get hO13 rfl ?_)
      iterate 2 refine hR (?_ : R (_, _, _, _, _, _))
      refine hR (c_get hO13 rfl ?_)
      refine hR (?_ : R (_, _, _, _, _, _))
      refine hR (c_aldE A19b (by omega) (by omega) (Nat.le_of_ble_eq_true rfl) fun v21 e22 rv21 => ?_)
      obtain ⟨gXA19, hXA19, bXA19⟩ := CI_ar hw9 (q := p + 3) (by rw [hk2_6]; rfl)
      rw [A19b] at hXA19
      cases hXA19
      have hYA19 := bXA19 (x).toNat
      rw [A19c] at e22
      rw [A19c] at hYA19
      subst e22
      obtain ⟨z0_28, z2_28, z3_28, hO28, hk28_0, hk28_1, hk28_2, hk28_3, hk28_4⟩ := CI_o50 hw9 hz20
      refine hR (c_obj hO28 (zcall_i 0 0 (Nat.le_of_ble_eq_true rfl) (Nat.le_of_ble_eq_true rfl) (c_afterE _ z20 v8 v21 hw9 hz20 (by omega) (by omega) _ fun v23 w24 hw24 g24 hp25 hp26 hp27 => ?_)))
      have fr29 := wfR_tr fr11 g24 (by decide)
      have hn30 := nn_eq (g24.2 p (by rw [hρp]; decide)) hn12
      have hO31 := (g24.2 p (by rw [hρp]; decide)).trans hO13
      have hO32 := (g24.2 z20 (by rw [hz20]; decide)).trans hO28
      refine (?_ : R (_, _, (.int (Int32.ofInt v23)) :: (.ref (p + 6)) :: [], w24, 0, 0))
      have emA19 := hp27 _ A19d (by omega)
      have hNA19 := (g24.2 (p + 6) (by rw [hk2_9]; decide)).trans A19f
      refine hR (c_aldE hNA19 (by omega) (by omega) (Nat.le_of_ble_eq_true rfl) fun v33 e34 rv33 => ?_)
      obtain ⟨gZA19, hZA19, bZA19⟩ := CI_ar hw24 (q := p + 6) (by rw [hk2_9]; rfl)
      rw [hNA19] at hZA19
      cases hZA19
      have hWA19 := bZA19 (v23).toNat
      rw [← e34] at hWA19
      rw [emA19] at e34
      rw [← e34] at A19g
      iterate 4 refine hR (?_ : R (_, _, _, _, _, _))
      refine hR (t_add ?_)
      refine hR (c_obj hO31 (zcall_i 0 0 (Nat.le_of_ble_eq_true rfl) (Nat.le_of_ble_eq_true rfl) (c_forget _ p (l + 1) hw24 hρp (by omega) _ fun w35 hw35 g35 => ?_)))
      have fr36 := wfR_tr fr29 g35 (by decide)
      have hn37 := nn_eq (g35.2 p (by rw [hρp]; decide)) hn30
      have hO38 := (g35.2 p (by rw [hρp]; decide)).trans hO31
      have hO39 := (g35.2 z20 (by rw [hz20]; decide)).trans hO32
      refine (?_ : R (_, _, [], w35, 0, 0))
      iterate 2 refine hR (?_ : R (_, _, _, _, _, _))
      refine hR (j_ne (by omega) (by omega) (fun _ => ?_) (fun hc => by omega))
      refine hR (t_inc ?_)
      refine hR (?_ : R (_, _, _, _, _, _))
      exact ih7 _ _ _ _ hw35 fr36 hn37 (by omega) (by omega) (by omega) (by omega)
  exact lp7 400000000 _ _ _ _ hw fr0 hnp (by omega) (by omega) (by omega) (by omega)
