/-- the object's first field is not null -/
def nn (w : zW) (p : Nat) : Prop := ∀ ci fs, zix w p = some (.inr (ci, .null :: fs)) → False
theorem nn_some {w : zW} {p ci : Nat} {y : Option Nat} {fs : List Value} (h : nn w p) (hO : zix w p = some (.inr (ci, va_rf y :: fs))) : ∃ z, y = some z := by
  cases y with
  | none => exact (h _ _ hO).elim
  | some z => exact ⟨z, rfl⟩
theorem nn_of {w : zW} {p ci z : Nat} {fs : List Value} (hO : zix w p = some (.inr (ci, .ref z :: fs))) : nn w p := fun _ _ h => by rw [hO] at h; cases h
theorem nn_eq {w w1 : zW} {p : Nat} (e : zix w1 p = zix w p) (h : nn w p) : nn w1 p := fun ci fs h2 => h ci fs (by rw [← e]; exact h2)
theorem c_after {ρ : Nat → Nat} {w : zW} (d p : Nat) (a1 a2 : Int) (hw : CI ρ w) (hρp : ρ p = 50) (hnp : nn w p) (hr0 : 0 ≤ a1 ∧ a1 ≤ 4) (hr1 : 0 ≤ a2 ∧ a2 ≤ 5460) (Q : zQ) (h : ∀ (v : Int) (w' : zW), CI ρ w' → wfR [51] ρ w w' → (0 ≤ v ∧ v ≤ 5460) → Q (some (.int (Int32.ofInt v))) w') : zCl zTab (d + 4) iX4_after [.ref p, .int (Int32.ofInt a1), .int (Int32.ofInt a2)] w 0 0 Q := by
  obtain ⟨y0, z2, z3, hO, hk0, hk1, _, _, _⟩ := CI_o50 hw hρp
  obtain ⟨b, rfl⟩ := nn_some hnp hO
  have hρb := hk0 b rfl
  obtain ⟨g, hg, hB⟩ := CI_ar hw (q := p + 1) (by rw [hk1]; rfl)
  obtain ⟨x0, x1, x2, hOb, _⟩ := CI_o20 hw hρb
  refine zCl_i (M := kX4_after) rfl (Nat.le_of_ble_eq_true rfl) fun R hR => ?_
  have tail : ∀ (w1 : zW) (g1 : Nat → Int32), CI ρ w1 → wfR [51] ρ w w1 → zix w1 (p + 1) = some (.inl (1, 27305, .inl g1)) → (0 ≤ (g1 (a1 * 5461 + a2).toNat).toInt ∧ (g1 (a1 * 5461 + a2).toNat).toInt ≤ 5460) → R (33, [some (.ref p), some (.int (Int32.ofInt a1)), some (.int (Int32.ofInt a2)), some (.int (Int32.ofInt (a1 * 5461 + a2)))], [], w1, 0, 0) := by
    intro w1 g1 hw1 f1 hg1 hb
    have hO1 := (f1.2 p (by rw [hρp]; decide)).trans hO
    refine hR (?_ : R (_, _, _, _, _, _))
    refine hR (c_get hO1 rfl ?_)
    refine hR (?_ : R (_, _, _, _, _, _))
    refine hR (c_aldE hg1 (by omega) (by omega) (by omega) fun v e hv => ?_)
    exact hR (zret_i rfl (Nat.le_refl _) trivial (h _ _ hw1 f1 (by rw [e]; exact hb)))
  refine hR (?_ : R (_, _, _, _, _, _))
  refine hR (t_c 5461 (by decide) ?_)
  refine hR (t_mul ?_)
  refine hR (?_ : R (_, _, _, _, _, _))
  refine hR (t_add ?_)
  iterate 2 refine hR (?_ : R (_, _, _, _, _, _))
  refine hR (c_get hO rfl ?_)
  refine hR (?_ : R (_, _, _, _, _, _))
  refine hR (c_aldE hg (by omega) (by omega) (by omega) fun v e hv => ?_)
  refine hR (?_ : R (_, _, _, _, _, _))
  have hBv := hB (a1 * 5461 + a2).toNat
  refine hR (j_ne (by omega) (by omega) (fun hc => ?_) (fun hc => ?_))
  · exact tail w g hw (wfR_rf _ _ _) hg (by omega)
  · refine hR (?_ : R (_, _, _, _, _, _))
    refine hR (c_get hO rfl ?_)
    iterate 2 refine hR (?_ : R (_, _, _, _, _, _))
    refine hR (c_get hO rfl ?_)
    iterate 2 refine hR (?_ : R (_, _, _, _, _, _))
    refine hR (c_obj hOb (zcall_i 0 0 (Nat.le_of_ble_eq_true rfl) (Nat.le_of_ble_eq_true rfl) (c_readBy _ b a1 a2 hw hρb hr0 hr1 _ fun v2 hv2 => ?_)))
    refine (?_ : R (_, _, .int (Int32.ofInt v2) :: .int (Int32.ofInt (a1 * 5461 + a2)) :: .ref (p + 1) :: [], w, 0, 0))
    refine hR (c_astE hw hg hB (by rw [hk1]; rfl) ⟨by rw [hk1]; decide, by rw [hk1]; decide⟩ (by omega) (by omega) (by omega) (by omega) (by omega) fun w1 hw1 f1 hg1 hB1 => ?_)
    refine tail w1 _ hw1 (wfR_st (wfR_rf _ _ _) f1 (by rw [hk1]; decide)) hg1 ?_
    rw [pk_us, zti (by omega) (by omega)]
    exact hv2
theorem c_timesOf (w : zW) (d : Nat) (a1 a2 : Int) (hr0 : -2147483648 ≤ a1 ∧ a1 ≤ 2147483647) (hr1 : 0 ≤ a2 ∧ a2 ≤ 5460) (Q : zQ) (h : ∀ (v : Int), (-2147483648 ≤ v ∧ v ≤ 2147483647) → Q (some (.int (Int32.ofInt v))) w) : zCl zTab (d + 3) iX11_timesOf [.int (Int32.ofInt a1), .int (Int32.ofInt a2)] w 0 0 Q := by
  refine zCl_i (M := kX11_timesOf) rfl (Nat.le_of_ble_eq_true rfl) fun R hR => ?_
  refine hR (?_ : R (_, _, _, _, _, _))
  refine hR (zcall_i 0 0 (Nat.le_of_ble_eq_true rfl) (Nat.le_of_ble_eq_true rfl) (c_bitsOf _ _ a2 (by omega) _ fun v1 hp3 => ?_))
  refine (?_ : R (_, _, (.int (Int32.ofInt v1)) :: [], w, 0, 0))
  iterate 2 refine hR (?_ : R (_, _, _, _, _, _))
  refine hR (zcall_i 0 0 (Nat.le_of_ble_eq_true rfl) (Nat.le_of_ble_eq_true rfl) (c_lengthOf _ _ a2 (by omega) _ fun v4 hp6 => ?_))
  refine (?_ : R (_, _, (.int (Int32.ofInt v4)) :: [], w, 0, 0))
  iterate 5 refine hR (?_ : R (_, _, _, _, _, _))
  have lp16 : ∀ (N : Nat) (t : Int) (i : Int), (0 ≤ t ∧ t ≤ 6) → (0 ≤ i ∧ i ≤ 6) → (t ≤ i) → (7 - i < N) → R (16, [some (.int (Int32.ofInt a1)), some (.int (Int32.ofInt a2)), some (.int (Int32.ofInt v1)), some (.int (Int32.ofInt v4)), some (.int (Int32.ofInt t)), some (.int (Int32.ofInt i))], [], w, 0, 0) := by
    intro N
    induction N with
    | zero => intros; omega
    | succ N ih16 =>
      intro t i hf0_16 hf1_16 hp0_16 hN16
      iterate 2 refine hR (?_ : R (_, _, _, _, _, _))
      refine hR (j_ge (by omega) (by omega) (fun hc7 => ?_) (fun hc7 => ?_))
      · skip
        refine hR (?_ : R (_, _, _, _, _, _))
        exact hR (zret_i rfl (Nat.le_refl _) trivial (h _ (by omega)))
      iterate 2 refine hR (?_ : R (_, _, _, _, _, _))
      refine hR (zcall_i 0 0 (Nat.le_of_ble_eq_true rfl) (Nat.le_of_ble_eq_true rfl) (c_wordOfBits _ _ v1 i (by omega) (by omega) _ fun v8 hp10 => ?_))
      refine (?_ : R (_, _, (.int (Int32.ofInt v8)) :: [], w, 0, 0))
      refine hR (?_ : R (_, _, _, _, _, _))
      refine hR (j_ne (by omega) (by omega) (fun hc11 => ?_) (fun hc11 => ?_))
      · skip
        refine hR (t_inc ?_)
        refine hR (?_ : R (_, _, _, _, _, _))
        exact ih16 _ _ (by omega) (by omega) (by omega) (by omega)
      refine hR (t_inc ?_)
      refine hR (t_inc ?_)
      refine hR (?_ : R (_, _, _, _, _, _))
      exact ih16 _ _ (by omega) (by omega) (by omega) (by omega)
  exact lp16 400000000 _ _ (by omega) (by omega) (by omega) (by omega)
theorem c_isLeftOf (w : zW) (d : Nat) (a1 a2 : Int) (hr0 : 0 ≤ a1 ∧ a1 ≤ 5460) (hr1 : 0 ≤ a2 ∧ a2 ≤ 5460) (Q : zQ) (h : ∀ (v : Int), (v = 0 ∨ v = 1) → Q (some (.int (Int32.ofInt v))) w) : zCl zTab (d + 4) iX11_isLeftOf [.int (Int32.ofInt a1), .int (Int32.ofInt a2)] w 0 0 Q := by
  refine zCl_i (M := kX11_isLeftOf) rfl (Nat.le_of_ble_eq_true rfl) fun R hR => ?_
  refine hR (?_ : R (_, _, _, _, _, _))
  refine hR (zcall_i 0 0 (Nat.le_of_ble_eq_true rfl) (Nat.le_of_ble_eq_true rfl) (c_lengthOf _ _ a1 (by omega) _ fun v1 hp3 => ?_))
  refine (?_ : R (_, _, (.int (Int32.ofInt v1)) :: [], w, 0, 0))
  iterate 2 refine hR (?_ : R (_, _, _, _, _, _))
  refine hR (zcall_i 0 0 (Nat.le_of_ble_eq_true rfl) (Nat.le_of_ble_eq_true rfl) (c_lengthOf _ _ a2 (by omega) _ fun v4 hp6 => ?_))
  refine (?_ : R (_, _, (.int (Int32.ofInt v4)) :: [], w, 0, 0))
  iterate 5 refine hR (?_ : R (_, _, _, _, _, _))
  have lp16 : ∀ (N : Nat) (t : Int) (i : Int), (0 ≤ t ∧ t ≤ 6) → (0 ≤ i ∧ i ≤ 6) → (t ≤ (tLen a1.toNat : Int)) → (7 - i < N) → R (16, [some (.int (Int32.ofInt a1)), some (.int (Int32.ofInt a2)), some (.int (Int32.ofInt v1)), some (.int (Int32.ofInt v4)), some (.int (Int32.ofInt t)), some (.int (Int32.ofInt i))], [], w, 0, 0) := by
    intro N
    induction N with
    | zero => intros; omega
    | succ N ih16 =>
      intro t i hf0_16 hf1_16 hp0_16 hN16
      iterate 2 refine hR (?_ : R (_, _, _, _, _, _))
      refine hR (j_ge (by omega) (by omega) (fun hc7 => ?_) (fun hc7 => ?_))
      · skip
        iterate 2 refine hR (?_ : R (_, _, _, _, _, _))
        refine hR (j_ne (by omega) (by omega) (fun hc8 => ?_) (fun hc8 => ?_))
        · skip
          refine hR (?_ : R (_, _, _, _, _, _))
          exact hR (zret_i rfl (Nat.le_refl _) (zbo (by omega)) (h _ (by omega)))
        iterate 2 refine hR (?_ : R (_, _, _, _, _, _))
        exact hR (zret_i rfl (Nat.le_refl _) (zbo (by omega)) (h _ (by omega)))
      iterate 2 refine hR (?_ : R (_, _, _, _, _, _))
      refine hR (j_ge (by omega) (by omega) (fun hc9 => ?_) (fun hc9 => ?_))
      · skip
        iterate 2 refine hR (?_ : R (_, _, _, _, _, _))
        refine hR (j_ne (by omega) (by omega) (fun hc10 => ?_) (fun hc10 => ?_))
        · skip
          refine hR (?_ : R (_, _, _, _, _, _))
          exact hR (zret_i rfl (Nat.le_refl _) (zbo (by omega)) (h _ (by omega)))
        iterate 2 refine hR (?_ : R (_, _, _, _, _, _))
        exact hR (zret_i rfl (Nat.le_refl _) (zbo (by omega)) (h _ (by omega)))
      iterate 2 refine hR (?_ : R (_, _, _, _, _, _))
      refine hR (zcall_i 0 0 (Nat.le_of_ble_eq_true rfl) (Nat.le_of_ble_eq_true rfl) (c_wordAt _ _ a2 i (by omega) (by omega) _ fun v11 hp13 => ?_))
      refine (?_ : R (_, _, (.int (Int32.ofInt v11)) :: [], w, 0, 0))
      iterate 2 refine hR (?_ : R (_, _, _, _, _, _))
      refine hR (zcall_i 0 0 (Nat.le_of_ble_eq_true rfl) (Nat.le_of_ble_eq_true rfl) (c_wordAt _ _ a1 t (by omega) (by omega) _ fun v14 hp16 => ?_))
      refine (?_ : R (_, _, (.int (Int32.ofInt v14)) :: (.int (Int32.ofInt v11)) :: [], w, 0, 0))
      refine hR (j_ne (by omega) (by omega) (fun hc17 => ?_) (fun hc17 => ?_))
      · skip
        refine hR (t_inc ?_)
        refine hR (?_ : R (_, _, _, _, _, _))
        exact ih16 _ _ (by omega) (by omega) (by omega) (by omega)
      refine hR (t_inc ?_)
      refine hR (t_inc ?_)
      refine hR (?_ : R (_, _, _, _, _, _))
      exact ih16 _ _ (by omega) (by omega) (by omega) (by omega)
  exact lp16 400000000 _ _ (by omega) (by omega) (by omega) (by omega)
theorem c_mostShared (w : zW) (d : Nat) (a1 a2 : Int) (hr0 : 0 ≤ a1 ∧ a1 ≤ 5460) (hr1 : 0 ≤ a2 ∧ a2 ≤ 5460) (Q : zQ) (h : ∀ (v : Int), (0 ≤ v ∧ v ≤ 5460) → Q (some (.int (Int32.ofInt v))) w) : zCl zTab (d + 5) iX11_mostShared [.int (Int32.ofInt a1), .int (Int32.ofInt a2)] w 0 0 Q := by
  refine zCl_i (M := kX11_mostShared) rfl (Nat.le_of_ble_eq_true rfl) fun R hR => ?_
  refine hR (?_ : R (_, _, _, _, _, _))
  refine hR (zcall_i 0 0 (Nat.le_of_ble_eq_true rfl) (Nat.le_of_ble_eq_true rfl) (c_lengthOf _ _ a1 (by omega) _ fun v1 hp3 => ?_))
  refine (?_ : R (_, _, (.int (Int32.ofInt v1)) :: [], w, 0, 0))
  iterate 5 refine hR (?_ : R (_, _, _, _, _, _))
  have lp10 : ∀ (N : Nat) (be : Int) (kp : Int) (o5_10 : Option Value) (o6_10 : Option Value), (zc2 o5_10 = false) → (zc2 o6_10 = false) → (0 ≤ be ∧ be ≤ 5460) → (0 ≤ kp ∧ kp ≤ 64) → (65 - kp < N) → R (10, [some (.int (Int32.ofInt a1)), some (.int (Int32.ofInt a2)), some (.int (Int32.ofInt v1)), some (.int (Int32.ofInt be)), some (.int (Int32.ofInt kp)), o5_10, o6_10], [], w, 0, 0) := by
    intro N
    induction N with
    | zero => intros; omega
    | succ N ih10 =>
      intro be kp o5_10 o6_10 hzo5_10 hzo6_10 hf0_10 hf1_10 hN10
      iterate 3 refine hR (?_ : R (_, _, _, _, _, _))
      obtain ⟨v4, lv4, uv4, qv4⟩ := zshl_r6 (e := v1) (by omega) (by omega)
      refine hR (t_c v4 qv4 ?_)
      refine hR (j_ge (by omega) (by omega) (fun hc5 => ?_) (fun hc5 => ?_))
      · skip
        refine hR (?_ : R (_, _, _, _, _, _))
        exact hR (zret_i rfl (Nat.le_refl _) trivial (h _ (by omega)))
      iterate 4 refine hR (?_ : R (_, _, _, _, _, _))
      have lp24 : ∀ (N : Nat) (lf : Int) (k : Int), (0 ≤ lf ∧ lf ≤ 5460) → (0 ≤ k ∧ k ≤ 6) → ((k = 0 ∧ lf = 0) ∨ (k = 1 ∧ lf ≤ 4) ∨ (k = 2 ∧ lf ≤ 20) ∨ (k = 3 ∧ lf ≤ 84) ∨ (k = 4 ∧ lf ≤ 340) ∨ (k = 5 ∧ lf ≤ 1364) ∨ (k = 6 ∧ lf ≤ 5460)) → (7 - k < N) → R (24, [some (.int (Int32.ofInt a1)), some (.int (Int32.ofInt a2)), some (.int (Int32.ofInt v1)), some (.int (Int32.ofInt be)), some (.int (Int32.ofInt kp)), some (.int (Int32.ofInt lf)), some (.int (Int32.ofInt k))], [], w, 0, 0) := by
        intro N
        induction N with
        | zero => intros; omega
        | succ N ih24 =>
          intro lf k hf0_24 hf1_24 hp0_24 hN24
          iterate 2 refine hR (?_ : R (_, _, _, _, _, _))
          refine hR (j_ge (by omega) (by omega) (fun hc6 => ?_) (fun hc6 => ?_))
          rotate_left
          · skip
            iterate 2 refine hR (?_ : R (_, _, _, _, _, _))
            refine hR (zcall_i 0 0 (Nat.le_of_ble_eq_true rfl) (Nat.le_of_ble_eq_true rfl) (c_isIn _ _ kp k _ fun v24 hp26 => ?_))
            refine (?_ : R (_, _, (.int (Int32.ofInt v24)) :: [], w, 0, 0))
            refine hR (k_eq (by omega) (fun hc27 => ?_) (fun hc27 => ?_))
            · skip
              refine hR (t_inc ?_)
              refine hR (?_ : R (_, _, _, _, _, _))
              exact ih24 _ _ (by omega) (by omega) (by omega) (by omega)
            iterate 3 refine hR (?_ : R (_, _, _, _, _, _))
            refine hR (zcall_i 0 0 (Nat.le_of_ble_eq_true rfl) (Nat.le_of_ble_eq_true rfl) (c_wordAt _ _ a1 k (by omega) (by omega) _ fun v28 hp30 => ?_))
            refine (?_ : R (_, _, (.int (Int32.ofInt v28)) :: (.int (Int32.ofInt lf)) :: [], w, 0, 0))
            refine hR (zcall_i 0 0 (Nat.le_of_ble_eq_true rfl) (Nat.le_of_ble_eq_true rfl) (c_longer _ _ lf v28 _ fun v31 hp33 => ?_))
            refine (?_ : R (_, _, (.int (Int32.ofInt v31)) :: [], w, 0, 0))
            refine hR (?_ : R (_, _, _, _, _, _))
            refine hR (t_inc ?_)
            refine hR (?_ : R (_, _, _, _, _, _))
            exact ih24 _ _ (by omega) (by omega) (by omega) (by omega)
          refine hR (?_ : R (_, _, _, _, _, _))
          refine hR (zcall_i 0 0 (Nat.le_of_ble_eq_true rfl) (Nat.le_of_ble_eq_true rfl) (c_lengthOf _ _ lf (by omega) _ fun v7 hp9 => ?_))
          refine (?_ : R (_, _, (.int (Int32.ofInt v7)) :: [], w, 0, 0))
          refine hR (?_ : R (_, _, _, _, _, _))
          refine hR (zcall_i 0 0 (Nat.le_of_ble_eq_true rfl) (Nat.le_of_ble_eq_true rfl) (c_lengthOf _ _ be (by omega) _ fun v10 hp12 => ?_))
          refine (?_ : R (_, _, (.int (Int32.ofInt v10)) :: (.int (Int32.ofInt v7)) :: [], w, 0, 0))
          refine hR (t_sub ?_)
          iterate 2 refine hR (?_ : R (_, _, _, _, _, _))
          refine hR (k_gt (by omega) (fun hc13 => ?_) (fun hc13 => ?_))
          · skip
            iterate 2 refine hR (?_ : R (_, _, _, _, _, _))
            refine hR (zcall_i 0 0 (Nat.le_of_ble_eq_true rfl) (Nat.le_of_ble_eq_true rfl) (c_isLeftOf _ _ lf a2 (by omega) (by omega) _ fun v14 hp16 => ?_))
            refine (?_ : R (_, _, (.int (Int32.ofInt v14)) :: [], w, 0, 0))
            refine hR (k_eq (by omega) (fun hc17 => ?_) (fun hc17 => ?_))
            · skip
              refine hR (t_inc ?_)
              refine hR (?_ : R (_, _, _, _, _, _))
              exact ih10 _ _ _ _ (by rfl) (by rfl) (by omega) (by omega) (by omega)
            iterate 2 refine hR (?_ : R (_, _, _, _, _, _))
            refine hR (t_inc ?_)
            refine hR (?_ : R (_, _, _, _, _, _))
            exact ih10 _ _ _ _ (by rfl) (by rfl) (by omega) (by omega) (by omega)
          refine hR (?_ : R (_, _, _, _, _, _))
          refine hR (k_ne (by omega) (fun hc18 => ?_) (fun hc18 => ?_))
          · skip
            refine hR (t_inc ?_)
            refine hR (?_ : R (_, _, _, _, _, _))
            exact ih10 _ _ _ _ (by rfl) (by rfl) (by omega) (by omega) (by omega)
          iterate 2 refine hR (?_ : R (_, _, _, _, _, _))
          refine hR (j_ge (by omega) (by omega) (fun hc19 => ?_) (fun hc19 => ?_))
          · skip
            refine hR (t_inc ?_)
            refine hR (?_ : R (_, _, _, _, _, _))
            exact ih10 _ _ _ _ (by rfl) (by rfl) (by omega) (by omega) (by omega)
          iterate 2 refine hR (?_ : R (_, _, _, _, _, _))
          refine hR (zcall_i 0 0 (Nat.le_of_ble_eq_true rfl) (Nat.le_of_ble_eq_true rfl) (c_isLeftOf _ _ lf a2 (by omega) (by omega) _ fun v20 hp22 => ?_))
          refine (?_ : R (_, _, (.int (Int32.ofInt v20)) :: [], w, 0, 0))
          refine hR (k_eq (by omega) (fun hc23 => ?_) (fun hc23 => ?_))
          · skip
            refine hR (t_inc ?_)
            refine hR (?_ : R (_, _, _, _, _, _))
            exact ih10 _ _ _ _ (by rfl) (by rfl) (by omega) (by omega) (by omega)
          iterate 2 refine hR (?_ : R (_, _, _, _, _, _))
          refine hR (t_inc ?_)
          refine hR (?_ : R (_, _, _, _, _, _))
          exact ih10 _ _ _ _ (by rfl) (by rfl) (by omega) (by omega) (by omega)
      exact lp24 400000000 _ _ (by omega) (by omega) (by omega) (by omega)
  exact lp10 400000000 _ _ _ _ (by rfl) (by rfl) (by omega) (by omega) (by omega)
theorem c_takeUp {ρ : Nat → Nat} {w : zW} (d : Nat) (p b : Nat) (hw : CI ρ w) (hρp : ρ p = 50) (hρb : ρ b = 20) (Q : zQ) (h : ∀ (w' : zW), CI ρ w' → wfR [50, 51] ρ w w' → nn w' p → Q (none) w') : zCl zTab (d + 2) iX4_takeUp [.ref p, .ref b] w 0 0 Q := by
  refine zCl_i (M := kX4_takeUp) rfl (Nat.le_of_ble_eq_true rfl) fun R hR => ?_
  have fr0 := wfR_rf [50, 51] ρ w
  refine hR (?_ : R (_, _, _, _, _, _))
  obtain ⟨y0_1, z2_1, z3_1, hO1, hk1_0, hk1_1, hk1_2, hk1_3, hk1_4⟩ := CI_o50 hw hρp
  refine hR (c_get hO1 rfl ?_)
  cases y0_1 with
  | none =>
    refine hR (?_ : R (_, _, _, _, _, _))
    refine hR (And.intro (fun hc => by exact nomatch hc) (fun _ => ?_))
    iterate 2 refine hR (?_ : R (_, _, _, _, _, _))
    refine hR (c_put hO1 rfl rfl fun w3 f3 hO3 => ?_)
    have hw3 := CI_w50 hw hρp f3 (y0 := some b) hO3 ⟨(fun z h => by cases h; exact hρb), hk1_1, hk1_2, hk1_3, (by first | assumption | exact Ne.symm (by assumption))⟩
    have fr4 := wfR_st fr0 f3 (by rw [hρp]; decide)
    have hn5 := nn_of hO3
    refine hR (?_ : R (_, _, _, _, _, _))
    refine hR (c_get hO3 rfl ?_)
    refine hR (?_ : R (_, _, _, _, _, _))
    refine hR (zcall_i 0 0 (Nat.le_of_ble_eq_true rfl) (Nat.le_of_ble_eq_true rfl) (c_fill _ (p + 1) 27305 ((-1)) (-1) 5460 hw3 (by rw [hk1_1]; rfl) ⟨by rw [hk1_1]; decide, by rw [hk1_1]; decide⟩ (by omega) (by omega) (by omega) _ fun w6 hw6 f6 hg6 => ?_))
    refine (?_ : R (_, _, [], w6, 0, 0))
    have fr7 := wfR_st fr4 f6 (by rw [hk1_1]; decide)
    have hn8 := nn_eq (f6.2 p (rne hρp hk1_1 (by decide))) hn5
    have hO9 := (f6.2 p (rne hρp hk1_1 (by decide))).trans hO3
    exact hR (zret_i rfl (Nat.le_refl _) rfl (h _ hw6 fr7 hn8))
  | some z2 =>
    have hz2 : ρ z2 = 20 := hk1_0 z2 rfl
    refine hR (?_ : R (_, _, _, _, _, _))
    refine hR (j_any ?_ ?_)
    · skip
      exact hR (zret_i rfl (Nat.le_refl _) rfl (h _ hw fr0 (nn_of hO1)))
    iterate 2 refine hR (?_ : R (_, _, _, _, _, _))
    refine hR (c_put hO1 rfl rfl fun w10 f10 hO10 => ?_)
    have hw10 := CI_w50 hw hρp f10 (y0 := some b) hO10 ⟨(fun z h => by cases h; exact hρb), hk1_1, hk1_2, hk1_3, (by first | assumption | exact Ne.symm (by assumption))⟩
    have fr11 := wfR_st fr0 f10 (by rw [hρp]; decide)
    have hn12 := nn_of hO10
    refine hR (?_ : R (_, _, _, _, _, _))
    refine hR (c_get hO10 rfl ?_)
    refine hR (?_ : R (_, _, _, _, _, _))
    refine hR (zcall_i 0 0 (Nat.le_of_ble_eq_true rfl) (Nat.le_of_ble_eq_true rfl) (c_fill _ (p + 1) 27305 ((-1)) (-1) 5460 hw10 (by rw [hk1_1]; rfl) ⟨by rw [hk1_1]; decide, by rw [hk1_1]; decide⟩ (by omega) (by omega) (by omega) _ fun w13 hw13 f13 hg13 => ?_))
    refine (?_ : R (_, _, [], w13, 0, 0))
    have fr14 := wfR_st fr11 f13 (by rw [hk1_1]; decide)
    have hn15 := nn_eq (f13.2 p (rne hρp hk1_1 (by decide))) hn12
    have hO16 := (f13.2 p (rne hρp hk1_1 (by decide))).trans hO10
    exact hR (zret_i rfl (Nat.le_refl _) rfl (h _ hw13 fr14 hn15))
theorem c_all {ρ : Nat → Nat} {w : zW} (d : Nat) (p : Nat) (hw : CI ρ w) (hρp : ρ p = 50) (hnp : nn w p) (Q : zQ) (h : ∀ (v : Int), (0 ≤ v ∧ v ≤ 31) → Q (some (.int (Int32.ofInt v))) w) : zCl zTab (d + 1) iX4_all [.ref p] w 0 0 Q := by
  refine zCl_i (M := kX4_all) rfl (Nat.le_of_ble_eq_true rfl) fun R hR => ?_
  have fr0 := wfR_rf [] ρ w
  iterate 2 refine hR (?_ : R (_, _, _, _, _, _))
  obtain ⟨y0_1, z2_1, z3_1, hO1, hk1_0, hk1_1, hk1_2, hk1_3, hk1_4⟩ := CI_o50 hw hρp
  refine hR (c_get hO1 rfl ?_)
  obtain ⟨z2, rfl⟩ := nn_some hnp hO1
  have hz2 : ρ z2 = 20 := hk1_0 z2 rfl
  obtain ⟨x0_3, x1_3, x2_3, hO3, hk3_0, hk3_1, hk3_2, hk3_3, hk3_4, hk3_5, hk3_6⟩ := CI_o20 hw hz2
  refine hR (c_get hO3 rfl ?_)
  obtain ⟨v4, lv4, uv4, qv4⟩ := zshl_r (e := x1_3) (by omega) (by omega)
  refine hR (t_c v4 qv4 ?_)
  refine hR (?_ : R (_, _, _, _, _, _))
  refine hR (t_sub ?_)
  exact hR (zret_i rfl (Nat.le_refl _) trivial (h _ (by omega)))
theorem c_isChanged {ρ : Nat → Nat} {w : zW} (d : Nat) (p : Nat) (a1 a2 : Int) (hw : CI ρ w) (hρp : ρ p = 50) (hnp : nn w p) (hr0 : 0 ≤ a1 ∧ a1 ≤ 5460) (hr1 : -2147483648 ≤ a2 ∧ a2 ≤ 2147483647) (Q : zQ) (h : ∀ (v : Int) (w' : zW), CI ρ w' → wfR [51] ρ w w' → (v = 0 ∨ v = 1) → Q (some (.int (Int32.ofInt v))) w') : zCl zTab (d + 5) iX4_isChanged [.ref p, .int (Int32.ofInt a1), .int (Int32.ofInt a2)] w 0 0 Q := by
  refine zCl_i (M := kX4_isChanged) rfl (Nat.le_of_ble_eq_true rfl) fun R hR => ?_
  have fr0 := wfR_rf [51] ρ w
  iterate 2 refine hR (?_ : R (_, _, _, _, _, _))
  have lp2 : ∀ (N : Nat) (r : Int) (w_2 : zW), (CI ρ w_2) → (wfR [51] ρ w w_2) → (nn w_2 p) → (0 ≤ r ∧ r ≤ 5) → (6 - r < N) → R (2, [some (.ref p), some (.int (Int32.ofInt a1)), some (.int (Int32.ofInt a2)), some (.int (Int32.ofInt r))], [], w_2, 0, 0) := by
    intro N
    induction N with
    | zero => intros; omega
    | succ N ih2 =>
      intro r w_2 hw_2 fr_2 hnp_2 hf0_2 hN2
      iterate 2 refine hR (?_ : R (_, _, _, _, _, _))
      obtain ⟨y0_1, z2_1, z3_1, hO1, hk1_0, hk1_1, hk1_2, hk1_3, hk1_4⟩ := CI_o50 hw_2 hρp
      refine hR (c_get hO1 rfl ?_)
      obtain ⟨z2, rfl⟩ := nn_some hnp_2 hO1
      have hz2 : ρ z2 = 20 := hk1_0 z2 rfl
      obtain ⟨x0_3, x1_3, x2_3, hO3, hk3_0, hk3_1, hk3_2, hk3_3, hk3_4, hk3_5, hk3_6⟩ := CI_o20 hw_2 hz2
      refine hR (c_get hO3 rfl ?_)
      refine hR (j_ge (by omega) (by omega) (fun hc4 => ?_) (fun hc4 => ?_))
      · skip
        refine hR (?_ : R (_, _, _, _, _, _))
        exact hR (zret_i rfl (Nat.le_refl _) (zbo (by omega)) (h _ _ hw_2 fr_2 (by omega)))
      iterate 2 refine hR (?_ : R (_, _, _, _, _, _))
      refine hR (zcall_i 0 0 (Nat.le_of_ble_eq_true rfl) (Nat.le_of_ble_eq_true rfl) (c_isIn _ _ a2 r _ fun v5 hp7 => ?_))
      refine (?_ : R (_, _, (.int (Int32.ofInt v5)) :: [], w_2, 0, 0))
      refine hR (k_eq (by omega) (fun hc8 => ?_) (fun hc8 => ?_))
      · skip
        refine hR (t_inc ?_)
        refine hR (?_ : R (_, _, _, _, _, _))
        exact ih2 _ _ hw_2 fr_2 hnp_2 (by omega) (by omega)
      iterate 3 refine hR (?_ : R (_, _, _, _, _, _))
      refine hR (c_obj hO1 (zcall_i 0 0 (Nat.le_of_ble_eq_true rfl) (Nat.le_of_ble_eq_true rfl) (c_after _ p r a1 hw_2 hρp hnp_2 (by omega) (by omega) _ fun v9 w10 hw10 g10 hp11 => ?_)))
      have fr12 := wfR_tr fr_2 g10 (by decide)
      have hn13 := nn_eq (g10.2 p (by rw [hρp]; decide)) hnp_2
      have hO14 := (g10.2 p (by rw [hρp]; decide)).trans hO1
      have hO15 := (g10.2 z2 (by rw [hz2]; decide)).trans hO3
      refine (?_ : R (_, _, (.int (Int32.ofInt v9)) :: [], w10, 0, 0))
      refine hR (?_ : R (_, _, _, _, _, _))
      refine hR (j_eq (by omega) (by omega) (fun hc16 => ?_) (fun hc16 => ?_))
      rotate_left
      · skip
        refine hR (?_ : R (_, _, _, _, _, _))
        exact hR (zret_i rfl (Nat.le_refl _) (zbo (by omega)) (h _ _ hw10 fr12 (by omega)))
      refine hR (t_inc ?_)
      refine hR (?_ : R (_, _, _, _, _, _))
      exact ih2 _ _ hw10 fr12 hn13 (by omega) (by omega)
  exact lp2 400000000 _ _ hw fr0 hnp (by omega) (by omega)
theorem c_unchangedBy {ρ : Nat → Nat} {w : zW} (d : Nat) (p : Nat) (a1 : Int) (hw : CI ρ w) (hρp : ρ p = 50) (hnp : nn w p) (hr0 : -2147483648 ≤ a1 ∧ a1 ≤ 2147483647) (Q : zQ) (h : ∀ (v : Int) (w' : zW), CI ρ w' → wfR [51] ρ w w' → Q (some (.int (Int32.ofInt v))) w') : zCl zTab (d + 6) iX4_unchangedBy [.ref p, .int (Int32.ofInt a1)] w 0 0 Q := by
  refine zCl_i (M := kX4_unchangedBy) rfl (Nat.le_of_ble_eq_true rfl) fun R hR => ?_
  have fr0 := wfR_rf [51] ρ w
  iterate 4 refine hR (?_ : R (_, _, _, _, _, _))
  have lp4 : ∀ (N : Nat) (n : Int) (t : Int) (w_4 : zW), (CI ρ w_4) → (wfR [51] ρ w w_4) → (nn w_4 p) → (0 ≤ n ∧ n ≤ 5461) → (0 ≤ t ∧ t ≤ 5461) → (n ≤ t) → (5462 - t < N) → R (4, [some (.ref p), some (.int (Int32.ofInt a1)), some (.int (Int32.ofInt n)), some (.int (Int32.ofInt t))], [], w_4, 0, 0) := by
    intro N
    induction N with
    | zero => intros; omega
    | succ N ih4 =>
      intro n t w_4 hw_4 fr_4 hnp_4 hf0_4 hf1_4 hp0_4 hN4
      refine hR (?_ : R (_, _, _, _, _, _))
      refine hR (t_c 5461 (by decide) ?_)
      refine hR (j_ge (by omega) (by omega) (fun hc1 => ?_) (fun hc1 => ?_))
      · skip
        refine hR (?_ : R (_, _, _, _, _, _))
        exact hR (zret_i rfl (Nat.le_refl _) trivial (h _ _ hw_4 fr_4))
      iterate 3 refine hR (?_ : R (_, _, _, _, _, _))
      obtain ⟨y0_5, z2_5, z3_5, hO5, hk5_0, hk5_1, hk5_2, hk5_3, hk5_4⟩ := CI_o50 hw_4 hρp
      refine hR (c_obj hO5 (zcall_i 0 0 (Nat.le_of_ble_eq_true rfl) (Nat.le_of_ble_eq_true rfl) (c_isChanged _ p t a1 hw_4 hρp hnp_4 (by omega) (by omega) _ fun v2 w3 hw3 g3 hp4 => ?_)))
      have fr6 := wfR_tr fr_4 g3 (by decide)
      have hn7 := nn_eq (g3.2 p (by rw [hρp]; decide)) hnp_4
      have hO8 := (g3.2 p (by rw [hρp]; decide)).trans hO5
      refine (?_ : R (_, _, (.int (Int32.ofInt v2)) :: [], w3, 0, 0))
      refine hR (k_ne (by omega) (fun hc9 => ?_) (fun hc9 => ?_))
      · skip
        refine hR (t_inc ?_)
        refine hR (?_ : R (_, _, _, _, _, _))
        exact ih4 _ _ _ hw3 fr6 hn7 (by omega) (by omega) (by omega) (by omega)
      refine hR (t_inc ?_)
      refine hR (t_inc ?_)
      refine hR (?_ : R (_, _, _, _, _, _))
      exact ih4 _ _ _ hw3 fr6 hn7 (by omega) (by omega) (by omega) (by omega)
  exact lp4 400000000 _ _ _ hw fr0 hnp (by omega) (by omega) (by omega) (by omega)
theorem c_alikeEitherWay {ρ : Nat → Nat} {w : zW} (d : Nat) (p : Nat) (a1 a2 : Int) (hw : CI ρ w) (hρp : ρ p = 50) (hnp : nn w p) (hr0 : 0 ≤ a1 ∧ a1 ≤ 4) (hr1 : 0 ≤ a2 ∧ a2 ≤ 4) (Q : zQ) (h : ∀ (v : Int) (w' : zW), CI ρ w' → wfR [51] ρ w w' → Q (some (.int (Int32.ofInt v))) w') : zCl zTab (d + 5) iX4_alikeEitherWay [.ref p, .int (Int32.ofInt a1), .int (Int32.ofInt a2)] w 0 0 Q := by
  refine zCl_i (M := kX4_alikeEitherWay) rfl (Nat.le_of_ble_eq_true rfl) fun R hR => ?_
  have fr0 := wfR_rf [51] ρ w
  iterate 4 refine hR (?_ : R (_, _, _, _, _, _))
  have lp5 : ∀ (N : Nat) (n : Int) (t : Int) (w_5 : zW), (CI ρ w_5) → (wfR [51] ρ w w_5) → (nn w_5 p) → (0 ≤ n ∧ n ≤ 5461) → (0 ≤ t ∧ t ≤ 5461) → (n ≤ t) → (5462 - t < N) → R (5, [some (.ref p), some (.int (Int32.ofInt a1)), some (.int (Int32.ofInt a2)), some (.int (Int32.ofInt n)), some (.int (Int32.ofInt t))], [], w_5, 0, 0) := by
    intro N
    induction N with
    | zero => intros; omega
    | succ N ih5 =>
      intro n t w_5 hw_5 fr_5 hnp_5 hf0_5 hf1_5 hp0_5 hN5
      refine hR (?_ : R (_, _, _, _, _, _))
      refine hR (t_c 5461 (by decide) ?_)
      refine hR (j_ge (by omega) (by omega) (fun hc1 => ?_) (fun hc1 => ?_))
      · skip
        refine hR (?_ : R (_, _, _, _, _, _))
        exact hR (zret_i rfl (Nat.le_refl _) trivial (h _ _ hw_5 fr_5))
      iterate 5 refine hR (?_ : R (_, _, _, _, _, _))
      obtain ⟨y0_5, z2_5, z3_5, hO5, hk5_0, hk5_1, hk5_2, hk5_3, hk5_4⟩ := CI_o50 hw_5 hρp
      refine hR (c_obj hO5 (zcall_i 0 0 (Nat.le_of_ble_eq_true rfl) (Nat.le_of_ble_eq_true rfl) (c_after _ p a1 t hw_5 hρp hnp_5 (by omega) (by omega) _ fun v2 w3 hw3 g3 hp4 => ?_)))
      have fr6 := wfR_tr fr_5 g3 (by decide)
      have hn7 := nn_eq (g3.2 p (by rw [hρp]; decide)) hnp_5
      have hO8 := (g3.2 p (by rw [hρp]; decide)).trans hO5
      refine (?_ : R (_, _, (.int (Int32.ofInt v2)) :: (.int (Int32.ofInt a2)) :: (.ref p) :: [], w3, 0, 0))
      refine hR (c_obj hO8 (zcall_i 0 0 (Nat.le_of_ble_eq_true rfl) (Nat.le_of_ble_eq_true rfl) (c_after _ p a2 v2 hw3 hρp hn7 (by omega) (by omega) _ fun v9 w10 hw10 g10 hp11 => ?_)))
      have fr12 := wfR_tr fr6 g10 (by decide)
      have hn13 := nn_eq (g10.2 p (by rw [hρp]; decide)) hn7
      have hO14 := (g10.2 p (by rw [hρp]; decide)).trans hO8
      refine (?_ : R (_, _, (.int (Int32.ofInt v9)) :: [], w10, 0, 0))
      iterate 5 refine hR (?_ : R (_, _, _, _, _, _))
      refine hR (c_obj hO14 (zcall_i 0 0 (Nat.le_of_ble_eq_true rfl) (Nat.le_of_ble_eq_true rfl) (c_after _ p a2 t hw10 hρp hn13 (by omega) (by omega) _ fun v15 w16 hw16 g16 hp17 => ?_)))
      have fr18 := wfR_tr fr12 g16 (by decide)
      have hn19 := nn_eq (g16.2 p (by rw [hρp]; decide)) hn13
      have hO20 := (g16.2 p (by rw [hρp]; decide)).trans hO14
      refine (?_ : R (_, _, (.int (Int32.ofInt v15)) :: (.int (Int32.ofInt a1)) :: (.ref p) :: (.int (Int32.ofInt v9)) :: [], w16, 0, 0))
      refine hR (c_obj hO20 (zcall_i 0 0 (Nat.le_of_ble_eq_true rfl) (Nat.le_of_ble_eq_true rfl) (c_after _ p a1 v15 hw16 hρp hn19 (by omega) (by omega) _ fun v21 w22 hw22 g22 hp23 => ?_)))
      have fr24 := wfR_tr fr18 g22 (by decide)
      have hn25 := nn_eq (g22.2 p (by rw [hρp]; decide)) hn19
      have hO26 := (g22.2 p (by rw [hρp]; decide)).trans hO20
      refine (?_ : R (_, _, (.int (Int32.ofInt v21)) :: (.int (Int32.ofInt v9)) :: [], w22, 0, 0))
      refine hR (j_ne (by omega) (by omega) (fun hc27 => ?_) (fun hc27 => ?_))
      · skip
        refine hR (t_inc ?_)
        refine hR (?_ : R (_, _, _, _, _, _))
        exact ih5 _ _ _ hw22 fr24 hn25 (by omega) (by omega) (by omega) (by omega)
      refine hR (t_inc ?_)
      refine hR (t_inc ?_)
      refine hR (?_ : R (_, _, _, _, _, _))
      exact ih5 _ _ _ hw22 fr24 hn25 (by omega) (by omega) (by omega) (by omega)
  exact lp5 400000000 _ _ _ hw fr0 hnp (by omega) (by omega) (by omega) (by omega)
theorem c_comesToMarked {ρ : Nat → Nat} {w : zW} (d : Nat) (p : Nat) (a1 : Int) (hw : CI ρ w) (hρp : ρ p = 50) (hnp : nn w p) (hr0 : 0 ≤ a1 ∧ a1 ≤ 5460) (Q : zQ) (h : ∀ (v : Int) (w' : zW), CI ρ w' → wfR [51] ρ w w' → (v = 0 ∨ v = 1) → Q (some (.int (Int32.ofInt v))) w') : zCl zTab (d + 5) iX4_comesToMarked [.ref p, .int (Int32.ofInt a1)] w 0 0 Q := by
  refine zCl_i (M := kX4_comesToMarked) rfl (Nat.le_of_ble_eq_true rfl) fun R hR => ?_
  have fr0 := wfR_rf [51] ρ w
  iterate 2 refine hR (?_ : R (_, _, _, _, _, _))
  have lp2 : ∀ (N : Nat) (r : Int) (w_2 : zW), (CI ρ w_2) → (wfR [51] ρ w w_2) → (nn w_2 p) → (0 ≤ r ∧ r ≤ 5) → (6 - r < N) → R (2, [some (.ref p), some (.int (Int32.ofInt a1)), some (.int (Int32.ofInt r))], [], w_2, 0, 0) := by
    intro N
    induction N with
    | zero => intros; omega
    | succ N ih2 =>
      intro r w_2 hw_2 fr_2 hnp_2 hf0_2 hN2
      iterate 2 refine hR (?_ : R (_, _, _, _, _, _))
      obtain ⟨y0_1, z2_1, z3_1, hO1, hk1_0, hk1_1, hk1_2, hk1_3, hk1_4⟩ := CI_o50 hw_2 hρp
      refine hR (c_get hO1 rfl ?_)
      obtain ⟨z2, rfl⟩ := nn_some hnp_2 hO1
      have hz2 : ρ z2 = 20 := hk1_0 z2 rfl
      obtain ⟨x0_3, x1_3, x2_3, hO3, hk3_0, hk3_1, hk3_2, hk3_3, hk3_4, hk3_5, hk3_6⟩ := CI_o20 hw_2 hz2
      refine hR (c_get hO3 rfl ?_)
      refine hR (j_ge (by omega) (by omega) (fun hc4 => ?_) (fun hc4 => ?_))
      · skip
        refine hR (?_ : R (_, _, _, _, _, _))
        exact hR (zret_i rfl (Nat.le_refl _) (zbo (by omega)) (h _ _ hw_2 fr_2 (by omega)))
      refine hR (?_ : R (_, _, _, _, _, _))
      refine hR (c_get hO1 rfl ?_)
      iterate 3 refine hR (?_ : R (_, _, _, _, _, _))
      refine hR (c_obj hO1 (zcall_i 0 0 (Nat.le_of_ble_eq_true rfl) (Nat.le_of_ble_eq_true rfl) (c_after _ p r a1 hw_2 hρp hnp_2 (by omega) (by omega) _ fun v5 w6 hw6 g6 hp7 => ?_)))
      have fr8 := wfR_tr fr_2 g6 (by decide)
      have hn9 := nn_eq (g6.2 p (by rw [hρp]; decide)) hnp_2
      have hO10 := (g6.2 p (by rw [hρp]; decide)).trans hO1
      have hO11 := (g6.2 z2 (by rw [hz2]; decide)).trans hO3
      refine (?_ : R (_, _, (.int (Int32.ofInt v5)) :: (.ref z2_1) :: [], w6, 0, 0))
      refine hR (c_bld hw6 (by rw [hk1_2]; rfl) (by omega) (by omega) (Nat.le_of_ble_eq_true rfl) fun v12 rv12 => ?_)
      refine hR (j_any ?_ ?_)
      rotate_left
      · skip
        refine hR (?_ : R (_, _, _, _, _, _))
        exact hR (zret_i rfl (Nat.le_refl _) (zbo (by omega)) (h _ _ hw6 fr8 (by omega)))
      refine hR (t_inc ?_)
      refine hR (?_ : R (_, _, _, _, _, _))
      exact ih2 _ _ hw6 fr8 hn9 (by omega) (by omega)
  exact lp2 400000000 _ _ hw fr0 hnp (by omega) (by omega)
theorem c_goBack {ρ : Nat → Nat} {w : zW} (d : Nat) (p : Nat) (a1 a2 : Int) (hw : CI ρ w) (hρp : ρ p = 50) (hnp : nn w p) (hr0 : 0 ≤ a1 ∧ a1 ≤ 5460) (hr1 : 0 ≤ a2 ∧ a2 ≤ 9) (Q : zQ) (h : ∀ (w' : zW), CI ρ w' → wfR [50, 51, 52] ρ w w' → nn w' p → Q (none) w') : zCl zTab (d + 6) iX4_goBack [.ref p, .int (Int32.ofInt a1), .int (Int32.ofInt a2)] w 0 0 Q := by
  refine zCl_i (M := kX4_goBack) rfl (Nat.le_of_ble_eq_true rfl) fun R hR => ?_
  have fr0 := wfR_rf [50, 51, 52] ρ w
  refine hR (?_ : R (_, _, _, _, _, _))
  obtain ⟨y0_1, z2_1, z3_1, hO1, hk1_0, hk1_1, hk1_2, hk1_3, hk1_4⟩ := CI_o50 hw hρp
  refine hR (c_get hO1 rfl ?_)
  refine hR (?_ : R (_, _, _, _, _, _))
  refine hR (zcall_i 0 0 (Nat.le_of_ble_eq_true rfl) (Nat.le_of_ble_eq_true rfl) (c_fillb _ z2_1 5461 0 hw (by rw [hk1_2]; rfl) ⟨by rw [hk1_2]; decide, by rw [hk1_2]; decide⟩ (by omega) _ fun w2 hw2 f2 => ?_))
  refine (?_ : R (_, _, [], w2, 0, 0))
  have fr3 := wfR_st fr0 f2 (by rw [hk1_2]; decide)
  have hn4 := nn_eq (f2.2 p (rne hρp hk1_2 (by decide))) hnp
  have hO5 := (f2.2 p (rne hρp hk1_2 (by decide))).trans hO1
  refine hR (?_ : R (_, _, _, _, _, _))
  refine hR (c_get hO5 rfl ?_)
  iterate 2 refine hR (?_ : R (_, _, _, _, _, _))
  refine hR (c_bst hw2 (by rw [hk1_2]; rfl) ⟨by rw [hk1_2]; decide, by rw [hk1_2]; decide⟩ (by omega) (by omega) (Nat.le_of_ble_eq_true rfl) fun w6 hw6 f6 => ?_)
  have fr7 := wfR_st fr3 f6 (by rw [hk1_2]; decide)
  have hn8 := nn_eq (f6.2 p (rne hρp hk1_2 (by decide))) hn4
  have hO9 := (f6.2 p (rne hρp hk1_2 (by decide))).trans hO5
  iterate 2 refine hR (?_ : R (_, _, _, _, _, _))
  have lp17 : ∀ (N : Nat) (i : Int) (o4_17 : Option Value) (w_17 : zW), (zc2 o4_17 = false) → (CI ρ w_17) → (wfR [50, 51, 52] ρ w w_17) → (nn w_17 p) → (0 ≤ i ∧ i ≤ 9) → (10 - i < N) → R (17, [some (.ref p), some (.int (Int32.ofInt a1)), some (.int (Int32.ofInt a2)), some (.int (Int32.ofInt i)), o4_17], [], w_17, 0, 0) := by
    intro N
    induction N with
    | zero => intros; omega
    | succ N ih17 =>
      intro i o4_17 w_17 hzo4_17 hw_17 fr_17 hnp_17 hf0_17 hN17
      iterate 2 refine hR (?_ : R (_, _, _, _, _, _))
      refine hR (j_ge (by omega) (by omega) (fun hc10 => ?_) (fun hc10 => ?_))
      · skip
        exact hR (zret_i rfl (Nat.le_refl _) rfl (h _ hw_17 fr_17 hnp_17))
      iterate 2 refine hR (?_ : R (_, _, _, _, _, _))
      have lp25 : ∀ (N : Nat) (t : Int) (w_25 : zW), (CI ρ w_25) → (wfR [50, 51, 52] ρ w w_25) → (nn w_25 p) → (0 ≤ t ∧ t ≤ 5461) → (5462 - t < N) → R (25, [some (.ref p), some (.int (Int32.ofInt a1)), some (.int (Int32.ofInt a2)), some (.int (Int32.ofInt i)), some (.int (Int32.ofInt t))], [], w_25, 0, 0) := by
        intro N
        induction N with
        | zero => intros; omega
        | succ N ih25 =>
          intro t w_25 hw_25 fr_25 hnp_25 hf0_25 hN25
          refine hR (?_ : R (_, _, _, _, _, _))
          refine hR (t_c 5461 (by decide) ?_)
          refine hR (j_ge (by omega) (by omega) (fun hc11 => ?_) (fun hc11 => ?_))
          · skip
            refine hR (?_ : R (_, _, _, _, _, _))
            obtain ⟨y0_12, z2_12, z3_12, hO12, hk12_0, hk12_1, hk12_2, hk12_3, hk12_4⟩ := CI_o50 hw_25 hρp
            refine hR (c_get hO12 rfl ?_)
            iterate 3 refine hR (?_ : R (_, _, _, _, _, _))
            refine hR (c_get hO12 rfl ?_)
            obtain ⟨z13, rfl⟩ := nn_some hnp_25 hO12
            have hz13 : ρ z13 = 20 := hk12_0 z13 rfl
            refine hR (c_put hO12 rfl rfl fun w14 f14 hO14 => ?_)
            have fr15 := wfR_st fr_25 f14 (by rw [hρp]; decide)
            have hn16 := nn_of hO14
            iterate 2 refine hR (?_ : R (_, _, _, _, _, _))
            refine hR (c_put hO14 rfl rfl fun w17 f17 hO17 => ?_)
            have hw17 := CI_w50 hw_25 hρp (wfr_tr f14 f17) (y0 := some z13) hO17 ⟨(fun z h => by cases h; exact hz13), hk12_1, hk12_3, hk12_2, (by first | assumption | exact Ne.symm (by assumption))⟩
            have fr18 := wfR_st fr15 f17 (by rw [hρp]; decide)
            have hn19 := nn_of hO17
            refine hR (t_inc ?_)
            refine hR (?_ : R (_, _, _, _, _, _))
            exact ih17 _ _ _ (by rfl) hw17 fr18 hn19 (by omega) (by omega)
          refine hR (?_ : R (_, _, _, _, _, _))
          obtain ⟨y0_20, z2_20, z3_20, hO20, hk20_0, hk20_1, hk20_2, hk20_3, hk20_4⟩ := CI_o50 hw_25 hρp
          refine hR (c_get hO20 rfl ?_)
          iterate 3 refine hR (?_ : R (_, _, _, _, _, _))
          refine hR (c_obj hO20 (zcall_i 0 0 (Nat.le_of_ble_eq_true rfl) (Nat.le_of_ble_eq_true rfl) (c_comesToMarked _ p t hw_25 hρp hnp_25 (by omega) _ fun v21 w22 hw22 g22 hp23 => ?_)))
          have fr24 := wfR_tr fr_25 g22 (by decide)
          have hn25 := nn_eq (g22.2 p (by rw [hρp]; decide)) hnp_25
          have hO26 := (g22.2 p (by rw [hρp]; decide)).trans hO20
          refine (?_ : R (_, _, (.int (Int32.ofInt v21)) :: (.int (Int32.ofInt t)) :: (.ref z3_20) :: [], w22, 0, 0))
          refine hR (k_eq (by omega) (fun hc27 => ?_) (fun hc27 => ?_))
          · skip
            refine hR (?_ : R (_, _, _, _, _, _))
            refine hR (c_bst hw22 (by rw [hk20_3]; rfl) ⟨by rw [hk20_3]; decide, by rw [hk20_3]; decide⟩ (by omega) (by omega) (Nat.le_of_ble_eq_true rfl) fun w28 hw28 f28 => ?_)
            have fr29 := wfR_st fr24 f28 (by rw [hk20_3]; decide)
            have hn30 := nn_eq (f28.2 p (rne hρp hk20_3 (by decide))) hn25
            have hO31 := (f28.2 p (rne hρp hk20_3 (by decide))).trans hO26
            refine hR (t_inc ?_)
            refine hR (?_ : R (_, _, _, _, _, _))
            exact ih25 _ _ hw28 fr29 hn30 (by omega) (by omega)
          iterate 2 refine hR (?_ : R (_, _, _, _, _, _))
          refine hR (c_bst hw22 (by rw [hk20_3]; rfl) ⟨by rw [hk20_3]; decide, by rw [hk20_3]; decide⟩ (by omega) (by omega) (Nat.le_of_ble_eq_true rfl) fun w32 hw32 f32 => ?_)
          have fr33 := wfR_st fr24 f32 (by rw [hk20_3]; decide)
          have hn34 := nn_eq (f32.2 p (rne hρp hk20_3 (by decide))) hn25
          have hO35 := (f32.2 p (rne hρp hk20_3 (by decide))).trans hO26
          refine hR (t_inc ?_)
          refine hR (?_ : R (_, _, _, _, _, _))
          exact ih25 _ _ hw32 fr33 hn34 (by omega) (by omega)
      exact lp25 400000000 _ _ hw_17 fr_17 hnp_17 (by omega) (by omega)
  exact lp17 400000000 _ _ _ (by rfl) hw6 fr7 hn8 (by omega) (by omega)
theorem c_markUnmade {ρ : Nat → Nat} {w : zW} (d : Nat) (p : Nat) (hw : CI ρ w) (hρp : ρ p = 50) (hnp : nn w p) (Q : zQ) (h : ∀ (w' : zW), CI ρ w' → wfR [51, 52] ρ w w' → Q (none) w') : zCl zTab (d + 5) iX4_markUnmade [.ref p] w 0 0 Q := by
  refine zCl_i (M := kX4_markUnmade) rfl (Nat.le_of_ble_eq_true rfl) fun R hR => ?_
  have fr0 := wfR_rf [51, 52] ρ w
  refine hR (?_ : R (_, _, _, _, _, _))
  obtain ⟨y0_1, z2_1, z3_1, hO1, hk1_0, hk1_1, hk1_2, hk1_3, hk1_4⟩ := CI_o50 hw hρp
  refine hR (c_get hO1 rfl ?_)
  refine hR (?_ : R (_, _, _, _, _, _))
  refine hR (zcall_i 0 0 (Nat.le_of_ble_eq_true rfl) (Nat.le_of_ble_eq_true rfl) (c_fillb _ z2_1 5461 1 hw (by rw [hk1_2]; rfl) ⟨by rw [hk1_2]; decide, by rw [hk1_2]; decide⟩ (by omega) _ fun w2 hw2 f2 => ?_))
  refine (?_ : R (_, _, [], w2, 0, 0))
  have fr3 := wfR_st fr0 f2 (by rw [hk1_2]; decide)
  have hn4 := nn_eq (f2.2 p (rne hρp hk1_2 (by decide))) hnp
  have hO5 := (f2.2 p (rne hρp hk1_2 (by decide))).trans hO1
  iterate 2 refine hR (?_ : R (_, _, _, _, _, _))
  have lp10 : ∀ (N : Nat) (r : Int) (o2_10 : Option Value) (w_10 : zW), (zc2 o2_10 = false) → (CI ρ w_10) → (wfR [51, 52] ρ w w_10) → (zix w_10 p = some (.inr (3, [va_rf y0_1, .ref (p + 1), .ref z2_1, .ref z3_1]))) → (nn w_10 p) → (0 ≤ r ∧ r ≤ 5) → (6 - r < N) → R (10, [some (.ref p), some (.int (Int32.ofInt r)), o2_10], [], w_10, 0, 0) := by
    intro N
    induction N with
    | zero => intros; omega
    | succ N ih10 =>
      intro r o2_10 w_10 hzo2_10 hw_10 fr_10 hOp_10 hnp_10 hf0_10 hN10
      iterate 2 refine hR (?_ : R (_, _, _, _, _, _))
      refine hR (c_get hOp_10 rfl ?_)
      obtain ⟨z6, rfl⟩ := nn_some hnp_10 hOp_10
      have hz6 : ρ z6 = 20 := hk1_0 z6 rfl
      obtain ⟨x0_7, x1_7, x2_7, hO7, hk7_0, hk7_1, hk7_2, hk7_3, hk7_4, hk7_5, hk7_6⟩ := CI_o20 hw_10 hz6
      refine hR (c_get hO7 rfl ?_)
      refine hR (j_ge (by omega) (by omega) (fun hc8 => ?_) (fun hc8 => ?_))
      · skip
        exact hR (zret_i rfl (Nat.le_refl _) rfl (h _ hw_10 fr_10))
      iterate 2 refine hR (?_ : R (_, _, _, _, _, _))
      have lp23 : ∀ (N : Nat) (t : Int) (w_23 : zW), (CI ρ w_23) → (wfR [51, 52] ρ w w_23) → (zix w_23 p = some (.inr (3, [.ref z6, .ref (p + 1), .ref z2_1, .ref z3_1]))) → (zix w_23 z6 = some (.inr (0, [.int (Int32.ofInt x0_7), .int (Int32.ofInt x1_7), .int (Int32.ofInt x2_7), .ref (z6 + 1), .ref (z6 + 2), .ref (z6 + 3), .ref (z6 + 4)]))) → (nn w_23 p) → (0 ≤ t ∧ t ≤ 5461) → (5462 - t < N) → R (23, [some (.ref p), some (.int (Int32.ofInt r)), some (.int (Int32.ofInt t))], [], w_23, 0, 0) := by
        intro N
        induction N with
        | zero => intros; omega
        | succ N ih23 =>
          intro t w_23 hw_23 fr_23 hOp_23 hOz6_23 hnp_23 hf0_23 hN23
          refine hR (?_ : R (_, _, _, _, _, _))
          refine hR (t_c 5461 (by decide) ?_)
          refine hR (j_ge (by omega) (by omega) (fun hc9 => ?_) (fun hc9 => ?_))
          · skip
            refine hR (t_inc ?_)
            refine hR (?_ : R (_, _, _, _, _, _))
            exact ih10 _ _ _ (by rfl) hw_23 fr_23 hOp_23 hnp_23 (by omega) (by omega)
          refine hR (?_ : R (_, _, _, _, _, _))
          refine hR (c_get hOp_23 rfl ?_)
          iterate 3 refine hR (?_ : R (_, _, _, _, _, _))
          refine hR (c_obj hOp_23 (zcall_i 0 0 (Nat.le_of_ble_eq_true rfl) (Nat.le_of_ble_eq_true rfl) (c_after _ p r t hw_23 hρp hnp_23 (by omega) (by omega) _ fun v10 w11 hw11 g11 hp12 => ?_)))
          have fr13 := wfR_tr fr_23 g11 (by decide)
          have hn14 := nn_eq (g11.2 p (by rw [hρp]; decide)) hnp_23
          have hO15 := (g11.2 p (by rw [hρp]; decide)).trans hOp_23
          have hO16 := (g11.2 z6 (by rw [hz6]; decide)).trans hOz6_23
          refine (?_ : R (_, _, (.int (Int32.ofInt v10)) :: (.ref z2_1) :: [], w11, 0, 0))
          refine hR (?_ : R (_, _, _, _, _, _))
          refine hR (c_bst hw11 (by rw [hk1_2]; rfl) ⟨by rw [hk1_2]; decide, by rw [hk1_2]; decide⟩ (by omega) (by omega) (Nat.le_of_ble_eq_true rfl) fun w17 hw17 f17 => ?_)
          have fr18 := wfR_st fr13 f17 (by rw [hk1_2]; decide)
          have hn19 := nn_eq (f17.2 p (rne hρp hk1_2 (by decide))) hn14
          have hO20 := (f17.2 p (rne hρp hk1_2 (by decide))).trans hO15
          have hO21 := (f17.2 z6 (rne hz6 hk1_2 (by decide))).trans hO16
          refine hR (t_inc ?_)
          refine hR (?_ : R (_, _, _, _, _, _))
          exact ih23 _ _ hw17 fr18 hO20 hO21 hn19 (by omega) (by omega)
      exact lp23 400000000 _ _ hw_10 fr_10 hOp_10 hO7 hnp_10 (by omega) (by omega)
  exact lp10 400000000 _ _ _ (by rfl) hw2 fr3 hO5 hn4 (by omega) (by omega)
theorem c_marked {ρ : Nat → Nat} {w : zW} (d : Nat) (p : Nat) (hw : CI ρ w) (hρp : ρ p = 50) (Q : zQ) (h : ∀ (v : Int), Q (some (.int (Int32.ofInt v))) w) : zCl zTab (d + 1) iX4_marked [.ref p] w 0 0 Q := by
  refine zCl_i (M := kX4_marked) rfl (Nat.le_of_ble_eq_true rfl) fun R hR => ?_
  have fr0 := wfR_rf [] ρ w
  iterate 4 refine hR (?_ : R (_, _, _, _, _, _))
  have lp4 : ∀ (N : Nat) (n : Int) (t : Int), (0 ≤ t ∧ t ≤ 5461) → (5462 - t < N) → R (4, [some (.ref p), some (.int (Int32.ofInt n)), some (.int (Int32.ofInt t))], [], w, 0, 0) := by
    intro N
    induction N with
    | zero => intros; omega
    | succ N ih4 =>
      intro n t hf0_4 hN4
      refine hR (?_ : R (_, _, _, _, _, _))
      refine hR (t_c 5461 (by decide) ?_)
      refine hR (j_ge (by omega) (by omega) (fun hc1 => ?_) (fun hc1 => ?_))
      · skip
        refine hR (?_ : R (_, _, _, _, _, _))
        exact hR (zret_i rfl (Nat.le_refl _) trivial (h _))
      iterate 2 refine hR (?_ : R (_, _, _, _, _, _))
      obtain ⟨y0_2, z2_2, z3_2, hO2, hk2_0, hk2_1, hk2_2, hk2_3, hk2_4⟩ := CI_o50 hw hρp
      refine hR (c_get hO2 rfl ?_)
      refine hR (?_ : R (_, _, _, _, _, _))
      refine hR (c_bld hw (by rw [hk2_2]; rfl) (by omega) (by omega) (Nat.le_of_ble_eq_true rfl) fun v3 rv3 => ?_)
      refine hR (t_add ?_)
      refine hR (?_ : R (_, _, _, _, _, _))
      refine hR (t_inc ?_)
      refine hR (?_ : R (_, _, _, _, _, _))
      exact ih4 _ _ (by omega) (by omega)
  exact lp4 400000000 _ _ (by omega) (by omega)
theorem c_leastMarked {ρ : Nat → Nat} {w : zW} (d : Nat) (p : Nat) (hw : CI ρ w) (hρp : ρ p = 50) (Q : zQ) (h : ∀ (v : Int), Q (some (.int (Int32.ofInt v))) w) : zCl zTab (d + 1) iX4_leastMarked [.ref p] w 0 0 Q := by
  refine zCl_i (M := kX4_leastMarked) rfl (Nat.le_of_ble_eq_true rfl) fun R hR => ?_
  have fr0 := wfR_rf [] ρ w
  iterate 2 refine hR (?_ : R (_, _, _, _, _, _))
  have lp2 : ∀ (N : Nat) (t : Int), (0 ≤ t ∧ t ≤ 5461) → (5462 - t < N) → R (2, [some (.ref p), some (.int (Int32.ofInt t))], [], w, 0, 0) := by
    intro N
    induction N with
    | zero => intros; omega
    | succ N ih2 =>
      intro t hf0_2 hN2
      refine hR (?_ : R (_, _, _, _, _, _))
      refine hR (t_c 5461 (by decide) ?_)
      refine hR (j_ge (by omega) (by omega) (fun hc1 => ?_) (fun hc1 => ?_))
      · skip
        refine hR (?_ : R (_, _, _, _, _, _))
        exact hR (zret_i rfl (Nat.le_refl _) trivial (h _))
      refine hR (?_ : R (_, _, _, _, _, _))
      obtain ⟨y0_2, z2_2, z3_2, hO2, hk2_0, hk2_1, hk2_2, hk2_3, hk2_4⟩ := CI_o50 hw hρp
      refine hR (c_get hO2 rfl ?_)
      refine hR (?_ : R (_, _, _, _, _, _))
      refine hR (c_bld hw (by rw [hk2_2]; rfl) (by omega) (by omega) (Nat.le_of_ble_eq_true rfl) fun v3 rv3 => ?_)
      refine hR (j_any ?_ ?_)
      rotate_left
      · skip
        refine hR (?_ : R (_, _, _, _, _, _))
        exact hR (zret_i rfl (Nat.le_refl _) trivial (h _))
      refine hR (t_inc ?_)
      refine hR (?_ : R (_, _, _, _, _, _))
      exact ih2 _ (by omega) (by omega)
  exact lp2 400000000 _ (by omega) (by omega)
