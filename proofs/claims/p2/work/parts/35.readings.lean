/-- the object's first field is not null -/
def nn (w : zW) (p : Nat) : Prop := ∀ ci fs, zix w p = some (.inr (ci, .null :: fs)) → False
theorem nn_some {w : zW} {p ci : Nat} {y : Option Nat} {fs : List Value} (h : nn w p) (hO : zix w p = some (.inr (ci, va_rf y :: fs))) : ∃ z, y = some z := by
  cases y with
  | none => exact (h _ _ hO).elim
  | some z => exact ⟨z, rfl⟩
theorem nn_of {w : zW} {p ci z : Nat} {fs : List Value} (hO : zix w p = some (.inr (ci, .ref z :: fs))) : nn w p := fun _ _ h => by rw [hO] at h; cases h
theorem nn_eq {w w1 : zW} {p : Nat} (e : zix w1 p = zix w p) (h : nn w p) : nn w1 p := fun ci fs h2 => h ci fs (by rw [← e]; exact h2)
theorem c_after {ρ : Nat → Nat} {w : zW} (d p : Nat) (a1 a2 : Int) (hw : CI ρ w) (hρp : ρ p = 50) (hr0 : 0 ≤ a1 ∧ a1 ≤ 4) (hr1 : 0 ≤ a2 ∧ a2 ≤ 5460) (Q : zQ) (h : ∀ (v : Int) (w' : zW), CI ρ w' → wfR [51] ρ w w' → (0 ≤ v ∧ v ≤ 5460) → Q (some (.int (Int32.ofInt v))) w') : zCl zTab (d + 4) iX4_after [.ref p, .int (Int32.ofInt a1), .int (Int32.ofInt a2)] w 0 0 Q := by
  obtain ⟨b, z2, z3, hO, hρb, hk1, _, _, _⟩ := CI_o50 hw hρp
  obtain ⟨g, hg, hB⟩ := CI_ar hw (q := p + 1) (by rw [hk1]; rfl)
  obtain ⟨x0, x1, x2, hOb, _⟩ := CI_o20 hw hρb
  refine zCl_i (M := kX4_after) rfl (Nat.le_of_ble_eq_true rfl) fun R hR => ?_
  have tail : ∀ (w1 : zW) (g1 : Nat → Int32), CI ρ w1 → wfR [51] ρ w w1 → zix w1 (p + 1) = some (.inl (1, 27305, .inl g1)) → (0 ≤ (g1 (a1 * 5461 + a2).toNat).toInt ∧ (g1 (a1 * 5461 + a2).toNat).toInt ≤ 5460) → R (33, [some (.ref p), some (.int (Int32.ofInt a1)), some (.int (Int32.ofInt a2)), some (.int (Int32.ofInt (a1 * 5461 + a2)))], [], w1, 0, 0) := by
    intro w1 g1 hw1 f1 hg1 hb
    have hO1 := (f1.2 p (by rw [hρp]; decide)).trans hO
    refine hR (?_ : R (_, _, _, _, _, _))
    refine hR (c_get hO1 rfl ?_)
    refine hR (?_ : R (_, _, _, _, _, _))
    refine hR (c_aldE hg1 (by omega) (by omega) (by omega) fun v e hv => ?_)
    exact hR (zret_i rfl (Nat.le_refl _) trivial (h _ _ hw1 f1 (by rw [e]; exact hb)))
  refine hR (?_ : R (_, _, _, _, _, _))
  refine hR (t_c 5461 (by decide) ?_)
  refine hR (t_mul ?_)
  refine hR (?_ : R (_, _, _, _, _, _))
  refine hR (t_add ?_)
  iterate 2 refine hR (?_ : R (_, _, _, _, _, _))
  refine hR (c_get hO rfl ?_)
  refine hR (?_ : R (_, _, _, _, _, _))
  refine hR (c_aldE hg (by omega) (by omega) (by omega) fun v e hv => ?_)
  refine hR (?_ : R (_, _, _, _, _, _))
  have hBv := hB (a1 * 5461 + a2).toNat
  refine hR (j_ne (by omega) (by omega) (fun hc => ?_) (fun hc => ?_))
  · exact tail w g hw (wfR_rf _ _ _) hg (by omega)
  · refine hR (?_ : R (_, _, _, _, _, _))
    refine hR (c_get hO rfl ?_)
    iterate 2 refine hR (?_ : R (_, _, _, _, _, _))
    refine hR (c_get hO rfl ?_)
    iterate 2 refine hR (?_ : R (_, _, _, _, _, _))
    refine hR (c_obj hOb (zcall_i 0 0 (Nat.le_of_ble_eq_true rfl) (Nat.le_of_ble_eq_true rfl) (c_readBy _ b a1 a2 hw hρb hr0 hr1 _ fun v2 hv2 => ?_)))
    refine (?_ : R (_, _, .int (Int32.ofInt v2) :: .int (Int32.ofInt (a1 * 5461 + a2)) :: .ref (p + 1) :: [], w, 0, 0))
    refine hR (c_astE hw hg hB (by rw [hk1]; rfl) ⟨by rw [hk1]; decide, by rw [hk1]; decide⟩ (by omega) (by omega) (by omega) (by omega) (by omega) fun w1 hw1 f1 hg1 hB1 => ?_)
    refine tail w1 _ hw1 (wfR_st (wfR_rf _ _ _) f1 (by rw [hk1]; decide)) hg1 ?_
    rw [pk_us, zti (by omega) (by omega)]
    exact hv2
theorem c_timesOf (w : zW) (d : Nat) (a1 a2 : Int) (hr0 : -2147483648 ≤ a1 ∧ a1 ≤ 2147483647) (hr1 : 0 ≤ a2 ∧ a2 ≤ 5460) (Q : zQ) (h : ∀ (v : Int), (-2147483648 ≤ v ∧ v ≤ 2147483647) → Q (some (.int (Int32.ofInt v))) w) : zCl zTab (d + 3) iX11_timesOf [.int (Int32.ofInt a1), .int (Int32.ofInt a2)] w 0 0 Q := by
  refine zCl_i (M := kX11_timesOf) rfl (Nat.le_of_ble_eq_true rfl) fun R hR => ?_
  refine hR (?_ : R (_, _, _, _, _, _))
  refine hR (zcall_i 0 0 (Nat.le_of_ble_eq_true rfl) (Nat.le_of_ble_eq_true rfl) (c_bitsOf _ _ a2 (by omega) _ fun v1 hp3 => ?_))
  refine (?_ : R (_, _, (.int (Int32.ofInt v1)) :: [], w, 0, 0))
  iterate 2 refine hR (?_ : R (_, _, _, _, _, _))
  refine hR (zcall_i 0 0 (Nat.le_of_ble_eq_true rfl) (Nat.le_of_ble_eq_true rfl) (c_lengthOf _ _ a2 (by omega) _ fun v4 hp6 => ?_))
  refine (?_ : R (_, _, (.int (Int32.ofInt v4)) :: [], w, 0, 0))
  iterate 5 refine hR (?_ : R (_, _, _, _, _, _))
  have lp16 : ∀ (N : Nat) (t : Int) (i : Int), (0 ≤ t ∧ t ≤ 6) → (0 ≤ i ∧ i ≤ 6) → (t ≤ i) → (7 - i < N) → R (16, [some (.int (Int32.ofInt a1)), some (.int (Int32.ofInt a2)), some (.int (Int32.ofInt v1)), some (.int (Int32.ofInt v4)), some (.int (Int32.ofInt t)), some (.int (Int32.ofInt i))], [], w, 0, 0) := by
    intro N
    induction N with
    | zero => intros; omega
    | succ N ih16 =>
      intro t i hf0_16 hf1_16 hp0_16 hN16
      iterate 2 refine hR (?_ : R (_, _, _, _, _, _))
      refine hR (j_ge (by omega) (by omega) (fun hc7 => ?_) (fun hc7 => ?_))
      · skip
        refine hR (?_ : R (_, _, _, _, _, _))
        exact hR (zret_i rfl (Nat.le_refl _) trivial (h _ (by omega)))
      iterate 2 refine hR (?_ : R (_, _, _, _, _, _))
      refine hR (zcall_i 0 0 (Nat.le_of_ble_eq_true rfl) (Nat.le_of_ble_eq_true rfl) (c_wordOfBits _ _ v1 i (by omega) (by omega) _ fun v8 hp10 => ?_))
      refine (?_ : R (_, _, (.int (Int32.ofInt v8)) :: [], w, 0, 0))
      refine hR (?_ : R (_, _, _, _, _, _))
      refine hR (j_ne (by omega) (by omega) (fun hc11 => ?_) (fun hc11 => ?_))
      · skip
        refine hR (t_inc ?_)
        refine hR (?_ : R (_, _, _, _, _, _))
        exact ih16 _ _ (by omega) (by omega) (by omega) (by omega)
      refine hR (t_inc ?_)
      refine hR (t_inc ?_)
      refine hR (?_ : R (_, _, _, _, _, _))
      exact ih16 _ _ (by omega) (by omega) (by omega) (by omega)
  exact lp16 400000000 _ _ (by omega) (by omega) (by omega) (by omega)
theorem c_isLeftOf (w : zW) (d : Nat) (a1 a2 : Int) (hr0 : 0 ≤ a1 ∧ a1 ≤ 5460) (hr1 : 0 ≤ a2 ∧ a2 ≤ 5460) (Q : zQ) (h : ∀ (v : Int), (v = 0 ∨ v = 1) → Q (some (.int (Int32.ofInt v))) w) : zCl zTab (d + 4) iX11_isLeftOf [.int (Int32.ofInt a1), .int (Int32.ofInt a2)] w 0 0 Q := by
  refine zCl_i (M := kX11_isLeftOf) rfl (Nat.le_of_ble_eq_true rfl) fun R hR => ?_
  refine hR (?_ : R (_, _, _, _, _, _))
  refine hR (zcall_i 0 0 (Nat.le_of_ble_eq_true rfl) (Nat.le_of_ble_eq_true rfl) (c_lengthOf _ _ a1 (by omega) _ fun v1 hp3 => ?_))
  refine (?_ : R (_, _, (.int (Int32.ofInt v1)) :: [], w, 0, 0))
  iterate 2 refine hR (?_ : R (_, _, _, _, _, _))
  refine hR (zcall_i 0 0 (Nat.le_of_ble_eq_true rfl) (Nat.le_of_ble_eq_true rfl) (c_lengthOf _ _ a2 (by omega) _ fun v4 hp6 => ?_))
  refine (?_ : R (_, _, (.int (Int32.ofInt v4)) :: [], w, 0, 0))
  iterate 5 refine hR (?_ : R (_, _, _, _, _, _))
  have lp16 : ∀ (N : Nat) (t : Int) (i : Int), (0 ≤ t ∧ t ≤ 6) → (0 ≤ i ∧ i ≤ 6) → (t ≤ (tLen a1.toNat : Int)) → (7 - i < N) → R (16, [some (.int (Int32.ofInt a1)), some (.int (Int32.ofInt a2)), some (.int (Int32.ofInt v1)), some (.int (Int32.ofInt v4)), some (.int (Int32.ofInt t)), some (.int (Int32.ofInt i))], [], w, 0, 0) := by
    intro N
    induction N with
    | zero => intros; omega
    | succ N ih16 =>
      intro t i hf0_16 hf1_16 hp0_16 hN16
      iterate 2 refine hR (?_ : R (_, _, _, _, _, _))
      refine hR (j_ge (by omega) (by omega) (fun hc7 => ?_) (fun hc7 => ?_))
      · skip
        iterate 2 refine hR (?_ : R (_, _, _, _, _, _))
        refine hR (j_ne (by omega) (by omega) (fun hc8 => ?_) (fun hc8 => ?_))
        · skip
          refine hR (?_ : R (_, _, _, _, _, _))
          exact hR (zret_i rfl (Nat.le_refl _) (zbo (by omega)) (h _ (by omega)))
        iterate 2 refine hR (?_ : R (_, _, _, _, _, _))
        exact hR (zret_i rfl (Nat.le_refl _) (zbo (by omega)) (h _ (by omega)))
      iterate 2 refine hR (?_ : R (_, _, _, _, _, _))
      refine hR (j_ge (by omega) (by omega) (fun hc9 => ?_) (fun hc9 => ?_))
      · skip
        iterate 2 refine hR (?_ : R (_, _, _, _, _, _))
        refine hR (j_ne (by omega) (by omega) (fun hc10 => ?_) (fun hc10 => ?_))
        · skip
          refine hR (?_ : R (_, _, _, _, _, _))
          exact hR (zret_i rfl (Nat.le_refl _) (zbo (by omega)) (h _ (by omega)))
        iterate 2 refine hR (?_ : R (_, _, _, _, _, _))
        exact hR (zret_i rfl (Nat.le_refl _) (zbo (by omega)) (h _ (by omega)))
      iterate 2 refine hR (?_ : R (_, _, _, _, _, _))
      refine hR (zcall_i 0 0 (Nat.le_of_ble_eq_true rfl) (Nat.le_of_ble_eq_true rfl) (c_wordAt _ _ a2 i (by omega) (by omega) _ fun v11 hp13 => ?_))
      refine (?_ : R (_, _, (.int (Int32.ofInt v11)) :: [], w, 0, 0))
      iterate 2 refine hR (?_ : R (_, _, _, _, _, _))
      refine hR (zcall_i 0 0 (Nat.le_of_ble_eq_true rfl) (Nat.le_of_ble_eq_true rfl) (c_wordAt _ _ a1 t (by omega) (by omega) _ fun v14 hp16 => ?_))
      refine (?_ : R (_, _, (.int (Int32.ofInt v14)) :: (.int (Int32.ofInt v11)) :: [], w, 0, 0))
      refine hR (j_ne (by omega) (by omega) (fun hc17 => ?_) (fun hc17 => ?_))
      · skip
        refine hR (t_inc ?_)
        refine hR (?_ : R (_, _, _, _, _, _))
        exact ih16 _ _ (by omega) (by omega) (by omega) (by omega)
      refine hR (t_inc ?_)
      refine hR (t_inc ?_)
      refine hR (?_ : R (_, _, _, _, _, _))
      exact ih16 _ _ (by omega) (by omega) (by omega) (by omega)
  exact lp16 400000000 _ _ (by omega) (by omega) (by omega) (by omega)
theorem c_mostShared (w : zW) (d : Nat) (a1 a2 : Int) (hr0 : 0 ≤ a1 ∧ a1 ≤ 5460) (hr1 : 0 ≤ a2 ∧ a2 ≤ 5460) (Q : zQ) (h : ∀ (v : Int), (0 ≤ v ∧ v ≤ 5460) → Q (some (.int (Int32.ofInt v))) w) : zCl zTab (d + 5) iX11_mostShared [.int (Int32.ofInt a1), .int (Int32.ofInt a2)] w 0 0 Q := by
  refine zCl_i (M := kX11_mostShared) rfl (Nat.le_of_ble_eq_true rfl) fun R hR => ?_
  refine hR (?_ : R (_, _, _, _, _, _))
  refine hR (zcall_i 0 0 (Nat.le_of_ble_eq_true rfl) (Nat.le_of_ble_eq_true rfl) (c_lengthOf _ _ a1 (by omega) _ fun v1 hp3 => ?_))
  refine (?_ : R (_, _, (.int (Int32.ofInt v1)) :: [], w, 0, 0))
  iterate 5 refine hR (?_ : R (_, _, _, _, _, _))
  have lp10 : ∀ (N : Nat) (be : Int) (kp : Int) (o5_10 : Option Value) (o6_10 : Option Value), (zc2 o5_10 = false) → (zc2 o6_10 = false) → (0 ≤ be ∧ be ≤ 5460) → (0 ≤ kp ∧ kp ≤ 64) → (65 - kp < N) → R (10, [some (.int (Int32.ofInt a1)), some (.int (Int32.ofInt a2)), some (.int (Int32.ofInt v1)), some (.int (Int32.ofInt be)), some (.int (Int32.ofInt kp)), o5_10, o6_10], [], w, 0, 0) := by
    intro N
    induction N with
    | zero => intros; omega
    | succ N ih10 =>
      intro be kp o5_10 o6_10 hzo5_10 hzo6_10 hf0_10 hf1_10 hN10
      iterate 3 refine hR (?_ : R (_, _, _, _, _, _))
      obtain ⟨v4, lv4, uv4, qv4⟩ := zshl_r6 (e := v1) (by omega) (by omega)
      refine hR (t_c v4 qv4 ?_)
      refine hR (j_ge (by omega) (by omega) (fun hc5 => ?_) (fun hc5 => ?_))
      · skip
        refine hR (?_ : R (_, _, _, _, _, _))
        exact hR (zret_i rfl (Nat.le_refl _) trivial (h _ (by omega)))
      iterate 4 refine hR (?_ : R (_, _, _, _, _, _))
      have lp24 : ∀ (N : Nat) (lf : Int) (k : Int), (0 ≤ lf ∧ lf ≤ 5460) → (0 ≤ k ∧ k ≤ 6) → ((k = 0 ∧ lf = 0) ∨ (k = 1 ∧ lf ≤ 4) ∨ (k = 2 ∧ lf ≤ 20) ∨ (k = 3 ∧ lf ≤ 84) ∨ (k = 4 ∧ lf ≤ 340) ∨ (k = 5 ∧ lf ≤ 1364) ∨ (k = 6 ∧ lf ≤ 5460)) → (7 - k < N) → R (24, [some (.int (Int32.ofInt a1)), some (.int (Int32.ofInt a2)), some (.int (Int32.ofInt v1)), some (.int (Int32.ofInt be)), some (.int (Int32.ofInt kp)), some (.int (Int32.ofInt lf)), some (.int (Int32.ofInt k))], [], w, 0, 0) := by
        intro N
        induction N with
        | zero => intros; omega
        | succ N ih24 =>
          intro lf k hf0_24 hf1_24 hp0_24 hN24
          iterate 2 refine hR (?_ : R (_, _, _, _, _, _))
          refine hR (j_ge (by omega) (by omega) (fun hc6 => ?_) (fun hc6 => ?_))
          rotate_left
          · skip
            iterate 2 refine hR (?_ : R (_, _, _, _, _, _))
            refine hR (zcall_i 0 0 (Nat.le_of_ble_eq_true rfl) (Nat.le_of_ble_eq_true rfl) (c_isIn _ _ kp k _ fun v24 hp26 => ?_))
            refine (?_ : R (_, _, (.int (Int32.ofInt v24)) :: [], w, 0, 0))
            refine hR (k_eq (by omega) (fun hc27 => ?_) (fun hc27 => ?_))
            · skip
              refine hR (t_inc ?_)
              refine hR (?_ : R (_, _, _, _, _, _))
              exact ih24 _ _ (by omega) (by omega) (by omega) (by omega)
            iterate 3 refine hR (?_ : R (_, _, _, _, _, _))
            refine hR (zcall_i 0 0 (Nat.le_of_ble_eq_true rfl) (Nat.le_of_ble_eq_true rfl) (c_wordAt _ _ a1 k (by omega) (by omega) _ fun v28 hp30 => ?_))
            refine (?_ : R (_, _, (.int (Int32.ofInt v28)) :: (.int (Int32.ofInt lf)) :: [], w, 0, 0))
            refine hR (zcall_i 0 0 (Nat.le_of_ble_eq_true rfl) (Nat.le_of_ble_eq_true rfl) (c_longer _ _ lf v28 _ fun v31 hp33 => ?_))
            refine (?_ : R (_, _, (.int (Int32.ofInt v31)) :: [], w, 0, 0))
            refine hR (?_ : R (_, _, _, _, _, _))
            refine hR (t_inc ?_)
            refine hR (?_ : R (_, _, _, _, _, _))
            exact ih24 _ _ (by omega) (by omega) (by omega) (by omega)
          refine hR (?_ : R (_, _, _, _, _, _))
          refine hR (zcall_i 0 0 (Nat.le_of_ble_eq_true rfl) (Nat.le_of_ble_eq_true rfl) (c_lengthOf _ _ lf (by omega) _ fun v7 hp9 => ?_))
          refine (?_ : R (_, _, (.int (Int32.ofInt v7)) :: [], w, 0, 0))
          refine hR (?_ : R (_, _, _, _, _, _))
          refine hR (zcall_i 0 0 (Nat.le_of_ble_eq_true rfl) (Nat.le_of_ble_eq_true rfl) (c_lengthOf _ _ be (by omega) _ fun v10 hp12 => ?_))
          refine (?_ : R (_, _, (.int (Int32.ofInt v10)) :: (.int (Int32.ofInt v7)) :: [], w, 0, 0))
          refine hR (t_sub ?_)
          iterate 2 refine hR (?_ : R (_, _, _, _, _, _))
          refine hR (k_gt (by omega) (fun hc13 => ?_) (fun hc13 => ?_))
          · skip
            iterate 2 refine hR (?_ : R (_, _, _, _, _, _))
            refine hR (zcall_i 0 0 (Nat.le_of_ble_eq_true rfl) (Nat.le_of_ble_eq_true rfl) (c_isLeftOf _ _ lf a2 (by omega) (by omega) _ fun v14 hp16 => ?_))
            refine (?_ : R (_, _, (.int (Int32.ofInt v14)) :: [], w, 0, 0))
            refine hR (k_eq (by omega) (fun hc17 => ?_) (fun hc17 => ?_))
            · skip
              refine hR (t_inc ?_)
              refine hR (?_ : R (_, _, _, _, _, _))
              exact ih10 _ _ _ _ (by rfl) (by rfl) (by omega) (by omega) (by omega)
            iterate 2 refine hR (?_ : R (_, _, _, _, _, _))
            refine hR (t_inc ?_)
            refine hR (?_ : R (_, _, _, _, _, _))
            exact ih10 _ _ _ _ (by rfl) (by rfl) (by omega) (by omega) (by omega)
          refine hR (?_ : R (_, _, _, _, _, _))
          refine hR (k_ne (by omega) (fun hc18 => ?_) (fun hc18 => ?_))
          · skip
            refine hR (t_inc ?_)
            refine hR (?_ : R (_, _, _, _, _, _))
            exact ih10 _ _ _ _ (by rfl) (by rfl) (by omega) (by omega) (by omega)
          iterate 2 refine hR (?_ : R (_, _, _, _, _, _))
          refine hR (j_ge (by omega) (by omega) (fun hc19 => ?_) (fun hc19 => ?_))
          · skip
            refine hR (t_inc ?_)
            refine hR (?_ : R (_, _, _, _, _, _))
            exact ih10 _ _ _ _ (by rfl) (by rfl) (by omega) (by omega) (by omega)
          iterate 2 refine hR (?_ : R (_, _, _, _, _, _))
          refine hR (zcall_i 0 0 (Nat.le_of_ble_eq_true rfl) (Nat.le_of_ble_eq_true rfl) (c_isLeftOf _ _ lf a2 (by omega) (by omega) _ fun v20 hp22 => ?_))
          refine (?_ : R (_, _, (.int (Int32.ofInt v20)) :: [], w, 0, 0))
          refine hR (k_eq (by omega) (fun hc23 => ?_) (fun hc23 => ?_))
          · skip
            refine hR (t_inc ?_)
            refine hR (?_ : R (_, _, _, _, _, _))
            exact ih10 _ _ _ _ (by rfl) (by rfl) (by omega) (by omega) (by omega)
          iterate 2 refine hR (?_ : R (_, _, _, _, _, _))
          refine hR (t_inc ?_)
          refine hR (?_ : R (_, _, _, _, _, _))
          exact ih10 _ _ _ _ (by rfl) (by rfl) (by omega) (by omega) (by omega)
      exact lp24 400000000 _ _ (by omega) (by omega) (by omega) (by omega)
  exact lp10 400000000 _ _ _ _ (by rfl) (by rfl) (by omega) (by omega) (by omega)
theorem c_takeUp {ρ : Nat → Nat} {w : zW} (d : Nat) (p b : Nat) (hw : CI ρ w) (hρp : ρ p = 50) (hρb : ρ b = 20) (Q : zQ) (h : ∀ (w' : zW), CI ρ w' → wfR [50, 51] ρ w w' → Q (none) w') : zCl zTab (d + 2) iX4_takeUp [.ref p, .ref b] w 0 0 Q := by
  refine zCl_i (M := kX4_takeUp) rfl (Nat.le_of_ble_eq_true rfl) fun R hR => ?_
  have fr0 := wfR_rf [50, 51] ρ w
  refine hR (?_ : R (_, _, _, _, _, _))
  obtain ⟨z0_1, z2_1, z3_1, hO1, hk1_0, hk1_1, hk1_2, hk1_3, hk1_4⟩ := CI_o50 hw hρp
  refine hR (c_get hO1 rfl ?_)
  refine hR (?_ : R (_, _, _, _, _, _))
  refine hR (j_any ?_ ?_)
  · skip
    exact hR (zret_i rfl (Nat.le_refl _) rfl (h _ hw fr0))
  iterate 2 refine hR (?_ : R (_, _, _, _, _, _))
  refine hR (c_put hO1 rfl rfl fun w2 f2 hO2 => ?_)
  have hw2 := CI_w50 hw hρp f2 hO2 ⟨hρb, hk1_1, hk1_2, hk1_3, (by first | assumption | exact Ne.symm (by assumption))⟩
  have fr3 := wfR_st fr0 f2 (by rw [hρp]; decide)
  refine hR (?_ : R (_, _, _, _, _, _))
  refine hR (c_get hO2 rfl ?_)
  refine hR (?_ : R (_, _, _, _, _, _))
  refine hR (zcall_i 0 0 (Nat.le_of_ble_eq_true rfl) (Nat.le_of_ble_eq_true rfl) (c_fill _ (p + 1) 27305 ((-1)) (-1) 5460 hw2 (by rw [hk1_1]; rfl) ⟨by rw [hk1_1]; decide, by rw [hk1_1]; decide⟩ (by omega) (by omega) (by omega) _ fun w4 hw4 f4 hg4 => ?_))
  refine (?_ : R (_, _, [], w4, 0, 0))
  have fr5 := wfR_st fr3 f4 (by rw [hk1_1]; decide)
  have hO6 := (f4.2 p (rne hρp hk1_1 (by decide))).trans hO2
  exact hR (zret_i rfl (Nat.le_refl _) rfl (h _ hw4 fr5))
theorem c_all {ρ : Nat → Nat} {w : zW} (d : Nat) (p : Nat) (hw : CI ρ w) (hρp : ρ p = 50) (Q : zQ) (h : ∀ (v : Int), (0 ≤ v ∧ v ≤ 31) → Q (some (.int (Int32.ofInt v))) w) : zCl zTab (d + 1) iX4_all [.ref p] w 0 0 Q := by
  refine zCl_i (M := kX4_all) rfl (Nat.le_of_ble_eq_true rfl) fun R hR => ?_
  have fr0 := wfR_rf [] ρ w
  iterate 2 refine hR (?_ : R (_, _, _, _, _, _))
  obtain ⟨z0_1, z2_1, z3_1, hO1, hk1_0, hk1_1, hk1_2, hk1_3, hk1_4⟩ := CI_o50 hw hρp
  refine hR (c_get hO1 rfl ?_)
  obtain ⟨x0_2, x1_2, x2_2, hO2, hk2_0, hk2_1, hk2_2, hk2_3, hk2_4, hk2_5, hk2_6⟩ := CI_o20 hw hk1_0
  refine hR (c_get hO2 rfl ?_)
  obtain ⟨v3, lv3, uv3, qv3⟩ := zshl_r (e := x1_2) (by omega) (by omega)
  refine hR (t_c v3 qv3 ?_)
  refine hR (?_ : R (_, _, _, _, _, _))
  refine hR (t_sub ?_)
  exact hR (zret_i rfl (Nat.le_refl _) trivial (h _ (by omega)))
theorem c_isChanged {ρ : Nat → Nat} {w : zW} (d : Nat) (p : Nat) (a1 a2 : Int) (hw : CI ρ w) (hρp : ρ p = 50) (hr0 : 0 ≤ a1 ∧ a1 ≤ 5460) (hr1 : -2147483648 ≤ a2 ∧ a2 ≤ 2147483647) (Q : zQ) (h : ∀ (v : Int) (w' : zW), CI ρ w' → wfR [51] ρ w w' → (v = 0 ∨ v = 1) → Q (some (.int (Int32.ofInt v))) w') : zCl zTab (d + 5) iX4_isChanged [.ref p, .int (Int32.ofInt a1), .int (Int32.ofInt a2)] w 0 0 Q := by
  refine zCl_i (M := kX4_isChanged) rfl (Nat.le_of_ble_eq_true rfl) fun R hR => ?_
  have fr0 := wfR_rf [51] ρ w
  iterate 2 refine hR (?_ : R (_, _, _, _, _, _))
  have lp2 : ∀ (N : Nat) (r : Int) (w_2 : zW), (CI ρ w_2) → (wfR [51] ρ w w_2) → (0 ≤ r ∧ r ≤ 5) → (6 - r < N) → R (2, [some (.ref p), some (.int (Int32.ofInt a1)), some (.int (Int32.ofInt a2)), some (.int (Int32.ofInt r))], [], w_2, 0, 0) := by
    intro N
    induction N with
    | zero => intros; omega
    | succ N ih2 =>
      intro r w_2 hw_2 fr_2 hf0_2 hN2
      iterate 2 refine hR (?_ : R (_, _, _, _, _, _))
      obtain ⟨z0_1, z2_1, z3_1, hO1, hk1_0, hk1_1, hk1_2, hk1_3, hk1_4⟩ := CI_o50 hw_2 hρp
      refine hR (c_get hO1 rfl ?_)
      obtain ⟨x0_2, x1_2, x2_2, hO2, hk2_0, hk2_1, hk2_2, hk2_3, hk2_4, hk2_5, hk2_6⟩ := CI_o20 hw_2 hk1_0
      refine hR (c_get hO2 rfl ?_)
      refine hR (j_ge (by omega) (by omega) (fun hc3 => ?_) (fun hc3 => ?_))
      · skip
        refine hR (?_ : R (_, _, _, _, _, _))
        exact hR (zret_i rfl (Nat.le_refl _) (zbo (by omega)) (h _ _ hw_2 fr_2 (by omega)))
      iterate 2 refine hR (?_ : R (_, _, _, _, _, _))
      refine hR (zcall_i 0 0 (Nat.le_of_ble_eq_true rfl) (Nat.le_of_ble_eq_true rfl) (c_isIn _ _ a2 r _ fun v4 hp6 => ?_))
      refine (?_ : R (_, _, (.int (Int32.ofInt v4)) :: [], w_2, 0, 0))
      refine hR (k_eq (by omega) (fun hc7 => ?_) (fun hc7 => ?_))
      · skip
        refine hR (t_inc ?_)
        refine hR (?_ : R (_, _, _, _, _, _))
        exact ih2 _ _ hw_2 fr_2 (by omega) (by omega)
      iterate 3 refine hR (?_ : R (_, _, _, _, _, _))
      refine hR (c_obj hO1 (zcall_i 0 0 (Nat.le_of_ble_eq_true rfl) (Nat.le_of_ble_eq_true rfl) (c_after _ p r a1 hw_2 hρp (by omega) (by omega) _ fun v8 w9 hw9 g9 hp10 => ?_)))
      have fr11 := wfR_tr fr_2 g9 (by decide)
      have hO12 := (g9.2 p (by rw [hρp]; decide)).trans hO1
      have hO13 := (g9.2 z0_1 (by rw [hk1_0]; decide)).trans hO2
      refine (?_ : R (_, _, (.int (Int32.ofInt v8)) :: [], w9, 0, 0))
      refine hR (?_ : R (_, _, _, _, _, _))
      refine hR (j_eq (by omega) (by omega) (fun hc14 => ?_) (fun hc14 => ?_))
      rotate_left
      · skip
        refine hR (?_ : R (_, _, _, _, _, _))
        exact hR (zret_i rfl (Nat.le_refl _) (zbo (by omega)) (h _ _ hw9 fr11 (by omega)))
      refine hR (t_inc ?_)
      refine hR (?_ : R (_, _, _, _, _, _))
      exact ih2 _ _ hw9 fr11 (by omega) (by omega)
  exact lp2 400000000 _ _ hw fr0 (by omega) (by omega)
theorem c_unchangedBy {ρ : Nat → Nat} {w : zW} (d : Nat) (p : Nat) (a1 : Int) (hw : CI ρ w) (hρp : ρ p = 50) (hr0 : -2147483648 ≤ a1 ∧ a1 ≤ 2147483647) (Q : zQ) (h : ∀ (v : Int) (w' : zW), CI ρ w' → wfR [51] ρ w w' → Q (some (.int (Int32.ofInt v))) w') : zCl zTab (d + 6) iX4_unchangedBy [.ref p, .int (Int32.ofInt a1)] w 0 0 Q := by
  refine zCl_i (M := kX4_unchangedBy) rfl (Nat.le_of_ble_eq_true rfl) fun R hR => ?_
  have fr0 := wfR_rf [51] ρ w
  iterate 4 refine hR (?_ : R (_, _, _, _, _, _))
  have lp4 : ∀ (N : Nat) (n : Int) (t : Int) (w_4 : zW), (CI ρ w_4) → (wfR [51] ρ w w_4) → (0 ≤ n ∧ n ≤ 5461) → (0 ≤ t ∧ t ≤ 5461) → (n ≤ t) → (5462 - t < N) → R (4, [some (.ref p), some (.int (Int32.ofInt a1)), some (.int (Int32.ofInt n)), some (.int (Int32.ofInt t))], [], w_4, 0, 0) := by
    intro N
    induction N with
    | zero => intros; omega
    | succ N ih4 =>
      intro n t w_4 hw_4 fr_4 hf0_4 hf1_4 hp0_4 hN4
      refine hR (?_ : R (_, _, _, _, _, _))
      refine hR (t_c 5461 (by decide) ?_)
      refine hR (j_ge (by omega) (by omega) (fun hc1 => ?_) (fun hc1 => ?_))
      · skip
        refine hR (?_ : R (_, _, _, _, _, _))
        exact hR (zret_i rfl (Nat.le_refl _) trivial (h _ _ hw_4 fr_4))
      iterate 3 refine hR (?_ : R (_, _, _, _, _, _))
      obtain ⟨z0_5, z2_5, z3_5, hO5, hk5_0, hk5_1, hk5_2, hk5_3, hk5_4⟩ := CI_o50 hw_4 hρp
      refine hR (c_obj hO5 (zcall_i 0 0 (Nat.le_of_ble_eq_true rfl) (Nat.le_of_ble_eq_true rfl) (c_isChanged _ p t a1 hw_4 hρp (by omega) (by omega) _ fun v2 w3 hw3 g3 hp4 => ?_)))
      have fr6 := wfR_tr fr_4 g3 (by decide)
      have hO7 := (g3.2 p (by rw [hρp]; decide)).trans hO5
      refine (?_ : R (_, _, (.int (Int32.ofInt v2)) :: [], w3, 0, 0))
      refine hR (k_ne (by omega) (fun hc8 => ?_) (fun hc8 => ?_))
      · skip
        refine hR (t_inc ?_)
        refine hR (?_ : R (_, _, _, _, _, _))
        exact ih4 _ _ _ hw3 fr6 (by omega) (by omega) (by omega) (by omega)
      refine hR (t_inc ?_)
      refine hR (t_inc ?_)
      refine hR (?_ : R (_, _, _, _, _, _))
      exact ih4 _ _ _ hw3 fr6 (by omega) (by omega) (by omega) (by omega)
  exact lp4 400000000 _ _ _ hw fr0 (by omega) (by omega) (by omega) (by omega)
theorem c_alikeEitherWay {ρ : Nat → Nat} {w : zW} (d : Nat) (p : Nat) (a1 a2 : Int) (hw : CI ρ w) (hρp : ρ p = 50) (hr0 : 0 ≤ a1 ∧ a1 ≤ 4) (hr1 : 0 ≤ a2 ∧ a2 ≤ 4) (Q : zQ) (h : ∀ (v : Int) (w' : zW), CI ρ w' → wfR [51] ρ w w' → Q (some (.int (Int32.ofInt v))) w') : zCl zTab (d + 5) iX4_alikeEitherWay [.ref p, .int (Int32.ofInt a1), .int (Int32.ofInt a2)] w 0 0 Q := by
  refine zCl_i (M := kX4_alikeEitherWay) rfl (Nat.le_of_ble_eq_true rfl) fun R hR => ?_
  have fr0 := wfR_rf [51] ρ w
  iterate 4 refine hR (?_ : R (_, _, _, _, _, _))
  have lp5 : ∀ (N : Nat) (n : Int) (t : Int) (w_5 : zW), (CI ρ w_5) → (wfR [51] ρ w w_5) → (0 ≤ n ∧ n ≤ 5461) → (0 ≤ t ∧ t ≤ 5461) → (n ≤ t) → (5462 - t < N) → R (5, [some (.ref p), some (.int (Int32.ofInt a1)), some (.int (Int32.ofInt a2)), some (.int (Int32.ofInt n)), some (.int (Int32.ofInt t))], [], w_5, 0, 0) := by
    intro N
    induction N with
    | zero => intros; omega
    | succ N ih5 =>
      intro n t w_5 hw_5 fr_5 hf0_5 hf1_5 hp0_5 hN5
      refine hR (?_ : R (_, _, _, _, _, _))
      refine hR (t_c 5461 (by decide) ?_)
      refine hR (j_ge (by omega) (by omega) (fun hc1 => ?_) (fun hc1 => ?_))
      · skip
        refine hR (?_ : R (_, _, _, _, _, _))
        exact hR (zret_i rfl (Nat.le_refl _) trivial (h _ _ hw_5 fr_5))
      iterate 5 refine hR (?_ : R (_, _, _, _, _, _))
      obtain ⟨z0_5, z2_5, z3_5, hO5, hk5_0, hk5_1, hk5_2, hk5_3, hk5_4⟩ := CI_o50 hw_5 hρp
      refine hR (c_obj hO5 (zcall_i 0 0 (Nat.le_of_ble_eq_true rfl) (Nat.le_of_ble_eq_true rfl) (c_after _ p a1 t hw_5 hρp (by omega) (by omega) _ fun v2 w3 hw3 g3 hp4 => ?_)))
      have fr6 := wfR_tr fr_5 g3 (by decide)
      have hO7 := (g3.2 p (by rw [hρp]; decide)).trans hO5
      refine (?_ : R (_, _, (.int (Int32.ofInt v2)) :: (.int (Int32.ofInt a2)) :: (.ref p) :: [], w3, 0, 0))
      refine hR (c_obj hO7 (zcall_i 0 0 (Nat.le_of_ble_eq_true rfl) (Nat.le_of_ble_eq_true rfl) (c_after _ p a2 v2 hw3 hρp (by omega) (by omega) _ fun v8 w9 hw9 g9 hp10 => ?_)))
      have fr11 := wfR_tr fr6 g9 (by decide)
      have hO12 := (g9.2 p (by rw [hρp]; decide)).trans hO7
      refine (?_ : R (_, _, (.int (Int32.ofInt v8)) :: [], w9, 0, 0))
      iterate 5 refine hR (?_ : R (_, _, _, _, _, _))
      refine hR (c_obj hO12 (zcall_i 0 0 (Nat.le_of_ble_eq_true rfl) (Nat.le_of_ble_eq_true rfl) (c_after _ p a2 t hw9 hρp (by omega) (by omega) _ fun v13 w14 hw14 g14 hp15 => ?_)))
      have fr16 := wfR_tr fr11 g14 (by decide)
      have hO17 := (g14.2 p (by rw [hρp]; decide)).trans hO12
      refine (?_ : R (_, _, (.int (Int32.ofInt v13)) :: (.int (Int32.ofInt a1)) :: (.ref p) :: (.int (Int32.ofInt v8)) :: [], w14, 0, 0))
      refine hR (c_obj hO17 (zcall_i 0 0 (Nat.le_of_ble_eq_true rfl) (Nat.le_of_ble_eq_true rfl) (c_after _ p a1 v13 hw14 hρp (by omega) (by omega) _ fun v18 w19 hw19 g19 hp20 => ?_)))
      have fr21 := wfR_tr fr16 g19 (by decide)
      have hO22 := (g19.2 p (by rw [hρp]; decide)).trans hO17
      refine (?_ : R (_, _, (.int (Int32.ofInt v18)) :: (.int (Int32.ofInt v8)) :: [], w19, 0, 0))
      refine hR (j_ne (by omega) (by omega) (fun hc23 => ?_) (fun hc23 => ?_))
      · skip
        refine hR (t_inc ?_)
        refine hR (?_ : R (_, _, _, _, _, _))
        exact ih5 _ _ _ hw19 fr21 (by omega) (by omega) (by omega) (by omega)
      refine hR (t_inc ?_)
      refine hR (t_inc ?_)
      refine hR (?_ : R (_, _, _, _, _, _))
      exact ih5 _ _ _ hw19 fr21 (by omega) (by omega) (by omega) (by omega)
  exact lp5 400000000 _ _ _ hw fr0 (by omega) (by omega) (by omega) (by omega)
theorem c_comesToMarked {ρ : Nat → Nat} {w : zW} (d : Nat) (p : Nat) (a1 : Int) (hw : CI ρ w) (hρp : ρ p = 50) (hr0 : 0 ≤ a1 ∧ a1 ≤ 5460) (Q : zQ) (h : ∀ (v : Int) (w' : zW), CI ρ w' → wfR [51] ρ w w' → (v = 0 ∨ v = 1) → Q (some (.int (Int32.ofInt v))) w') : zCl zTab (d + 5) iX4_comesToMarked [.ref p, .int (Int32.ofInt a1)] w 0 0 Q := by
  refine zCl_i (M := kX4_comesToMarked) rfl (Nat.le_of_ble_eq_true rfl) fun R hR => ?_
  have fr0 := wfR_rf [51] ρ w
  iterate 2 refine hR (?_ : R (_, _, _, _, _, _))
  have lp2 : ∀ (N : Nat) (r : Int) (w_2 : zW), (CI ρ w_2) → (wfR [51] ρ w w_2) → (0 ≤ r ∧ r ≤ 5) → (6 - r < N) → R (2, [some (.ref p), some (.int (Int32.ofInt a1)), some (.int (Int32.ofInt r))], [], w_2, 0, 0) := by
    intro N
    induction N with
    | zero => intros; omega
    | succ N ih2 =>
      intro r w_2 hw_2 fr_2 hf0_2 hN2
      iterate 2 refine hR (?_ : R (_, _, _, _, _, _))
      obtain ⟨z0_1, z2_1, z3_1, hO1, hk1_0, hk1_1, hk1_2, hk1_3, hk1_4⟩ := CI_o50 hw_2 hρp
      refine hR (c_get hO1 rfl ?_)
      obtain ⟨x0_2, x1_2, x2_2, hO2, hk2_0, hk2_1, hk2_2, hk2_3, hk2_4, hk2_5, hk2_6⟩ := CI_o20 hw_2 hk1_0
      refine hR (c_get hO2 rfl ?_)
      refine hR (j_ge (by omega) (by omega) (fun hc3 => ?_) (fun hc3 => ?_))
      · skip
        refine hR (?_ : R (_, _, _, _, _, _))
        exact hR (zret_i rfl (Nat.le_refl _) (zbo (by omega)) (h _ _ hw_2 fr_2 (by omega)))
      refine hR (?_ : R (_, _, _, _, _, _))
      refine hR (c_get hO1 rfl ?_)
      iterate 3 refine hR (?_ : R (_, _, _, _, _, _))
      refine hR (c_obj hO1 (zcall_i 0 0 (Nat.le_of_ble_eq_true rfl) (Nat.le_of_ble_eq_true rfl) (c_after _ p r a1 hw_2 hρp (by omega) (by omega) _ fun v4 w5 hw5 g5 hp6 => ?_)))
      have fr7 := wfR_tr fr_2 g5 (by decide)
      have hO8 := (g5.2 p (by rw [hρp]; decide)).trans hO1
      have hO9 := (g5.2 z0_1 (by rw [hk1_0]; decide)).trans hO2
      refine (?_ : R (_, _, (.int (Int32.ofInt v4)) :: (.ref z2_1) :: [], w5, 0, 0))
      refine hR (c_bld hw5 (by rw [hk1_2]; rfl) (by omega) (by omega) (Nat.le_of_ble_eq_true rfl) fun v10 rv10 => ?_)
      refine hR (j_any ?_ ?_)
      rotate_left
      · skip
        refine hR (?_ : R (_, _, _, _, _, _))
        exact hR (zret_i rfl (Nat.le_refl _) (zbo (by omega)) (h _ _ hw5 fr7 (by omega)))
      refine hR (t_inc ?_)
      refine hR (?_ : R (_, _, _, _, _, _))
      exact ih2 _ _ hw5 fr7 (by omega) (by omega)
  exact lp2 400000000 _ _ hw fr0 (by omega) (by omega)
theorem c_goBack {ρ : Nat → Nat} {w : zW} (d : Nat) (p : Nat) (a1 a2 : Int) (hw : CI ρ w) (hρp : ρ p = 50) (hr0 : 0 ≤ a1 ∧ a1 ≤ 5460) (hr1 : 0 ≤ a2 ∧ a2 ≤ 9) (Q : zQ) (h : ∀ (w' : zW), CI ρ w' → wfR [50, 51, 52] ρ w w' → Q (none) w') : zCl zTab (d + 6) iX4_goBack [.ref p, .int (Int32.ofInt a1), .int (Int32.ofInt a2)] w 0 0 Q := by
  refine zCl_i (M := kX4_goBack) rfl (Nat.le_of_ble_eq_true rfl) fun R hR => ?_
  have fr0 := wfR_rf [50, 51, 52] ρ w
  refine hR (?_ : R (_, _, _, _, _, _))
  obtain ⟨z0_1, z2_1, z3_1, hO1, hk1_0, hk1_1, hk1_2, hk1_3, hk1_4⟩ := CI_o50 hw hρp
  refine hR (c_get hO1 rfl ?_)
  refine hR (?_ : R (_, _, _, _, _, _))
  refine hR (zcall_i 0 0 (Nat.le_of_ble_eq_true rfl) (Nat.le_of_ble_eq_true rfl) (c_fillb _ z2_1 5461 0 hw (by rw [hk1_2]; rfl) ⟨by rw [hk1_2]; decide, by rw [hk1_2]; decide⟩ (by omega) _ fun w2 hw2 f2 => ?_))
  refine (?_ : R (_, _, [], w2, 0, 0))
  have fr3 := wfR_st fr0 f2 (by rw [hk1_2]; decide)
  have hO4 := (f2.2 p (rne hρp hk1_2 (by decide))).trans hO1
  refine hR (?_ : R (_, _, _, _, _, _))
  refine hR (c_get hO4 rfl ?_)
  iterate 2 refine hR (?_ : R (_, _, _, _, _, _))
  refine hR (c_bst hw2 (by rw [hk1_2]; rfl) ⟨by rw [hk1_2]; decide, by rw [hk1_2]; decide⟩ (by omega) (by omega) (Nat.le_of_ble_eq_true rfl) fun w5 hw5 f5 => ?_)
  have fr6 := wfR_st fr3 f5 (by rw [hk1_2]; decide)
  have hO7 := (f5.2 p (rne hρp hk1_2 (by decide))).trans hO4
  iterate 2 refine hR (?_ : R (_, _, _, _, _, _))
  have lp17 : ∀ (N : Nat) (i : Int) (o4_17 : Option Value) (w_17 : zW), (zc2 o4_17 = false) → (CI ρ w_17) → (wfR [50, 51, 52] ρ w w_17) → (0 ≤ i ∧ i ≤ 9) → (10 - i < N) → R (17, [some (.ref p), some (.int (Int32.ofInt a1)), some (.int (Int32.ofInt a2)), some (.int (Int32.ofInt i)), o4_17], [], w_17, 0, 0) := by
    intro N
    induction N with
    | zero => intros; omega
    | succ N ih17 =>
      intro i o4_17 w_17 hzo4_17 hw_17 fr_17 hf0_17 hN17
      iterate 2 refine hR (?_ : R (_, _, _, _, _, _))
      refine hR (j_ge (by omega) (by omega) (fun hc8 => ?_) (fun hc8 => ?_))
      · skip
        exact hR (zret_i rfl (Nat.le_refl _) rfl (h _ hw_17 fr_17))
      iterate 2 refine hR (?_ : R (_, _, _, _, _, _))
      have lp25 : ∀ (N : Nat) (t : Int) (w_25 : zW), (CI ρ w_25) → (wfR [50, 51, 52] ρ w w_25) → (0 ≤ t ∧ t ≤ 5461) → (5462 - t < N) → R (25, [some (.ref p), some (.int (Int32.ofInt a1)), some (.int (Int32.ofInt a2)), some (.int (Int32.ofInt i)), some (.int (Int32.ofInt t))], [], w_25, 0, 0) := by
        intro N
        induction N with
        | zero => intros; omega
        | succ N ih25 =>
          intro t w_25 hw_25 fr_25 hf0_25 hN25
          refine hR (?_ : R (_, _, _, _, _, _))
          refine hR (t_c 5461 (by decide) ?_)
          refine hR (j_ge (by omega) (by omega) (fun hc9 => ?_) (fun hc9 => ?_))
          · skip
            refine hR (?_ : R (_, _, _, _, _, _))
            obtain ⟨z0_10, z2_10, z3_10, hO10, hk10_0, hk10_1, hk10_2, hk10_3, hk10_4⟩ := CI_o50 hw_25 hρp
            refine hR (c_get hO10 rfl ?_)
            iterate 3 refine hR (?_ : R (_, _, _, _, _, _))
            refine hR (c_get hO10 rfl ?_)
            refine hR (c_put hO10 rfl rfl fun w11 f11 hO11 => ?_)
            have fr12 := wfR_st fr_25 f11 (by rw [hρp]; decide)
            iterate 2 refine hR (?_ : R (_, _, _, _, _, _))
            refine hR (c_put hO11 rfl rfl fun w13 f13 hO13 => ?_)
            have hw13 := CI_w50 hw_25 hρp (wfr_tr f11 f13) hO13 ⟨hk10_0, hk10_1, hk10_3, hk10_2, (by first | assumption | exact Ne.symm (by assumption))⟩
            have fr14 := wfR_st fr12 f13 (by rw [hρp]; decide)
            refine hR (t_inc ?_)
            refine hR (?_ : R (_, _, _, _, _, _))
            exact ih17 _ _ _ (by rfl) hw13 fr14 (by omega) (by omega)
          refine hR (?_ : R (_, _, _, _, _, _))
          obtain ⟨z0_15, z2_15, z3_15, hO15, hk15_0, hk15_1, hk15_2, hk15_3, hk15_4⟩ := CI_o50 hw_25 hρp
          refine hR (c_get hO15 rfl ?_)
          iterate 3 refine hR (?_ : R (_, _, _, _, _, _))
          refine hR (c_obj hO15 (zcall_i 0 0 (Nat.le_of_ble_eq_true rfl) (Nat.le_of_ble_eq_true rfl) (c_comesToMarked _ p t hw_25 hρp (by omega) _ fun v16 w17 hw17 g17 hp18 => ?_)))
          have fr19 := wfR_tr fr_25 g17 (by decide)
          have hO20 := (g17.2 p (by rw [hρp]; decide)).trans hO15
          refine (?_ : R (_, _, (.int (Int32.ofInt v16)) :: (.int (Int32.ofInt t)) :: (.ref z3_15) :: [], w17, 0, 0))
          refine hR (k_eq (by omega) (fun hc21 => ?_) (fun hc21 => ?_))
          · skip
            refine hR (?_ : R (_, _, _, _, _, _))
            refine hR (c_bst hw17 (by rw [hk15_3]; rfl) ⟨by rw [hk15_3]; decide, by rw [hk15_3]; decide⟩ (by omega) (by omega) (Nat.le_of_ble_eq_true rfl) fun w22 hw22 f22 => ?_)
            have fr23 := wfR_st fr19 f22 (by rw [hk15_3]; decide)
            have hO24 := (f22.2 p (rne hρp hk15_3 (by decide))).trans hO20
            refine hR (t_inc ?_)
            refine hR (?_ : R (_, _, _, _, _, _))
            exact ih25 _ _ hw22 fr23 (by omega) (by omega)
          iterate 2 refine hR (?_ : R (_, _, _, _, _, _))
          refine hR (c_bst hw17 (by rw [hk15_3]; rfl) ⟨by rw [hk15_3]; decide, by rw [hk15_3]; decide⟩ (by omega) (by omega) (Nat.le_of_ble_eq_true rfl) fun w25 hw25 f25 => ?_)
          have fr26 := wfR_st fr19 f25 (by rw [hk15_3]; decide)
          have hO27 := (f25.2 p (rne hρp hk15_3 (by decide))).trans hO20
          refine hR (t_inc ?_)
          refine hR (?_ : R (_, _, _, _, _, _))
          exact ih25 _ _ hw25 fr26 (by omega) (by omega)
      exact lp25 400000000 _ _ hw_17 fr_17 (by omega) (by omega)
  exact lp17 400000000 _ _ _ (by rfl) hw5 fr6 (by omega) (by omega)
theorem c_markUnmade {ρ : Nat → Nat} {w : zW} (d : Nat) (p : Nat) (hw : CI ρ w) (hρp : ρ p = 50) (Q : zQ) (h : ∀ (w' : zW), CI ρ w' → wfR [51, 52] ρ w w' → Q (none) w') : zCl zTab (d + 5) iX4_markUnmade [.ref p] w 0 0 Q := by
  refine zCl_i (M := kX4_markUnmade) rfl (Nat.le_of_ble_eq_true rfl) fun R hR => ?_
  have fr0 := wfR_rf [51, 52] ρ w
  refine hR (?_ : R (_, _, _, _, _, _))
  obtain ⟨z0_1, z2_1, z3_1, hO1, hk1_0, hk1_1, hk1_2, hk1_3, hk1_4⟩ := CI_o50 hw hρp
  refine hR (c_get hO1 rfl ?_)
  refine hR (?_ : R (_, _, _, _, _, _))
  refine hR (zcall_i 0 0 (Nat.le_of_ble_eq_true rfl) (Nat.le_of_ble_eq_true rfl) (c_fillb _ z2_1 5461 1 hw (by rw [hk1_2]; rfl) ⟨by rw [hk1_2]; decide, by rw [hk1_2]; decide⟩ (by omega) _ fun w2 hw2 f2 => ?_))
  refine (?_ : R (_, _, [], w2, 0, 0))
  have fr3 := wfR_st fr0 f2 (by rw [hk1_2]; decide)
  have hO4 := (f2.2 p (rne hρp hk1_2 (by decide))).trans hO1
  iterate 2 refine hR (?_ : R (_, _, _, _, _, _))
  have lp10 : ∀ (N : Nat) (r : Int) (o2_10 : Option Value) (w_10 : zW), (zc2 o2_10 = false) → (CI ρ w_10) → (wfR [51, 52] ρ w w_10) → (zix w_10 p = some (.inr (3, [.ref z0_1, .ref (p + 1), .ref z2_1, .ref z3_1]))) → (0 ≤ r ∧ r ≤ 5) → (6 - r < N) → R (10, [some (.ref p), some (.int (Int32.ofInt r)), o2_10], [], w_10, 0, 0) := by
    intro N
    induction N with
    | zero => intros; omega
    | succ N ih10 =>
      intro r o2_10 w_10 hzo2_10 hw_10 fr_10 hOp_10 hf0_10 hN10
      iterate 2 refine hR (?_ : R (_, _, _, _, _, _))
      refine hR (c_get hOp_10 rfl ?_)
      obtain ⟨x0_5, x1_5, x2_5, hO5, hk5_0, hk5_1, hk5_2, hk5_3, hk5_4, hk5_5, hk5_6⟩ := CI_o20 hw_10 hk1_0
      refine hR (c_get hO5 rfl ?_)
      refine hR (j_ge (by omega) (by omega) (fun hc6 => ?_) (fun hc6 => ?_))
      · skip
        exact hR (zret_i rfl (Nat.le_refl _) rfl (h _ hw_10 fr_10))
      iterate 2 refine hR (?_ : R (_, _, _, _, _, _))
      have lp23 : ∀ (N : Nat) (t : Int) (w_23 : zW), (CI ρ w_23) → (wfR [51, 52] ρ w w_23) → (zix w_23 p = some (.inr (3, [.ref z0_1, .ref (p + 1), .ref z2_1, .ref z3_1]))) → (zix w_23 z0_1 = some (.inr (0, [.int (Int32.ofInt x0_5), .int (Int32.ofInt x1_5), .int (Int32.ofInt x2_5), .ref (z0_1 + 1), .ref (z0_1 + 2), .ref (z0_1 + 3), .ref (z0_1 + 4)]))) → (0 ≤ t ∧ t ≤ 5461) → (5462 - t < N) → R (23, [some (.ref p), some (.int (Int32.ofInt r)), some (.int (Int32.ofInt t))], [], w_23, 0, 0) := by
        intro N
        induction N with
        | zero => intros; omega
        | succ N ih23 =>
          intro t w_23 hw_23 fr_23 hOp_23 hOz0_1_23 hf0_23 hN23
          refine hR (?_ : R (_, _, _, _, _, _))
          refine hR (t_c 5461 (by decide) ?_)
          refine hR (j_ge (by omega) (by omega) (fun hc7 => ?_) (fun hc7 => ?_))
          · skip
            refine hR (t_inc ?_)
            refine hR (?_ : R (_, _, _, _, _, _))
            exact ih10 _ _ _ (by rfl) hw_23 fr_23 hOp_23 (by omega) (by omega)
          refine hR (?_ : R (_, _, _, _, _, _))
          refine hR (c_get hOp_23 rfl ?_)
          iterate 3 refine hR (?_ : R (_, _, _, _, _, _))
          refine hR (c_obj hOp_23 (zcall_i 0 0 (Nat.le_of_ble_eq_true rfl) (Nat.le_of_ble_eq_true rfl) (c_after _ p r t hw_23 hρp (by omega) (by omega) _ fun v8 w9 hw9 g9 hp10 => ?_)))
          have fr11 := wfR_tr fr_23 g9 (by decide)
          have hO12 := (g9.2 p (by rw [hρp]; decide)).trans hOp_23
          have hO13 := (g9.2 z0_1 (by rw [hk1_0]; decide)).trans hOz0_1_23
          refine (?_ : R (_, _, (.int (Int32.ofInt v8)) :: (.ref z2_1) :: [], w9, 0, 0))
          refine hR (?_ : R (_, _, _, _, _, _))
          refine hR (c_bst hw9 (by rw [hk1_2]; rfl) ⟨by rw [hk1_2]; decide, by rw [hk1_2]; decide⟩ (by omega) (by omega) (Nat.le_of_ble_eq_true rfl) fun w14 hw14 f14 => ?_)
          have fr15 := wfR_st fr11 f14 (by rw [hk1_2]; decide)
          have hO16 := (f14.2 p (rne hρp hk1_2 (by decide))).trans hO12
          have hO17 := (f14.2 z0_1 (rne hk1_0 hk1_2 (by decide))).trans hO13
          refine hR (t_inc ?_)
          refine hR (?_ : R (_, _, _, _, _, _))
          exact ih23 _ _ hw14 fr15 hO16 hO17 (by omega) (by omega)
      exact lp23 400000000 _ _ hw_10 fr_10 hOp_10 hO5 (by omega) (by omega)
  exact lp10 400000000 _ _ _ (by rfl) hw2 fr3 hO4 (by omega) (by omega)
theorem c_marked {ρ : Nat → Nat} {w : zW} (d : Nat) (p : Nat) (hw : CI ρ w) (hρp : ρ p = 50) (Q : zQ) (h : ∀ (v : Int), Q (some (.int (Int32.ofInt v))) w) : zCl zTab (d + 1) iX4_marked [.ref p] w 0 0 Q := by
  refine zCl_i (M := kX4_marked) rfl (Nat.le_of_ble_eq_true rfl) fun R hR => ?_
  have fr0 := wfR_rf [] ρ w
  iterate 4 refine hR (?_ : R (_, _, _, _, _, _))
  have lp4 : ∀ (N : Nat) (n : Int) (t : Int), (0 ≤ t ∧ t ≤ 5461) → (5462 - t < N) → R (4, [some (.ref p), some (.int (Int32.ofInt n)), some (.int (Int32.ofInt t))], [], w, 0, 0) := by
    intro N
    induction N with
    | zero => intros; omega
    | succ N ih4 =>
      intro n t hf0_4 hN4
      refine hR (?_ : R (_, _, _, _, _, _))
      refine hR (t_c 5461 (by decide) ?_)
      refine hR (j_ge (by omega) (by omega) (fun hc1 => ?_) (fun hc1 => ?_))
      · skip
        refine hR (?_ : R (_, _, _, _, _, _))
        exact hR (zret_i rfl (Nat.le_refl _) trivial (h _))
      iterate 2 refine hR (?_ : R (_, _, _, _, _, _))
      obtain ⟨z0_2, z2_2, z3_2, hO2, hk2_0, hk2_1, hk2_2, hk2_3, hk2_4⟩ := CI_o50 hw hρp
      refine hR (c_get hO2 rfl ?_)
      refine hR (?_ : R (_, _, _, _, _, _))
      refine hR (c_bld hw (by rw [hk2_2]; rfl) (by omega) (by omega) (Nat.le_of_ble_eq_true rfl) fun v3 rv3 => ?_)
      refine hR (t_add ?_)
      refine hR (?_ : R (_, _, _, _, _, _))
      refine hR (t_inc ?_)
      refine hR (?_ : R (_, _, _, _, _, _))
      exact ih4 _ _ (by omega) (by omega)
  exact lp4 400000000 _ _ (by omega) (by omega)
theorem c_leastMarked {ρ : Nat → Nat} {w : zW} (d : Nat) (p : Nat) (hw : CI ρ w) (hρp : ρ p = 50) (Q : zQ) (h : ∀ (v : Int), Q (some (.int (Int32.ofInt v))) w) : zCl zTab (d + 1) iX4_leastMarked [.ref p] w 0 0 Q := by
  refine zCl_i (M := kX4_leastMarked) rfl (Nat.le_of_ble_eq_true rfl) fun R hR => ?_
  have fr0 := wfR_rf [] ρ w
  iterate 2 refine hR (?_ : R (_, _, _, _, _, _))
  have lp2 : ∀ (N : Nat) (t : Int), (0 ≤ t ∧ t ≤ 5461) → (5462 - t < N) → R (2, [some (.ref p), some (.int (Int32.ofInt t))], [], w, 0, 0) := by
    intro N
    induction N with
    | zero => intros; omega
    | succ N ih2 =>
      intro t hf0_2 hN2
      refine hR (?_ : R (_, _, _, _, _, _))
      refine hR (t_c 5461 (by decide) ?_)
      refine hR (j_ge (by omega) (by omega) (fun hc1 => ?_) (fun hc1 => ?_))
      · skip
        refine hR (?_ : R (_, _, _, _, _, _))
        exact hR (zret_i rfl (Nat.le_refl _) trivial (h _))
      refine hR (?_ : R (_, _, _, _, _, _))
      obtain ⟨z0_2, z2_2, z3_2, hO2, hk2_0, hk2_1, hk2_2, hk2_3, hk2_4⟩ := CI_o50 hw hρp
      refine hR (c_get hO2 rfl ?_)
      refine hR (?_ : R (_, _, _, _, _, _))
      refine hR (c_bld hw (by rw [hk2_2]; rfl) (by omega) (by omega) (Nat.le_of_ble_eq_true rfl) fun v3 rv3 => ?_)
      refine hR (j_any ?_ ?_)
      rotate_left
      · skip
        refine hR (?_ : R (_, _, _, _, _, _))
        exact hR (zret_i rfl (Nat.le_refl _) trivial (h _))
      refine hR (t_inc ?_)
      refine hR (?_ : R (_, _, _, _, _, _))
      exact ih2 _ (by omega) (by omega)
  exact lp2 400000000 _ (by omega) (by omega)
