/-! THE CLASS'S LEVELS, BY PLACES. -/
theorem lfq_r {F : Int → Int → Int} {ok M : Int → Bool} {i rr m v e : Int} {s : LvS} {T3 T4 T6 : Nat → Int32} (h : LQ (lsB m v (lsA ok m (lsR F ok M i s rr.toNat))) e T3 T4 T6) (hm : m = F rr ((lsR F ok M i s rr.toNat).2.1 i)) (hv : v = (lsR F ok M i s rr.toNat).2.2.1 i) (hM : M rr = true) (r0 : 0 ≤ rr) : LQ (lsR F ok M i s (rr + 1 : Int).toNat) e T3 T4 T6 := by
  rw [lsR_s r0, if_pos hM]
  unfold lsS
  rw [← hm, ← hv]
  exact h
theorem lfq_rn {F : Int → Int → Int} {ok M : Int → Bool} {i rr e : Int} {s : LvS} {T3 T4 T6 : Nat → Int32} (h : LQ (lsR F ok M i s rr.toNat) e T3 T4 T6) (hM : M rr = false) (r0 : 0 ≤ rr) : LQ (lsR F ok M i s (rr + 1 : Int).toNat) e T3 T4 T6 := by
  rw [lsR_s r0, if_neg (by rw [hM]; decide)]
  exact h
theorem lfq_i {F : Int → Int → Int} {ok M : Int → Bool} {R st i rr e : Int} {s : LvS} {T3 T4 T6 : Nat → Int32} (h : LQ (lsR F ok M i (lsN F ok M R st s (i - st).toNat) rr.toNat) e T3 T4 T6) (hr : rr = R) (hs : st ≤ i) : LQ (lsN F ok M R st s (i + 1 - st).toNat) e T3 T4 T6 := by
  rw [lsN_s hs]
  rw [hr] at h
  exact h
theorem x_fillL (w : zW) (d : Nat) (q : Nat) (a1 : Int) (len : Nat) (g : Nat → Int32) (hK0 : zix w q = some (.inl (1, len, .inl g))) (hr0 : (-2147483648 ≤ a1 ∧ a1 ≤ 2147483647)) (hr1 : len ≤ 60000) (Q : zQ) (h : ∀ (T' : Nat → Int32) (w' : zW), wfM (fun j => j ≠ q) w w' → zix w' q = some (.inl (1, len, .inl T')) → (∀ x : Int, 0 ≤ x → x < len → tBy T' x = a1) → Q (none) w') : zCl zTab (d + 1) iJ7_fill_53178 [.ref q, .int (Int32.ofInt a1)] w 0 0 Q := by
  exact c_fillP w d q len a1 g hK0 hr0 hr1 Q fun w' g' f1 hg hj _ => h g' w' (wfM_st (wfM_rf _ w) f1 (fun j hj => hj)) hg (fun x x0 x1 => hj x.toNat (by omega))
theorem x_allI (w : zW) (d : Nat) (p b z2 z3 : Nat) (x0 nn x2 : Int) (hK0 : zix w p = some (.inr (3, [.ref b, .ref (p + 1), .ref z2, .ref z3]))) (hK1 : zix w b = some (.inr (0, [.int (Int32.ofInt x0), .int (Int32.ofInt nn), .int (Int32.ofInt x2), .ref (b + 1), .ref (b + 2), .ref (b + 3), .ref (b + 4)]))) (hr0 : 0 ≤ nn ∧ nn ≤ 5) (Q : zQ) (h : ∀ (v : Int), (v = bShl 1 nn - 1) → Q (some (.int (Int32.ofInt v))) w) : zCl zTab (d + 1) iX4_all [.ref p] w 0 0 Q := by
  refine zCl_i (M := kX4_all) rfl (Nat.le_of_ble_eq_true rfl) fun R hR => ?_
  have hsb := shl_b hr0
  iterate 2 refine hR (?_ : R (_, _, _, _, _, _))
  refine hR (c_get hK0 rfl ?_)
  refine hR (c_get hK1 rfl ?_)
  refine hR (t_c (bShl 1 nn) (zoi _).symm ?_)
  have hbt1 : r32 (bShl 1 nn) := zrg _
  refine hR (?_ : R (_, _, _, _, _, _))
  refine hR (t_sub ?_)
  exact hR (zret_i rfl (Nat.le_refl _) trivial (h _ rfl))
theorem x_isWantedI (w : zW) (d : Nat) (q p : Nat) (a1 a2 : Int) (y1 y2 y3 : Int) (gW : Nat → Int32) (hK0 : zix w q = some (.inr (2, [.ref p, .int (Int32.ofInt y1), .int (Int32.ofInt y2), .int (Int32.ofInt y3), .ref (q + 1), .ref (q + 2), .ref (q + 3), .ref (q + 4), .ref (q + 5), .ref (q + 6)]))) (hK1 : zix w (q + 2) = some (.inl (1, 10, .inl gW))) (hr0 : 0 ≤ a1 ∧ a1 ≤ 9) (hr1 : (-2147483648 ≤ a2 ∧ a2 ≤ 2147483647)) (Q : zQ) (h : ∀ (v : Int), ((v = 1 ∧ okW gW a1 a2 = true) ∨ (v = 0 ∧ okW gW a1 a2 = false)) → Q (some (.int (Int32.ofInt v))) w) : zCl zTab (d + 1) iX2_isWanted [.ref q, .int (Int32.ofInt a1), .int (Int32.ofInt a2)] w 0 0 Q := by
  refine zCl_i (M := kX2_isWanted) rfl (Nat.le_of_ble_eq_true rfl) fun R hR => ?_
  refine hR (?_ : R (_, _, _, _, _, _))
  refine hR (c_get hK0 rfl ?_)
  refine hR (?_ : R (_, _, _, _, _, _))
  refine hR (c_aldE hK1 (by omega) (by omega) (Nat.le_of_ble_eq_true rfl) fun v1 ev1 rv1 => ?_)
  replace ev1 : v1 = tBy gW a1 := ev1
  subst ev1
  refine hR (?_ : R (_, _, _, _, _, _))
  refine hR (j_eq (by omega) (by omega) (fun hc2 => ?_) (fun hc2 => ?_))
  · skip
    iterate 2 refine hR (?_ : R (_, _, _, _, _, _))
    exact hR (zret_i rfl (Nat.le_refl _) (zbo (by omega)) (h _ (Or.inl ⟨rfl, okW_t (by omega)⟩)))
  refine hR (?_ : R (_, _, _, _, _, _))
  refine hR (c_get hK0 rfl ?_)
  refine hR (?_ : R (_, _, _, _, _, _))
  refine hR (c_aldE hK1 (by omega) (by omega) (Nat.le_of_ble_eq_true rfl) fun v3 ev3 rv3 => ?_)
  replace ev3 : v3 = tBy gW a1 := ev3
  subst ev3
  refine hR (?_ : R (_, _, _, _, _, _))
  refine hR (j_ne (by omega) (by omega) (fun hc4 => ?_) (fun hc4 => ?_))
  · skip
    refine hR (?_ : R (_, _, _, _, _, _))
    exact hR (zret_i rfl (Nat.le_refl _) (zbo (by omega)) (h _ (Or.inr ⟨rfl, okW_f (by omega)⟩)))
  iterate 2 refine hR (?_ : R (_, _, _, _, _, _))
  exact hR (zret_i rfl (Nat.le_refl _) (zbo (by omega)) (h _ (Or.inl ⟨rfl, okW_t (by omega)⟩)))
theorem x_onesAtI (w : zW) (d : Nat) (q p : Nat) (a1 : Int) (y1 y2 y3 : Int) (hK0 : zix w q = some (.inr (2, [.ref p, .int (Int32.ofInt y1), .int (Int32.ofInt y2), .int (Int32.ofInt y3), .ref (q + 1), .ref (q + 2), .ref (q + 3), .ref (q + 4), .ref (q + 5), .ref (q + 6)]))) (hr0 : 0 ≤ a1 ∧ a1 ≤ 9) (Q : zQ) (h : ∀ (v : Int), (v = if a1 % 2 = 0 then y2 else y3) → Q (some (.int (Int32.ofInt v))) w) : zCl zTab (d + 1) iX2_onesAt [.ref q, .int (Int32.ofInt a1)] w 0 0 Q := by
  refine zCl_i (M := kX2_onesAt) rfl (Nat.le_of_ble_eq_true rfl) fun R hR => ?_
  iterate 2 refine hR (?_ : R (_, _, _, _, _, _))
  refine hR (t_rem (by omega) (by omega) (by omega) (by omega) ?_)
  refine hR (k_ne (by omega) (fun hc1 => ?_) (fun hc1 => ?_))
  · skip
    refine hR (?_ : R (_, _, _, _, _, _))
    refine hR (c_get hK0 rfl ?_)
    exact hR (zret_i rfl (Nat.le_refl _) trivial (h _ (if_neg (by omega)).symm))
  refine hR (?_ : R (_, _, _, _, _, _))
  refine hR (c_get hK0 rfl ?_)
  refine hR (?_ : R (_, _, _, _, _, _))
  exact hR (zret_i rfl (Nat.le_refl _) trivial (h _ (if_pos (by omega)).symm))
theorem x_forgetI (w : zW) (d : Nat) (q p : Nat) (a1 : Int) (y1 y2 y3 : Int) (gS g3 g6 : Nat → Int32) (hK0 : zix w q = some (.inr (2, [.ref p, .int (Int32.ofInt y1), .int (Int32.ofInt y2), .int (Int32.ofInt y3), .ref (q + 1), .ref (q + 2), .ref (q + 3), .ref (q + 4), .ref (q + 5), .ref (q + 6)]))) (hK1 : zix w (q + 1) = some (.inl (1, 11, .inl gS))) (hK2 : zix w (q + 3) = some (.inl (1, 25750, .inl g3))) (hK3 : zix w (q + 6) = some (.inl (1, 5461, .inl g6))) (hr0 : 0 ≤ a1 ∧ a1 ≤ 9) (hr1 : (0 ≤ tBy gS a1 ∧ tBy gS a1 ≤ tBy gS (a1 + 1)) ∧ tBy gS (a1 + 1) ≤ 25750) (hr2 : ∀ j : Int, tBy gS a1 ≤ j → j < tBy gS (a1 + 1) → 0 ≤ tBy g3 j ∧ tBy g3 j ≤ 5460) (hr3 : ∀ t : Int, 0 ≤ t → t ≤ 5460 → tBy g6 t ≠ -1 → ∃ j : Int, (tBy gS a1 ≤ j ∧ j < tBy gS (a1 + 1)) ∧ tBy g3 j = t) (Q : zQ) (h : ∀ (T6 : Nat → Int32) (w' : zW), wfM (fun j => j ≠ q + 6) w w' → zix w' (q + 6) = some (.inl (1, 5461, .inl T6)) → (∀ t : Int, 0 ≤ t → t ≤ 5460 → tBy T6 t = -1) → Q (none) w') : zCl zTab (d + 1) iX2_forget [.ref q, .int (Int32.ofInt a1)] w 0 0 Q := by
  refine zCl_i (M := kX2_forget) rfl (Nat.le_of_ble_eq_true rfl) fun R hR => ?_
  have fr0 : wfM (fun j => j ≠ q + 6) w w := wfM_rf _ w
  have nX0 : FX (∀ j : Nat, (j ≠ q + 6) → j ≠ q + 6) := fun j hj => by omega
  have nX1 : FX (q ≠ q + 6) := (show q ≠ q + 6 by omega)
  have nX2 : FX ((q + 1) ≠ q + 6) := (show (q + 1) ≠ q + 6 by omega)
  have nX3 : FX ((q + 3) ≠ q + 6) := (show (q + 3) ≠ q + 6 by omega)
  refine hR (?_ : R (_, _, _, _, _, _))
  refine hR (c_get hK0 rfl ?_)
  refine hR (?_ : R (_, _, _, _, _, _))
  refine hR (c_aldE hK1 (by omega) (by omega) (Nat.le_of_ble_eq_true rfl) fun v1 ev1 rv1 => ?_)
  replace ev1 : v1 = tBy gS a1 := ev1
  subst ev1
  refine hR (?_ : R (_, _, _, _, _, _))
  have lp7 : ∀ (N : Nat) (ii : Int) (T : Nat → Int32) (w_7 : zW), (wfM (fun j => j ≠ q + 6) w w_7) → (zix w_7 q = some (.inr (2, [.ref p, .int (Int32.ofInt y1), .int (Int32.ofInt y2), .int (Int32.ofInt y3), .ref (q + 1), .ref (q + 2), .ref (q + 3), .ref (q + 4), .ref (q + 5), .ref (q + 6)]))) → (zix w_7 (q + 1) = some (.inl (1, 11, .inl gS))) → (zix w_7 (q + 3) = some (.inl (1, 25750, .inl g3))) → (zix w_7 (q + 6) = some (.inl (1, 5461, .inl T))) → (0 ≤ ii ∧ ii ≤ 25750) → (∀ t : Int, 0 ≤ t → t ≤ 5460 → tBy T t ≠ -1 → ∃ j : Int, (ii ≤ j ∧ j < tBy gS (a1 + 1)) ∧ tBy g3 j = t) → (tBy gS a1 ≤ ii) → (25751 - ii < N) → R (7, [some (.ref q), some (.int (Int32.ofInt a1)), some (.int (Int32.ofInt ii))], [], w_7, 0, 0) := by
    intro N
    induction N with
    | zero => intros; omega
    | succ N ih7 =>
      intro ii T w_7 fr_7 hCq_7 hCq1_7 hCq3_7 hCq6_7 hf0_7 hp0_7 hp1_7 hN7
      iterate 2 refine hR (?_ : R (_, _, _, _, _, _))
      refine hR (c_get hCq_7 rfl ?_)
      iterate 2 refine hR (?_ : R (_, _, _, _, _, _))
      refine hR (t_add ?_)
      refine hR (c_aldE hCq1_7 (by omega) (by omega) (Nat.le_of_ble_eq_true rfl) fun v2 ev2 rv2 => ?_)
      replace ev2 : v2 = tBy gS (a1 + 1) := ev2
      subst ev2
      refine hR (j_ge (by omega) (by omega) (fun hc3 => ?_) (fun hc3 => ?_))
      · skip
        exact hR (zret_i rfl (Nat.le_refl _) rfl (h _ _ fr_7 hCq6_7 (cl_e hp0_7 (by omega))))
      refine hR (?_ : R (_, _, _, _, _, _))
      refine hR (c_get hCq_7 rfl ?_)
      refine hR (?_ : R (_, _, _, _, _, _))
      refine hR (c_get hCq_7 rfl ?_)
      refine hR (?_ : R (_, _, _, _, _, _))
      refine hR (c_aldE hCq3_7 (by omega) (by omega) (Nat.le_of_ble_eq_true rfl) fun v4 ev4 rv4 => ?_)
      replace ev4 : v4 = tBy g3 ii := ev4
      subst ev4
      have hq := hr2 ii (by omega) (by omega)
      refine hR (?_ : R (_, _, _, _, _, _))
      refine hR (x_ast hCq6_7 (by omega) (by omega) (Nat.le_of_ble_eq_true rfl) fun w5 ff5 hC5 => ?_)
      have fr6 := wfM_st fr_7 ff5 nX0
      have hC7 := (ff5.2 q nX1).trans hCq_7
      have hC8 := (ff5.2 (q + 1) nX2).trans hCq1_7
      have hC9 := (ff5.2 (q + 3) nX3).trans hCq3_7
      refine hR (t_inc ?_)
      refine hR (?_ : R (_, _, _, _, _, _))
      exact ih7 _ _ _ fr6 hC7 hC8 hC9 hC5 (by omega) (cl_st hp0_7 (by omega)) (by omega) (by omega)
  exact lp7 400000000 _ _ _ fr0 hK0 hK1 hK2 hK3 (by omega) hr3 (by omega) (by omega)
theorem x_fillBehindI (w : zW) (d : Nat) (q p b z2 z3 : Nat) (a1 : Int) (x0 nn x2 : Int) (F : Int → Int → Int) (y1 y2 y3 : Int) (gS gW g3 g4 g6 : Nat → Int32) (s0 : LvS) (hK0 : zix w q = some (.inr (2, [.ref p, .int (Int32.ofInt y1), .int (Int32.ofInt y2), .int (Int32.ofInt y3), .ref (q + 1), .ref (q + 2), .ref (q + 3), .ref (q + 4), .ref (q + 5), .ref (q + 6)]))) (hK1 : zix w (q + 1) = some (.inl (1, 11, .inl gS))) (hK2 : zix w (q + 2) = some (.inl (1, 10, .inl gW))) (hK3 : zix w (q + 3) = some (.inl (1, 25750, .inl g3))) (hK4 : zix w (q + 4) = some (.inl (1, 25750, .inl g4))) (hK5 : zix w (q + 6) = some (.inl (1, 5461, .inl g6))) (hK6 : zix w p = some (.inr (3, [.ref b, .ref (p + 1), .ref z2, .ref z3]))) (hK7 : zix w b = some (.inr (0, [.int (Int32.ofInt x0), .int (Int32.ofInt nn), .int (Int32.ofInt x2), .ref (b + 1), .ref (b + 2), .ref (b + 3), .ref (b + 4)]))) (hK8 : AFK w p b F) (hr0 : 0 ≤ a1 ∧ a1 ≤ 8) (hr1 : ((b + 4 < p ∨ p + 1 < b) ∧ (z2 ≠ p ∧ z2 ≠ p + 1 ∧ z3 ≠ p ∧ z3 ≠ p + 1 ∧ z2 ≠ z3)) ∧ ((z2 < b ∨ b + 4 < z2) ∧ (z3 < b ∨ b + 4 < z3))) (hr2 : (q + 6 < p ∨ p + 1 < q) ∧ (q + 6 < b ∨ b + 4 < q) ∧ (b + 4 < p ∨ p + 1 < b)) (hr3 : 0 ≤ y2 ∧ y2 ≤ 31 ∧ 0 ≤ y3 ∧ y3 ≤ 31) (hr4 : LFH F nn (tBy gS a1) (tBy gS (a1 + 1)) s0) (hr5 : LQ s0 (tBy gS (a1 + 1)) g3 g4 g6) (Q : zQ) (h : ∀ (v : Int) (T3 T4 T6 : Nat → Int32) (w' : zW), wfM (fun j => j ≠ q + 3 ∧ j ≠ q + 4 ∧ j ≠ q + 6 ∧ j ≠ p + 1) w w' → zix w' (q + 3) = some (.inl (1, 25750, .inl T3)) → zix w' (q + 4) = some (.inl (1, 25750, .inl T4)) → zix w' (q + 6) = some (.inl (1, 5461, .inl T6)) → AFK w' p b F → (LQ (lsN F (okW gW (a1 + 1)) (hM (if a1 % 2 = 0 then y2 else y3)) nn (tBy gS a1) s0 (tBy gS (a1 + 1) - tBy gS a1).toNat) v T3 T4 T6) → Q (some (.int (Int32.ofInt v))) w') : zCl zTab (d + 5) iX2_fillBehind [.ref q, .int (Int32.ofInt a1)] w 0 0 Q := by
  refine zCl_i (M := kX2_fillBehind) rfl (Nat.le_of_ble_eq_true rfl) fun R hR => ?_
  have fr0 : wfM (fun j => j ≠ q + 3 ∧ j ≠ q + 4 ∧ j ≠ q + 6 ∧ j ≠ p + 1) w w := wfM_rf _ w
  have hlf := hr4
  obtain ⟨hF, hRn, he, hm, -⟩ := hlf
  have hse : 0 ≤ (if a1 % 2 = 0 then y2 else y3) ∧ (if a1 % 2 = 0 then y2 else y3) ≤ 31 := by split <;> omega
  have nX0 : FX (∀ j : Nat, (j ≠ q + 3 ∧ j ≠ q + 4 ∧ j ≠ q + 6 ∧ j ≠ p + 1) → (j ≠ p + 1)) := fun j hj => by omega
  have nX1 : FX (q ≠ p + 1) := (show q ≠ p + 1 by omega)
  have nX2 : FX ((q + 1) ≠ p + 1) := (show (q + 1) ≠ p + 1 by omega)
  have nX3 : FX ((q + 2) ≠ p + 1) := (show (q + 2) ≠ p + 1 by omega)
  have nX4 : FX ((q + 3) ≠ p + 1) := (show (q + 3) ≠ p + 1 by omega)
  have nX5 : FX ((q + 4) ≠ p + 1) := (show (q + 4) ≠ p + 1 by omega)
  have nX6 : FX ((q + 6) ≠ p + 1) := (show (q + 6) ≠ p + 1 by omega)
  have nX7 : FX (p ≠ p + 1) := (show p ≠ p + 1 by omega)
  have nX8 : FX (b ≠ p + 1) := (show b ≠ p + 1 by omega)
  have nX9 : FX (∀ j : Nat, (j ≠ q + 3 ∧ j ≠ q + 4 ∧ j ≠ q + 6 ∧ j ≠ p + 1) → j ≠ q + 4) := fun j hj => by omega
  have nX10 : FX (q ≠ q + 4) := (show q ≠ q + 4 by omega)
  have nX11 : FX ((q + 1) ≠ q + 4) := (show (q + 1) ≠ q + 4 by omega)
  have nX12 : FX ((q + 2) ≠ q + 4) := (show (q + 2) ≠ q + 4 by omega)
  have nX13 : FX ((q + 3) ≠ q + 4) := (show (q + 3) ≠ q + 4 by omega)
  have nX14 : FX ((q + 6) ≠ q + 4) := (show (q + 6) ≠ q + 4 by omega)
  have nX15 : FX (p ≠ q + 4) := (show p ≠ q + 4 by omega)
  have nX16 : FX (b ≠ q + 4) := (show b ≠ q + 4 by omega)
  have nX17 : FX (∀ j : Nat, (j = p + 1 ∨ (b ≤ j ∧ j ≤ b + 4)) → (j ≠ q + 4)) := fun j hj => by omega
  have nX18 : FX (∀ j : Nat, (j ≠ q + 3 ∧ j ≠ q + 4 ∧ j ≠ q + 6 ∧ j ≠ p + 1) → j ≠ q + 6) := fun j hj => by omega
  have nX19 : FX (q ≠ q + 6) := (show q ≠ q + 6 by omega)
  have nX20 : FX ((q + 1) ≠ q + 6) := (show (q + 1) ≠ q + 6 by omega)
  have nX21 : FX ((q + 2) ≠ q + 6) := (show (q + 2) ≠ q + 6 by omega)
  have nX22 : FX ((q + 3) ≠ q + 6) := (show (q + 3) ≠ q + 6 by omega)
  have nX23 : FX ((q + 4) ≠ q + 6) := (show (q + 4) ≠ q + 6 by omega)
  have nX24 : FX (p ≠ q + 6) := (show p ≠ q + 6 by omega)
  have nX25 : FX (b ≠ q + 6) := (show b ≠ q + 6 by omega)
  have nX26 : FX (∀ j : Nat, (j = p + 1 ∨ (b ≤ j ∧ j ≤ b + 4)) → (j ≠ q + 6)) := fun j hj => by omega
  have nX27 : FX (∀ j : Nat, (j ≠ q + 3 ∧ j ≠ q + 4 ∧ j ≠ q + 6 ∧ j ≠ p + 1) → j ≠ q + 3) := fun j hj => by omega
  have nX28 : FX (q ≠ q + 3) := (show q ≠ q + 3 by omega)
  have nX29 : FX ((q + 1) ≠ q + 3) := (show (q + 1) ≠ q + 3 by omega)
  have nX30 : FX ((q + 2) ≠ q + 3) := (show (q + 2) ≠ q + 3 by omega)
  have nX31 : FX ((q + 4) ≠ q + 3) := (show (q + 4) ≠ q + 3 by omega)
  have nX32 : FX ((q + 6) ≠ q + 3) := (show (q + 6) ≠ q + 3 by omega)
  have nX33 : FX (p ≠ q + 3) := (show p ≠ q + 3 by omega)
  have nX34 : FX (b ≠ q + 3) := (show b ≠ q + 3 by omega)
  have nX35 : FX (∀ j : Nat, (j = p + 1 ∨ (b ≤ j ∧ j ≤ b + 4)) → (j ≠ q + 3)) := fun j hj => by omega
  refine hR (?_ : R (_, _, _, _, _, _))
  refine hR (c_get hK0 rfl ?_)
  iterate 2 refine hR (?_ : R (_, _, _, _, _, _))
  refine hR (t_add ?_)
  refine hR (c_aldE hK1 (by omega) (by omega) (Nat.le_of_ble_eq_true rfl) fun v1 ev1 rv1 => ?_)
  replace ev1 : v1 = tBy gS (a1 + 1) := ev1
  subst ev1
  iterate 2 refine hR (?_ : R (_, _, _, _, _, _))
  refine hR (c_get hK0 rfl ?_)
  refine hR (?_ : R (_, _, _, _, _, _))
  refine hR (c_aldE hK1 (by omega) (by omega) (Nat.le_of_ble_eq_true rfl) fun v2 ev2 rv2 => ?_)
  replace ev2 : v2 = tBy gS a1 := ev2
  subst ev2
  refine hR (?_ : R (_, _, _, _, _, _))
  have lp16 : ∀ (N : Nat) (e1 : Int) (ii : Int) (o4_16 : Option Value) (o5_16 : Option Value) (U3 U4 U6 : Nat → Int32) (w_16 : zW), (zc2 o4_16 = false) → (zc2 o5_16 = false) → (wfM (fun j => j ≠ q + 3 ∧ j ≠ q + 4 ∧ j ≠ q + 6 ∧ j ≠ p + 1) w w_16) → (zix w_16 q = some (.inr (2, [.ref p, .int (Int32.ofInt y1), .int (Int32.ofInt y2), .int (Int32.ofInt y3), .ref (q + 1), .ref (q + 2), .ref (q + 3), .ref (q + 4), .ref (q + 5), .ref (q + 6)]))) → (zix w_16 (q + 1) = some (.inl (1, 11, .inl gS))) → (zix w_16 (q + 2) = some (.inl (1, 10, .inl gW))) → (zix w_16 (q + 3) = some (.inl (1, 25750, .inl U3))) → (zix w_16 (q + 4) = some (.inl (1, 25750, .inl U4))) → (zix w_16 (q + 6) = some (.inl (1, 5461, .inl U6))) → (zix w_16 p = some (.inr (3, [.ref b, .ref (p + 1), .ref z2, .ref z3]))) → (zix w_16 b = some (.inr (0, [.int (Int32.ofInt x0), .int (Int32.ofInt nn), .int (Int32.ofInt x2), .ref (b + 1), .ref (b + 2), .ref (b + 3), .ref (b + 4)]))) → (AFK w_16 p b F) → (0 ≤ e1 ∧ e1 ≤ 25750) → (0 ≤ ii ∧ ii ≤ 25750) → (LQ (lsN F (okW gW (a1 + 1)) (hM (if a1 % 2 = 0 then y2 else y3)) nn (tBy gS a1) s0 (ii - tBy gS a1).toNat) e1 U3 U4 U6) → (tBy gS a1 ≤ ii ∧ ii ≤ tBy gS (a1 + 1)) → (25751 - ii < N) → R (16, [some (.ref q), some (.int (Int32.ofInt a1)), some (.int (Int32.ofInt e1)), some (.int (Int32.ofInt ii)), o4_16, o5_16], [], w_16, 0, 0) := by
    intro N
    induction N with
    | zero => intros; omega
    | succ N ih16 =>
      intro e1 ii o4_16 o5_16 U3 U4 U6 w_16 hzo4_16 hzo5_16 fr_16 hCq_16 hCq1_16 hCq2_16 hCq3_16 hCq4_16 hCq6_16 hCp_16 hCb_16 hCAF_16 hf0_16 hf1_16 hp0_16 hp1_16 hN16
      iterate 2 refine hR (?_ : R (_, _, _, _, _, _))
      refine hR (c_get hCq_16 rfl ?_)
      iterate 2 refine hR (?_ : R (_, _, _, _, _, _))
      refine hR (t_add ?_)
      refine hR (c_aldE hCq1_16 (by omega) (by omega) (Nat.le_of_ble_eq_true rfl) fun v3 ev3 rv3 => ?_)
      replace ev3 : v3 = tBy gS (a1 + 1) := ev3
      subst ev3
      refine hR (j_ge (by omega) (by omega) (fun hc4 => ?_) (fun hc4 => ?_))
      · skip
        refine hR (?_ : R (_, _, _, _, _, _))
        exact hR (zret_i rfl (Nat.le_refl _) trivial (h _ _ _ _ _ fr_16 hCq3_16 hCq4_16 hCq6_16 hCAF_16 (by rw [show tBy gS (a1 + 1) = ii by omega]; exact hp0_16)))
      iterate 2 refine hR (?_ : R (_, _, _, _, _, _))
      have lp31 : ∀ (N : Nat) (e2 : Int) (rr : Int) (o5_31 : Option Value) (T3 T4 T6 : Nat → Int32) (w_31 : zW), (zc2 o5_31 = false) → (wfM (fun j => j ≠ q + 3 ∧ j ≠ q + 4 ∧ j ≠ q + 6 ∧ j ≠ p + 1) w w_31) → (zix w_31 q = some (.inr (2, [.ref p, .int (Int32.ofInt y1), .int (Int32.ofInt y2), .int (Int32.ofInt y3), .ref (q + 1), .ref (q + 2), .ref (q + 3), .ref (q + 4), .ref (q + 5), .ref (q + 6)]))) → (zix w_31 (q + 1) = some (.inl (1, 11, .inl gS))) → (zix w_31 (q + 2) = some (.inl (1, 10, .inl gW))) → (zix w_31 (q + 3) = some (.inl (1, 25750, .inl T3))) → (zix w_31 (q + 4) = some (.inl (1, 25750, .inl T4))) → (zix w_31 (q + 6) = some (.inl (1, 5461, .inl T6))) → (zix w_31 p = some (.inr (3, [.ref b, .ref (p + 1), .ref z2, .ref z3]))) → (zix w_31 b = some (.inr (0, [.int (Int32.ofInt x0), .int (Int32.ofInt nn), .int (Int32.ofInt x2), .ref (b + 1), .ref (b + 2), .ref (b + 3), .ref (b + 4)]))) → (AFK w_31 p b F) → (0 ≤ e2 ∧ e2 ≤ 25750) → (0 ≤ rr ∧ rr ≤ 5) → (LQ (lsR F (okW gW (a1 + 1)) (hM (if a1 % 2 = 0 then y2 else y3)) ii (lsN F (okW gW (a1 + 1)) (hM (if a1 % 2 = 0 then y2 else y3)) nn (tBy gS a1) s0 (ii - tBy gS a1).toNat) rr.toNat) e2 T3 T4 T6) → (rr ≤ nn) → (6 - rr < N) → R (31, [some (.ref q), some (.int (Int32.ofInt a1)), some (.int (Int32.ofInt e2)), some (.int (Int32.ofInt ii)), some (.int (Int32.ofInt rr)), o5_31], [], w_31, 0, 0) := by
        intro N
        induction N with
        | zero => intros; omega
        | succ N ih31 =>
          intro e2 rr o5_31 T3 T4 T6 w_31 hzo5_31 fr_31 hCq_31 hCq1_31 hCq2_31 hCq3_31 hCq4_31 hCq6_31 hCp_31 hCb_31 hCAF_31 hf0_31 hf1_31 hp0_31 hp1_31 hN31
          iterate 2 refine hR (?_ : R (_, _, _, _, _, _))
          refine hR (c_get hCq_31 rfl ?_)
          refine hR (c_get hCp_31 rfl ?_)
          refine hR (c_get hCb_31 rfl ?_)
          refine hR (j_ge (by omega) (by omega) (fun hc5 => ?_) (fun hc5 => ?_))
          · skip
            refine hR (t_inc ?_)
            refine hR (?_ : R (_, _, _, _, _, _))
            exact ih16 _ _ _ _ _ _ _ _ (by rfl) hzo5_31 fr_31 hCq_31 hCq1_31 hCq2_31 hCq3_31 hCq4_31 hCq6_31 hCp_31 hCb_31 hCAF_31 (by omega) (by omega) (lfq_i hp0_31 (by omega) (by omega)) (by omega) (by omega)
          have hat := lf_at (r := rr) hr4 (by omega) (by omega) (by omega) (by omega) (rfl : (lsR F (okW gW (a1 + 1)) (hM (if a1 % 2 = 0 then y2 else y3)) ii (lsN F (okW gW (a1 + 1)) (hM (if a1 % 2 = 0 then y2 else y3)) nn (tBy gS a1) s0 (ii - tBy gS a1).toNat) rr.toNat) = _)
          have hqi := hp0_31.2.1 ii (by omega) (by have := hp0_31.1; omega)
          have hp1 := hp0_31.1
          iterate 2 refine hR (?_ : R (_, _, _, _, _, _))
          refine hR (c_obj hCq_31 (zcall_i 0 0 (Nat.le_of_ble_eq_true rfl) (Nat.le_of_ble_eq_true rfl) (x_onesAtI _ _ _ _ _ _ _ _ hCq_31 (by omega) _ fun v6 hp7 => ?_)))
          subst hp7
          refine (?_ : R (_, _, .int (Int32.ofInt (if a1 % 2 = 0 then y2 else y3)) :: [], w_31, 0, 0))
          refine hR (?_ : R (_, _, _, _, _, _))
          refine hR (zcall_i 0 0 (Nat.le_of_ble_eq_true rfl) (Nat.le_of_ble_eq_true rfl) (x_isInI _ _ _ _ _ fun v8 hp9 => ?_))
          refine (?_ : R (_, _, .int (Int32.ofInt v8) :: [], w_31, 0, 0))
          refine hR (k_ne (by omega) (fun hc10 => ?_) (fun hc10 => ?_))
          rotate_left
          · skip
            refine hR (?_ : R (_, _, _, _, _, _))
            refine hR (t_inc ?_)
            refine hR (?_ : R (_, _, _, _, _, _))
            exact ih31 _ _ _ _ _ _ _ hzo5_31 fr_31 hCq_31 hCq1_31 hCq2_31 hCq3_31 hCq4_31 hCq6_31 hCp_31 hCb_31 hCAF_31 (by omega) (by omega) (lfq_rn hp0_31 (hM_f (by omega)) (by omega)) (by omega) (by omega)
          refine hR (?_ : R (_, _, _, _, _, _))
          refine hR (c_get hCq_31 rfl ?_)
          iterate 2 refine hR (?_ : R (_, _, _, _, _, _))
          refine hR (c_get hCq_31 rfl ?_)
          refine hR (?_ : R (_, _, _, _, _, _))
          refine hR (c_aldE hCq3_31 (by omega) (by omega) (Nat.le_of_ble_eq_true rfl) fun v11 ev11 rv11 => ?_)
          replace ev11 : v11 = tBy T3 ii := ev11
          subst ev11
          refine hR (c_obj hCp_31 (zcall_i 0 0 (Nat.le_of_ble_eq_true rfl) (Nat.le_of_ble_eq_true rfl) (x_after _ _ _ _ _ _ _ _ _ _ _ _ hCp_31 hCb_31 hCAF_31 (by omega) (by omega) hr1 _ fun v12 w13 gg14 hC15 hp16 => ?_)))
          have fr17 := wfM_tr fr_31 gg14 nX0
          have hC18 := (gg14.2 q nX1).trans hCq_31
          have hC19 := (gg14.2 (q + 1) nX2).trans hCq1_31
          have hC20 := (gg14.2 (q + 2) nX3).trans hCq2_31
          have hC21 := (gg14.2 (q + 3) nX4).trans hCq3_31
          have hC22 := (gg14.2 (q + 4) nX5).trans hCq4_31
          have hC23 := (gg14.2 (q + 6) nX6).trans hCq6_31
          have hC24 := (gg14.2 p nX7).trans hCp_31
          have hC25 := (gg14.2 b nX8).trans hCb_31
          refine (?_ : R (_, _, .int (Int32.ofInt v12) :: [], w13, 0, 0))
          have hv := hp16
          have hve : v12 = F rr ((lsR F (okW gW (a1 + 1)) (hM (if a1 % 2 = 0 then y2 else y3)) ii (lsN F (okW gW (a1 + 1)) (hM (if a1 % 2 = 0 then y2 else y3)) nn (tBy gS a1) s0 (ii - tBy gS a1).toNat) rr.toNat).2.1 ii) := by rw [hv.1, ← hqi.1]
          have hnd := hp0_31.2.2 v12 (by omega) (by omega)
          have hnr := hat.2.2.2.2.1 v12
          iterate 2 refine hR (?_ : R (_, _, _, _, _, _))
          refine hR (c_get hC18 rfl ?_)
          refine hR (?_ : R (_, _, _, _, _, _))
          refine hR (c_aldE hC23 (by omega) (by omega) (Nat.le_of_ble_eq_true rfl) fun v26 ev26 rv26 => ?_)
          replace ev26 : v26 = tBy T6 v12 := ev26
          subst ev26
          refine hR (?_ : R (_, _, _, _, _, _))
          refine hR (j_ne (by omega) (by omega) (fun hc27 => ?_) (fun hc27 => ?_))
          · skip
            have hwb : tBy T6 v12 ≠ -1 → 0 < tBy T4 (tBy T6 v12) ∧ tBy T4 (tBy T6 v12) ≤ 20000000 := fun z => by rw [(hp0_31.2.1 (tBy T6 v12) (by omega) (by omega)).2]; exact hat.2.2.2.2.2 _ (by omega) (by omega)
            have hwb2 := hwb (by omega)
            refine hR (?_ : R (_, _, _, _, _, _))
            refine hR (c_get hC18 rfl ?_)
            refine hR (?_ : R (_, _, _, _, _, _))
            refine hR (c_aldE hC23 (by omega) (by omega) (Nat.le_of_ble_eq_true rfl) fun v28 ev28 rv28 => ?_)
            replace ev28 : v28 = tBy T6 v12 := ev28
            subst ev28
            refine hR (?_ : R (_, _, _, _, _, _))
            refine hR (j_eq (by omega) (by omega) (fun hc => by omega) (fun _ => ?_))
            refine hR (?_ : R (_, _, _, _, _, _))
            refine hR (c_get hC18 rfl ?_)
            refine hR (?_ : R (_, _, _, _, _, _))
            refine hR (c_get hC18 rfl ?_)
            refine hR (?_ : R (_, _, _, _, _, _))
            refine hR (c_aldE hC23 (by omega) (by omega) (Nat.le_of_ble_eq_true rfl) fun v29 ev29 rv29 => ?_)
            replace ev29 : v29 = tBy T6 v12 := ev29
            subst ev29
            refine hR (?_ : R (_, _, _, _, _, _))
            refine hR (c_aldE hC22 (by omega) (by omega) (Nat.le_of_ble_eq_true rfl) fun v30 ev30 rv30 => ?_)
            replace ev30 : v30 = tBy T4 (tBy T6 v12) := ev30
            subst ev30
            refine hR (?_ : R (_, _, _, _, _, _))
            refine hR (c_get hC18 rfl ?_)
            refine hR (?_ : R (_, _, _, _, _, _))
            refine hR (c_aldE hC22 (by omega) (by omega) (Nat.le_of_ble_eq_true rfl) fun v31 ev31 rv31 => ?_)
            replace ev31 : v31 = tBy T4 ii := ev31
            subst ev31
            refine hR (t_add ?_)
            refine hR (x_ast hC22 (by omega) (by omega) (Nat.le_of_ble_eq_true rfl) fun w32 ff32 hC32 => ?_)
            have fr33 := wfM_st fr17 ff32 nX9
            have hC34 := (ff32.2 q nX10).trans hC18
            have hC35 := (ff32.2 (q + 1) nX11).trans hC19
            have hC36 := (ff32.2 (q + 2) nX12).trans hC20
            have hC37 := (ff32.2 (q + 3) nX13).trans hC21
            have hC38 := (ff32.2 (q + 6) nX14).trans hC23
            have hC39 := (ff32.2 p nX15).trans hC24
            have hC40 := (ff32.2 b nX16).trans hC25
            have hC41 := AFK_fr hC15 (fun j hj => ff32.2 j (nX17 j hj))
            refine hR (t_inc ?_)
            refine hR (?_ : R (_, _, _, _, _, _))
            exact ih31 _ _ _ _ _ _ _ (by rfl) fr33 hC34 hC35 hC36 hC37 hC32 hC38 hC39 hC40 hC41 (by omega) (by omega) (lfq_r (LQ_b (v := tBy T4 ii) (LQ_n (ok := (okW gW (a1 + 1))) hp0_31 (m := v12) (by omega) (Or.inl (by omega))) (m := v12) (by omega) (by omega) (by omega) (by exact ⟨by omega, by omega⟩)) hve hqi.2 (hM_t (by omega) (by omega) (by omega)) (by omega)) (by omega) (by omega)
          iterate 3 refine hR (?_ : R (_, _, _, _, _, _))
          refine hR (t_add ?_)
          refine hR (?_ : R (_, _, _, _, _, _))
          refine hR (c_obj hC18 (zcall_i 0 0 (Nat.le_of_ble_eq_true rfl) (Nat.le_of_ble_eq_true rfl) (x_isWantedI _ _ _ _ _ _ _ _ _ _ hC18 hC20 (by omega) (by omega) _ fun v42 hp43 => ?_)))
          refine (?_ : R (_, _, .int (Int32.ofInt v42) :: [], w13, 0, 0))
          refine hR (k_eq (by omega) (fun hc44 => ?_) (fun hc44 => ?_))
          · skip
            have hwb : tBy T6 v12 ≠ -1 → 0 < tBy T4 (tBy T6 v12) ∧ tBy T4 (tBy T6 v12) ≤ 20000000 := fun z => by rw [(hp0_31.2.1 (tBy T6 v12) (by omega) (by omega)).2]; exact hat.2.2.2.2.2 _ (by omega) (by omega)
            refine hR (?_ : R (_, _, _, _, _, _))
            refine hR (c_get hC18 rfl ?_)
            refine hR (?_ : R (_, _, _, _, _, _))
            refine hR (c_aldE hC23 (by omega) (by omega) (Nat.le_of_ble_eq_true rfl) fun v45 ev45 rv45 => ?_)
            replace ev45 : v45 = tBy T6 v12 := ev45
            subst ev45
            refine hR (?_ : R (_, _, _, _, _, _))
            refine hR (j_eq (by omega) (by omega) (fun _ => ?_) (fun hc => by omega))
            refine hR (t_inc ?_)
            refine hR (?_ : R (_, _, _, _, _, _))
            exact ih31 _ _ _ _ _ _ _ (by rfl) fr17 hC18 hC19 hC20 hC21 hC22 hC23 hC24 hC25 hC15 (by omega) (by omega) (lfq_r (LQ_c (v := tBy T4 ii) (LQ_n (ok := (okW gW (a1 + 1))) hp0_31 (m := v12) (by omega) (Or.inr (Or.inl (hp43.resolve_left (fun z => by omega)).2))) (m := v12) (by omega) (by omega)) hve hqi.2 (hM_t (by omega) (by omega) (by omega)) (by omega)) (by omega) (by omega)
          refine hR (?_ : R (_, _, _, _, _, _))
          refine hR (t_c 25750 (by decide) ?_)
          refine hR (j_ge (by omega) (by omega) (fun hc46 => ?_) (fun hc46 => ?_))
          · skip
            have hwb : tBy T6 v12 ≠ -1 → 0 < tBy T4 (tBy T6 v12) ∧ tBy T4 (tBy T6 v12) ≤ 20000000 := fun z => by rw [(hp0_31.2.1 (tBy T6 v12) (by omega) (by omega)).2]; exact hat.2.2.2.2.2 _ (by omega) (by omega)
            refine hR (?_ : R (_, _, _, _, _, _))
            refine hR (c_get hC18 rfl ?_)
            refine hR (?_ : R (_, _, _, _, _, _))
            refine hR (c_aldE hC23 (by omega) (by omega) (Nat.le_of_ble_eq_true rfl) fun v47 ev47 rv47 => ?_)
            replace ev47 : v47 = tBy T6 v12 := ev47
            subst ev47
            refine hR (?_ : R (_, _, _, _, _, _))
            refine hR (j_eq (by omega) (by omega) (fun _ => ?_) (fun hc => by omega))
            refine hR (t_inc ?_)
            refine hR (?_ : R (_, _, _, _, _, _))
            exact ih31 _ _ _ _ _ _ _ (by rfl) fr17 hC18 hC19 hC20 hC21 hC22 hC23 hC24 hC25 hC15 (by omega) (by omega) (lfq_r (LQ_c (v := tBy T4 ii) (LQ_n (ok := (okW gW (a1 + 1))) hp0_31 (m := v12) (by omega) (Or.inr (Or.inr (by omega)))) (m := v12) (by omega) (by omega)) hve hqi.2 (hM_t (by omega) (by omega) (by omega)) (by omega)) (by omega) (by omega)
          have hLA := LQ_a (ok := (okW gW (a1 + 1))) hp0_31 (m := v12) (by omega) (by omega) (hp43.resolve_right (fun z => by omega)).2 (by omega) (by omega)
          have hnn := upL_v (g := T6) (i := v12) (e := e2) (by exact ⟨by omega, by omega⟩) (by omega)
          have hww := upL_v (g := T4) (i := e2) (e := 0) (by exact ⟨by omega, by omega⟩) (by omega)
          have hwi : tBy (upd T4 (e2 : Int).toNat (Int32.ofInt 0)) ii = tBy T4 ii := by rw [zupI (by exact ⟨by omega, by omega⟩) (by omega) (by omega), if_neg (by omega)]
          refine hR (?_ : R (_, _, _, _, _, _))
          refine hR (c_get hC18 rfl ?_)
          iterate 2 refine hR (?_ : R (_, _, _, _, _, _))
          refine hR (x_ast hC23 (by omega) (by omega) (Nat.le_of_ble_eq_true rfl) fun w48 ff48 hC48 => ?_)
          have fr49 := wfM_st fr17 ff48 nX18
          have hC50 := (ff48.2 q nX19).trans hC18
          have hC51 := (ff48.2 (q + 1) nX20).trans hC19
          have hC52 := (ff48.2 (q + 2) nX21).trans hC20
          have hC53 := (ff48.2 (q + 3) nX22).trans hC21
          have hC54 := (ff48.2 (q + 4) nX23).trans hC22
          have hC55 := (ff48.2 p nX24).trans hC24
          have hC56 := (ff48.2 b nX25).trans hC25
          have hC57 := AFK_fr hC15 (fun j hj => ff48.2 j (nX26 j hj))
          refine hR (?_ : R (_, _, _, _, _, _))
          refine hR (c_get hC50 rfl ?_)
          iterate 2 refine hR (?_ : R (_, _, _, _, _, _))
          refine hR (x_ast hC53 (by omega) (by omega) (Nat.le_of_ble_eq_true rfl) fun w58 ff58 hC58 => ?_)
          have fr59 := wfM_st fr49 ff58 nX27
          have hC60 := (ff58.2 q nX28).trans hC50
          have hC61 := (ff58.2 (q + 1) nX29).trans hC51
          have hC62 := (ff58.2 (q + 2) nX30).trans hC52
          have hC63 := (ff58.2 (q + 4) nX31).trans hC54
          have hC64 := (ff58.2 (q + 6) nX32).trans hC48
          have hC65 := (ff58.2 p nX33).trans hC55
          have hC66 := (ff58.2 b nX34).trans hC56
          have hC67 := AFK_fr hC57 (fun j hj => ff58.2 j (nX35 j hj))
          refine hR (?_ : R (_, _, _, _, _, _))
          refine hR (c_get hC60 rfl ?_)
          iterate 2 refine hR (?_ : R (_, _, _, _, _, _))
          refine hR (x_ast hC63 (by omega) (by omega) (Nat.le_of_ble_eq_true rfl) fun w68 ff68 hC68 => ?_)
          have fr69 := wfM_st fr59 ff68 nX9
          have hC70 := (ff68.2 q nX10).trans hC60
          have hC71 := (ff68.2 (q + 1) nX11).trans hC61
          have hC72 := (ff68.2 (q + 2) nX12).trans hC62
          have hC73 := (ff68.2 (q + 3) nX13).trans hC58
          have hC74 := (ff68.2 (q + 6) nX14).trans hC64
          have hC75 := (ff68.2 p nX15).trans hC65
          have hC76 := (ff68.2 b nX16).trans hC66
          have hC77 := AFK_fr hC67 (fun j hj => ff68.2 j (nX17 j hj))
          refine hR (t_inc ?_)
          refine hR (?_ : R (_, _, _, _, _, _))
          refine hR (c_get hC70 rfl ?_)
          refine hR (?_ : R (_, _, _, _, _, _))
          refine hR (c_aldE hC74 (by omega) (by omega) (Nat.le_of_ble_eq_true rfl) fun v78 ev78 rv78 => ?_)
          replace ev78 : v78 = tBy (upd T6 (v12 : Int).toNat (Int32.ofInt e2)) v12 := ev78
          subst ev78
          refine hR (?_ : R (_, _, _, _, _, _))
          refine hR (j_eq (by omega) (by omega) (fun hc => by omega) (fun _ => ?_))
          refine hR (?_ : R (_, _, _, _, _, _))
          refine hR (c_get hC70 rfl ?_)
          refine hR (?_ : R (_, _, _, _, _, _))
          refine hR (c_get hC70 rfl ?_)
          refine hR (?_ : R (_, _, _, _, _, _))
          refine hR (c_aldE hC74 (by omega) (by omega) (Nat.le_of_ble_eq_true rfl) fun v79 ev79 rv79 => ?_)
          replace ev79 : v79 = tBy (upd T6 (v12 : Int).toNat (Int32.ofInt e2)) v12 := ev79
          subst ev79
          refine hR (?_ : R (_, _, _, _, _, _))
          refine hR (c_aldE hC68 (by omega) (by omega) (Nat.le_of_ble_eq_true rfl) fun v80 ev80 rv80 => ?_)
          replace ev80 : v80 = tBy (upd T4 (e2 : Int).toNat (Int32.ofInt 0)) (tBy (upd T6 (v12 : Int).toNat (Int32.ofInt e2)) v12) := ev80
          subst ev80
          refine hR (?_ : R (_, _, _, _, _, _))
          refine hR (c_get hC70 rfl ?_)
          refine hR (?_ : R (_, _, _, _, _, _))
          refine hR (c_aldE hC68 (by omega) (by omega) (Nat.le_of_ble_eq_true rfl) fun v81 ev81 rv81 => ?_)
          replace ev81 : v81 = tBy (upd T4 (e2 : Int).toNat (Int32.ofInt 0)) ii := ev81
          subst ev81
          refine hR (t_add ?_)
          refine hR (x_ast hC68 (by omega) (by omega) (Nat.le_of_ble_eq_true rfl) fun w82 ff82 hC82 => ?_)
          have fr83 := wfM_st fr69 ff82 nX9
          have hC84 := (ff82.2 q nX10).trans hC70
          have hC85 := (ff82.2 (q + 1) nX11).trans hC71
          have hC86 := (ff82.2 (q + 2) nX12).trans hC72
          have hC87 := (ff82.2 (q + 3) nX13).trans hC73
          have hC88 := (ff82.2 (q + 6) nX14).trans hC74
          have hC89 := (ff82.2 p nX15).trans hC75
          have hC90 := (ff82.2 b nX16).trans hC76
          have hC91 := AFK_fr hC77 (fun j hj => ff82.2 j (nX17 j hj))
          refine hR (t_inc ?_)
          refine hR (?_ : R (_, _, _, _, _, _))
          exact ih31 _ _ _ _ _ _ _ (by rfl) fr83 hC84 hC85 hC86 hC87 hC82 hC88 hC89 hC90 hC91 (by omega) (by omega) (lfq_r (by have hlb := LQ_b (v := tBy T4 ii) hLA (m := v12) (by omega) (by omega) (by omega) (by rw [hnn, hww]; exact ⟨by omega, by omega⟩); rw [hwi]; exact hlb) hve hqi.2 (hM_t (by omega) (by omega) (by omega)) (by omega)) (by omega) (by omega)
      exact lp31 400000000 _ _ _ _ _ _ _ hzo5_16 fr_16 hCq_16 hCq1_16 hCq2_16 hCq3_16 hCq4_16 hCq6_16 hCp_16 hCb_16 hCAF_16 (by omega) (by omega) hp0_16 (by omega) (by omega)
  exact lp16 400000000 _ _ _ _ _ _ _ _ (by rfl) (by rfl) fr0 hK0 hK1 hK2 hK3 hK4 hK5 hK6 hK7 hK8 (by omega) (by omega) (by rw [show (tBy gS a1 - tBy gS a1).toNat = 0 by omega]; exact hr5) (by omega) (by omega)
theorem x_spreadI (w : zW) (d : Nat) (q p b z2 z3 : Nat) (a1 a2 a3 : Int) (x0 nn x2 : Int) (F : Int → Int → Int) (yo : Option Nat) (y1 y2 y3 : Int) (gS gW g3 g4 g6 : Nat → Int32) (hK0 : zix w q = some (.inr (2, [va_rf yo, .int (Int32.ofInt y1), .int (Int32.ofInt y2), .int (Int32.ofInt y3), .ref (q + 1), .ref (q + 2), .ref (q + 3), .ref (q + 4), .ref (q + 5), .ref (q + 6)]))) (hK1 : zix w (q + 1) = some (.inl (1, 11, .inl gS))) (hK2 : zix w (q + 2) = some (.inl (1, 10, .inl gW))) (hK3 : zix w (q + 3) = some (.inl (1, 25750, .inl g3))) (hK4 : zix w (q + 4) = some (.inl (1, 25750, .inl g4))) (hK5 : zix w (q + 6) = some (.inl (1, 5461, .inl g6))) (hK6 : zix w p = some (.inr (3, [.ref b, .ref (p + 1), .ref z2, .ref z3]))) (hK7 : zix w b = some (.inr (0, [.int (Int32.ofInt x0), .int (Int32.ofInt nn), .int (Int32.ofInt x2), .ref (b + 1), .ref (b + 2), .ref (b + 3), .ref (b + 4)]))) (hK8 : AFK w p b F) (hr0 : 0 ≤ a1 ∧ a1 ≤ 9) (hr1 : ((b + 4 < p ∨ p + 1 < b) ∧ (z2 ≠ p ∧ z2 ≠ p + 1 ∧ z3 ≠ p ∧ z3 ≠ p + 1 ∧ z2 ≠ z3)) ∧ ((z2 < b ∨ b + 4 < z2) ∧ (z3 < b ∨ b + 4 < z3))) (hr2 : (q + 6 < p ∨ p + 1 < q) ∧ (q + 6 < b ∨ b + 4 < q) ∧ (b + 4 < p ∨ p + 1 < b)) (hr3 : 0 ≤ a2 ∧ a2 ≤ 31 ∧ 0 ≤ a3 ∧ a3 ≤ 31) (hr4 : 0 ≤ nn ∧ nn ≤ 5) (hr5 : FOK F nn) (hr6 : 0 ≤ x0 ∧ x0 ≤ 5460) (hr7 : ∀ t : Int, 0 ≤ t → t ≤ 5460 → tBy g6 t = -1) (Q : zQ) (h : ∀ (T1 T3 T4 T6 : Nat → Int32) (w' : zW), wfM (fun j => j ≠ q ∧ j ≠ q + 1 ∧ j ≠ q + 3 ∧ j ≠ q + 4 ∧ j ≠ q + 6 ∧ j ≠ p + 1) w w' → zix w' q = some (.inr (2, [.ref p, .int (Int32.ofInt a1), .int (Int32.ofInt a2), .int (Int32.ofInt a3), .ref (q + 1), .ref (q + 2), .ref (q + 3), .ref (q + 4), .ref (q + 5), .ref (q + 6)])) → zix w' (q + 1) = some (.inl (1, 11, .inl T1)) → zix w' (q + 3) = some (.inl (1, 25750, .inl T3)) → zix w' (q + 4) = some (.inl (1, 25750, .inl T4)) → zix w' (q + 6) = some (.inl (1, 5461, .inl T6)) → AFK w' p b F → (SPQ F (fun L t => okW gW L t) (fun L => hM (if L % 2 = 0 then a2 else a3)) nn x0 a1.toNat T1 T3 T4 T6) → Q (none) w') : zCl zTab (d + 6) iX2_spread [.ref q, .ref p, .int (Int32.ofInt a1), .int (Int32.ofInt a2), .int (Int32.ofInt a3)] w 0 0 Q := by
  refine zCl_i (M := kX2_spread) rfl (Nat.le_of_ble_eq_true rfl) fun R hR => ?_
  have fr0 : wfM (fun j => j ≠ q ∧ j ≠ q + 1 ∧ j ≠ q + 3 ∧ j ≠ q + 4 ∧ j ≠ q + 6 ∧ j ≠ p + 1) w w := wfM_rf _ w
  have nX0 : FX (∀ j : Nat, (j ≠ q ∧ j ≠ q + 1 ∧ j ≠ q + 3 ∧ j ≠ q + 4 ∧ j ≠ q + 6 ∧ j ≠ p + 1) → j ≠ q) := fun j hj => by omega
  have nX1 : FX ((q + 1) ≠ q) := (show (q + 1) ≠ q by omega)
  have nX2 : FX ((q + 2) ≠ q) := (show (q + 2) ≠ q by omega)
  have nX3 : FX ((q + 3) ≠ q) := (show (q + 3) ≠ q by omega)
  have nX4 : FX ((q + 4) ≠ q) := (show (q + 4) ≠ q by omega)
  have nX5 : FX ((q + 6) ≠ q) := (show (q + 6) ≠ q by omega)
  have nX6 : FX (p ≠ q) := (show p ≠ q by omega)
  have nX7 : FX (b ≠ q) := (show b ≠ q by omega)
  have nX8 : FX (∀ j : Nat, (j = p + 1 ∨ (b ≤ j ∧ j ≤ b + 4)) → (j ≠ q)) := fun j hj => by omega
  have nX9 : FX (∀ j : Nat, (j ≠ q ∧ j ≠ q + 1 ∧ j ≠ q + 3 ∧ j ≠ q + 4 ∧ j ≠ q + 6 ∧ j ≠ p + 1) → j ≠ q + 1) := fun j hj => by omega
  have nX10 : FX (q ≠ q + 1) := (show q ≠ q + 1 by omega)
  have nX11 : FX ((q + 2) ≠ q + 1) := (show (q + 2) ≠ q + 1 by omega)
  have nX12 : FX ((q + 3) ≠ q + 1) := (show (q + 3) ≠ q + 1 by omega)
  have nX13 : FX ((q + 4) ≠ q + 1) := (show (q + 4) ≠ q + 1 by omega)
  have nX14 : FX ((q + 6) ≠ q + 1) := (show (q + 6) ≠ q + 1 by omega)
  have nX15 : FX (p ≠ q + 1) := (show p ≠ q + 1 by omega)
  have nX16 : FX (b ≠ q + 1) := (show b ≠ q + 1 by omega)
  have nX17 : FX (∀ j : Nat, (j = p + 1 ∨ (b ≤ j ∧ j ≤ b + 4)) → (j ≠ q + 1)) := fun j hj => by omega
  have nX18 : FX (∀ j : Nat, (j ≠ q ∧ j ≠ q + 1 ∧ j ≠ q + 3 ∧ j ≠ q + 4 ∧ j ≠ q + 6 ∧ j ≠ p + 1) → (j ≠ q + 3 ∧ j ≠ q + 4 ∧ j ≠ q + 6 ∧ j ≠ p + 1)) := fun j hj => by omega
  have nX19 : FX (q ≠ q + 3 ∧ q ≠ q + 4 ∧ q ≠ q + 6 ∧ q ≠ p + 1) := (show q ≠ q + 3 ∧ q ≠ q + 4 ∧ q ≠ q + 6 ∧ q ≠ p + 1 by omega)
  have nX20 : FX ((q + 1) ≠ q + 3 ∧ (q + 1) ≠ q + 4 ∧ (q + 1) ≠ q + 6 ∧ (q + 1) ≠ p + 1) := (show (q + 1) ≠ q + 3 ∧ (q + 1) ≠ q + 4 ∧ (q + 1) ≠ q + 6 ∧ (q + 1) ≠ p + 1 by omega)
  have nX21 : FX ((q + 2) ≠ q + 3 ∧ (q + 2) ≠ q + 4 ∧ (q + 2) ≠ q + 6 ∧ (q + 2) ≠ p + 1) := (show (q + 2) ≠ q + 3 ∧ (q + 2) ≠ q + 4 ∧ (q + 2) ≠ q + 6 ∧ (q + 2) ≠ p + 1 by omega)
  have nX22 : FX (p ≠ q + 3 ∧ p ≠ q + 4 ∧ p ≠ q + 6 ∧ p ≠ p + 1) := (show p ≠ q + 3 ∧ p ≠ q + 4 ∧ p ≠ q + 6 ∧ p ≠ p + 1 by omega)
  have nX23 : FX (b ≠ q + 3 ∧ b ≠ q + 4 ∧ b ≠ q + 6 ∧ b ≠ p + 1) := (show b ≠ q + 3 ∧ b ≠ q + 4 ∧ b ≠ q + 6 ∧ b ≠ p + 1 by omega)
  have nX24 : FX (∀ j : Nat, (j ≠ q ∧ j ≠ q + 1 ∧ j ≠ q + 3 ∧ j ≠ q + 4 ∧ j ≠ q + 6 ∧ j ≠ p + 1) → (j ≠ q + 6)) := fun j hj => by omega
  have nX25 : FX (q ≠ q + 6) := (show q ≠ q + 6 by omega)
  have nX26 : FX ((q + 1) ≠ q + 6) := (show (q + 1) ≠ q + 6 by omega)
  have nX27 : FX ((q + 2) ≠ q + 6) := (show (q + 2) ≠ q + 6 by omega)
  have nX28 : FX ((q + 3) ≠ q + 6) := (show (q + 3) ≠ q + 6 by omega)
  have nX29 : FX ((q + 4) ≠ q + 6) := (show (q + 4) ≠ q + 6 by omega)
  have nX30 : FX (p ≠ q + 6) := (show p ≠ q + 6 by omega)
  have nX31 : FX (b ≠ q + 6) := (show b ≠ q + 6 by omega)
  have nX32 : FX (∀ j : Nat, (j = p + 1 ∨ (b ≤ j ∧ j ≤ b + 4)) → (j ≠ q + 6)) := fun j hj => by omega
  have nX33 : FX (∀ j : Nat, (j ≠ q ∧ j ≠ q + 1 ∧ j ≠ q + 3 ∧ j ≠ q + 4 ∧ j ≠ q + 6 ∧ j ≠ p + 1) → j ≠ q + 3) := fun j hj => by omega
  have nX34 : FX (q ≠ q + 3) := (show q ≠ q + 3 by omega)
  have nX35 : FX ((q + 1) ≠ q + 3) := (show (q + 1) ≠ q + 3 by omega)
  have nX36 : FX ((q + 2) ≠ q + 3) := (show (q + 2) ≠ q + 3 by omega)
  have nX37 : FX ((q + 4) ≠ q + 3) := (show (q + 4) ≠ q + 3 by omega)
  have nX38 : FX ((q + 6) ≠ q + 3) := (show (q + 6) ≠ q + 3 by omega)
  have nX39 : FX (p ≠ q + 3) := (show p ≠ q + 3 by omega)
  have nX40 : FX (b ≠ q + 3) := (show b ≠ q + 3 by omega)
  have nX41 : FX (∀ j : Nat, (j = p + 1 ∨ (b ≤ j ∧ j ≤ b + 4)) → (j ≠ q + 3)) := fun j hj => by omega
  have nX42 : FX (∀ j : Nat, (j ≠ q ∧ j ≠ q + 1 ∧ j ≠ q + 3 ∧ j ≠ q + 4 ∧ j ≠ q + 6 ∧ j ≠ p + 1) → j ≠ q + 4) := fun j hj => by omega
  have nX43 : FX (q ≠ q + 4) := (show q ≠ q + 4 by omega)
  have nX44 : FX ((q + 1) ≠ q + 4) := (show (q + 1) ≠ q + 4 by omega)
  have nX45 : FX ((q + 2) ≠ q + 4) := (show (q + 2) ≠ q + 4 by omega)
  have nX46 : FX ((q + 3) ≠ q + 4) := (show (q + 3) ≠ q + 4 by omega)
  have nX47 : FX ((q + 6) ≠ q + 4) := (show (q + 6) ≠ q + 4 by omega)
  have nX48 : FX (p ≠ q + 4) := (show p ≠ q + 4 by omega)
  have nX49 : FX (b ≠ q + 4) := (show b ≠ q + 4 by omega)
  have nX50 : FX (∀ j : Nat, (j = p + 1 ∨ (b ≤ j ∧ j ≤ b + 4)) → (j ≠ q + 4)) := fun j hj => by omega
  iterate 2 refine hR (?_ : R (_, _, _, _, _, _))
  refine hR (c_put hK0 rfl rfl fun w1 ff1 hC1 => ?_)
  have fr2 := wfM_st fr0 ff1 nX0
  have hC3 := (ff1.2 (q + 1) nX1).trans hK1
  have hC4 := (ff1.2 (q + 2) nX2).trans hK2
  have hC5 := (ff1.2 (q + 3) nX3).trans hK3
  have hC6 := (ff1.2 (q + 4) nX4).trans hK4
  have hC7 := (ff1.2 (q + 6) nX5).trans hK5
  have hC8 := (ff1.2 p nX6).trans hK6
  have hC9 := (ff1.2 b nX7).trans hK7
  have hC10 := AFK_fr hK8 (fun j hj => ff1.2 j (nX8 j hj))
  replace hC1 : zix w1 q = some (.inr (2, [.ref p, .int (Int32.ofInt y1), .int (Int32.ofInt y2), .int (Int32.ofInt y3), .ref (q + 1), .ref (q + 2), .ref (q + 3), .ref (q + 4), .ref (q + 5), .ref (q + 6)])) := hC1
  iterate 2 refine hR (?_ : R (_, _, _, _, _, _))
  refine hR (c_put hC1 rfl rfl fun w11 ff11 hC11 => ?_)
  have fr12 := wfM_st fr2 ff11 nX0
  have hC13 := (ff11.2 (q + 1) nX1).trans hC3
  have hC14 := (ff11.2 (q + 2) nX2).trans hC4
  have hC15 := (ff11.2 (q + 3) nX3).trans hC5
  have hC16 := (ff11.2 (q + 4) nX4).trans hC6
  have hC17 := (ff11.2 (q + 6) nX5).trans hC7
  have hC18 := (ff11.2 p nX6).trans hC8
  have hC19 := (ff11.2 b nX7).trans hC9
  have hC20 := AFK_fr hC10 (fun j hj => ff11.2 j (nX8 j hj))
  replace hC11 : zix w11 q = some (.inr (2, [.ref p, .int (Int32.ofInt a1), .int (Int32.ofInt y2), .int (Int32.ofInt y3), .ref (q + 1), .ref (q + 2), .ref (q + 3), .ref (q + 4), .ref (q + 5), .ref (q + 6)])) := hC11
  iterate 2 refine hR (?_ : R (_, _, _, _, _, _))
  refine hR (c_put hC11 rfl rfl fun w21 ff21 hC21 => ?_)
  have fr22 := wfM_st fr12 ff21 nX0
  have hC23 := (ff21.2 (q + 1) nX1).trans hC13
  have hC24 := (ff21.2 (q + 2) nX2).trans hC14
  have hC25 := (ff21.2 (q + 3) nX3).trans hC15
  have hC26 := (ff21.2 (q + 4) nX4).trans hC16
  have hC27 := (ff21.2 (q + 6) nX5).trans hC17
  have hC28 := (ff21.2 p nX6).trans hC18
  have hC29 := (ff21.2 b nX7).trans hC19
  have hC30 := AFK_fr hC20 (fun j hj => ff21.2 j (nX8 j hj))
  replace hC21 : zix w21 q = some (.inr (2, [.ref p, .int (Int32.ofInt a1), .int (Int32.ofInt a2), .int (Int32.ofInt y3), .ref (q + 1), .ref (q + 2), .ref (q + 3), .ref (q + 4), .ref (q + 5), .ref (q + 6)])) := hC21
  iterate 2 refine hR (?_ : R (_, _, _, _, _, _))
  refine hR (c_put hC21 rfl rfl fun w31 ff31 hC31 => ?_)
  have fr32 := wfM_st fr22 ff31 nX0
  have hC33 := (ff31.2 (q + 1) nX1).trans hC23
  have hC34 := (ff31.2 (q + 2) nX2).trans hC24
  have hC35 := (ff31.2 (q + 3) nX3).trans hC25
  have hC36 := (ff31.2 (q + 4) nX4).trans hC26
  have hC37 := (ff31.2 (q + 6) nX5).trans hC27
  have hC38 := (ff31.2 p nX6).trans hC28
  have hC39 := (ff31.2 b nX7).trans hC29
  have hC40 := AFK_fr hC30 (fun j hj => ff31.2 j (nX8 j hj))
  replace hC31 : zix w31 q = some (.inr (2, [.ref p, .int (Int32.ofInt a1), .int (Int32.ofInt a2), .int (Int32.ofInt a3), .ref (q + 1), .ref (q + 2), .ref (q + 3), .ref (q + 4), .ref (q + 5), .ref (q + 6)])) := hC31
  refine hR (?_ : R (_, _, _, _, _, _))
  refine hR (c_get hC31 rfl ?_)
  iterate 2 refine hR (?_ : R (_, _, _, _, _, _))
  refine hR (x_ast hC33 (by omega) (by omega) (Nat.le_of_ble_eq_true rfl) fun w41 ff41 hC41 => ?_)
  have fr42 := wfM_st fr32 ff41 nX9
  have hC43 := (ff41.2 q nX10).trans hC31
  have hC44 := (ff41.2 (q + 2) nX11).trans hC34
  have hC45 := (ff41.2 (q + 3) nX12).trans hC35
  have hC46 := (ff41.2 (q + 4) nX13).trans hC36
  have hC47 := (ff41.2 (q + 6) nX14).trans hC37
  have hC48 := (ff41.2 p nX15).trans hC38
  have hC49 := (ff41.2 b nX16).trans hC39
  have hC50 := AFK_fr hC40 (fun j hj => ff41.2 j (nX17 j hj))
  refine hR (?_ : R (_, _, _, _, _, _))
  refine hR (c_get hC43 rfl ?_)
  iterate 2 refine hR (?_ : R (_, _, _, _, _, _))
  refine hR (x_ast hC41 (by omega) (by omega) (Nat.le_of_ble_eq_true rfl) fun w51 ff51 hC51 => ?_)
  have fr52 := wfM_st fr42 ff51 nX9
  have hC53 := (ff51.2 q nX10).trans hC43
  have hC54 := (ff51.2 (q + 2) nX11).trans hC44
  have hC55 := (ff51.2 (q + 3) nX12).trans hC45
  have hC56 := (ff51.2 (q + 4) nX13).trans hC46
  have hC57 := (ff51.2 (q + 6) nX14).trans hC47
  have hC58 := (ff51.2 p nX15).trans hC48
  have hC59 := (ff51.2 b nX16).trans hC49
  have hC60 := AFK_fr hC50 (fun j hj => ff51.2 j (nX17 j hj))
  iterate 3 refine hR (?_ : R (_, _, _, _, _, _))
  refine hR (c_get hC58 rfl ?_)
  refine hR (c_get hC59 rfl ?_)
  refine hR (c_obj hC53 (zcall_i 0 0 (Nat.le_of_ble_eq_true rfl) (Nat.le_of_ble_eq_true rfl) (x_isWantedI _ _ _ _ _ _ _ _ _ _ hC53 hC54 (by omega) (by omega) _ fun v61 hp62 => ?_)))
  refine (?_ : R (_, _, .int (Int32.ofInt v61) :: [], w51, 0, 0))
  refine hR (k_eq (by omega) (fun hc63 => ?_) (fun hc63 => ?_))
  · skip
    iterate 2 refine hR (?_ : R (_, _, _, _, _, _))
    have lp80 : ∀ (N : Nat) (lv : Int) (S T3 T4 T6 : Nat → Int32) (w_80 : zW), (wfM (fun j => j ≠ q ∧ j ≠ q + 1 ∧ j ≠ q + 3 ∧ j ≠ q + 4 ∧ j ≠ q + 6 ∧ j ≠ p + 1) w w_80) → (zix w_80 q = some (.inr (2, [.ref p, .int (Int32.ofInt a1), .int (Int32.ofInt a2), .int (Int32.ofInt a3), .ref (q + 1), .ref (q + 2), .ref (q + 3), .ref (q + 4), .ref (q + 5), .ref (q + 6)]))) → (zix w_80 (q + 1) = some (.inl (1, 11, .inl S))) → (zix w_80 (q + 2) = some (.inl (1, 10, .inl gW))) → (zix w_80 (q + 3) = some (.inl (1, 25750, .inl T3))) → (zix w_80 (q + 4) = some (.inl (1, 25750, .inl T4))) → (zix w_80 (q + 6) = some (.inl (1, 5461, .inl T6))) → (zix w_80 p = some (.inr (3, [.ref b, .ref (p + 1), .ref z2, .ref z3]))) → (zix w_80 b = some (.inr (0, [.int (Int32.ofInt x0), .int (Int32.ofInt nn), .int (Int32.ofInt x2), .ref (b + 1), .ref (b + 2), .ref (b + 3), .ref (b + 4)]))) → (AFK w_80 p b F) → (0 ≤ lv ∧ lv ≤ 9) → (SPQ F (fun L t => okW gW L t) (fun L => hM (if L % 2 = 0 then a2 else a3)) nn x0 lv.toNat S T3 T4 T6) → (lv ≤ a1) → (10 - lv < N) → R (80, [some (.ref q), some (.ref p), some (.int (Int32.ofInt a1)), some (.int (Int32.ofInt a2)), some (.int (Int32.ofInt a3)), some (.int (Int32.ofInt lv))], [], w_80, 0, 0) := by
      intro N
      induction N with
      | zero => intros; omega
      | succ N ih80 =>
        intro lv S T3 T4 T6 w_80 fr_80 hCq_80 hCq1_80 hCq2_80 hCq3_80 hCq4_80 hCq6_80 hCp_80 hCb_80 hCAF_80 hf0_80 hp0_80 hp1_80 hN80
        iterate 2 refine hR (?_ : R (_, _, _, _, _, _))
        refine hR (c_get hCq_80 rfl ?_)
        refine hR (j_ge (by omega) (by omega) (fun hc64 => ?_) (fun hc64 => ?_))
        · skip
          exact hR (zret_i rfl (Nat.le_refl _) rfl (h _ _ _ _ _ fr_80 hCq_80 hCq1_80 hCq3_80 hCq4_80 hCq6_80 hCAF_80 (by rw [show a1 = lv by omega]; exact hp0_80)))
        refine hR (?_ : R (_, _, _, _, _, _))
        refine hR (c_get hCq_80 rfl ?_)
        iterate 2 refine hR (?_ : R (_, _, _, _, _, _))
        refine hR (t_add ?_)
        iterate 2 refine hR (?_ : R (_, _, _, _, _, _))
        refine hR (c_obj hCq_80 (zcall_i 0 0 (Nat.le_of_ble_eq_true rfl) (Nat.le_of_ble_eq_true rfl) (x_fillBehindI _ _ _ _ _ _ _ _ _ _ _ _ _ _ _ _ _ _ _ _ _ hCq_80 hCq1_80 hCq2_80 hCq3_80 hCq4_80 hCq6_80 hCp_80 hCb_80 hCAF_80 (by omega) hr1 hr2 (by omega) (spqi_f hp0_80 (by omega) (by omega) hr5 hr4).1 (spqi_f hp0_80 (by omega) (by omega) hr5 hr4).2 _ fun v65 T3_66 T4_67 T6_68 w69 gg70 hC71 hC72 hC73 hC74 hp75 => ?_)))
        have fr76 := wfM_tr fr_80 gg70 nX18
        have hC77 := (gg70.2 q nX19).trans hCq_80
        have hC78 := (gg70.2 (q + 1) nX20).trans hCq1_80
        have hC79 := (gg70.2 (q + 2) nX21).trans hCq2_80
        have hC80 := (gg70.2 p nX22).trans hCp_80
        have hC81 := (gg70.2 b nX23).trans hCb_80
        refine (?_ : R (_, _, .int (Int32.ofInt v65) :: .int (Int32.ofInt (lv + 2)) :: .ref (q + 1) :: [], w69, 0, 0))
        have hsp := spqi_s hp0_80 (by omega) (by omega) hr5 hr4 hp75
        have hs0g := (hp0_80.1 lv.toNat (Nat.le_refl _)).1
        rw [Int.toNat_of_nonneg (by omega)] at hs0g
        have hsp1 := hsp.1
        refine hR (x_ast hC78 (by omega) (by omega) (Nat.le_of_ble_eq_true rfl) fun w82 ff82 hC82 => ?_)
        have fr83 := wfM_st fr76 ff82 nX9
        have hC84 := (ff82.2 q nX10).trans hC77
        have hC85 := (ff82.2 (q + 2) nX11).trans hC79
        have hC86 := (ff82.2 (q + 3) nX12).trans hC71
        have hC87 := (ff82.2 (q + 4) nX13).trans hC72
        have hC88 := (ff82.2 (q + 6) nX14).trans hC73
        have hC89 := (ff82.2 p nX15).trans hC80
        have hC90 := (ff82.2 b nX16).trans hC81
        have hC91 := AFK_fr hC74 (fun j hj => ff82.2 j (nX17 j hj))
        have hg1 : tBy (upd S (lv + 2 : Int).toNat (Int32.ofInt v65)) (lv + 1) = tBy S (lv + 1) := by rw [zupI (by exact ⟨by omega, by omega⟩) (by omega) (by omega), if_neg (by omega)]
        have hg2 : tBy (upd S (lv + 2 : Int).toNat (Int32.ofInt v65)) (lv + 1 + 1) = v65 := by rw [show lv + 1 + 1 = lv + 2 by omega]; exact upL_v (by exact ⟨by omega, by omega⟩) (by omega)
        iterate 3 refine hR (?_ : R (_, _, _, _, _, _))
        refine hR (t_add ?_)
        refine hR (c_obj hC84 (zcall_i 0 0 (Nat.le_of_ble_eq_true rfl) (Nat.le_of_ble_eq_true rfl) (x_forgetI _ _ _ _ _ _ _ _ _ _ _ hC84 hC82 hC86 hC88 (by omega) (by omega) (fun j j0 j1 => hsp.2.1 j (by omega) (by omega)) (fun t t0 t1 ht => by obtain ⟨j, hj, e⟩ := hsp.2.2.1 t t0 t1 ht; exact ⟨j, ⟨by omega, by omega⟩, e⟩) _ fun T6_92 w93 gg94 hC95 hp96 => ?_)))
        have fr97 := wfM_tr fr83 gg94 nX24
        have hC98 := (gg94.2 q nX25).trans hC84
        have hC99 := (gg94.2 (q + 1) nX26).trans hC82
        have hC100 := (gg94.2 (q + 2) nX27).trans hC85
        have hC101 := (gg94.2 (q + 3) nX28).trans hC86
        have hC102 := (gg94.2 (q + 4) nX29).trans hC87
        have hC103 := (gg94.2 p nX30).trans hC89
        have hC104 := (gg94.2 b nX31).trans hC90
        have hC105 := AFK_fr hC91 (fun j hj => gg94.2 j (nX32 j hj))
        refine (?_ : R (_, _, [], w93, 0, 0))
        have hfg := hp96
        refine hR (t_inc ?_)
        refine hR (?_ : R (_, _, _, _, _, _))
        exact ih80 _ _ _ _ _ _ fr97 hC98 hC99 hC100 hC101 hC102 hC95 hC103 hC104 hC105 (by omega) (hsp.2.2.2 _ hfg) (by omega) (by omega)
    exact lp80 400000000 _ _ _ _ _ _ fr52 hC53 hC51 hC54 hC55 hC56 hC57 hC58 hC59 hC60 (by omega) (spq_0 hr6 st_n.1 (Or.inr ⟨(hp62.resolve_left (fun z => by omega)).2, st_n.2⟩) hr7) (by omega) (by omega)
  refine hR (?_ : R (_, _, _, _, _, _))
  refine hR (c_get hC53 rfl ?_)
  iterate 2 refine hR (?_ : R (_, _, _, _, _, _))
  refine hR (c_get hC58 rfl ?_)
  refine hR (c_get hC59 rfl ?_)
  refine hR (x_ast hC55 (by omega) (by omega) (Nat.le_of_ble_eq_true rfl) fun w106 ff106 hC106 => ?_)
  have fr107 := wfM_st fr52 ff106 nX33
  have hC108 := (ff106.2 q nX34).trans hC53
  have hC109 := (ff106.2 (q + 1) nX35).trans hC51
  have hC110 := (ff106.2 (q + 2) nX36).trans hC54
  have hC111 := (ff106.2 (q + 4) nX37).trans hC56
  have hC112 := (ff106.2 (q + 6) nX38).trans hC57
  have hC113 := (ff106.2 p nX39).trans hC58
  have hC114 := (ff106.2 b nX40).trans hC59
  have hC115 := AFK_fr hC60 (fun j hj => ff106.2 j (nX41 j hj))
  refine hR (?_ : R (_, _, _, _, _, _))
  refine hR (c_get hC108 rfl ?_)
  iterate 2 refine hR (?_ : R (_, _, _, _, _, _))
  refine hR (x_ast hC111 (by omega) (by omega) (Nat.le_of_ble_eq_true rfl) fun w116 ff116 hC116 => ?_)
  have fr117 := wfM_st fr107 ff116 nX42
  have hC118 := (ff116.2 q nX43).trans hC108
  have hC119 := (ff116.2 (q + 1) nX44).trans hC109
  have hC120 := (ff116.2 (q + 2) nX45).trans hC110
  have hC121 := (ff116.2 (q + 3) nX46).trans hC106
  have hC122 := (ff116.2 (q + 6) nX47).trans hC112
  have hC123 := (ff116.2 p nX48).trans hC113
  have hC124 := (ff116.2 b nX49).trans hC114
  have hC125 := AFK_fr hC115 (fun j hj => ff116.2 j (nX50 j hj))
  refine hR (?_ : R (_, _, _, _, _, _))
  refine hR (c_get hC118 rfl ?_)
  iterate 2 refine hR (?_ : R (_, _, _, _, _, _))
  refine hR (x_ast hC119 (by omega) (by omega) (Nat.le_of_ble_eq_true rfl) fun w126 ff126 hC126 => ?_)
  have fr127 := wfM_st fr117 ff126 nX9
  have hC128 := (ff126.2 q nX10).trans hC118
  have hC129 := (ff126.2 (q + 2) nX11).trans hC120
  have hC130 := (ff126.2 (q + 3) nX12).trans hC121
  have hC131 := (ff126.2 (q + 4) nX13).trans hC116
  have hC132 := (ff126.2 (q + 6) nX14).trans hC122
  have hC133 := (ff126.2 p nX15).trans hC123
  have hC134 := (ff126.2 b nX16).trans hC124
  have hC135 := AFK_fr hC125 (fun j hj => ff126.2 j (nX17 j hj))
  iterate 2 refine hR (?_ : R (_, _, _, _, _, _))
  have lp80 : ∀ (N : Nat) (lv : Int) (S T3 T4 T6 : Nat → Int32) (w_80 : zW), (wfM (fun j => j ≠ q ∧ j ≠ q + 1 ∧ j ≠ q + 3 ∧ j ≠ q + 4 ∧ j ≠ q + 6 ∧ j ≠ p + 1) w w_80) → (zix w_80 q = some (.inr (2, [.ref p, .int (Int32.ofInt a1), .int (Int32.ofInt a2), .int (Int32.ofInt a3), .ref (q + 1), .ref (q + 2), .ref (q + 3), .ref (q + 4), .ref (q + 5), .ref (q + 6)]))) → (zix w_80 (q + 1) = some (.inl (1, 11, .inl S))) → (zix w_80 (q + 2) = some (.inl (1, 10, .inl gW))) → (zix w_80 (q + 3) = some (.inl (1, 25750, .inl T3))) → (zix w_80 (q + 4) = some (.inl (1, 25750, .inl T4))) → (zix w_80 (q + 6) = some (.inl (1, 5461, .inl T6))) → (zix w_80 p = some (.inr (3, [.ref b, .ref (p + 1), .ref z2, .ref z3]))) → (zix w_80 b = some (.inr (0, [.int (Int32.ofInt x0), .int (Int32.ofInt nn), .int (Int32.ofInt x2), .ref (b + 1), .ref (b + 2), .ref (b + 3), .ref (b + 4)]))) → (AFK w_80 p b F) → (0 ≤ lv ∧ lv ≤ 9) → (SPQ F (fun L t => okW gW L t) (fun L => hM (if L % 2 = 0 then a2 else a3)) nn x0 lv.toNat S T3 T4 T6) → (lv ≤ a1) → (10 - lv < N) → R (80, [some (.ref q), some (.ref p), some (.int (Int32.ofInt a1)), some (.int (Int32.ofInt a2)), some (.int (Int32.ofInt a3)), some (.int (Int32.ofInt lv))], [], w_80, 0, 0) := by
    intro N
    induction N with
    | zero => intros; omega
    | succ N ih80 =>
      intro lv S T3 T4 T6 w_80 fr_80 hCq_80 hCq1_80 hCq2_80 hCq3_80 hCq4_80 hCq6_80 hCp_80 hCb_80 hCAF_80 hf0_80 hp0_80 hp1_80 hN80
      iterate 2 refine hR (?_ : R (_, _, _, _, _, _))
      refine hR (c_get hCq_80 rfl ?_)
      refine hR (j_ge (by omega) (by omega) (fun hc136 => ?_) (fun hc136 => ?_))
      · skip
        exact hR (zret_i rfl (Nat.le_refl _) rfl (h _ _ _ _ _ fr_80 hCq_80 hCq1_80 hCq3_80 hCq4_80 hCq6_80 hCAF_80 (by rw [show a1 = lv by omega]; exact hp0_80)))
      refine hR (?_ : R (_, _, _, _, _, _))
      refine hR (c_get hCq_80 rfl ?_)
      iterate 2 refine hR (?_ : R (_, _, _, _, _, _))
      refine hR (t_add ?_)
      iterate 2 refine hR (?_ : R (_, _, _, _, _, _))
      refine hR (c_obj hCq_80 (zcall_i 0 0 (Nat.le_of_ble_eq_true rfl) (Nat.le_of_ble_eq_true rfl) (x_fillBehindI _ _ _ _ _ _ _ _ _ _ _ _ _ _ _ _ _ _ _ _ _ hCq_80 hCq1_80 hCq2_80 hCq3_80 hCq4_80 hCq6_80 hCp_80 hCb_80 hCAF_80 (by omega) hr1 hr2 (by omega) (spqi_f hp0_80 (by omega) (by omega) hr5 hr4).1 (spqi_f hp0_80 (by omega) (by omega) hr5 hr4).2 _ fun v137 T3_138 T4_139 T6_140 w141 gg142 hC143 hC144 hC145 hC146 hp147 => ?_)))
      have fr148 := wfM_tr fr_80 gg142 nX18
      have hC149 := (gg142.2 q nX19).trans hCq_80
      have hC150 := (gg142.2 (q + 1) nX20).trans hCq1_80
      have hC151 := (gg142.2 (q + 2) nX21).trans hCq2_80
      have hC152 := (gg142.2 p nX22).trans hCp_80
      have hC153 := (gg142.2 b nX23).trans hCb_80
      refine (?_ : R (_, _, .int (Int32.ofInt v137) :: .int (Int32.ofInt (lv + 2)) :: .ref (q + 1) :: [], w141, 0, 0))
      have hsp := spqi_s hp0_80 (by omega) (by omega) hr5 hr4 hp147
      have hs0g := (hp0_80.1 lv.toNat (Nat.le_refl _)).1
      rw [Int.toNat_of_nonneg (by omega)] at hs0g
      have hsp1 := hsp.1
      refine hR (x_ast hC150 (by omega) (by omega) (Nat.le_of_ble_eq_true rfl) fun w154 ff154 hC154 => ?_)
      have fr155 := wfM_st fr148 ff154 nX9
      have hC156 := (ff154.2 q nX10).trans hC149
      have hC157 := (ff154.2 (q + 2) nX11).trans hC151
      have hC158 := (ff154.2 (q + 3) nX12).trans hC143
      have hC159 := (ff154.2 (q + 4) nX13).trans hC144
      have hC160 := (ff154.2 (q + 6) nX14).trans hC145
      have hC161 := (ff154.2 p nX15).trans hC152
      have hC162 := (ff154.2 b nX16).trans hC153
      have hC163 := AFK_fr hC146 (fun j hj => ff154.2 j (nX17 j hj))
      have hg1 : tBy (upd S (lv + 2 : Int).toNat (Int32.ofInt v137)) (lv + 1) = tBy S (lv + 1) := by rw [zupI (by exact ⟨by omega, by omega⟩) (by omega) (by omega), if_neg (by omega)]
      have hg2 : tBy (upd S (lv + 2 : Int).toNat (Int32.ofInt v137)) (lv + 1 + 1) = v137 := by rw [show lv + 1 + 1 = lv + 2 by omega]; exact upL_v (by exact ⟨by omega, by omega⟩) (by omega)
      iterate 3 refine hR (?_ : R (_, _, _, _, _, _))
      refine hR (t_add ?_)
      refine hR (c_obj hC156 (zcall_i 0 0 (Nat.le_of_ble_eq_true rfl) (Nat.le_of_ble_eq_true rfl) (x_forgetI _ _ _ _ _ _ _ _ _ _ _ hC156 hC154 hC158 hC160 (by omega) (by omega) (fun j j0 j1 => hsp.2.1 j (by omega) (by omega)) (fun t t0 t1 ht => by obtain ⟨j, hj, e⟩ := hsp.2.2.1 t t0 t1 ht; exact ⟨j, ⟨by omega, by omega⟩, e⟩) _ fun T6_164 w165 gg166 hC167 hp168 => ?_)))
      have fr169 := wfM_tr fr155 gg166 nX24
      have hC170 := (gg166.2 q nX25).trans hC156
      have hC171 := (gg166.2 (q + 1) nX26).trans hC154
      have hC172 := (gg166.2 (q + 2) nX27).trans hC157
      have hC173 := (gg166.2 (q + 3) nX28).trans hC158
      have hC174 := (gg166.2 (q + 4) nX29).trans hC159
      have hC175 := (gg166.2 p nX30).trans hC161
      have hC176 := (gg166.2 b nX31).trans hC162
      have hC177 := AFK_fr hC163 (fun j hj => gg166.2 j (nX32 j hj))
      refine (?_ : R (_, _, [], w165, 0, 0))
      have hfg := hp168
      refine hR (t_inc ?_)
      refine hR (?_ : R (_, _, _, _, _, _))
      exact ih80 _ _ _ _ _ _ fr169 hC170 hC171 hC172 hC173 hC174 hC167 hC175 hC176 hC177 (by omega) (hsp.2.2.2 _ hfg) (by omega) (by omega)
  exact lp80 400000000 _ _ _ _ _ _ fr127 hC128 hC126 hC129 hC130 hC131 hC132 hC133 hC134 hC135 (by omega) (spq_0 hr6 st_y.1 (Or.inl ⟨(hp62.resolve_right (fun z => by omega)).2, st_y.2, upL_v (by exact ⟨by omega, by omega⟩) (by omega), upL_v (by exact ⟨by omega, by omega⟩) (by omega)⟩) hr7) (by omega) (by omega)
theorem x_rowsToI (w : zW) (d : Nat) (q p : Nat) (a1 : Int) (y1 y2 y3 : Int) (gS g3 g4 : Nat → Int32) (hK0 : zix w q = some (.inr (2, [.ref p, .int (Int32.ofInt y1), .int (Int32.ofInt y2), .int (Int32.ofInt y3), .ref (q + 1), .ref (q + 2), .ref (q + 3), .ref (q + 4), .ref (q + 5), .ref (q + 6)]))) (hK1 : zix w (q + 1) = some (.inl (1, 11, .inl gS))) (hK2 : zix w (q + 3) = some (.inl (1, 25750, .inl g3))) (hK3 : zix w (q + 4) = some (.inl (1, 25750, .inl g4))) (hr0 : 0 ≤ y1 ∧ y1 ≤ 9) (hr1 : (0 ≤ tBy gS y1 ∧ tBy gS y1 ≤ tBy gS (y1 + 1)) ∧ tBy gS (y1 + 1) ≤ 25750) (hr2 : (-2147483648 ≤ a1 ∧ a1 ≤ 2147483647)) (Q : zQ) (h : ∀ (v : Int), ((∃ i : Int, (tBy gS y1 ≤ i ∧ i < tBy gS (y1 + 1)) ∧ tBy g3 i = a1 ∧ v = tBy g4 i) ∨ ((∀ i : Int, tBy gS y1 ≤ i → i < tBy gS (y1 + 1) → tBy g3 i ≠ a1) ∧ v = 0)) → Q (some (.int (Int32.ofInt v))) w) : zCl zTab (d + 1) iX2_rowsTo [.ref q, .int (Int32.ofInt a1)] w 0 0 Q := by
  refine zCl_i (M := kX2_rowsTo) rfl (Nat.le_of_ble_eq_true rfl) fun R hR => ?_
  refine hR (?_ : R (_, _, _, _, _, _))
  refine hR (c_get hK0 rfl ?_)
  refine hR (?_ : R (_, _, _, _, _, _))
  refine hR (c_get hK0 rfl ?_)
  refine hR (c_aldE hK1 (by omega) (by omega) (Nat.le_of_ble_eq_true rfl) fun v1 ev1 rv1 => ?_)
  replace ev1 : v1 = tBy gS y1 := ev1
  subst ev1
  refine hR (?_ : R (_, _, _, _, _, _))
  have lp10 : ∀ (N : Nat) (ii : Int), (0 ≤ ii ∧ ii ≤ 25750) → (∀ i : Int, tBy gS y1 ≤ i → i < ii → tBy g3 i ≠ a1) → (tBy gS y1 ≤ ii) → (25751 - ii < N) → R (10, [some (.ref q), some (.int (Int32.ofInt a1)), some (.int (Int32.ofInt ii))], [], w, 0, 0) := by
    intro N
    induction N with
    | zero => intros; omega
    | succ N ih10 =>
      intro ii hf0_10 hp0_10 hp1_10 hN10
      iterate 2 refine hR (?_ : R (_, _, _, _, _, _))
      refine hR (c_get hK0 rfl ?_)
      refine hR (?_ : R (_, _, _, _, _, _))
      refine hR (c_get hK0 rfl ?_)
      refine hR (?_ : R (_, _, _, _, _, _))
      refine hR (t_add ?_)
      refine hR (c_aldE hK1 (by omega) (by omega) (Nat.le_of_ble_eq_true rfl) fun v2 ev2 rv2 => ?_)
      replace ev2 : v2 = tBy gS (y1 + 1) := ev2
      subst ev2
      refine hR (j_ge (by omega) (by omega) (fun hc3 => ?_) (fun hc3 => ?_))
      · skip
        refine hR (?_ : R (_, _, _, _, _, _))
        exact hR (zret_i rfl (Nat.le_refl _) trivial (h _ (Or.inr ⟨fun i i0 i1 => hp0_10 i i0 (by omega), rfl⟩)))
      refine hR (?_ : R (_, _, _, _, _, _))
      refine hR (c_get hK0 rfl ?_)
      refine hR (?_ : R (_, _, _, _, _, _))
      refine hR (c_aldE hK2 (by omega) (by omega) (Nat.le_of_ble_eq_true rfl) fun v4 ev4 rv4 => ?_)
      replace ev4 : v4 = tBy g3 ii := ev4
      subst ev4
      refine hR (?_ : R (_, _, _, _, _, _))
      refine hR (j_ne (by omega) (by omega) (fun hc5 => ?_) (fun hc5 => ?_))
      · skip
        refine hR (t_inc ?_)
        refine hR (?_ : R (_, _, _, _, _, _))
        exact ih10 _ (by omega) (fun i i0 i1 => by by_cases c : i = ii; (· rw [c]; omega); exact hp0_10 i i0 (by omega)) (by omega) (by omega)
      refine hR (?_ : R (_, _, _, _, _, _))
      refine hR (c_get hK0 rfl ?_)
      refine hR (?_ : R (_, _, _, _, _, _))
      refine hR (c_aldE hK3 (by omega) (by omega) (Nat.le_of_ble_eq_true rfl) fun v6 ev6 rv6 => ?_)
      replace ev6 : v6 = tBy g4 ii := ev6
      subst ev6
      exact hR (zret_i rfl (Nat.le_refl _) trivial (h _ (Or.inl ⟨ii, ⟨by omega, by omega⟩, by omega, rfl⟩)))
  exact lp10 400000000 _ (by omega) (fun i i0 i1 => by omega) (by omega) (by omega)
theorem x_rowsI (w : zW) (d : Nat) (q p : Nat) (y1 y2 y3 : Int) (gS g4 : Nat → Int32) (hK0 : zix w q = some (.inr (2, [.ref p, .int (Int32.ofInt y1), .int (Int32.ofInt y2), .int (Int32.ofInt y3), .ref (q + 1), .ref (q + 2), .ref (q + 3), .ref (q + 4), .ref (q + 5), .ref (q + 6)]))) (hK1 : zix w (q + 1) = some (.inl (1, 11, .inl gS))) (hK2 : zix w (q + 4) = some (.inl (1, 25750, .inl g4))) (hr0 : 0 ≤ y1 ∧ y1 ≤ 9) (hr1 : (0 ≤ tBy gS y1 ∧ tBy gS y1 ≤ tBy gS (y1 + 1)) ∧ tBy gS (y1 + 1) ≤ 25750) (hr2 : ∀ i : Int, tBy gS y1 ≤ i → i < tBy gS (y1 + 1) → 0 < tBy g4 i) (hr3 : smN (fun j => tBy g4 j) (tBy gS y1) (tBy gS (y1 + 1) - tBy gS y1).toNat ≤ 1953125) (Q : zQ) (h : ∀ (v : Int), (v = smN (fun j => tBy g4 j) (tBy gS y1) (tBy gS (y1 + 1) - tBy gS y1).toNat) → (0 ≤ v ∧ v ≤ 1953125) → Q (some (.int (Int32.ofInt v))) w) : zCl zTab (d + 1) iX2_rows [.ref q] w 0 0 Q := by
  refine zCl_i (M := kX2_rows) rfl (Nat.le_of_ble_eq_true rfl) fun R hR => ?_
  iterate 3 refine hR (?_ : R (_, _, _, _, _, _))
  refine hR (c_get hK0 rfl ?_)
  refine hR (?_ : R (_, _, _, _, _, _))
  refine hR (c_get hK0 rfl ?_)
  refine hR (c_aldE hK1 (by omega) (by omega) (Nat.le_of_ble_eq_true rfl) fun v1 ev1 rv1 => ?_)
  replace ev1 : v1 = tBy gS y1 := ev1
  subst ev1
  refine hR (?_ : R (_, _, _, _, _, _))
  have lp12 : ∀ (N : Nat) (sv : Int) (ii : Int), (0 ≤ sv ∧ sv ≤ 1953125) → (0 ≤ ii ∧ ii ≤ 25750) → (sv = smN (fun j => tBy g4 j) (tBy gS y1) (ii - tBy gS y1).toNat) → (tBy gS y1 ≤ ii ∧ ii ≤ tBy gS (y1 + 1)) → (25751 - ii < N) → R (12, [some (.ref q), some (.int (Int32.ofInt sv)), some (.int (Int32.ofInt ii))], [], w, 0, 0) := by
    intro N
    induction N with
    | zero => intros; omega
    | succ N ih12 =>
      intro sv ii hf0_12 hf1_12 hp0_12 hp1_12 hN12
      iterate 2 refine hR (?_ : R (_, _, _, _, _, _))
      refine hR (c_get hK0 rfl ?_)
      refine hR (?_ : R (_, _, _, _, _, _))
      refine hR (c_get hK0 rfl ?_)
      refine hR (?_ : R (_, _, _, _, _, _))
      refine hR (t_add ?_)
      refine hR (c_aldE hK1 (by omega) (by omega) (Nat.le_of_ble_eq_true rfl) fun v2 ev2 rv2 => ?_)
      replace ev2 : v2 = tBy gS (y1 + 1) := ev2
      subst ev2
      refine hR (j_ge (by omega) (by omega) (fun hc3 => ?_) (fun hc3 => ?_))
      · skip
        refine hR (?_ : R (_, _, _, _, _, _))
        exact hR (zret_i rfl (Nat.le_refl _) trivial (h _ (by rw [hp0_12, show ii = tBy gS (y1 + 1) by omega]) (by omega)))
      iterate 2 refine hR (?_ : R (_, _, _, _, _, _))
      refine hR (c_get hK0 rfl ?_)
      refine hR (?_ : R (_, _, _, _, _, _))
      refine hR (c_aldE hK2 (by omega) (by omega) (Nat.le_of_ble_eq_true rfl) fun v4 ev4 rv4 => ?_)
      replace ev4 : v4 = tBy g4 ii := ev4
      subst ev4
      have hs := smN_s (w := fun j => tBy g4 j) (mid := tBy gS y1) (e := ii) (by omega)
      have hm := smN_m (w := fun j => tBy g4 j) (st := tBy gS y1) (mid := tBy gS (y1 + 1)) hr2 (ii + 1 - tBy gS y1).toNat (tBy gS (y1 + 1) - tBy gS y1).toNat (by omega) (by omega)
      have hp := hr2 ii (by omega) (by omega)
      refine hR (t_add ?_)
      refine hR (?_ : R (_, _, _, _, _, _))
      refine hR (t_inc ?_)
      refine hR (?_ : R (_, _, _, _, _, _))
      exact ih12 _ _ (by omega) (by omega) (by rw [hs, ← hp0_12]) (by omega) (by omega)
  exact lp12 400000000 _ _ (by omega) (by omega) (by rw [show (tBy gS y1 - tBy gS y1).toNat = 0 by omega]; rfl) (by omega) (by omega)
theorem x_endByDriftI (w : zW) (d : Nat) (q p b z2 z3 : Nat) (x0 nn x2 : Int) (y1 y2 y3 : Int) (gS g3 g5 : Nat → Int32) (hK0 : zix w q = some (.inr (2, [.ref p, .int (Int32.ofInt y1), .int (Int32.ofInt y2), .int (Int32.ofInt y3), .ref (q + 1), .ref (q + 2), .ref (q + 3), .ref (q + 4), .ref (q + 5), .ref (q + 6)]))) (hK1 : zix w (q + 1) = some (.inl (1, 11, .inl gS))) (hK2 : zix w (q + 3) = some (.inl (1, 25750, .inl g3))) (hK3 : zix w (q + 5) = some (.inl (1, 25750, .inl g5))) (hK4 : zix w p = some (.inr (3, [.ref b, .ref (p + 1), .ref z2, .ref z3]))) (hK5 : zix w b = some (.inr (0, [.int (Int32.ofInt x0), .int (Int32.ofInt nn), .int (Int32.ofInt x2), .ref (b + 1), .ref (b + 2), .ref (b + 3), .ref (b + 4)]))) (hr0 : 0 ≤ y1 ∧ y1 ≤ 9) (hr1 : (0 ≤ tBy gS y1 ∧ tBy gS y1 ≤ tBy gS (y1 + 1)) ∧ tBy gS (y1 + 1) ≤ 25750) (hr2 : ∀ j : Int, tBy gS y1 ≤ j → j < tBy gS (y1 + 1) → 0 ≤ tBy g3 j ∧ tBy g3 j ≤ 5460) (hr3 : 0 ≤ x0 ∧ x0 ≤ 5460) (hr4 : (q + 6 < p ∨ p + 1 < q) ∧ (q + 6 < b ∨ b + 4 < q)) (Q : zQ) (h : ∀ (T5 : Nat → Int32) (w' : zW), wfM (fun j => j ≠ q + 5) w w' → zix w' (q + 5) = some (.inl (1, 25750, .inl T5)) → (∀ i : Int, tBy gS y1 ≤ i → i < tBy gS (y1 + 1) → tBy T5 i = dft (tBy g3 i) x0) → Q (none) w') : zCl zTab (d + 4) iX2_endByDrift [.ref q] w 0 0 Q := by
  refine zCl_i (M := kX2_endByDrift) rfl (Nat.le_of_ble_eq_true rfl) fun R hR => ?_
  have fr0 : wfM (fun j => j ≠ q + 5) w w := wfM_rf _ w
  have nX0 : FX (∀ j : Nat, (j ≠ q + 5) → j ≠ q + 5) := fun j hj => by omega
  have nX1 : FX (q ≠ q + 5) := (show q ≠ q + 5 by omega)
  have nX2 : FX ((q + 1) ≠ q + 5) := (show (q + 1) ≠ q + 5 by omega)
  have nX3 : FX ((q + 3) ≠ q + 5) := (show (q + 3) ≠ q + 5 by omega)
  have nX4 : FX (p ≠ q + 5) := (show p ≠ q + 5 by omega)
  have nX5 : FX (b ≠ q + 5) := (show b ≠ q + 5 by omega)
  refine hR (?_ : R (_, _, _, _, _, _))
  refine hR (c_get hK0 rfl ?_)
  refine hR (?_ : R (_, _, _, _, _, _))
  refine hR (c_get hK0 rfl ?_)
  refine hR (c_aldE hK1 (by omega) (by omega) (Nat.le_of_ble_eq_true rfl) fun v1 ev1 rv1 => ?_)
  replace ev1 : v1 = tBy gS y1 := ev1
  subst ev1
  refine hR (?_ : R (_, _, _, _, _, _))
  have lp10 : ∀ (N : Nat) (ii : Int) (T : Nat → Int32) (w_10 : zW), (wfM (fun j => j ≠ q + 5) w w_10) → (zix w_10 q = some (.inr (2, [.ref p, .int (Int32.ofInt y1), .int (Int32.ofInt y2), .int (Int32.ofInt y3), .ref (q + 1), .ref (q + 2), .ref (q + 3), .ref (q + 4), .ref (q + 5), .ref (q + 6)]))) → (zix w_10 (q + 1) = some (.inl (1, 11, .inl gS))) → (zix w_10 (q + 3) = some (.inl (1, 25750, .inl g3))) → (zix w_10 (q + 5) = some (.inl (1, 25750, .inl T))) → (zix w_10 p = some (.inr (3, [.ref b, .ref (p + 1), .ref z2, .ref z3]))) → (zix w_10 b = some (.inr (0, [.int (Int32.ofInt x0), .int (Int32.ofInt nn), .int (Int32.ofInt x2), .ref (b + 1), .ref (b + 2), .ref (b + 3), .ref (b + 4)]))) → (0 ≤ ii ∧ ii ≤ 25750) → (∀ i : Int, tBy gS y1 ≤ i → i < ii → tBy T i = dft (tBy g3 i) x0) → (tBy gS y1 ≤ ii) → (25751 - ii < N) → R (10, [some (.ref q), some (.int (Int32.ofInt ii))], [], w_10, 0, 0) := by
    intro N
    induction N with
    | zero => intros; omega
    | succ N ih10 =>
      intro ii T w_10 fr_10 hCq_10 hCq1_10 hCq3_10 hCq5_10 hCp_10 hCb_10 hf0_10 hp0_10 hp1_10 hN10
      iterate 2 refine hR (?_ : R (_, _, _, _, _, _))
      refine hR (c_get hCq_10 rfl ?_)
      refine hR (?_ : R (_, _, _, _, _, _))
      refine hR (c_get hCq_10 rfl ?_)
      refine hR (?_ : R (_, _, _, _, _, _))
      refine hR (t_add ?_)
      refine hR (c_aldE hCq1_10 (by omega) (by omega) (Nat.le_of_ble_eq_true rfl) fun v2 ev2 rv2 => ?_)
      replace ev2 : v2 = tBy gS (y1 + 1) := ev2
      subst ev2
      refine hR (j_ge (by omega) (by omega) (fun hc3 => ?_) (fun hc3 => ?_))
      · skip
        exact hR (zret_i rfl (Nat.le_refl _) rfl (h _ _ fr_10 hCq5_10 (fun i i0 i1 => hp0_10 i i0 (by omega))))
      refine hR (?_ : R (_, _, _, _, _, _))
      refine hR (c_get hCq_10 rfl ?_)
      iterate 2 refine hR (?_ : R (_, _, _, _, _, _))
      refine hR (c_get hCq_10 rfl ?_)
      refine hR (?_ : R (_, _, _, _, _, _))
      refine hR (c_aldE hCq3_10 (by omega) (by omega) (Nat.le_of_ble_eq_true rfl) fun v4 ev4 rv4 => ?_)
      replace ev4 : v4 = tBy g3 ii := ev4
      subst ev4
      have hq := hr2 ii (by omega) (by omega)
      refine hR (?_ : R (_, _, _, _, _, _))
      refine hR (c_get hCq_10 rfl ?_)
      refine hR (c_get hCp_10 rfl ?_)
      refine hR (c_get hCb_10 rfl ?_)
      refine hR (zcall_i 0 0 (Nat.le_of_ble_eq_true rfl) (Nat.le_of_ble_eq_true rfl) (x_driftI _ _ (tBy g3 ii) x0 (by omega) (by omega) _ fun v5 hp6 => ?_))
      subst hp6
      refine (?_ : R (_, _, .int (Int32.ofInt (dft (tBy g3 ii) x0)) :: .int (Int32.ofInt ii) :: .ref (q + 5) :: [], w_10, 0, 0))
      have hdi := dft_r (a := tBy g3 ii) (b := x0)
      refine hR (x_ast hCq5_10 (by omega) (by omega) (Nat.le_of_ble_eq_true rfl) fun w7 ff7 hC7 => ?_)
      have fr8 := wfM_st fr_10 ff7 nX0
      have hC9 := (ff7.2 q nX1).trans hCq_10
      have hC10 := (ff7.2 (q + 1) nX2).trans hCq1_10
      have hC11 := (ff7.2 (q + 3) nX3).trans hCq3_10
      have hC12 := (ff7.2 p nX4).trans hCp_10
      have hC13 := (ff7.2 b nX5).trans hCb_10
      refine hR (t_inc ?_)
      refine hR (?_ : R (_, _, _, _, _, _))
      exact ih10 _ _ _ fr8 hC9 hC10 hC11 hC7 hC12 hC13 (by omega) (fun i i0 i1 => by rw [zupI (by exact ⟨by omega, by omega⟩) (by omega) (by omega)]; by_cases c : i = ii; (· rw [if_pos c, c]); rw [if_neg c]; exact hp0_10 i i0 (by omega)) (by omega) (by omega)
  exact lp10 400000000 _ _ _ fr0 hK0 hK1 hK2 hK3 hK4 hK5 (by omega) (fun i i0 i1 => by omega) (by omega) (by omega)
theorem x_bestEndI (w : zW) (d : Nat) (q p : Nat) (a1 : Int) (y1 y2 y3 : Int) (gS g5 : Nat → Int32) (hK0 : zix w q = some (.inr (2, [.ref p, .int (Int32.ofInt y1), .int (Int32.ofInt y2), .int (Int32.ofInt y3), .ref (q + 1), .ref (q + 2), .ref (q + 3), .ref (q + 4), .ref (q + 5), .ref (q + 6)]))) (hK1 : zix w (q + 1) = some (.inl (1, 11, .inl gS))) (hK2 : zix w (q + 5) = some (.inl (1, 25750, .inl g5))) (hr0 : 0 ≤ y1 ∧ y1 ≤ 9) (hr1 : (0 ≤ tBy gS y1 ∧ tBy gS y1 ≤ tBy gS (y1 + 1)) ∧ tBy gS (y1 + 1) ≤ 25750) (hr2 : tBy gS y1 < tBy gS (y1 + 1)) (hr3 : 0 ≤ a1 ∧ a1 ≤ 1) (Q : zQ) (h : ∀ (v : Int), ((∃ i : Int, (tBy gS y1 ≤ i ∧ i < tBy gS (y1 + 1)) ∧ v = tBy g5 i) ∧ ∀ i : Int, tBy gS y1 ≤ i → i < tBy gS (y1 + 1) → (a1 ≠ 0 → tBy g5 i ≤ v) ∧ (a1 = 0 → v ≤ tBy g5 i)) → Q (some (.int (Int32.ofInt v))) w) : zCl zTab (d + 2) iX2_bestEnd [.ref q, .int (Int32.ofInt a1)] w 0 0 Q := by
  refine zCl_i (M := kX2_bestEnd) rfl (Nat.le_of_ble_eq_true rfl) fun R hR => ?_
  refine hR (?_ : R (_, _, _, _, _, _))
  refine hR (c_get hK0 rfl ?_)
  refine hR (?_ : R (_, _, _, _, _, _))
  refine hR (c_get hK0 rfl ?_)
  refine hR (?_ : R (_, _, _, _, _, _))
  refine hR (c_get hK0 rfl ?_)
  refine hR (c_aldE hK1 (by omega) (by omega) (Nat.le_of_ble_eq_true rfl) fun v1 ev1 rv1 => ?_)
  replace ev1 : v1 = tBy gS y1 := ev1
  subst ev1
  refine hR (c_aldE hK2 (by omega) (by omega) (Nat.le_of_ble_eq_true rfl) fun v2 ev2 rv2 => ?_)
  replace ev2 : v2 = tBy g5 (tBy gS y1) := ev2
  subst ev2
  iterate 2 refine hR (?_ : R (_, _, _, _, _, _))
  refine hR (c_get hK0 rfl ?_)
  refine hR (?_ : R (_, _, _, _, _, _))
  refine hR (c_get hK0 rfl ?_)
  refine hR (c_aldE hK1 (by omega) (by omega) (Nat.le_of_ble_eq_true rfl) fun v3 ev3 rv3 => ?_)
  replace ev3 : v3 = tBy gS y1 := ev3
  subst ev3
  refine hR (?_ : R (_, _, _, _, _, _))
  refine hR (t_add ?_)
  refine hR (?_ : R (_, _, _, _, _, _))
  have lp27 : ∀ (N : Nat) (best : Int) (ii : Int), (-2147483648 ≤ best ∧ best ≤ 2147483647) → (1 ≤ ii ∧ ii ≤ 25750) → (∃ i : Int, (tBy gS y1 ≤ i ∧ i < ii) ∧ best = tBy g5 i) → (∀ i : Int, tBy gS y1 ≤ i → i < ii → (a1 ≠ 0 → tBy g5 i ≤ best) ∧ (a1 = 0 → best ≤ tBy g5 i)) → (tBy gS y1 < ii ∧ ii ≤ tBy gS (y1 + 1)) → (25751 - ii < N) → R (27, [some (.ref q), some (.int (Int32.ofInt a1)), some (.int (Int32.ofInt best)), some (.int (Int32.ofInt ii))], [], w, 0, 0) := by
    intro N
    induction N with
    | zero => intros; omega
    | succ N ih27 =>
      intro best ii hf0_27 hf1_27 hp0_27 hp1_27 hp2_27 hN27
      iterate 2 refine hR (?_ : R (_, _, _, _, _, _))
      refine hR (c_get hK0 rfl ?_)
      refine hR (?_ : R (_, _, _, _, _, _))
      refine hR (c_get hK0 rfl ?_)
      refine hR (?_ : R (_, _, _, _, _, _))
      refine hR (t_add ?_)
      refine hR (c_aldE hK1 (by omega) (by omega) (Nat.le_of_ble_eq_true rfl) fun v4 ev4 rv4 => ?_)
      replace ev4 : v4 = tBy gS (y1 + 1) := ev4
      subst ev4
      refine hR (j_ge (by omega) (by omega) (fun hc5 => ?_) (fun hc5 => ?_))
      · skip
        refine hR (?_ : R (_, _, _, _, _, _))
        exact hR (zret_i rfl (Nat.le_refl _) trivial (h _ ⟨(by obtain ⟨i, hi, e⟩ := hp0_27; exact ⟨i, ⟨hi.1, by omega⟩, e⟩), fun i i0 i1 => hp1_27 i i0 (by omega)⟩))
      refine hR (?_ : R (_, _, _, _, _, _))
      refine hR (k_eq (by omega) (fun hc6 => ?_) (fun hc6 => ?_))
      · skip
        iterate 2 refine hR (?_ : R (_, _, _, _, _, _))
        refine hR (c_get hK0 rfl ?_)
        refine hR (?_ : R (_, _, _, _, _, _))
        refine hR (c_aldE hK2 (by omega) (by omega) (Nat.le_of_ble_eq_true rfl) fun v7 ev7 rv7 => ?_)
        replace ev7 : v7 = tBy g5 ii := ev7
        subst ev7
        obtain ⟨v8, lv8, qv8⟩ := zmin_r (a := best) (b := tBy g5 ii) (by omega) (by omega)
        refine hR (t_c v8 qv8 ?_)
        refine hR (?_ : R (_, _, _, _, _, _))
        refine hR (t_inc ?_)
        refine hR (?_ : R (_, _, _, _, _, _))
        exact ih27 _ _ (by omega) (by omega) (by obtain ⟨i, hi, e⟩ := hp0_27; rcases lv8.2.2 with z | z; (· exact ⟨i, ⟨hi.1, by omega⟩, z.trans e⟩); exact ⟨ii, ⟨by omega, by omega⟩, z⟩) (fun i i0 i1 => by by_cases c : i = ii; (· rw [c]; exact ⟨fun _ => by omega, fun _ => by omega⟩); have hz := hp1_27 i i0 (by omega); exact ⟨fun z => by have := hz.1 z; omega, fun z => by have := hz.2 z; omega⟩) (by omega) (by omega)
      iterate 2 refine hR (?_ : R (_, _, _, _, _, _))
      refine hR (c_get hK0 rfl ?_)
      refine hR (?_ : R (_, _, _, _, _, _))
      refine hR (c_aldE hK2 (by omega) (by omega) (Nat.le_of_ble_eq_true rfl) fun v9 ev9 rv9 => ?_)
      replace ev9 : v9 = tBy g5 ii := ev9
      subst ev9
      obtain ⟨v10, lv10, qv10⟩ := zmax_r (a := best) (b := tBy g5 ii) (by omega) (by omega)
      refine hR (t_c v10 qv10 ?_)
      iterate 2 refine hR (?_ : R (_, _, _, _, _, _))
      refine hR (t_inc ?_)
      refine hR (?_ : R (_, _, _, _, _, _))
      exact ih27 _ _ (by omega) (by omega) (by obtain ⟨i, hi, e⟩ := hp0_27; rcases lv10.2.2 with z | z; (· exact ⟨i, ⟨hi.1, by omega⟩, z.trans e⟩); exact ⟨ii, ⟨by omega, by omega⟩, z⟩) (fun i i0 i1 => by by_cases c : i = ii; (· rw [c]; exact ⟨fun _ => by omega, fun _ => by omega⟩); have hz := hp1_27 i i0 (by omega); exact ⟨fun z => by have := hz.1 z; omega, fun z => by have := hz.2 z; omega⟩) (by omega) (by omega)
  exact lp27 400000000 _ _ (by omega) (by omega) (⟨tBy gS y1, ⟨by omega, by omega⟩, rfl⟩) (fun i i0 i1 => by rw [show i = tBy gS y1 by omega]; exact ⟨fun _ => Int.le_refl _, fun _ => Int.le_refl _⟩) (by omega) (by omega)
theorem x_recallI (w : zW) (d : Nat) (q p : Nat) (a1 : Int) (y1 y2 y3 : Int) (gS g3 g6 : Nat → Int32) (hK0 : zix w q = some (.inr (2, [.ref p, .int (Int32.ofInt y1), .int (Int32.ofInt y2), .int (Int32.ofInt y3), .ref (q + 1), .ref (q + 2), .ref (q + 3), .ref (q + 4), .ref (q + 5), .ref (q + 6)]))) (hK1 : zix w (q + 1) = some (.inl (1, 11, .inl gS))) (hK2 : zix w (q + 3) = some (.inl (1, 25750, .inl g3))) (hK3 : zix w (q + 6) = some (.inl (1, 5461, .inl g6))) (hr0 : 0 ≤ a1 ∧ a1 ≤ 9) (hr1 : (0 ≤ tBy gS a1 ∧ tBy gS a1 ≤ tBy gS (a1 + 1)) ∧ tBy gS (a1 + 1) ≤ 25750) (hr2 : ∀ j : Int, tBy gS a1 ≤ j → j < tBy gS (a1 + 1) → 0 ≤ tBy g3 j ∧ tBy g3 j ≤ 5460) (hr3 : ∀ i j : Int, tBy gS a1 ≤ i → i < j → j < tBy gS (a1 + 1) → tBy g3 i ≠ tBy g3 j) (hr4 : ∀ t : Int, 0 ≤ t → t ≤ 5460 → tBy g6 t = -1) (Q : zQ) (h : ∀ (T6 : Nat → Int32) (w' : zW), wfM (fun j => j ≠ q + 6) w w' → zix w' (q + 6) = some (.inl (1, 5461, .inl T6)) → (NDQ g3 T6 (tBy gS a1) (tBy gS (a1 + 1))) → Q (none) w') : zCl zTab (d + 1) iX2_recall [.ref q, .int (Int32.ofInt a1)] w 0 0 Q := by
  refine zCl_i (M := kX2_recall) rfl (Nat.le_of_ble_eq_true rfl) fun R hR => ?_
  have fr0 : wfM (fun j => j ≠ q + 6) w w := wfM_rf _ w
  have nX0 : FX (∀ j : Nat, (j ≠ q + 6) → j ≠ q + 6) := fun j hj => by omega
  have nX1 : FX (q ≠ q + 6) := (show q ≠ q + 6 by omega)
  have nX2 : FX ((q + 1) ≠ q + 6) := (show (q + 1) ≠ q + 6 by omega)
  have nX3 : FX ((q + 3) ≠ q + 6) := (show (q + 3) ≠ q + 6 by omega)
  refine hR (?_ : R (_, _, _, _, _, _))
  refine hR (c_get hK0 rfl ?_)
  refine hR (?_ : R (_, _, _, _, _, _))
  refine hR (c_aldE hK1 (by omega) (by omega) (Nat.le_of_ble_eq_true rfl) fun v1 ev1 rv1 => ?_)
  replace ev1 : v1 = tBy gS a1 := ev1
  subst ev1
  refine hR (?_ : R (_, _, _, _, _, _))
  have lp7 : ∀ (N : Nat) (ii : Int) (T : Nat → Int32) (w_7 : zW), (wfM (fun j => j ≠ q + 6) w w_7) → (zix w_7 q = some (.inr (2, [.ref p, .int (Int32.ofInt y1), .int (Int32.ofInt y2), .int (Int32.ofInt y3), .ref (q + 1), .ref (q + 2), .ref (q + 3), .ref (q + 4), .ref (q + 5), .ref (q + 6)]))) → (zix w_7 (q + 1) = some (.inl (1, 11, .inl gS))) → (zix w_7 (q + 3) = some (.inl (1, 25750, .inl g3))) → (zix w_7 (q + 6) = some (.inl (1, 5461, .inl T))) → (0 ≤ ii ∧ ii ≤ 25750) → (NDQ g3 T (tBy gS a1) ii) → (tBy gS a1 ≤ ii ∧ ii ≤ tBy gS (a1 + 1)) → (25751 - ii < N) → R (7, [some (.ref q), some (.int (Int32.ofInt a1)), some (.int (Int32.ofInt ii))], [], w_7, 0, 0) := by
    intro N
    induction N with
    | zero => intros; omega
    | succ N ih7 =>
      intro ii T w_7 fr_7 hCq_7 hCq1_7 hCq3_7 hCq6_7 hf0_7 hp0_7 hp1_7 hN7
      iterate 2 refine hR (?_ : R (_, _, _, _, _, _))
      refine hR (c_get hCq_7 rfl ?_)
      iterate 2 refine hR (?_ : R (_, _, _, _, _, _))
      refine hR (t_add ?_)
      refine hR (c_aldE hCq1_7 (by omega) (by omega) (Nat.le_of_ble_eq_true rfl) fun v2 ev2 rv2 => ?_)
      replace ev2 : v2 = tBy gS (a1 + 1) := ev2
      subst ev2
      refine hR (j_ge (by omega) (by omega) (fun hc3 => ?_) (fun hc3 => ?_))
      · skip
        exact hR (zret_i rfl (Nat.le_refl _) rfl (h _ _ fr_7 hCq6_7 (by rw [show tBy gS (a1 + 1) = ii by omega]; exact hp0_7)))
      refine hR (?_ : R (_, _, _, _, _, _))
      refine hR (c_get hCq_7 rfl ?_)
      refine hR (?_ : R (_, _, _, _, _, _))
      refine hR (c_get hCq_7 rfl ?_)
      refine hR (?_ : R (_, _, _, _, _, _))
      refine hR (c_aldE hCq3_7 (by omega) (by omega) (Nat.le_of_ble_eq_true rfl) fun v4 ev4 rv4 => ?_)
      replace ev4 : v4 = tBy g3 ii := ev4
      subst ev4
      have hq := hr2 ii (by omega) (by omega)
      refine hR (?_ : R (_, _, _, _, _, _))
      refine hR (x_ast hCq6_7 (by omega) (by omega) (Nat.le_of_ble_eq_true rfl) fun w5 ff5 hC5 => ?_)
      have fr6 := wfM_st fr_7 ff5 nX0
      have hC7 := (ff5.2 q nX1).trans hCq_7
      have hC8 := (ff5.2 (q + 1) nX2).trans hCq1_7
      have hC9 := (ff5.2 (q + 3) nX3).trans hCq3_7
      refine hR (t_inc ?_)
      refine hR (?_ : R (_, _, _, _, _, _))
      exact ih7 _ _ _ fr6 hC7 hC8 hC9 hC5 (by omega) (nd_s hp0_7 (by omega) (by omega) (by omega) (by omega) hr2 hr3) (by omega) (by omega)
  exact lp7 400000000 _ _ _ fr0 hK0 hK1 hK2 hK3 (by omega) (nd_0 hr4) (by omega) (by omega)
theorem x_foldedI (w : zW) (d : Nat) (q p b z2 z3 : Nat) (a1 a2 a3 : Int) (x0 nn x2 : Int) (F : Int → Int → Int) (y1 y2 y3 : Int) (g3 g5 g6 : Nat → Int32) (hK0 : zix w q = some (.inr (2, [.ref p, .int (Int32.ofInt y1), .int (Int32.ofInt y2), .int (Int32.ofInt y3), .ref (q + 1), .ref (q + 2), .ref (q + 3), .ref (q + 4), .ref (q + 5), .ref (q + 6)]))) (hK1 : zix w (q + 3) = some (.inl (1, 25750, .inl g3))) (hK2 : zix w (q + 5) = some (.inl (1, 25750, .inl g5))) (hK3 : zix w (q + 6) = some (.inl (1, 5461, .inl g6))) (hK4 : zix w p = some (.inr (3, [.ref b, .ref (p + 1), .ref z2, .ref z3]))) (hK5 : zix w b = some (.inr (0, [.int (Int32.ofInt x0), .int (Int32.ofInt nn), .int (Int32.ofInt x2), .ref (b + 1), .ref (b + 2), .ref (b + 3), .ref (b + 4)]))) (hK6 : AFK w p b F) (hr0 : 0 ≤ a1 ∧ a1 ≤ 9) (hr1 : ((b + 4 < p ∨ p + 1 < b) ∧ (z2 ≠ p ∧ z2 ≠ p + 1 ∧ z3 ≠ p ∧ z3 ≠ p + 1 ∧ z2 ≠ z3)) ∧ ((z2 < b ∨ b + 4 < z2) ∧ (z3 < b ∨ b + 4 < z3))) (hr2 : (q + 6 < p ∨ p + 1 < q) ∧ (q + 6 < b ∨ b + 4 < q) ∧ (b + 4 < p ∨ p + 1 < b)) (hr3 : 0 ≤ y2 ∧ y2 ≤ 31 ∧ 0 ≤ y3 ∧ y3 ≤ 31) (hr4 : (0 ≤ a2 ∧ a2 < 25750) ∧ (0 ≤ tBy g3 a2 ∧ tBy g3 a2 ≤ 5460)) (hr5 : ∀ u : Int, 0 ≤ u → u ≤ 5460 → tBy g6 u = -1 ∨ ((0 ≤ tBy g6 u ∧ tBy g6 u < 25750) ∧ (0 ≤ tBy g5 (tBy g6 u) ∧ tBy g5 (tBy g6 u) ≤ 400000000))) (hr6 : 0 ≤ a3 ∧ a3 ≤ 2) (hr7 : 0 ≤ nn ∧ nn ≤ 5) (Q : zQ) (h : ∀ (v : Int) (w' : zW), wfM (fun j => j ≠ p + 1) w w' → AFK w' p b F → (v = fdV a3 (chA F (hM (if a1 % 2 = 0 then y2 else y3)) g5 g6 (tBy g3 a2)) nn) → Q (some (.int (Int32.ofInt v))) w') : zCl zTab (d + 5) iX2_folded [.ref q, .int (Int32.ofInt a1), .int (Int32.ofInt a2), .int (Int32.ofInt a3)] w 0 0 Q := by
  refine zCl_i (M := kX2_folded) rfl (Nat.le_of_ble_eq_true rfl) fun R hR => ?_
  have fr0 : wfM (fun j => j ≠ p + 1) w w := wfM_rf _ w
  have hse : 0 ≤ (if a1 % 2 = 0 then y2 else y3) ∧ (if a1 % 2 = 0 then y2 else y3) ≤ 31 := by split <;> omega
  have nX0 : FX (∀ j : Nat, (j ≠ p + 1) → (j ≠ p + 1)) := fun j hj => by omega
  have nX1 : FX (q ≠ p + 1) := (show q ≠ p + 1 by omega)
  have nX2 : FX ((q + 3) ≠ p + 1) := (show (q + 3) ≠ p + 1 by omega)
  have nX3 : FX ((q + 5) ≠ p + 1) := (show (q + 5) ≠ p + 1 by omega)
  have nX4 : FX ((q + 6) ≠ p + 1) := (show (q + 6) ≠ p + 1 by omega)
  have nX5 : FX (p ≠ p + 1) := (show p ≠ p + 1 by omega)
  have nX6 : FX (b ≠ p + 1) := (show b ≠ p + 1 by omega)
  iterate 4 refine hR (?_ : R (_, _, _, _, _, _))
  have lp6 : ∀ (N : Nat) (found : Int) (rr : Int) (o6_6 : Option Value) (w_6 : zW), (zc2 o6_6 = false) → (wfM (fun j => j ≠ p + 1) w w_6) → (zix w_6 q = some (.inr (2, [.ref p, .int (Int32.ofInt y1), .int (Int32.ofInt y2), .int (Int32.ofInt y3), .ref (q + 1), .ref (q + 2), .ref (q + 3), .ref (q + 4), .ref (q + 5), .ref (q + 6)]))) → (zix w_6 (q + 3) = some (.inl (1, 25750, .inl g3))) → (zix w_6 (q + 5) = some (.inl (1, 25750, .inl g5))) → (zix w_6 (q + 6) = some (.inl (1, 5461, .inl g6))) → (zix w_6 p = some (.inr (3, [.ref b, .ref (p + 1), .ref z2, .ref z3]))) → (zix w_6 b = some (.inr (0, [.int (Int32.ofInt x0), .int (Int32.ofInt nn), .int (Int32.ofInt x2), .ref (b + 1), .ref (b + 2), .ref (b + 3), .ref (b + 4)]))) → (AFK w_6 p b F) → (-1 ≤ found ∧ found ≤ 2000000000) → (0 ≤ rr ∧ rr ≤ 5) → (found = fdN a3 (chA F (hM (if a1 % 2 = 0 then y2 else y3)) g5 g6 (tBy g3 a2)) rr.toNat) → (rr ≤ nn) → (found ≤ 400000000 * rr) → (6 - rr < N) → R (6, [some (.ref q), some (.int (Int32.ofInt a1)), some (.int (Int32.ofInt a2)), some (.int (Int32.ofInt a3)), some (.int (Int32.ofInt found)), some (.int (Int32.ofInt rr)), o6_6], [], w_6, 0, 0) := by
    intro N
    induction N with
    | zero => intros; omega
    | succ N ih6 =>
      intro found rr o6_6 w_6 hzo6_6 fr_6 hCq_6 hCq3_6 hCq5_6 hCq6_6 hCp_6 hCb_6 hCAF_6 hf0_6 hf1_6 hp0_6 hp1_6 hp2_6 hN6
      iterate 2 refine hR (?_ : R (_, _, _, _, _, _))
      refine hR (c_get hCq_6 rfl ?_)
      refine hR (c_get hCp_6 rfl ?_)
      refine hR (c_get hCb_6 rfl ?_)
      refine hR (j_ge (by omega) (by omega) (fun hc1 => ?_) (fun hc1 => ?_))
      · skip
        iterate 2 refine hR (?_ : R (_, _, _, _, _, _))
        refine hR (j_ne (by omega) (by omega) (fun hc2 => ?_) (fun hc2 => ?_))
        · skip
          refine hR (?_ : R (_, _, _, _, _, _))
          exact hR (zret_i rfl (Nat.le_refl _) trivial (h _ _ fr_6 hCAF_6 (fd_e (r := found) (by rw [hp0_6, show rr = nn by omega]) (by omega))))
        iterate 2 refine hR (?_ : R (_, _, _, _, _, _))
        exact hR (zret_i rfl (Nat.le_refl _) trivial (h _ _ fr_6 hCAF_6 (fd_e (r := found) (by rw [hp0_6, show rr = nn by omega]) (by omega))))
      iterate 2 refine hR (?_ : R (_, _, _, _, _, _))
      refine hR (c_obj hCq_6 (zcall_i 0 0 (Nat.le_of_ble_eq_true rfl) (Nat.le_of_ble_eq_true rfl) (x_onesAtI _ _ _ _ _ _ _ _ hCq_6 (by omega) _ fun v3 hp4 => ?_)))
      subst hp4
      refine (?_ : R (_, _, .int (Int32.ofInt (if a1 % 2 = 0 then y2 else y3)) :: [], w_6, 0, 0))
      refine hR (?_ : R (_, _, _, _, _, _))
      refine hR (zcall_i 0 0 (Nat.le_of_ble_eq_true rfl) (Nat.le_of_ble_eq_true rfl) (x_isInI _ _ _ _ _ fun v5 hp6 => ?_))
      refine (?_ : R (_, _, .int (Int32.ofInt v5) :: [], w_6, 0, 0))
      refine hR (k_eq (by omega) (fun hc7 => ?_) (fun hc7 => ?_))
      · skip
        iterate 4 refine hR (?_ : R (_, _, _, _, _, _))
        refine hR (j_ne (by omega) (by omega) (fun hc => by omega) (fun _ => ?_))
        refine hR (?_ : R (_, _, _, _, _, _))
        refine hR (t_inc ?_)
        refine hR (?_ : R (_, _, _, _, _, _))
        exact ih6 _ _ _ _ (by rfl) fr_6 hCq_6 hCq3_6 hCq5_6 hCq6_6 hCp_6 hCb_6 hCAF_6 (by omega) (by omega) (by have hfs := fd_s (how := a3) hp0_6 (by omega) (ch_f (hM_f (by omega))); rw [← hfs]; unfold fdS; (repeat' split) <;> omega) (by omega) (by omega) (by omega)
      refine hR (?_ : R (_, _, _, _, _, _))
      refine hR (c_get hCq_6 rfl ?_)
      refine hR (?_ : R (_, _, _, _, _, _))
      refine hR (c_get hCq_6 rfl ?_)
      iterate 2 refine hR (?_ : R (_, _, _, _, _, _))
      refine hR (c_get hCq_6 rfl ?_)
      refine hR (?_ : R (_, _, _, _, _, _))
      refine hR (c_aldE hCq3_6 (by omega) (by omega) (Nat.le_of_ble_eq_true rfl) fun v8 ev8 rv8 => ?_)
      replace ev8 : v8 = tBy g3 a2 := ev8
      subst ev8
      refine hR (c_obj hCp_6 (zcall_i 0 0 (Nat.le_of_ble_eq_true rfl) (Nat.le_of_ble_eq_true rfl) (x_after _ _ _ _ _ _ _ _ _ _ _ _ hCp_6 hCb_6 hCAF_6 (by omega) (by omega) hr1 _ fun v9 w10 gg11 hC12 hp13 => ?_)))
      have fr14 := wfM_tr fr_6 gg11 nX0
      have hC15 := (gg11.2 q nX1).trans hCq_6
      have hC16 := (gg11.2 (q + 3) nX2).trans hCq3_6
      have hC17 := (gg11.2 (q + 5) nX3).trans hCq5_6
      have hC18 := (gg11.2 (q + 6) nX4).trans hCq6_6
      have hC19 := (gg11.2 p nX5).trans hCp_6
      have hC20 := (gg11.2 b nX6).trans hCb_6
      refine (?_ : R (_, _, .int (Int32.ofInt v9) :: .ref (q + 6) :: [], w10, 0, 0))
      have hv := hp13
      have hb6 := hr5 v9 (by omega) (by omega)
      refine hR (c_aldE hC18 (by omega) (by omega) (Nat.le_of_ble_eq_true rfl) fun v21 ev21 rv21 => ?_)
      replace ev21 : v21 = tBy g6 v9 := ev21
      subst ev21
      iterate 4 refine hR (?_ : R (_, _, _, _, _, _))
      refine hR (j_ne (by omega) (by omega) (fun hc22 => ?_) (fun hc22 => ?_))
      rotate_left
      · skip
        refine hR (?_ : R (_, _, _, _, _, _))
        refine hR (t_inc ?_)
        refine hR (?_ : R (_, _, _, _, _, _))
        exact ih6 _ _ _ _ (by rfl) fr14 hC15 hC16 hC17 hC18 hC19 hC20 hC12 (by omega) (by omega) (by have hfs := fd_s (how := a3) hp0_6 (by omega) (ch_n (hM_t (by omega) (by omega) (by omega)) hv.1 (by omega)); rw [← hfs]; unfold fdS; (repeat' split) <;> omega) (by omega) (by omega) (by omega)
      iterate 2 refine hR (?_ : R (_, _, _, _, _, _))
      refine hR (j_ne (by omega) (by omega) (fun hc23 => ?_) (fun hc23 => ?_))
      rotate_left
      · skip
        refine hR (?_ : R (_, _, _, _, _, _))
        refine hR (c_get hC15 rfl ?_)
        refine hR (?_ : R (_, _, _, _, _, _))
        refine hR (c_aldE hC17 (by omega) (by omega) (Nat.le_of_ble_eq_true rfl) fun v31 ev31 rv31 => ?_)
        replace ev31 : v31 = tBy g5 (tBy g6 v9) := ev31
        subst ev31
        iterate 2 refine hR (?_ : R (_, _, _, _, _, _))
        refine hR (t_inc ?_)
        refine hR (?_ : R (_, _, _, _, _, _))
        exact ih6 _ _ _ _ (by rfl) fr14 hC15 hC16 hC17 hC18 hC19 hC20 hC12 (by omega) (by omega) (by have hfs := fd_s (how := a3) hp0_6 (by omega) (ch_y (hM_t (by omega) (by omega) (by omega)) hv.1 (by omega)); rw [← hfs]; unfold fdS; (repeat' split) <;> omega) (by omega) (by omega) (by omega)
      iterate 2 refine hR (?_ : R (_, _, _, _, _, _))
      refine hR (j_ne (by omega) (by omega) (fun hc24 => ?_) (fun hc24 => ?_))
      rotate_left
      · skip
        iterate 2 refine hR (?_ : R (_, _, _, _, _, _))
        refine hR (c_get hC15 rfl ?_)
        refine hR (?_ : R (_, _, _, _, _, _))
        refine hR (c_aldE hC17 (by omega) (by omega) (Nat.le_of_ble_eq_true rfl) fun v30 ev30 rv30 => ?_)
        replace ev30 : v30 = tBy g5 (tBy g6 v9) := ev30
        subst ev30
        refine hR (t_add ?_)
        iterate 2 refine hR (?_ : R (_, _, _, _, _, _))
        refine hR (t_inc ?_)
        refine hR (?_ : R (_, _, _, _, _, _))
        exact ih6 _ _ _ _ (by rfl) fr14 hC15 hC16 hC17 hC18 hC19 hC20 hC12 (by omega) (by omega) (by have hfs := fd_s (how := a3) hp0_6 (by omega) (ch_y (hM_t (by omega) (by omega) (by omega)) hv.1 (by omega)); rw [← hfs]; unfold fdS; (repeat' split) <;> omega) (by omega) (by omega) (by omega)
      refine hR (?_ : R (_, _, _, _, _, _))
      refine hR (k_ne (by omega) (fun hc25 => ?_) (fun hc25 => ?_))
      · skip
        iterate 2 refine hR (?_ : R (_, _, _, _, _, _))
        refine hR (c_get hC15 rfl ?_)
        refine hR (?_ : R (_, _, _, _, _, _))
        refine hR (c_aldE hC17 (by omega) (by omega) (Nat.le_of_ble_eq_true rfl) fun v26 ev26 rv26 => ?_)
        replace ev26 : v26 = tBy g5 (tBy g6 v9) := ev26
        subst ev26
        obtain ⟨v27, lv27, qv27⟩ := zmax_r (a := found) (b := tBy g5 (tBy g6 v9)) (by omega) (by omega)
        refine hR (t_c v27 qv27 ?_)
        refine hR (?_ : R (_, _, _, _, _, _))
        refine hR (t_inc ?_)
        refine hR (?_ : R (_, _, _, _, _, _))
        exact ih6 _ _ _ _ (by rfl) fr14 hC15 hC16 hC17 hC18 hC19 hC20 hC12 (by omega) (by omega) (by have hfs := fd_s (how := a3) hp0_6 (by omega) (ch_y (hM_t (by omega) (by omega) (by omega)) hv.1 (by omega)); rw [← hfs]; unfold fdS; (repeat' split) <;> omega) (by omega) (by omega) (by omega)
      iterate 2 refine hR (?_ : R (_, _, _, _, _, _))
      refine hR (c_get hC15 rfl ?_)
      refine hR (?_ : R (_, _, _, _, _, _))
      refine hR (c_aldE hC17 (by omega) (by omega) (Nat.le_of_ble_eq_true rfl) fun v28 ev28 rv28 => ?_)
      replace ev28 : v28 = tBy g5 (tBy g6 v9) := ev28
      subst ev28
      obtain ⟨v29, lv29, qv29⟩ := zmin_r (a := found) (b := tBy g5 (tBy g6 v9)) (by omega) (by omega)
      refine hR (t_c v29 qv29 ?_)
      iterate 2 refine hR (?_ : R (_, _, _, _, _, _))
      refine hR (t_inc ?_)
      refine hR (?_ : R (_, _, _, _, _, _))
      exact ih6 _ _ _ _ (by rfl) fr14 hC15 hC16 hC17 hC18 hC19 hC20 hC12 (by omega) (by omega) (by have hfs := fd_s (how := a3) hp0_6 (by omega) (ch_y (hM_t (by omega) (by omega) (by omega)) hv.1 (by omega)); rw [← hfs]; unfold fdS; (repeat' split) <;> omega) (by omega) (by omega) (by omega)
  exact lp6 400000000 _ _ _ _ (by rfl) fr0 hK0 hK1 hK2 hK3 hK4 hK5 hK6 (by omega) (by omega) rfl (by omega) (by omega) (by omega)
theorem x_endByOneI (w : zW) (d : Nat) (q p : Nat) (y1 y2 y3 : Int) (gS g5 : Nat → Int32) (hK0 : zix w q = some (.inr (2, [.ref p, .int (Int32.ofInt y1), .int (Int32.ofInt y2), .int (Int32.ofInt y3), .ref (q + 1), .ref (q + 2), .ref (q + 3), .ref (q + 4), .ref (q + 5), .ref (q + 6)]))) (hK1 : zix w (q + 1) = some (.inl (1, 11, .inl gS))) (hK2 : zix w (q + 5) = some (.inl (1, 25750, .inl g5))) (hr0 : 0 ≤ y1 ∧ y1 ≤ 9) (hr1 : (0 ≤ tBy gS y1 ∧ tBy gS y1 ≤ tBy gS (y1 + 1)) ∧ tBy gS (y1 + 1) ≤ 25750) (Q : zQ) (h : ∀ (T5 : Nat → Int32) (w' : zW), wfM (fun j => j ≠ q + 5) w w' → zix w' (q + 5) = some (.inl (1, 25750, .inl T5)) → (∀ i : Int, tBy gS y1 ≤ i → i < tBy gS (y1 + 1) → tBy T5 i = 1) → Q (none) w') : zCl zTab (d + 1) iX2_endByOne [.ref q] w 0 0 Q := by
  refine zCl_i (M := kX2_endByOne) rfl (Nat.le_of_ble_eq_true rfl) fun R hR => ?_
  have fr0 : wfM (fun j => j ≠ q + 5) w w := wfM_rf _ w
  have nX0 : FX (∀ j : Nat, (j ≠ q + 5) → j ≠ q + 5) := fun j hj => by omega
  have nX1 : FX (q ≠ q + 5) := (show q ≠ q + 5 by omega)
  have nX2 : FX ((q + 1) ≠ q + 5) := (show (q + 1) ≠ q + 5 by omega)
  refine hR (?_ : R (_, _, _, _, _, _))
  refine hR (c_get hK0 rfl ?_)
  refine hR (?_ : R (_, _, _, _, _, _))
  refine hR (c_get hK0 rfl ?_)
  refine hR (c_aldE hK1 (by omega) (by omega) (Nat.le_of_ble_eq_true rfl) fun v1 ev1 rv1 => ?_)
  replace ev1 : v1 = tBy gS y1 := ev1
  subst ev1
  refine hR (?_ : R (_, _, _, _, _, _))
  have lp10 : ∀ (N : Nat) (ii : Int) (T : Nat → Int32) (w_10 : zW), (wfM (fun j => j ≠ q + 5) w w_10) → (zix w_10 q = some (.inr (2, [.ref p, .int (Int32.ofInt y1), .int (Int32.ofInt y2), .int (Int32.ofInt y3), .ref (q + 1), .ref (q + 2), .ref (q + 3), .ref (q + 4), .ref (q + 5), .ref (q + 6)]))) → (zix w_10 (q + 1) = some (.inl (1, 11, .inl gS))) → (zix w_10 (q + 5) = some (.inl (1, 25750, .inl T))) → (0 ≤ ii ∧ ii ≤ 25750) → (∀ i : Int, tBy gS y1 ≤ i → i < ii → tBy T i = 1) → (tBy gS y1 ≤ ii) → (25751 - ii < N) → R (10, [some (.ref q), some (.int (Int32.ofInt ii))], [], w_10, 0, 0) := by
    intro N
    induction N with
    | zero => intros; omega
    | succ N ih10 =>
      intro ii T w_10 fr_10 hCq_10 hCq1_10 hCq5_10 hf0_10 hp0_10 hp1_10 hN10
      iterate 2 refine hR (?_ : R (_, _, _, _, _, _))
      refine hR (c_get hCq_10 rfl ?_)
      refine hR (?_ : R (_, _, _, _, _, _))
      refine hR (c_get hCq_10 rfl ?_)
      refine hR (?_ : R (_, _, _, _, _, _))
      refine hR (t_add ?_)
      refine hR (c_aldE hCq1_10 (by omega) (by omega) (Nat.le_of_ble_eq_true rfl) fun v2 ev2 rv2 => ?_)
      replace ev2 : v2 = tBy gS (y1 + 1) := ev2
      subst ev2
      refine hR (j_ge (by omega) (by omega) (fun hc3 => ?_) (fun hc3 => ?_))
      · skip
        exact hR (zret_i rfl (Nat.le_refl _) rfl (h _ _ fr_10 hCq5_10 (fun i i0 i1 => hp0_10 i i0 (by omega))))
      refine hR (?_ : R (_, _, _, _, _, _))
      refine hR (c_get hCq_10 rfl ?_)
      iterate 2 refine hR (?_ : R (_, _, _, _, _, _))
      refine hR (x_ast hCq5_10 (by omega) (by omega) (Nat.le_of_ble_eq_true rfl) fun w4 ff4 hC4 => ?_)
      have fr5 := wfM_st fr_10 ff4 nX0
      have hC6 := (ff4.2 q nX1).trans hCq_10
      have hC7 := (ff4.2 (q + 1) nX2).trans hCq1_10
      refine hR (t_inc ?_)
      refine hR (?_ : R (_, _, _, _, _, _))
      exact ih10 _ _ _ fr5 hC6 hC7 hC4 (by omega) (fun i i0 i1 => by rw [zupI (by exact ⟨by omega, by omega⟩) (by omega) (by omega)]; by_cases c : i = ii; (· rw [if_pos c]); rw [if_neg c]; exact hp0_10 i i0 (by omega)) (by omega) (by omega)
  exact lp10 400000000 _ _ _ fr0 hK0 hK1 hK2 (by omega) (fun i i0 i1 => by omega) (by omega) (by omega)
theorem x_foldBackI (w : zW) (d : Nat) (q p b z2 z3 : Nat) (a1 a2 : Int) (x0 nn x2 : Int) (F : Int → Int → Int) (y1 y2 y3 : Int) (gS gW g3 g4 g5 g6 : Nat → Int32) (D : Int → Int) (C : Int) (hK0 : zix w q = some (.inr (2, [.ref p, .int (Int32.ofInt y1), .int (Int32.ofInt y2), .int (Int32.ofInt y3), .ref (q + 1), .ref (q + 2), .ref (q + 3), .ref (q + 4), .ref (q + 5), .ref (q + 6)]))) (hK1 : zix w (q + 1) = some (.inl (1, 11, .inl gS))) (hK2 : zix w (q + 3) = some (.inl (1, 25750, .inl g3))) (hK3 : zix w (q + 5) = some (.inl (1, 25750, .inl g5))) (hK4 : zix w (q + 6) = some (.inl (1, 5461, .inl g6))) (hK5 : zix w p = some (.inr (3, [.ref b, .ref (p + 1), .ref z2, .ref z3]))) (hK6 : zix w b = some (.inr (0, [.int (Int32.ofInt x0), .int (Int32.ofInt nn), .int (Int32.ofInt x2), .ref (b + 1), .ref (b + 2), .ref (b + 3), .ref (b + 4)]))) (hK7 : AFK w p b F) (hr0 : 0 ≤ y1 ∧ y1 ≤ 9) (hr1 : ((b + 4 < p ∨ p + 1 < b) ∧ (z2 ≠ p ∧ z2 ≠ p + 1 ∧ z3 ≠ p ∧ z3 ≠ p + 1 ∧ z2 ≠ z3)) ∧ ((z2 < b ∨ b + 4 < z2) ∧ (z3 < b ∨ b + 4 < z3))) (hr2 : (q + 6 < p ∨ p + 1 < q) ∧ (q + 6 < b ∨ b + 4 < q) ∧ (b + 4 < p ∨ p + 1 < b)) (hr3 : 0 ≤ y2 ∧ y2 ≤ 31 ∧ 0 ≤ y3 ∧ y3 ≤ 31) (hr4 : 0 ≤ nn ∧ nn ≤ 5) (hr5 : FOK F nn) (hr6 : a2 = a1 ∧ 0 ≤ a1 ∧ a1 ≤ 2) (hr7 : SPQ F (fun L t => okW gW L t) (fun L => hM (if L % 2 = 0 then y2 else y3)) nn x0 y1.toNat gS g3 g4 g6) (hr8 : (0 ≤ C ∧ C ≤ 12) ∧ ∀ t : Int, 0 ≤ t → t ≤ 5460 → 0 ≤ D t ∧ D t ≤ C) (hr9 : FBQ (vlF a1 F (fun L t => okW gW L t) (fun L => hM (if L % 2 = 0 then y2 else y3)) nn D y1) y1 gS g3 g5 y1) (Q : zQ) (h : ∀ (T5 T6 : Nat → Int32) (w' : zW), wfM (fun j => j ≠ q + 5 ∧ j ≠ q + 6 ∧ j ≠ p + 1) w w' → zix w' (q + 5) = some (.inl (1, 25750, .inl T5)) → zix w' (q + 6) = some (.inl (1, 5461, .inl T6)) → AFK w' p b F → (FBQ (vlF a1 F (fun L t => okW gW L t) (fun L => hM (if L % 2 = 0 then y2 else y3)) nn D y1) y1 gS g3 T5 0) → (∀ t : Int, 0 ≤ t → t ≤ 5460 → tBy T6 t = -1) → Q (none) w') : zCl zTab (d + 6) iX2_foldBack [.ref q, .int (Int32.ofInt a1), .int (Int32.ofInt a2)] w 0 0 Q := by
  refine zCl_i (M := kX2_foldBack) rfl (Nat.le_of_ble_eq_true rfl) fun R hR => ?_
  have fr0 : wfM (fun j => j ≠ q + 5 ∧ j ≠ q + 6 ∧ j ≠ p + 1) w w := wfM_rf _ w
  have nX0 : FX (∀ j : Nat, (j ≠ q + 5 ∧ j ≠ q + 6 ∧ j ≠ p + 1) → (j ≠ q + 6)) := fun j hj => by omega
  have nX1 : FX (q ≠ q + 6) := (show q ≠ q + 6 by omega)
  have nX2 : FX ((q + 1) ≠ q + 6) := (show (q + 1) ≠ q + 6 by omega)
  have nX3 : FX ((q + 3) ≠ q + 6) := (show (q + 3) ≠ q + 6 by omega)
  have nX4 : FX ((q + 5) ≠ q + 6) := (show (q + 5) ≠ q + 6 by omega)
  have nX5 : FX (p ≠ q + 6) := (show p ≠ q + 6 by omega)
  have nX6 : FX (b ≠ q + 6) := (show b ≠ q + 6 by omega)
  have nX7 : FX (∀ j : Nat, (j = p + 1 ∨ (b ≤ j ∧ j ≤ b + 4)) → (j ≠ q + 6)) := fun j hj => by omega
  have nX8 : FX (∀ j : Nat, (j ≠ q + 5 ∧ j ≠ q + 6 ∧ j ≠ p + 1) → (j ≠ p + 1)) := fun j hj => by omega
  have nX9 : FX (q ≠ p + 1) := (show q ≠ p + 1 by omega)
  have nX10 : FX ((q + 1) ≠ p + 1) := (show (q + 1) ≠ p + 1 by omega)
  have nX11 : FX ((q + 3) ≠ p + 1) := (show (q + 3) ≠ p + 1 by omega)
  have nX12 : FX ((q + 5) ≠ p + 1) := (show (q + 5) ≠ p + 1 by omega)
  have nX13 : FX ((q + 6) ≠ p + 1) := (show (q + 6) ≠ p + 1 by omega)
  have nX14 : FX (p ≠ p + 1) := (show p ≠ p + 1 by omega)
  have nX15 : FX (b ≠ p + 1) := (show b ≠ p + 1 by omega)
  have nX16 : FX (∀ j : Nat, (j ≠ q + 5 ∧ j ≠ q + 6 ∧ j ≠ p + 1) → j ≠ q + 5) := fun j hj => by omega
  have nX17 : FX (q ≠ q + 5) := (show q ≠ q + 5 by omega)
  have nX18 : FX ((q + 1) ≠ q + 5) := (show (q + 1) ≠ q + 5 by omega)
  have nX19 : FX ((q + 3) ≠ q + 5) := (show (q + 3) ≠ q + 5 by omega)
  have nX20 : FX ((q + 6) ≠ q + 5) := (show (q + 6) ≠ q + 5 by omega)
  have nX21 : FX (p ≠ q + 5) := (show p ≠ q + 5 by omega)
  have nX22 : FX (b ≠ q + 5) := (show b ≠ q + 5 by omega)
  have nX23 : FX (∀ j : Nat, (j = p + 1 ∨ (b ≤ j ∧ j ≤ b + 4)) → (j ≠ q + 5)) := fun j hj => by omega
  refine hR (?_ : R (_, _, _, _, _, _))
  refine hR (c_get hK0 rfl ?_)
  refine hR (?_ : R (_, _, _, _, _, _))
  refine hR (t_sub ?_)
  refine hR (?_ : R (_, _, _, _, _, _))
  have lp7 : ∀ (N : Nat) (lv : Int) (o4_7 : Option Value) (o5_7 : Option Value) (U5 U6 : Nat → Int32) (w_7 : zW), (zc2 o4_7 = false) → (zc2 o5_7 = false) → (wfM (fun j => j ≠ q + 5 ∧ j ≠ q + 6 ∧ j ≠ p + 1) w w_7) → (zix w_7 q = some (.inr (2, [.ref p, .int (Int32.ofInt y1), .int (Int32.ofInt y2), .int (Int32.ofInt y3), .ref (q + 1), .ref (q + 2), .ref (q + 3), .ref (q + 4), .ref (q + 5), .ref (q + 6)]))) → (zix w_7 (q + 1) = some (.inl (1, 11, .inl gS))) → (zix w_7 (q + 3) = some (.inl (1, 25750, .inl g3))) → (zix w_7 (q + 5) = some (.inl (1, 25750, .inl U5))) → (zix w_7 (q + 6) = some (.inl (1, 5461, .inl U6))) → (zix w_7 p = some (.inr (3, [.ref b, .ref (p + 1), .ref z2, .ref z3]))) → (zix w_7 b = some (.inr (0, [.int (Int32.ofInt x0), .int (Int32.ofInt nn), .int (Int32.ofInt x2), .ref (b + 1), .ref (b + 2), .ref (b + 3), .ref (b + 4)]))) → (AFK w_7 p b F) → (-1 ≤ lv ∧ lv ≤ 8) → (FBQ (vlF a1 F (fun L t => okW gW L t) (fun L => hM (if L % 2 = 0 then y2 else y3)) nn D y1) y1 gS g3 U5 (lv + 1)) → (∀ t : Int, 0 ≤ t → t ≤ 5460 → tBy U6 t = -1) → (lv < y1) → (lv + 2 < N) → R (7, [some (.ref q), some (.int (Int32.ofInt a1)), some (.int (Int32.ofInt a2)), some (.int (Int32.ofInt lv)), o4_7, o5_7], [], w_7, 0, 0) := by
    intro N
    induction N with
    | zero => intros; omega
    | succ N ih7 =>
      intro lv o4_7 o5_7 U5 U6 w_7 hzo4_7 hzo5_7 fr_7 hCq_7 hCq1_7 hCq3_7 hCq5_7 hCq6_7 hCp_7 hCb_7 hCAF_7 hf0_7 hp0_7 hp1_7 hp2_7 hN7
      refine hR (?_ : R (_, _, _, _, _, _))
      refine hR (k_lt (by omega) (fun hc1 => ?_) (fun hc1 => ?_))
      · skip
        exact hR (zret_i rfl (Nat.le_refl _) rfl (h _ _ _ fr_7 hCq5_7 hCq6_7 hCAF_7 (fbq_c hp0_7 (by omega)) hp1_7))
      iterate 2 refine hR (?_ : R (_, _, _, _, _, _))
      refine hR (t_rem (by omega) (by omega) (by omega) (by omega) ?_)
      refine hR (k_ne (by omega) (fun hc2 => ?_) (fun hc2 => ?_))
      rotate_left
      · skip
        iterate 3 refine hR (?_ : R (_, _, _, _, _, _))
        have hsr := spq_r (lv := lv + 1) hr7 (by omega) (by omega) (by omega)
        iterate 3 refine hR (?_ : R (_, _, _, _, _, _))
        refine hR (t_add ?_)
        refine hR (c_obj hCq_7 (zcall_i 0 0 (Nat.le_of_ble_eq_true rfl) (Nat.le_of_ble_eq_true rfl) (x_recallI _ _ _ _ _ _ _ _ _ _ _ hCq_7 hCq1_7 hCq3_7 hCq6_7 (by omega) hsr (fun j j0 j1 => (spq_x hr7 (by omega) (by omega) j0 j1).1) (spq_l hr7 (lv := lv + 1) (by omega) (by omega)).2.2.2.1.2.2.1 hp1_7 _ fun T6_54 w55 gg56 hC57 hp58 => ?_)))
        have fr59 := wfM_tr fr_7 gg56 nX0
        have hC60 := (gg56.2 q nX1).trans hCq_7
        have hC61 := (gg56.2 (q + 1) nX2).trans hCq1_7
        have hC62 := (gg56.2 (q + 3) nX3).trans hCq3_7
        have hC63 := (gg56.2 (q + 5) nX4).trans hCq5_7
        have hC64 := (gg56.2 p nX5).trans hCp_7
        have hC65 := (gg56.2 b nX6).trans hCb_7
        have hC66 := AFK_fr hCAF_7 (fun j hj => gg56.2 j (nX7 j hj))
        refine (?_ : R (_, _, [], w55, 0, 0))
        refine hR (?_ : R (_, _, _, _, _, _))
        refine hR (c_get hC60 rfl ?_)
        refine hR (?_ : R (_, _, _, _, _, _))
        refine hR (c_aldE hC61 (by omega) (by omega) (Nat.le_of_ble_eq_true rfl) fun v67 ev67 rv67 => ?_)
        replace ev67 : v67 = tBy gS lv := ev67
        subst ev67
        have hs0 := spq_r (lv := lv) hr7 (by omega) (by omega) (by omega)
        refine hR (?_ : R (_, _, _, _, _, _))
        have lp39 : ∀ (N : Nat) (ii : Int) (T : Nat → Int32) (w_39 : zW), (wfM (fun j => j ≠ q + 5 ∧ j ≠ q + 6 ∧ j ≠ p + 1) w w_39) → (zix w_39 q = some (.inr (2, [.ref p, .int (Int32.ofInt y1), .int (Int32.ofInt y2), .int (Int32.ofInt y3), .ref (q + 1), .ref (q + 2), .ref (q + 3), .ref (q + 4), .ref (q + 5), .ref (q + 6)]))) → (zix w_39 (q + 1) = some (.inl (1, 11, .inl gS))) → (zix w_39 (q + 3) = some (.inl (1, 25750, .inl g3))) → (zix w_39 (q + 5) = some (.inl (1, 25750, .inl T))) → (zix w_39 (q + 6) = some (.inl (1, 5461, .inl T6_54))) → (zix w_39 p = some (.inr (3, [.ref b, .ref (p + 1), .ref z2, .ref z3]))) → (zix w_39 b = some (.inr (0, [.int (Int32.ofInt x0), .int (Int32.ofInt nn), .int (Int32.ofInt x2), .ref (b + 1), .ref (b + 2), .ref (b + 3), .ref (b + 4)]))) → (AFK w_39 p b F) → (0 ≤ ii ∧ ii ≤ 25750) → (FBQ (vlF a1 F (fun L t => okW gW L t) (fun L => hM (if L % 2 = 0 then y2 else y3)) nn D y1) y1 gS g3 T (lv + 1)) → (∀ j : Int, tBy gS lv ≤ j → j < ii → tBy T j = (vlF a1 F (fun L t => okW gW L t) (fun L => hM (if L % 2 = 0 then y2 else y3)) nn D y1) (y1 - lv).toNat (tBy g3 j)) → (tBy gS lv ≤ ii) → (25751 - ii < N) → R (39, [some (.ref q), some (.int (Int32.ofInt a1)), some (.int (Int32.ofInt a2)), some (.int (Int32.ofInt lv)), some (.int (Int32.ofInt a1)), some (.int (Int32.ofInt ii))], [], w_39, 0, 0) := by
          intro N
          induction N with
          | zero => intros; omega
          | succ N ih39 =>
            intro ii T w_39 fr_39 hCq_39 hCq1_39 hCq3_39 hCq5_39 hCq6_39 hCp_39 hCb_39 hCAF_39 hf0_39 hp0_39 hp1_39 hp2_39 hN39
            iterate 2 refine hR (?_ : R (_, _, _, _, _, _))
            refine hR (c_get hCq_39 rfl ?_)
            iterate 2 refine hR (?_ : R (_, _, _, _, _, _))
            refine hR (t_add ?_)
            refine hR (c_aldE hCq1_39 (by omega) (by omega) (Nat.le_of_ble_eq_true rfl) fun v68 ev68 rv68 => ?_)
            replace ev68 : v68 = tBy gS (lv + 1) := ev68
            subst ev68
            refine hR (j_ge (by omega) (by omega) (fun hc69 => ?_) (fun hc69 => ?_))
            · skip
              iterate 3 refine hR (?_ : R (_, _, _, _, _, _))
              refine hR (t_add ?_)
              refine hR (c_obj hCq_39 (zcall_i 0 0 (Nat.le_of_ble_eq_true rfl) (Nat.le_of_ble_eq_true rfl) (x_forgetI _ _ _ _ _ _ _ _ _ _ _ hCq_39 hCq1_39 hCq3_39 hCq6_39 (by omega) hsr (fun j j0 j1 => (spq_x hr7 (by omega) (by omega) j0 j1).1) (nd_fg hp58) _ fun T6_70 w71 gg72 hC73 hp74 => ?_)))
              have fr75 := wfM_tr fr_39 gg72 nX0
              have hC76 := (gg72.2 q nX1).trans hCq_39
              have hC77 := (gg72.2 (q + 1) nX2).trans hCq1_39
              have hC78 := (gg72.2 (q + 3) nX3).trans hCq3_39
              have hC79 := (gg72.2 (q + 5) nX4).trans hCq5_39
              have hC80 := (gg72.2 p nX5).trans hCp_39
              have hC81 := (gg72.2 b nX6).trans hCb_39
              have hC82 := AFK_fr hCAF_39 (fun j hj => gg72.2 j (nX7 j hj))
              refine (?_ : R (_, _, [], w71, 0, 0))
              refine hR (t_inc ?_)
              refine hR (?_ : R (_, _, _, _, _, _))
              exact ih7 _ _ _ _ _ _ (by rfl) (by rfl) fr75 hC76 hC77 hC78 hC79 hC73 hC80 hC81 hC82 (by omega) (fbq_c (fbq_d hp0_39 hp1_39 (by omega)) (by omega)) hp74 (by omega) (by omega)
            have hx := spq_x hr7 (lv := lv) (i := ii) (by omega) (by omega) (by omega) (by omega)
            refine hR (?_ : R (_, _, _, _, _, _))
            refine hR (c_get hCq_39 rfl ?_)
            iterate 5 refine hR (?_ : R (_, _, _, _, _, _))
            refine hR (c_obj hCq_39 (zcall_i 0 0 (Nat.le_of_ble_eq_true rfl) (Nat.le_of_ble_eq_true rfl) (x_foldedI _ _ _ _ _ _ _ _ _ _ _ _ _ _ _ _ _ _ _ _ hCq_39 hCq3_39 hCq5_39 hCq6_39 hCp_39 hCb_39 hCAF_39 (by omega) hr1 hr2 (by omega) ⟨⟨by omega, by omega⟩, hx.1⟩ (fb_rg hr7 hr5 hr4 (by omega) hr8.1 hr8.2 ⟨by omega, by omega⟩ hp58 hp0_39) (by omega) (by omega) _ fun v83 w84 gg85 hC86 hp87 => ?_)))
            have fr88 := wfM_tr fr_39 gg85 nX8
            have hC89 := (gg85.2 q nX9).trans hCq_39
            have hC90 := (gg85.2 (q + 1) nX10).trans hCq1_39
            have hC91 := (gg85.2 (q + 3) nX11).trans hCq3_39
            have hC92 := (gg85.2 (q + 5) nX12).trans hCq5_39
            have hC93 := (gg85.2 (q + 6) nX13).trans hCq6_39
            have hC94 := (gg85.2 p nX14).trans hCp_39
            have hC95 := (gg85.2 b nX15).trans hCb_39
            refine (?_ : R (_, _, .int (Int32.ofInt v83) :: .int (Int32.ofInt ii) :: .ref (q + 5) :: [], w84, 0, 0))
            have hfv := hp87.trans (fb_v (M := (fun L => hM (if L % 2 = 0 then y2 else y3))) (lv := lv) hr7 hr5 hr4.1 ⟨by omega, by omega⟩ hp58 hp0_39 (by omega) (by omega))
            have hvr : 0 ≤ v83 ∧ v83 ≤ 23437500 := by rw [hfv]; exact vl_r hr5 hr4 (by omega) hr8.1 hr8.2 (by omega) hx.1.1 hx.1.2
            refine hR (x_ast hC92 (by omega) (by omega) (Nat.le_of_ble_eq_true rfl) fun w96 ff96 hC96 => ?_)
            have fr97 := wfM_st fr88 ff96 nX16
            have hC98 := (ff96.2 q nX17).trans hC89
            have hC99 := (ff96.2 (q + 1) nX18).trans hC90
            have hC100 := (ff96.2 (q + 3) nX19).trans hC91
            have hC101 := (ff96.2 (q + 6) nX20).trans hC93
            have hC102 := (ff96.2 p nX21).trans hC94
            have hC103 := (ff96.2 b nX22).trans hC95
            have hC104 := AFK_fr hC86 (fun j hj => ff96.2 j (nX23 j hj))
            refine hR (t_inc ?_)
            refine hR (?_ : R (_, _, _, _, _, _))
            exact ih39 _ _ _ fr97 hC98 hC99 hC100 hC96 hC101 hC102 hC103 hC104 (by omega) (fbq_st hr7 hp0_39 (by omega) (by omega) (by omega) (by exact ⟨by omega, by omega⟩)) (fbn_st hp1_39 (by omega) (by omega) (by exact ⟨by omega, by omega⟩) hfv) (by omega) (by omega)
        exact lp39 400000000 _ _ _ fr59 hC60 hC61 hC62 hC63 hC57 hC64 hC65 hC66 (by omega) hp0_7 (fun j j0 j1 => by omega) (by omega) (by omega)
      iterate 2 refine hR (?_ : R (_, _, _, _, _, _))
      have hsr := spq_r (lv := lv + 1) hr7 (by omega) (by omega) (by omega)
      iterate 3 refine hR (?_ : R (_, _, _, _, _, _))
      refine hR (t_add ?_)
      refine hR (c_obj hCq_7 (zcall_i 0 0 (Nat.le_of_ble_eq_true rfl) (Nat.le_of_ble_eq_true rfl) (x_recallI _ _ _ _ _ _ _ _ _ _ _ hCq_7 hCq1_7 hCq3_7 hCq6_7 (by omega) hsr (fun j j0 j1 => (spq_x hr7 (by omega) (by omega) j0 j1).1) (spq_l hr7 (lv := lv + 1) (by omega) (by omega)).2.2.2.1.2.2.1 hp1_7 _ fun T6_3 w4 gg5 hC6 hp7 => ?_)))
      have fr8 := wfM_tr fr_7 gg5 nX0
      have hC9 := (gg5.2 q nX1).trans hCq_7
      have hC10 := (gg5.2 (q + 1) nX2).trans hCq1_7
      have hC11 := (gg5.2 (q + 3) nX3).trans hCq3_7
      have hC12 := (gg5.2 (q + 5) nX4).trans hCq5_7
      have hC13 := (gg5.2 p nX5).trans hCp_7
      have hC14 := (gg5.2 b nX6).trans hCb_7
      have hC15 := AFK_fr hCAF_7 (fun j hj => gg5.2 j (nX7 j hj))
      refine (?_ : R (_, _, [], w4, 0, 0))
      refine hR (?_ : R (_, _, _, _, _, _))
      refine hR (c_get hC9 rfl ?_)
      refine hR (?_ : R (_, _, _, _, _, _))
      refine hR (c_aldE hC10 (by omega) (by omega) (Nat.le_of_ble_eq_true rfl) fun v16 ev16 rv16 => ?_)
      replace ev16 : v16 = tBy gS lv := ev16
      subst ev16
      have hs0 := spq_r (lv := lv) hr7 (by omega) (by omega) (by omega)
      refine hR (?_ : R (_, _, _, _, _, _))
      have lp39 : ∀ (N : Nat) (ii : Int) (T : Nat → Int32) (w_39 : zW), (wfM (fun j => j ≠ q + 5 ∧ j ≠ q + 6 ∧ j ≠ p + 1) w w_39) → (zix w_39 q = some (.inr (2, [.ref p, .int (Int32.ofInt y1), .int (Int32.ofInt y2), .int (Int32.ofInt y3), .ref (q + 1), .ref (q + 2), .ref (q + 3), .ref (q + 4), .ref (q + 5), .ref (q + 6)]))) → (zix w_39 (q + 1) = some (.inl (1, 11, .inl gS))) → (zix w_39 (q + 3) = some (.inl (1, 25750, .inl g3))) → (zix w_39 (q + 5) = some (.inl (1, 25750, .inl T))) → (zix w_39 (q + 6) = some (.inl (1, 5461, .inl T6_3))) → (zix w_39 p = some (.inr (3, [.ref b, .ref (p + 1), .ref z2, .ref z3]))) → (zix w_39 b = some (.inr (0, [.int (Int32.ofInt x0), .int (Int32.ofInt nn), .int (Int32.ofInt x2), .ref (b + 1), .ref (b + 2), .ref (b + 3), .ref (b + 4)]))) → (AFK w_39 p b F) → (0 ≤ ii ∧ ii ≤ 25750) → (FBQ (vlF a1 F (fun L t => okW gW L t) (fun L => hM (if L % 2 = 0 then y2 else y3)) nn D y1) y1 gS g3 T (lv + 1)) → (∀ j : Int, tBy gS lv ≤ j → j < ii → tBy T j = (vlF a1 F (fun L t => okW gW L t) (fun L => hM (if L % 2 = 0 then y2 else y3)) nn D y1) (y1 - lv).toNat (tBy g3 j)) → (tBy gS lv ≤ ii) → (25751 - ii < N) → R (39, [some (.ref q), some (.int (Int32.ofInt a1)), some (.int (Int32.ofInt a2)), some (.int (Int32.ofInt lv)), some (.int (Int32.ofInt a2)), some (.int (Int32.ofInt ii))], [], w_39, 0, 0) := by
        intro N
        induction N with
        | zero => intros; omega
        | succ N ih39 =>
          intro ii T w_39 fr_39 hCq_39 hCq1_39 hCq3_39 hCq5_39 hCq6_39 hCp_39 hCb_39 hCAF_39 hf0_39 hp0_39 hp1_39 hp2_39 hN39
          iterate 2 refine hR (?_ : R (_, _, _, _, _, _))
          refine hR (c_get hCq_39 rfl ?_)
          iterate 2 refine hR (?_ : R (_, _, _, _, _, _))
          refine hR (t_add ?_)
          refine hR (c_aldE hCq1_39 (by omega) (by omega) (Nat.le_of_ble_eq_true rfl) fun v17 ev17 rv17 => ?_)
          replace ev17 : v17 = tBy gS (lv + 1) := ev17
          subst ev17
          refine hR (j_ge (by omega) (by omega) (fun hc18 => ?_) (fun hc18 => ?_))
          · skip
            iterate 3 refine hR (?_ : R (_, _, _, _, _, _))
            refine hR (t_add ?_)
            refine hR (c_obj hCq_39 (zcall_i 0 0 (Nat.le_of_ble_eq_true rfl) (Nat.le_of_ble_eq_true rfl) (x_forgetI _ _ _ _ _ _ _ _ _ _ _ hCq_39 hCq1_39 hCq3_39 hCq6_39 (by omega) hsr (fun j j0 j1 => (spq_x hr7 (by omega) (by omega) j0 j1).1) (nd_fg hp7) _ fun T6_19 w20 gg21 hC22 hp23 => ?_)))
            have fr24 := wfM_tr fr_39 gg21 nX0
            have hC25 := (gg21.2 q nX1).trans hCq_39
            have hC26 := (gg21.2 (q + 1) nX2).trans hCq1_39
            have hC27 := (gg21.2 (q + 3) nX3).trans hCq3_39
            have hC28 := (gg21.2 (q + 5) nX4).trans hCq5_39
            have hC29 := (gg21.2 p nX5).trans hCp_39
            have hC30 := (gg21.2 b nX6).trans hCb_39
            have hC31 := AFK_fr hCAF_39 (fun j hj => gg21.2 j (nX7 j hj))
            refine (?_ : R (_, _, [], w20, 0, 0))
            refine hR (t_inc ?_)
            refine hR (?_ : R (_, _, _, _, _, _))
            exact ih7 _ _ _ _ _ _ (by rfl) (by rfl) fr24 hC25 hC26 hC27 hC28 hC22 hC29 hC30 hC31 (by omega) (fbq_c (fbq_d hp0_39 hp1_39 (by omega)) (by omega)) hp23 (by omega) (by omega)
          have hx := spq_x hr7 (lv := lv) (i := ii) (by omega) (by omega) (by omega) (by omega)
          refine hR (?_ : R (_, _, _, _, _, _))
          refine hR (c_get hCq_39 rfl ?_)
          iterate 5 refine hR (?_ : R (_, _, _, _, _, _))
          refine hR (c_obj hCq_39 (zcall_i 0 0 (Nat.le_of_ble_eq_true rfl) (Nat.le_of_ble_eq_true rfl) (x_foldedI _ _ _ _ _ _ _ _ _ _ _ _ _ _ _ _ _ _ _ _ hCq_39 hCq3_39 hCq5_39 hCq6_39 hCp_39 hCb_39 hCAF_39 (by omega) hr1 hr2 (by omega) ⟨⟨by omega, by omega⟩, hx.1⟩ (fb_rg hr7 hr5 hr4 (by omega) hr8.1 hr8.2 ⟨by omega, by omega⟩ hp7 hp0_39) (by omega) (by omega) _ fun v32 w33 gg34 hC35 hp36 => ?_)))
          have fr37 := wfM_tr fr_39 gg34 nX8
          have hC38 := (gg34.2 q nX9).trans hCq_39
          have hC39 := (gg34.2 (q + 1) nX10).trans hCq1_39
          have hC40 := (gg34.2 (q + 3) nX11).trans hCq3_39
          have hC41 := (gg34.2 (q + 5) nX12).trans hCq5_39
          have hC42 := (gg34.2 (q + 6) nX13).trans hCq6_39
          have hC43 := (gg34.2 p nX14).trans hCp_39
          have hC44 := (gg34.2 b nX15).trans hCb_39
          refine (?_ : R (_, _, .int (Int32.ofInt v32) :: .int (Int32.ofInt ii) :: .ref (q + 5) :: [], w33, 0, 0))
          rw [hr6.1] at hp36
          have hfv := hp36.trans (fb_v (M := (fun L => hM (if L % 2 = 0 then y2 else y3))) (lv := lv) hr7 hr5 hr4.1 ⟨by omega, by omega⟩ hp7 hp0_39 (by omega) (by omega))
          have hvr : 0 ≤ v32 ∧ v32 ≤ 23437500 := by rw [hfv]; exact vl_r hr5 hr4 (by omega) hr8.1 hr8.2 (by omega) hx.1.1 hx.1.2
          refine hR (x_ast hC41 (by omega) (by omega) (Nat.le_of_ble_eq_true rfl) fun w45 ff45 hC45 => ?_)
          have fr46 := wfM_st fr37 ff45 nX16
          have hC47 := (ff45.2 q nX17).trans hC38
          have hC48 := (ff45.2 (q + 1) nX18).trans hC39
          have hC49 := (ff45.2 (q + 3) nX19).trans hC40
          have hC50 := (ff45.2 (q + 6) nX20).trans hC42
          have hC51 := (ff45.2 p nX21).trans hC43
          have hC52 := (ff45.2 b nX22).trans hC44
          have hC53 := AFK_fr hC35 (fun j hj => ff45.2 j (nX23 j hj))
          refine hR (t_inc ?_)
          refine hR (?_ : R (_, _, _, _, _, _))
          exact ih39 _ _ _ fr46 hC47 hC48 hC49 hC45 hC50 hC51 hC52 hC53 (by omega) (fbq_st hr7 hp0_39 (by omega) (by omega) (by omega) (by exact ⟨by omega, by omega⟩)) (fbn_st hp1_39 (by omega) (by omega) (by exact ⟨by omega, by omega⟩) hfv) (by omega) (by omega)
      exact lp39 400000000 _ _ _ fr8 hC9 hC10 hC11 hC12 hC6 hC13 hC14 hC15 (by omega) hp0_7 (fun j j0 j1 => by omega) (by omega) (by omega)
  exact lp7 400000000 _ _ _ _ _ _ (by rfl) (by rfl) fr0 hK0 hK1 hK2 hK3 hK4 hK5 hK6 hK7 (by omega) (fbq_c hr9 (by omega)) hr7.2.2 (by omega) (by omega)
theorem x_firstAsGoodI (w : zW) (d : Nat) (q p b z2 z3 : Nat) (a1 a2 : Int) (x0 nn x2 : Int) (F : Int → Int → Int) (y1 y2 y3 : Int) (g3 g5 g6 : Nat → Int32) (hK0 : zix w q = some (.inr (2, [.ref p, .int (Int32.ofInt y1), .int (Int32.ofInt y2), .int (Int32.ofInt y3), .ref (q + 1), .ref (q + 2), .ref (q + 3), .ref (q + 4), .ref (q + 5), .ref (q + 6)]))) (hK1 : zix w (q + 3) = some (.inl (1, 25750, .inl g3))) (hK2 : zix w (q + 5) = some (.inl (1, 25750, .inl g5))) (hK3 : zix w (q + 6) = some (.inl (1, 5461, .inl g6))) (hK4 : zix w p = some (.inr (3, [.ref b, .ref (p + 1), .ref z2, .ref z3]))) (hK5 : zix w b = some (.inr (0, [.int (Int32.ofInt x0), .int (Int32.ofInt nn), .int (Int32.ofInt x2), .ref (b + 1), .ref (b + 2), .ref (b + 3), .ref (b + 4)]))) (hK6 : AFK w p b F) (hr0 : 0 ≤ a1 ∧ a1 ≤ 9) (hr1 : ((b + 4 < p ∨ p + 1 < b) ∧ (z2 ≠ p ∧ z2 ≠ p + 1 ∧ z3 ≠ p ∧ z3 ≠ p + 1 ∧ z2 ≠ z3)) ∧ ((z2 < b ∨ b + 4 < z2) ∧ (z3 < b ∨ b + 4 < z3))) (hr2 : (q + 6 < p ∨ p + 1 < q) ∧ (q + 6 < b ∨ b + 4 < q) ∧ (b + 4 < p ∨ p + 1 < b)) (hr3 : 0 ≤ y2 ∧ y2 ≤ 31 ∧ 0 ≤ y3 ∧ y3 ≤ 31) (hr4 : (0 ≤ a2 ∧ a2 < 25750) ∧ (0 ≤ tBy g3 a2 ∧ tBy g3 a2 ≤ 5460)) (hr5 : ∀ u : Int, 0 ≤ u → u ≤ 5460 → tBy g6 u = -1 ∨ ((0 ≤ tBy g6 u ∧ tBy g6 u < 25750) ∧ (0 ≤ tBy g5 (tBy g6 u) ∧ tBy g5 (tBy g6 u) ≤ 400000000))) (hr6 : 0 ≤ tBy g5 a2) (hr7 : 0 ≤ nn ∧ nn ≤ 5) (Q : zQ) (h : ∀ (v : Int) (w' : zW), wfM (fun j => j ≠ p + 1) w w' → AFK w' p b F → (v = fstP (fun r => decide ((chA F (hM (if a1 % 2 = 0 then y2 else y3)) g5 g6 (tBy g3 a2)) (r : Int) = tBy g5 a2)) nn.toNat) → Q (some (.int (Int32.ofInt v))) w') : zCl zTab (d + 5) iX2_firstAsGood [.ref q, .int (Int32.ofInt a1), .int (Int32.ofInt a2)] w 0 0 Q := by
  refine zCl_i (M := kX2_firstAsGood) rfl (Nat.le_of_ble_eq_true rfl) fun R hR => ?_
  have fr0 : wfM (fun j => j ≠ p + 1) w w := wfM_rf _ w
  have hse : 0 ≤ (if a1 % 2 = 0 then y2 else y3) ∧ (if a1 % 2 = 0 then y2 else y3) ≤ 31 := by split <;> omega
  have nX0 : FX (∀ j : Nat, (j ≠ p + 1) → (j ≠ p + 1)) := fun j hj => by omega
  have nX1 : FX (q ≠ p + 1) := (show q ≠ p + 1 by omega)
  have nX2 : FX ((q + 3) ≠ p + 1) := (show (q + 3) ≠ p + 1 by omega)
  have nX3 : FX ((q + 5) ≠ p + 1) := (show (q + 5) ≠ p + 1 by omega)
  have nX4 : FX ((q + 6) ≠ p + 1) := (show (q + 6) ≠ p + 1 by omega)
  have nX5 : FX (p ≠ p + 1) := (show p ≠ p + 1 by omega)
  have nX6 : FX (b ≠ p + 1) := (show b ≠ p + 1 by omega)
  iterate 2 refine hR (?_ : R (_, _, _, _, _, _))
  have lp2 : ∀ (N : Nat) (rr : Int) (o4_2 : Option Value) (w_2 : zW), (zc2 o4_2 = false) → (wfM (fun j => j ≠ p + 1) w w_2) → (zix w_2 q = some (.inr (2, [.ref p, .int (Int32.ofInt y1), .int (Int32.ofInt y2), .int (Int32.ofInt y3), .ref (q + 1), .ref (q + 2), .ref (q + 3), .ref (q + 4), .ref (q + 5), .ref (q + 6)]))) → (zix w_2 (q + 3) = some (.inl (1, 25750, .inl g3))) → (zix w_2 (q + 5) = some (.inl (1, 25750, .inl g5))) → (zix w_2 (q + 6) = some (.inl (1, 5461, .inl g6))) → (zix w_2 p = some (.inr (3, [.ref b, .ref (p + 1), .ref z2, .ref z3]))) → (zix w_2 b = some (.inr (0, [.int (Int32.ofInt x0), .int (Int32.ofInt nn), .int (Int32.ofInt x2), .ref (b + 1), .ref (b + 2), .ref (b + 3), .ref (b + 4)]))) → (AFK w_2 p b F) → (0 ≤ rr ∧ rr ≤ 5) → (fstP (fun r => decide ((chA F (hM (if a1 % 2 = 0 then y2 else y3)) g5 g6 (tBy g3 a2)) (r : Int) = tBy g5 a2)) rr.toNat = -1) → (rr ≤ nn) → (6 - rr < N) → R (2, [some (.ref q), some (.int (Int32.ofInt a1)), some (.int (Int32.ofInt a2)), some (.int (Int32.ofInt rr)), o4_2], [], w_2, 0, 0) := by
    intro N
    induction N with
    | zero => intros; omega
    | succ N ih2 =>
      intro rr o4_2 w_2 hzo4_2 fr_2 hCq_2 hCq3_2 hCq5_2 hCq6_2 hCp_2 hCb_2 hCAF_2 hf0_2 hp0_2 hp1_2 hN2
      iterate 2 refine hR (?_ : R (_, _, _, _, _, _))
      refine hR (c_get hCq_2 rfl ?_)
      refine hR (c_get hCp_2 rfl ?_)
      refine hR (c_get hCb_2 rfl ?_)
      refine hR (j_ge (by omega) (by omega) (fun hc1 => ?_) (fun hc1 => ?_))
      · skip
        refine hR (?_ : R (_, _, _, _, _, _))
        exact hR (zret_i rfl (Nat.le_refl _) trivial (h _ _ fr_2 hCAF_2 (by rw [show nn = rr by omega]; exact hp0_2.symm)))
      iterate 2 refine hR (?_ : R (_, _, _, _, _, _))
      refine hR (c_obj hCq_2 (zcall_i 0 0 (Nat.le_of_ble_eq_true rfl) (Nat.le_of_ble_eq_true rfl) (x_onesAtI _ _ _ _ _ _ _ _ hCq_2 (by omega) _ fun v2 hp3 => ?_)))
      subst hp3
      refine (?_ : R (_, _, .int (Int32.ofInt (if a1 % 2 = 0 then y2 else y3)) :: [], w_2, 0, 0))
      refine hR (?_ : R (_, _, _, _, _, _))
      refine hR (zcall_i 0 0 (Nat.le_of_ble_eq_true rfl) (Nat.le_of_ble_eq_true rfl) (x_isInI _ _ _ _ _ fun v4 hp5 => ?_))
      refine (?_ : R (_, _, .int (Int32.ofInt v4) :: [], w_2, 0, 0))
      refine hR (k_eq (by omega) (fun hc6 => ?_) (fun hc6 => ?_))
      · skip
        iterate 4 refine hR (?_ : R (_, _, _, _, _, _))
        refine hR (j_eq (by omega) (by omega) (fun _ => ?_) (fun hc => by omega))
        refine hR (t_inc ?_)
        refine hR (?_ : R (_, _, _, _, _, _))
        exact ih2 _ _ _ (by rfl) fr_2 hCq_2 hCq3_2 hCq5_2 hCq6_2 hCp_2 hCb_2 hCAF_2 (by omega) (fs_n (by omega) hp0_2 (cg_n (by omega) (ch_f (hM_f (by omega))) (by omega))) (by omega) (by omega)
      refine hR (?_ : R (_, _, _, _, _, _))
      refine hR (c_get hCq_2 rfl ?_)
      refine hR (?_ : R (_, _, _, _, _, _))
      refine hR (c_get hCq_2 rfl ?_)
      iterate 2 refine hR (?_ : R (_, _, _, _, _, _))
      refine hR (c_get hCq_2 rfl ?_)
      refine hR (?_ : R (_, _, _, _, _, _))
      refine hR (c_aldE hCq3_2 (by omega) (by omega) (Nat.le_of_ble_eq_true rfl) fun v7 ev7 rv7 => ?_)
      replace ev7 : v7 = tBy g3 a2 := ev7
      subst ev7
      refine hR (c_obj hCp_2 (zcall_i 0 0 (Nat.le_of_ble_eq_true rfl) (Nat.le_of_ble_eq_true rfl) (x_after _ _ _ _ _ _ _ _ _ _ _ _ hCp_2 hCb_2 hCAF_2 (by omega) (by omega) hr1 _ fun v8 w9 gg10 hC11 hp12 => ?_)))
      have fr13 := wfM_tr fr_2 gg10 nX0
      have hC14 := (gg10.2 q nX1).trans hCq_2
      have hC15 := (gg10.2 (q + 3) nX2).trans hCq3_2
      have hC16 := (gg10.2 (q + 5) nX3).trans hCq5_2
      have hC17 := (gg10.2 (q + 6) nX4).trans hCq6_2
      have hC18 := (gg10.2 p nX5).trans hCp_2
      have hC19 := (gg10.2 b nX6).trans hCb_2
      refine (?_ : R (_, _, .int (Int32.ofInt v8) :: .ref (q + 6) :: [], w9, 0, 0))
      have hv := hp12
      have hb6 := hr5 v8 (by omega) (by omega)
      refine hR (c_aldE hC17 (by omega) (by omega) (Nat.le_of_ble_eq_true rfl) fun v20 ev20 rv20 => ?_)
      replace ev20 : v20 = tBy g6 v8 := ev20
      subst ev20
      iterate 4 refine hR (?_ : R (_, _, _, _, _, _))
      refine hR (j_eq (by omega) (by omega) (fun hc21 => ?_) (fun hc21 => ?_))
      · skip
        refine hR (t_inc ?_)
        refine hR (?_ : R (_, _, _, _, _, _))
        exact ih2 _ _ _ (by rfl) fr13 hC14 hC15 hC16 hC17 hC18 hC19 hC11 (by omega) (fs_n (by omega) hp0_2 (cg_n (by omega) (ch_n (hM_t (by omega) (by omega) (by omega)) hv.1 (by omega)) (by omega))) (by omega) (by omega)
      refine hR (?_ : R (_, _, _, _, _, _))
      refine hR (c_get hC14 rfl ?_)
      refine hR (?_ : R (_, _, _, _, _, _))
      refine hR (c_aldE hC16 (by omega) (by omega) (Nat.le_of_ble_eq_true rfl) fun v22 ev22 rv22 => ?_)
      replace ev22 : v22 = tBy g5 (tBy g6 v8) := ev22
      subst ev22
      refine hR (?_ : R (_, _, _, _, _, _))
      refine hR (c_get hC14 rfl ?_)
      refine hR (?_ : R (_, _, _, _, _, _))
      refine hR (c_aldE hC16 (by omega) (by omega) (Nat.le_of_ble_eq_true rfl) fun v23 ev23 rv23 => ?_)
      replace ev23 : v23 = tBy g5 a2 := ev23
      subst ev23
      refine hR (j_ne (by omega) (by omega) (fun hc24 => ?_) (fun hc24 => ?_))
      rotate_left
      · skip
        refine hR (?_ : R (_, _, _, _, _, _))
        exact hR (zret_i rfl (Nat.le_refl _) trivial (h _ _ fr13 hC11 (fs_g (by omega) (by omega) hp0_2 (cg_y (by omega) (ch_y (hM_t (by omega) (by omega) (by omega)) hv.1 (by omega)) (by omega)))))
      refine hR (t_inc ?_)
      refine hR (?_ : R (_, _, _, _, _, _))
      exact ih2 _ _ _ (by rfl) fr13 hC14 hC15 hC16 hC17 hC18 hC19 hC11 (by omega) (fs_n (by omega) hp0_2 (cg_n (by omega) (ch_y (hM_t (by omega) (by omega) (by omega)) hv.1 (by omega)) (by omega))) (by omega) (by omega)
  exact lp2 400000000 _ _ _ (by rfl) fr0 hK0 hK1 hK2 hK3 hK4 hK5 hK6 (by omega) rfl (by omega) (by omega)
theorem x_chosenAtI (w : zW) (d : Nat) (q p b z2 z3 : Nat) (a1 : Int) (x0 nn x2 : Int) (F : Int → Int → Int) (y1 y2 y3 : Int) (gS gW g3 g4 g5 g6 : Nat → Int32) (V : Nat → Int → Int) (hK0 : zix w q = some (.inr (2, [.ref p, .int (Int32.ofInt y1), .int (Int32.ofInt y2), .int (Int32.ofInt y3), .ref (q + 1), .ref (q + 2), .ref (q + 3), .ref (q + 4), .ref (q + 5), .ref (q + 6)]))) (hK1 : zix w (q + 1) = some (.inl (1, 11, .inl gS))) (hK2 : zix w (q + 3) = some (.inl (1, 25750, .inl g3))) (hK3 : zix w (q + 5) = some (.inl (1, 25750, .inl g5))) (hK4 : zix w (q + 6) = some (.inl (1, 5461, .inl g6))) (hK5 : zix w p = some (.inr (3, [.ref b, .ref (p + 1), .ref z2, .ref z3]))) (hK6 : zix w b = some (.inr (0, [.int (Int32.ofInt x0), .int (Int32.ofInt nn), .int (Int32.ofInt x2), .ref (b + 1), .ref (b + 2), .ref (b + 3), .ref (b + 4)]))) (hK7 : AFK w p b F) (hr0 : 0 ≤ y1 ∧ y1 ≤ 9) (hr1 : ((b + 4 < p ∨ p + 1 < b) ∧ (z2 ≠ p ∧ z2 ≠ p + 1 ∧ z3 ≠ p ∧ z3 ≠ p + 1 ∧ z2 ≠ z3)) ∧ ((z2 < b ∨ b + 4 < z2) ∧ (z3 < b ∨ b + 4 < z3))) (hr2 : (q + 6 < p ∨ p + 1 < q) ∧ (q + 6 < b ∨ b + 4 < q) ∧ (b + 4 < p ∨ p + 1 < b)) (hr3 : 0 ≤ y2 ∧ y2 ≤ 31 ∧ 0 ≤ y3 ∧ y3 ≤ 31) (hr4 : 0 ≤ nn ∧ nn ≤ 5) (hr5 : FOK F nn) (hr6 : SPQ F (fun L t => okW gW L t) (fun L => hM (if L % 2 = 0 then y2 else y3)) nn x0 y1.toNat gS g3 g4 g6) (hr7 : FBQ V y1 gS g3 g5 0) (hr8 : ∀ d : Nat, ∀ t : Int, 0 ≤ t → t ≤ 5460 → 0 ≤ V d t ∧ V d t ≤ 23437500) (hr9 : ∀ L r : Int, 0 ≤ r → r < nn → (fun L => hM (if L % 2 = 0 then y2 else y3)) L r = true) (hr10 : ∀ L t : Int, 0 ≤ L → L ≤ 9 → (fun L t => okW gW L t) L t = true) (hr11 : ∀ lv t : Int, 0 ≤ lv → lv < y1 → 0 ≤ t → t ≤ 5460 → crF V F nn y1 lv t ≠ -1) (hr12 : 0 ≤ a1 ∧ a1 < y1) (hr13 : 0 ≤ x0 ∧ x0 ≤ 5460) (Q : zQ) (h : ∀ (v : Int) (T6 : Nat → Int32) (w' : zW), wfM (fun j => j ≠ q + 6 ∧ j ≠ p + 1) w w' → zix w' (q + 6) = some (.inl (1, 5461, .inl T6)) → AFK w' p b F → (v = (crF V F nn y1 a1 (cpF V F nn y1 x0 (a1).toNat))) → (∀ t : Int, 0 ≤ t → t ≤ 5460 → tBy T6 t = -1) → Q (some (.int (Int32.ofInt v))) w') : zCl zTab (d + 6) iX2_chosenAt [.ref q, .int (Int32.ofInt a1)] w 0 0 Q := by
  refine zCl_i (M := kX2_chosenAt) rfl (Nat.le_of_ble_eq_true rfl) fun R hR => ?_
  have fr0 : wfM (fun j => j ≠ q + 6 ∧ j ≠ p + 1) w w := wfM_rf _ w
  have nX0 : FX (∀ j : Nat, (j ≠ q + 6 ∧ j ≠ p + 1) → (j ≠ q + 6)) := fun j hj => by omega
  have nX1 : FX (q ≠ q + 6) := (show q ≠ q + 6 by omega)
  have nX2 : FX ((q + 1) ≠ q + 6) := (show (q + 1) ≠ q + 6 by omega)
  have nX3 : FX ((q + 3) ≠ q + 6) := (show (q + 3) ≠ q + 6 by omega)
  have nX4 : FX ((q + 5) ≠ q + 6) := (show (q + 5) ≠ q + 6 by omega)
  have nX5 : FX (p ≠ q + 6) := (show p ≠ q + 6 by omega)
  have nX6 : FX (b ≠ q + 6) := (show b ≠ q + 6 by omega)
  have nX7 : FX (∀ j : Nat, (j = p + 1 ∨ (b ≤ j ∧ j ≤ b + 4)) → (j ≠ q + 6)) := fun j hj => by omega
  have nX8 : FX (∀ j : Nat, (j ≠ q + 6 ∧ j ≠ p + 1) → (j ≠ p + 1)) := fun j hj => by omega
  have nX9 : FX (q ≠ p + 1) := (show q ≠ p + 1 by omega)
  have nX10 : FX ((q + 1) ≠ p + 1) := (show (q + 1) ≠ p + 1 by omega)
  have nX11 : FX ((q + 3) ≠ p + 1) := (show (q + 3) ≠ p + 1 by omega)
  have nX12 : FX ((q + 5) ≠ p + 1) := (show (q + 5) ≠ p + 1 by omega)
  have nX13 : FX ((q + 6) ≠ p + 1) := (show (q + 6) ≠ p + 1 by omega)
  have nX14 : FX (p ≠ p + 1) := (show p ≠ p + 1 by omega)
  have nX15 : FX (b ≠ p + 1) := (show b ≠ p + 1 by omega)
  iterate 6 refine hR (?_ : R (_, _, _, _, _, _))
  have lp7 : ∀ (N : Nat) (xx : Int) (ch : Int) (lv : Int) (U6 : Nat → Int32) (w_7 : zW), (wfM (fun j => j ≠ q + 6 ∧ j ≠ p + 1) w w_7) → (zix w_7 q = some (.inr (2, [.ref p, .int (Int32.ofInt y1), .int (Int32.ofInt y2), .int (Int32.ofInt y3), .ref (q + 1), .ref (q + 2), .ref (q + 3), .ref (q + 4), .ref (q + 5), .ref (q + 6)]))) → (zix w_7 (q + 1) = some (.inl (1, 11, .inl gS))) → (zix w_7 (q + 3) = some (.inl (1, 25750, .inl g3))) → (zix w_7 (q + 5) = some (.inl (1, 25750, .inl g5))) → (zix w_7 (q + 6) = some (.inl (1, 5461, .inl U6))) → (zix w_7 p = some (.inr (3, [.ref b, .ref (p + 1), .ref z2, .ref z3]))) → (zix w_7 b = some (.inr (0, [.int (Int32.ofInt x0), .int (Int32.ofInt nn), .int (Int32.ofInt x2), .ref (b + 1), .ref (b + 2), .ref (b + 3), .ref (b + 4)]))) → (AFK w_7 p b F) → (0 ≤ xx ∧ xx ≤ 25749) → (-1 ≤ ch ∧ ch ≤ 4) → (0 ≤ lv ∧ lv ≤ 9) → ((tBy gS lv ≤ xx ∧ xx < tBy gS (lv + 1)) ∧ tBy g3 xx = cpF V F nn y1 x0 lv.toNat) → (lv ≤ a1 + 1) → (0 < lv → ch = (crF V F nn y1 (lv - 1) (cpF V F nn y1 x0 (lv - 1).toNat))) → (∀ t : Int, 0 ≤ t → t ≤ 5460 → tBy U6 t = -1) → (10 - lv < N) → R (7, [some (.ref q), some (.int (Int32.ofInt a1)), some (.int (Int32.ofInt xx)), some (.int (Int32.ofInt ch)), some (.int (Int32.ofInt lv))], [], w_7, 0, 0) := by
    intro N
    induction N with
    | zero => intros; omega
    | succ N ih7 =>
      intro xx ch lv U6 w_7 fr_7 hCq_7 hCq1_7 hCq3_7 hCq5_7 hCq6_7 hCp_7 hCb_7 hCAF_7 hf0_7 hf1_7 hf2_7 hp0_7 hp1_7 hp2_7 hp3_7 hN7
      iterate 2 refine hR (?_ : R (_, _, _, _, _, _))
      refine hR (j_gt (by omega) (by omega) (fun hc1 => ?_) (fun hc1 => ?_))
      · skip
        refine hR (?_ : R (_, _, _, _, _, _))
        exact hR (zret_i rfl (Nat.le_refl _) trivial (h _ _ _ fr_7 hCq6_7 hCAF_7 (by have h := hp2_7 (by omega); rw [show lv - 1 = a1 by omega] at h; exact h) hp3_7))
      iterate 2 refine hR (?_ : R (_, _, _, _, _, _))
      refine hR (c_get hCq_7 rfl ?_)
      refine hR (j_ge (by omega) (by omega) (fun hc => by omega) (fun _ => ?_))
      have hsr := spq_r (lv := lv + 1) hr6 (by omega) (by omega) (by omega)
      have hs0 := spq_r (lv := lv) hr6 (by omega) (by omega) (by omega)
      have hx := spq_x hr6 (lv := lv) (i := xx) (by omega) (by omega) (by omega) (by omega)
      have hwx := hr7 lv (by omega) (by omega) xx (by omega) (by omega)
      have hwr := hr8 (y1 - lv).toNat (tBy g3 xx) hx.1.1 hx.1.2
      rw [← hwx] at hwr
      iterate 3 refine hR (?_ : R (_, _, _, _, _, _))
      refine hR (t_add ?_)
      refine hR (c_obj hCq_7 (zcall_i 0 0 (Nat.le_of_ble_eq_true rfl) (Nat.le_of_ble_eq_true rfl) (x_recallI _ _ _ _ _ _ _ _ _ _ _ hCq_7 hCq1_7 hCq3_7 hCq6_7 (by omega) hsr (fun j j0 j1 => (spq_x hr6 (by omega) (by omega) j0 j1).1) (spq_l hr6 (lv := lv + 1) (by omega) (by omega)).2.2.2.1.2.2.1 hp3_7 _ fun T6_2 w3 gg4 hC5 hp6 => ?_)))
      have fr7 := wfM_tr fr_7 gg4 nX0
      have hC8 := (gg4.2 q nX1).trans hCq_7
      have hC9 := (gg4.2 (q + 1) nX2).trans hCq1_7
      have hC10 := (gg4.2 (q + 3) nX3).trans hCq3_7
      have hC11 := (gg4.2 (q + 5) nX4).trans hCq5_7
      have hC12 := (gg4.2 p nX5).trans hCp_7
      have hC13 := (gg4.2 b nX6).trans hCb_7
      have hC14 := AFK_fr hCAF_7 (fun j hj => gg4.2 j (nX7 j hj))
      refine (?_ : R (_, _, [], w3, 0, 0))
      iterate 3 refine hR (?_ : R (_, _, _, _, _, _))
      refine hR (c_obj hC8 (zcall_i 0 0 (Nat.le_of_ble_eq_true rfl) (Nat.le_of_ble_eq_true rfl) (x_firstAsGoodI _ _ _ _ _ _ _ _ _ _ _ _ _ _ _ _ _ _ _ hC8 hC10 hC11 hC5 hC12 hC13 hC14 (by omega) hr1 hr2 (by omega) ⟨⟨by omega, by omega⟩, hx.1⟩ (ca_rg hr6 (by omega) ⟨by omega, by omega⟩ hp6 hr7 hr8) hwr.1 (by omega) _ fun v15 w16 gg17 hC18 hp19 => ?_)))
      have fr20 := wfM_tr fr7 gg17 nX8
      have hC21 := (gg17.2 q nX9).trans hC8
      have hC22 := (gg17.2 (q + 1) nX10).trans hC9
      have hC23 := (gg17.2 (q + 3) nX11).trans hC10
      have hC24 := (gg17.2 (q + 5) nX12).trans hC11
      have hC25 := (gg17.2 (q + 6) nX13).trans hC5
      have hC26 := (gg17.2 p nX14).trans hC12
      have hC27 := (gg17.2 b nX15).trans hC13
      refine (?_ : R (_, _, .int (Int32.ofInt v15) :: [], w16, 0, 0))
      have hcv := hp19.trans (ca_ch (M := (fun L => hM (if L % 2 = 0 then y2 else y3))) (lv := lv) hr6 hr5 hr4.1 ⟨by omega, by omega⟩ hp6 hr7 (by omega) hr9 hr10 (by omega) (by omega))
      have hcr : 0 ≤ v15 ∧ v15 < nn := by
        have h1 := hr11 lv (tBy g3 xx) (by omega) (by omega) hx.1.1 hx.1.2
        have h2 := fs_rg (p := crP V F y1 lv (tBy g3 xx)) (k := nn.toNat)
        have h3 : v15 = fstP (crP V F y1 lv (tBy g3 xx)) nn.toNat := hcv
        rw [← h3] at h2
        have h4 : crF V F nn y1 lv (tBy g3 xx) ≠ -1 := h1
        rw [← hcv] at h4
        omega
      iterate 3 refine hR (?_ : R (_, _, _, _, _, _))
      refine hR (j_eq (by omega) (by omega) (fun hc => by omega) (fun _ => ?_))
      refine hR (?_ : R (_, _, _, _, _, _))
      refine hR (c_get hC21 rfl ?_)
      refine hR (?_ : R (_, _, _, _, _, _))
      refine hR (c_get hC21 rfl ?_)
      iterate 2 refine hR (?_ : R (_, _, _, _, _, _))
      refine hR (c_get hC21 rfl ?_)
      refine hR (?_ : R (_, _, _, _, _, _))
      refine hR (c_aldE hC23 (by omega) (by omega) (Nat.le_of_ble_eq_true rfl) fun v28 ev28 rv28 => ?_)
      replace ev28 : v28 = tBy g3 xx := ev28
      subst ev28
      refine hR (c_obj hC26 (zcall_i 0 0 (Nat.le_of_ble_eq_true rfl) (Nat.le_of_ble_eq_true rfl) (x_after _ _ _ _ _ _ _ _ _ _ _ _ hC26 hC27 hC18 (by omega) (by omega) hr1 _ fun v29 w30 gg31 hC32 hp33 => ?_)))
      have fr34 := wfM_tr fr20 gg31 nX8
      have hC35 := (gg31.2 q nX9).trans hC21
      have hC36 := (gg31.2 (q + 1) nX10).trans hC22
      have hC37 := (gg31.2 (q + 3) nX11).trans hC23
      have hC38 := (gg31.2 (q + 5) nX12).trans hC24
      have hC39 := (gg31.2 (q + 6) nX13).trans hC25
      have hC40 := (gg31.2 p nX14).trans hC26
      have hC41 := (gg31.2 b nX15).trans hC27
      refine (?_ : R (_, _, .int (Int32.ofInt v29) :: .ref (q + 6) :: [], w30, 0, 0))
      have hv := hp33
      have hnx := ca_nx (M := (fun L => hM (if L % 2 = 0 then y2 else y3))) (lv := lv) hr6 hr5 ⟨by omega, by omega⟩ hp6 (by omega) hr9 hr10 (v := v15) (i := xx) (by omega) (by omega) (by omega) (by omega)
      rw [← hv.1] at hnx
      have hs2 := spq_r (lv := lv + 1) hr6 (by omega) (by omega) (by omega)
      have hcq := hcv
      rw [hp0_7.2] at hcq
      refine hR (c_aldE hC39 (by omega) (by omega) (Nat.le_of_ble_eq_true rfl) fun v42 ev42 rv42 => ?_)
      replace ev42 : v42 = tBy T6_2 v29 := ev42
      subst ev42
      iterate 4 refine hR (?_ : R (_, _, _, _, _, _))
      refine hR (t_add ?_)
      refine hR (c_obj hC35 (zcall_i 0 0 (Nat.le_of_ble_eq_true rfl) (Nat.le_of_ble_eq_true rfl) (x_forgetI _ _ _ _ _ _ _ _ _ _ _ hC35 hC36 hC37 hC39 (by omega) hsr (fun j j0 j1 => (spq_x hr6 (by omega) (by omega) j0 j1).1) (nd_fg hp6) _ fun T6_43 w44 gg45 hC46 hp47 => ?_)))
      have fr48 := wfM_tr fr34 gg45 nX0
      have hC49 := (gg45.2 q nX1).trans hC35
      have hC50 := (gg45.2 (q + 1) nX2).trans hC36
      have hC51 := (gg45.2 (q + 3) nX3).trans hC37
      have hC52 := (gg45.2 (q + 5) nX4).trans hC38
      have hC53 := (gg45.2 p nX5).trans hC40
      have hC54 := (gg45.2 b nX6).trans hC41
      have hC55 := AFK_fr hC32 (fun j hj => gg45.2 j (nX7 j hj))
      refine (?_ : R (_, _, [], w44, 0, 0))
      iterate 2 refine hR (?_ : R (_, _, _, _, _, _))
      refine hR (j_ne (by omega) (by omega) (fun _ => ?_) (fun hc => by omega))
      refine hR (t_inc ?_)
      refine hR (?_ : R (_, _, _, _, _, _))
      exact ih7 _ _ _ _ _ fr48 hC49 hC50 hC51 hC52 hC46 hC53 hC54 hC55 (by omega) (by omega) (by omega) ⟨hnx.1, by rw [hnx.2, cp_s (by omega), ← hcq, ← hp0_7.2]; exact hv.1⟩ (by omega) (fun _ => by rw [show lv + 1 - 1 = lv by omega]; exact hcq) hp47 (by omega)
  exact lp7 400000000 _ _ _ _ _ fr0 hK0 hK1 hK2 hK3 hK4 hK5 hK6 hK7 (by omega) (by omega) (by omega) (ca_0 hr6 (hr10 _ _ (by omega) (by omega)) hr13 (by omega)) (by omega) (fun z => by omega) hr6.2.2 (by omega)
theorem x_wantNothingI (w : zW) (d : Nat) (q : Nat) (yo : Option Nat) (y1 y2 y3 : Int) (gW : Nat → Int32) (hK0 : zix w q = some (.inr (2, [va_rf yo, .int (Int32.ofInt y1), .int (Int32.ofInt y2), .int (Int32.ofInt y3), .ref (q + 1), .ref (q + 2), .ref (q + 3), .ref (q + 4), .ref (q + 5), .ref (q + 6)]))) (hK1 : zix w (q + 2) = some (.inl (1, 10, .inl gW))) (Q : zQ) (h : ∀ (T2 : Nat → Int32) (w' : zW), wfM (fun j => j ≠ q + 2) w w' → zix w' (q + 2) = some (.inl (1, 10, .inl T2)) → (∀ L : Int, 0 ≤ L → L ≤ 9 → tBy T2 L = -1) → Q (none) w') : zCl zTab (d + 2) iX2_wantNothing [.ref q] w 0 0 Q := by
  refine zCl_i (M := kX2_wantNothing) rfl (Nat.le_of_ble_eq_true rfl) fun R hR => ?_
  have fr0 : wfM (fun j => j ≠ q + 2) w w := wfM_rf _ w
  have nX0 : FX (∀ j : Nat, (j ≠ q + 2) → (j ≠ (q + 2))) := fun j hj => by omega
  have nX1 : FX (q ≠ (q + 2)) := (show q ≠ (q + 2) by omega)
  refine hR (?_ : R (_, _, _, _, _, _))
  refine hR (c_get hK0 rfl ?_)
  refine hR (?_ : R (_, _, _, _, _, _))
  refine hR (zcall_i 0 0 (Nat.le_of_ble_eq_true rfl) (Nat.le_of_ble_eq_true rfl) (x_fillL _ _ _ _ _ _ hK1 (by omega) (by omega) _ fun T'_1 w2 gg3 hC4 hp5 => ?_))
  have fr6 := wfM_tr fr0 gg3 nX0
  have hC7 := (gg3.2 q nX1).trans hK0
  refine (?_ : R (_, _, [], w2, 0, 0))
  exact hR (zret_i rfl (Nat.le_refl _) rfl (h _ _ fr6 hC4 (fun L l0 l1 => hp5 L l0 (by omega))))
theorem x_sumOfEndsI (w : zW) (d : Nat) (q p : Nat) (y1 y2 y3 : Int) (gS g4 g5 : Nat → Int32) (hK0 : zix w q = some (.inr (2, [.ref p, .int (Int32.ofInt y1), .int (Int32.ofInt y2), .int (Int32.ofInt y3), .ref (q + 1), .ref (q + 2), .ref (q + 3), .ref (q + 4), .ref (q + 5), .ref (q + 6)]))) (hK1 : zix w (q + 1) = some (.inl (1, 11, .inl gS))) (hK2 : zix w (q + 4) = some (.inl (1, 25750, .inl g4))) (hK3 : zix w (q + 5) = some (.inl (1, 25750, .inl g5))) (hr0 : 0 ≤ y1 ∧ y1 ≤ 9) (hr1 : (0 ≤ tBy gS y1 ∧ tBy gS y1 ≤ tBy gS (y1 + 1)) ∧ tBy gS (y1 + 1) ≤ 25750) (hr2 : ∀ i : Int, tBy gS y1 ≤ i → i < tBy gS (y1 + 1) → 0 < tBy g4 i ∧ tBy g4 i ≤ 1953125) (hr3 : ∀ i : Int, tBy gS y1 ≤ i → i < tBy gS (y1 + 1) → 0 ≤ tBy g5 i ∧ tBy g5 i ≤ 12) (hr4 : smN (fun j => tBy g4 j) (tBy gS y1) (tBy gS (y1 + 1) - tBy gS y1).toNat ≤ 1953125) (Q : zQ) (h : ∀ (v : Int), (v = smN (fun j => tBy g4 j * tBy g5 j) (tBy gS y1) (tBy gS (y1 + 1) - tBy gS y1).toNat) → (0 ≤ v ∧ v ≤ 23437500) → Q (some (.long (Int64.ofInt v))) w) : zCl zTab (d + 1) iX2_sumOfEnds [.ref q] w 0 0 Q := by
  refine zCl_i (M := kX2_sumOfEnds) rfl (Nat.le_of_ble_eq_true rfl) fun R hR => ?_
  refine hR (tl_c (y := Int64.ofInt 0) (by decide) ?_)
  iterate 2 refine hR (?_ : R (_, _, _, _, _, _))
  refine hR (c_get hK0 rfl ?_)
  refine hR (?_ : R (_, _, _, _, _, _))
  refine hR (c_get hK0 rfl ?_)
  refine hR (c_aldE hK1 (by omega) (by omega) (Nat.le_of_ble_eq_true rfl) fun v1 ev1 rv1 => ?_)
  replace ev1 : v1 = tBy gS y1 := ev1
  subst ev1
  refine hR (?_ : R (_, _, _, _, _, _))
  have lp12 : ∀ (N : Nat) (sv : Int) (ii : Int), (0 ≤ sv ∧ sv ≤ 23437500) → (0 ≤ ii ∧ ii ≤ 25750) → (sv = smN (fun j => tBy g4 j * tBy g5 j) (tBy gS y1) (ii - tBy gS y1).toNat) → (tBy gS y1 ≤ ii ∧ ii ≤ tBy gS (y1 + 1)) → (25751 - ii < N) → R (12, [some (.ref q), some (.long (Int64.ofInt sv)), none, some (.int (Int32.ofInt ii))], [], w, 0, 0) := by
    intro N
    induction N with
    | zero => intros; omega
    | succ N ih12 =>
      intro sv ii hf0_12 hf1_12 hp0_12 hp1_12 hN12
      iterate 2 refine hR (?_ : R (_, _, _, _, _, _))
      refine hR (c_get hK0 rfl ?_)
      refine hR (?_ : R (_, _, _, _, _, _))
      refine hR (c_get hK0 rfl ?_)
      refine hR (?_ : R (_, _, _, _, _, _))
      refine hR (t_add ?_)
      refine hR (c_aldE hK1 (by omega) (by omega) (Nat.le_of_ble_eq_true rfl) fun v2 ev2 rv2 => ?_)
      replace ev2 : v2 = tBy gS (y1 + 1) := ev2
      subst ev2
      refine hR (j_ge (by omega) (by omega) (fun hc3 => ?_) (fun hc3 => ?_))
      · skip
        refine hR (?_ : R (_, _, _, _, _, _))
        exact hR (zret_i rfl (Nat.le_refl _) trivial (h _ (by rw [hp0_12, show ii = tBy gS (y1 + 1) by omega]) (by omega)))
      iterate 2 refine hR (?_ : R (_, _, _, _, _, _))
      refine hR (c_get hK0 rfl ?_)
      refine hR (?_ : R (_, _, _, _, _, _))
      refine hR (c_aldE hK2 (by omega) (by omega) (Nat.le_of_ble_eq_true rfl) fun v4 ev4 rv4 => ?_)
      replace ev4 : v4 = tBy g4 ii := ev4
      subst ev4
      have hq4 := hr2 ii (by omega) (by omega)
      have hmb := sme_b (a := tBy g4 ii) (c := tBy g5 ii) hq4 (hr3 ii (by omega) (by omega))
      have hsb := sme_s hr2 hr3 hr4 (i := ii) (by omega) (by omega)
      refine hR (tl_c (i2l_e (by exact ⟨by omega, by omega⟩)) ?_)
      refine hR (?_ : R (_, _, _, _, _, _))
      refine hR (c_get hK0 rfl ?_)
      refine hR (?_ : R (_, _, _, _, _, _))
      refine hR (c_aldE hK3 (by omega) (by omega) (Nat.le_of_ble_eq_true rfl) fun v5 ev5 rv5 => ?_)
      replace ev5 : v5 = tBy g5 ii := ev5
      subst ev5
      refine hR (tl_c (i2l_e (by exact ⟨by omega, by omega⟩)) ?_)
      refine hR (tl_c (Int64.ofInt_mul _ _).symm ?_)
      refine hR (tl_c (Int64.ofInt_add _ _).symm ?_)
      refine hR (?_ : R (_, _, _, _, _, _))
      refine hR (t_inc ?_)
      refine hR (?_ : R (_, _, _, _, _, _))
      exact ih12 _ _ (by omega) (by omega) (by rw [hsb.1, ← hp0_12]) (by omega) (by omega)
  exact lp12 400000000 _ _ (by omega) (by omega) (by rw [show (tBy gS y1 - tBy gS y1).toNat = 0 by omega]; rfl) (by omega) (by omega)
theorem x_commonI (w : zW) (d : Nat) (a1 a2 : Int)  (hr0 : 0 ≤ a1 ∧ a1 < 4294967296) (hr1 : 0 ≤ a2 ∧ a2 < 4294967296) (Q : zQ) (h : ∀ (v : Int), (v = gcI a1 a2) → Q (some (.long (Int64.ofInt v))) w) : zCl zTab (d + 1) iX11_common [.long (Int64.ofInt a1), .long (Int64.ofInt a2)] w 0 0 Q := by
  refine zCl_i (M := kX11_common) rfl (Nat.le_of_ble_eq_true rfl) fun R hR => ?_
  iterate 6 refine hR (?_ : R (_, _, _, _, _, _))
  have lp9 : ∀ (N : Nat) (xx : Int) (yy : Int) (ii : Int) (o9_9 : Option Value), (True) → (0 ≤ xx ∧ xx ≤ 4294967295) → (0 ≤ yy ∧ yy ≤ 4294967295) → (0 ≤ ii ∧ ii ≤ 100) → (gcI xx yy = gcI a1 a2) → (CMQ xx yy ii) → (101 - ii < N) → R (9, [some (.long (Int64.ofInt a1)), none, some (.long (Int64.ofInt a2)), none, some (.long (Int64.ofInt xx)), none, some (.long (Int64.ofInt yy)), none, some (.int (Int32.ofInt ii)), o9_9, none], [], w, 0, 0) := by
    intro N
    induction N with
    | zero => intros; omega
    | succ N ih9 =>
      intro xx yy ii o9_9 hzo9_9 hf0_9 hf1_9 hf2_9 hp0_9 hp1_9 hN9
      refine hR (?_ : R (_, _, _, _, _, _))
      refine hR (t_c 100 (by decide) ?_)
      refine hR (j_ge (by omega) (by omega) (fun hc1 => ?_) (fun hc1 => ?_))
      · skip
        refine hR (?_ : R (_, _, _, _, _, _))
        exact hR (zret_i rfl (Nat.le_refl _) trivial (h _ (by rw [← hp0_9]; exact (gc_0 (by omega) (cm_e (by omega) (by omega) hp1_9)).symm)))
      iterate 3 refine hR (?_ : R (_, _, _, _, _, _))
      have hle2 := li_t (e := yy) (by omega) (by omega)
      refine hR (x_lcmpE (a := 0) (by decide) (fun hc3 => ?_) (fun hc3 => ?_))
      · skip
        refine hR (?_ : R (_, _, _, _, _, _))
        exact hR (zret_i rfl (Nat.le_refl _) trivial (h _ (by rw [← hp0_9]; exact (gc_0 (by omega) (by omega)).symm)))
      iterate 2 refine hR (?_ : R (_, _, _, _, _, _))
      have hcs := cm_s (a := xx) (b := yy) (i := ii) (by omega) (by omega) (by omega) hp1_9
      have hmd := Int.emod_lt_of_pos xx (show 0 < yy by omega)
      refine hR (And.intro (li_ne (by omega) (by omega)) (tl_c (li_rem (by omega) (by omega) (by omega) (by omega)) ?_))
      iterate 5 refine hR (?_ : R (_, _, _, _, _, _))
      refine hR (t_inc ?_)
      refine hR (?_ : R (_, _, _, _, _, _))
      exact ih9 _ _ _ _ trivial (by omega) (by omega) (by omega) ((gc_s (by omega) (by omega)).trans hp0_9) hcs.1 (by omega)
  exact lp9 400000000 _ _ _ _ trivial (by omega) (by omega) (by omega) rfl (Or.inl ⟨rfl, by omega, by omega⟩) (by omega)
