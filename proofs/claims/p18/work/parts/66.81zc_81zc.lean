/-! THE REFERENCE'S ORBITS, BY PLACES. -/
theorem z0_t {c : Int → Int} {t : Int} (t0 : 0 ≤ t) (h : c t = 0) : (fun t : Nat => decide (c (t : Int) = 0)) t.toNat = true := by
  dsimp only
  rw [Int.toNat_of_nonneg t0]
  exact decide_eq_true h
theorem z0_f {c : Int → Int} {t : Int} (t0 : 0 ≤ t) (h : c t ≠ 0) : (fun t : Nat => decide (c (t : Int) = 0)) t.toNat = false := by
  dsimp only
  rw [Int.toNat_of_nonneg t0]
  exact decide_eq_false h
theorem ur_e {G : Int → Int} {v k : Int} (h : v = (cntP (fun t => decide (ldP G 5461 (t : Int) = 0)) k.toNat : Int)) (e : k = 5461) : v = urN G := (cn_e h e).trans (zl_k (c := ldP G 5461) 5461).1.symm
theorem st_e {G : Int → Int} {v k : Int} (h : v = (cntP (stP G) k.toNat : Int)) (e : k = 5461) : v = stN G := cn_e h e
theorem or2_e {G : Int → Int} {e : Int} (h : e = (flF G).1) : 5461 - e = 5461 - (flF G).1 := by rw [h]
theorem x_findComesR (w : zW) (d : Nat) (a1 : Int) (f0 f9 f10 f11 f12 f13 f15 f16 f17 f20 f21 f22 f23 f26 f28 f31 f32 f33 f38 f41 f44 : Int) (x14 : Int64) (g30 g34 : Nat → Int32) (F : Int → Int → Int) (hK0 : zix w 14 = some (.inr (11, [.int (Int32.ofInt f0), .ref 15, .ref 16, .ref 17, .ref 18, .ref 19, .ref 20, .ref 21, .ref 22, .int (Int32.ofInt f9), .int (Int32.ofInt f10), .int (Int32.ofInt f11), .int (Int32.ofInt f12), .int (Int32.ofInt f13), .long x14, .int (Int32.ofInt f15), .int (Int32.ofInt f16), .int (Int32.ofInt f17), .ref 23, .ref 24, .int (Int32.ofInt f20), .int (Int32.ofInt f21), .int (Int32.ofInt f22), .int (Int32.ofInt f23), .ref 25, .ref 26, .int (Int32.ofInt f26), .ref 27, .int (Int32.ofInt f28), .ref 28, .ref 29, .int (Int32.ofInt f31), .int (Int32.ofInt f32), .int (Int32.ofInt f33), .ref 30, .ref 31, .ref 32, .ref 33, .int (Int32.ofInt f38), .ref 34, .ref 35, .int (Int32.ofInt f41), .ref 36, .ref 37, .int (Int32.ofInt f44), .ref 38, .ref 39, .ref 40, .ref 41, .ref 42, .ref 43, .ref 44]))) (hK1 : zix w 30 = some (.inl (1, 27305, .inl g30))) (hK2 : zix w 34 = some (.inl (1, 5461, .inl g34))) (hr0 : 0 ≤ f23 ∧ f23 ≤ 5) (hr1 : 0 ≤ a1 ∧ a1 < f23) (hr2 : RMF g30 f23 F) (Q : zQ) (h : ∀ (T34 : Nat → Int32) (w' : zW), wfM (fun j => j ≠ 34) w w' → zix w' 34 = some (.inl (1, 5461, .inl T34)) → (∀ x : Int, 0 ≤ x → x ≤ 5460 → tBy T34 x = ldP (F a1) 5461 x) → Q (none) w') : zCl zTab (d + 1) iX12_findComes [.ref 14, .int (Int32.ofInt a1)] w 0 0 Q := by
  refine zCl_i (M := kX12_findComes) rfl (Nat.le_of_ble_eq_true rfl) fun R hR => ?_
  have fr0 : wfM (fun j => j ≠ 34) w w := wfM_rf _ w
  have nX0 : FX (∀ j : Nat, (j ≠ 34) → j ≠ 34) := fun j hj => by omega
  iterate 2 refine hR (?_ : R (_, _, _, _, _, _))
  have lp2 : ∀ (N : Nat) (tt : Int) (T : Nat → Int32) (w_2 : zW), (wfM (fun j => j ≠ 34) w w_2) → (zix w_2 14 = some (.inr (11, [.int (Int32.ofInt f0), .ref 15, .ref 16, .ref 17, .ref 18, .ref 19, .ref 20, .ref 21, .ref 22, .int (Int32.ofInt f9), .int (Int32.ofInt f10), .int (Int32.ofInt f11), .int (Int32.ofInt f12), .int (Int32.ofInt f13), .long x14, .int (Int32.ofInt f15), .int (Int32.ofInt f16), .int (Int32.ofInt f17), .ref 23, .ref 24, .int (Int32.ofInt f20), .int (Int32.ofInt f21), .int (Int32.ofInt f22), .int (Int32.ofInt f23), .ref 25, .ref 26, .int (Int32.ofInt f26), .ref 27, .int (Int32.ofInt f28), .ref 28, .ref 29, .int (Int32.ofInt f31), .int (Int32.ofInt f32), .int (Int32.ofInt f33), .ref 30, .ref 31, .ref 32, .ref 33, .int (Int32.ofInt f38), .ref 34, .ref 35, .int (Int32.ofInt f41), .ref 36, .ref 37, .int (Int32.ofInt f44), .ref 38, .ref 39, .ref 40, .ref 41, .ref 42, .ref 43, .ref 44]))) → (zix w_2 30 = some (.inl (1, 27305, .inl g30))) → (zix w_2 34 = some (.inl (1, 5461, .inl T))) → (0 ≤ tt ∧ tt ≤ 5461) → (∀ x : Int, 0 ≤ x → x < tt → tBy T x = 0) → (5462 - tt < N) → R (2, [some (.ref 14), some (.int (Int32.ofInt a1)), some (.int (Int32.ofInt tt))], [], w_2, 0, 0) := by
    intro N
    induction N with
    | zero => intros; omega
    | succ N ih2 =>
      intro tt T w_2 fr_2 hC14_2 hC30_2 hC34_2 hf0_2 hp0_2 hN2
      refine hR (?_ : R (_, _, _, _, _, _))
      refine hR (t_c 5461 (by decide) ?_)
      refine hR (j_ge (by omega) (by omega) (fun hc1 => ?_) (fun hc1 => ?_))
      rotate_left
      · skip
        refine hR (?_ : R (_, _, _, _, _, _))
        refine hR (c_get hC14_2 rfl ?_)
        iterate 2 refine hR (?_ : R (_, _, _, _, _, _))
        refine hR (x_ast hC34_2 (by omega) (by omega) (Nat.le_of_ble_eq_true rfl) fun w10 ff10 hC10 => ?_)
        have fr11 := wfM_st fr_2 ff10 nX0
        have hC12 := (ff10.2 14 (by (try dsimp only); decide)).trans hC14_2
        have hC13 := (ff10.2 30 (by (try dsimp only); decide)).trans hC30_2
        refine hR (t_inc ?_)
        refine hR (?_ : R (_, _, _, _, _, _))
        exact ih2 _ _ _ fr11 hC12 hC13 hC10 (by omega) (fun x x0 x1 => by rw [zupI (by exact ⟨by omega, by omega⟩) (by omega) x0]; by_cases c1 : x = tt; (· rw [if_pos c1]); rw [if_neg c1]; exact hp0_2 x x0 (by omega)) (by omega)
      iterate 2 refine hR (?_ : R (_, _, _, _, _, _))
      have lp24 : ∀ (N : Nat) (tt : Int) (U : Nat → Int32) (w_24 : zW), (wfM (fun j => j ≠ 34) w w_24) → (zix w_24 14 = some (.inr (11, [.int (Int32.ofInt f0), .ref 15, .ref 16, .ref 17, .ref 18, .ref 19, .ref 20, .ref 21, .ref 22, .int (Int32.ofInt f9), .int (Int32.ofInt f10), .int (Int32.ofInt f11), .int (Int32.ofInt f12), .int (Int32.ofInt f13), .long x14, .int (Int32.ofInt f15), .int (Int32.ofInt f16), .int (Int32.ofInt f17), .ref 23, .ref 24, .int (Int32.ofInt f20), .int (Int32.ofInt f21), .int (Int32.ofInt f22), .int (Int32.ofInt f23), .ref 25, .ref 26, .int (Int32.ofInt f26), .ref 27, .int (Int32.ofInt f28), .ref 28, .ref 29, .int (Int32.ofInt f31), .int (Int32.ofInt f32), .int (Int32.ofInt f33), .ref 30, .ref 31, .ref 32, .ref 33, .int (Int32.ofInt f38), .ref 34, .ref 35, .int (Int32.ofInt f41), .ref 36, .ref 37, .int (Int32.ofInt f44), .ref 38, .ref 39, .ref 40, .ref 41, .ref 42, .ref 43, .ref 44]))) → (zix w_24 30 = some (.inl (1, 27305, .inl g30))) → (zix w_24 34 = some (.inl (1, 5461, .inl U))) → (0 ≤ tt ∧ tt ≤ 5461) → (∀ x : Int, 0 ≤ x → x ≤ 5460 → tBy U x = ldP (F a1) tt.toNat x) → (5462 - tt < N) → R (24, [some (.ref 14), some (.int (Int32.ofInt a1)), some (.int (Int32.ofInt tt))], [], w_24, 0, 0) := by
        intro N
        induction N with
        | zero => intros; omega
        | succ N ih24 =>
          intro tt U w_24 fr_24 hC14_24 hC30_24 hC34_24 hf0_24 hp0_24 hN24
          refine hR (?_ : R (_, _, _, _, _, _))
          refine hR (t_c 5461 (by decide) ?_)
          refine hR (j_ge (by omega) (by omega) (fun hc2 => ?_) (fun hc2 => ?_))
          · skip
            exact hR (zret_i rfl (Nat.le_refl _) rfl (h _ _ fr_24 hC34_24 (ld_e hp0_24 (by omega))))
          refine hR (?_ : R (_, _, _, _, _, _))
          refine hR (c_get hC14_24 rfl ?_)
          refine hR (?_ : R (_, _, _, _, _, _))
          refine hR (c_get hC14_24 rfl ?_)
          refine hR (t_c 5461 (by decide) ?_)
          refine hR (?_ : R (_, _, _, _, _, _))
          refine hR (t_mul ?_)
          refine hR (?_ : R (_, _, _, _, _, _))
          refine hR (t_add ?_)
          refine hR (c_aldE hC30_24 (by omega) (by omega) (Nat.le_of_ble_eq_true rfl) fun v3 ev3 rv3 => ?_)
          replace ev3 : v3 = tBy g30 ((5461 * a1) + tt) := ev3
          have hf4 := rm_ld (r := a1) (t := tt) hr2 ev3 (by omega) (by omega) (by omega) (by omega)
          refine hR (?_ : R (_, _, _, _, _, _))
          refine hR (c_aldE hC34_24 (by omega) (by omega) (Nat.le_of_ble_eq_true rfl) fun v5 ev5 rv5 => ?_)
          replace ev5 : v5 = tBy U v3 := ev5
          subst ev5
          refine hR (?_ : R (_, _, _, _, _, _))
          refine hR (t_add ?_)
          refine hR (x_ast hC34_24 (by omega) (by omega) (Nat.le_of_ble_eq_true rfl) fun w6 ff6 hC6 => ?_)
          have fr7 := wfM_st fr_24 ff6 nX0
          have hC8 := (ff6.2 14 (by (try dsimp only); decide)).trans hC14_24
          have hC9 := (ff6.2 30 (by (try dsimp only); decide)).trans hC30_24
          refine hR (t_inc ?_)
          refine hR (?_ : R (_, _, _, _, _, _))
          exact ih24 _ _ _ fr7 hC8 hC9 hC6 (by omega) (ld_st hp0_24 (by omega) (by omega) hf4.1 hf4.2) (by omega)
      exact lp24 400000000 _ _ _ fr_2 hC14_2 hC30_2 hC34_2 (by omega) (fun x x0 x1 => (hp0_2 x x0 (by omega)).trans rfl) (by omega)
  exact lp2 400000000 _ _ _ fr0 hK0 hK1 hK2 (by omega) (fun x x0 x1 => by omega) (by omega)
theorem x_unreadR (w : zW) (d : Nat) (a1 : Int) (f0 f9 f10 f11 f12 f13 f15 f16 f17 f20 f21 f22 f23 f26 f28 f31 f32 f33 f38 f41 f44 : Int) (x14 : Int64) (g30 g34 : Nat → Int32) (F : Int → Int → Int) (hK0 : zix w 14 = some (.inr (11, [.int (Int32.ofInt f0), .ref 15, .ref 16, .ref 17, .ref 18, .ref 19, .ref 20, .ref 21, .ref 22, .int (Int32.ofInt f9), .int (Int32.ofInt f10), .int (Int32.ofInt f11), .int (Int32.ofInt f12), .int (Int32.ofInt f13), .long x14, .int (Int32.ofInt f15), .int (Int32.ofInt f16), .int (Int32.ofInt f17), .ref 23, .ref 24, .int (Int32.ofInt f20), .int (Int32.ofInt f21), .int (Int32.ofInt f22), .int (Int32.ofInt f23), .ref 25, .ref 26, .int (Int32.ofInt f26), .ref 27, .int (Int32.ofInt f28), .ref 28, .ref 29, .int (Int32.ofInt f31), .int (Int32.ofInt f32), .int (Int32.ofInt f33), .ref 30, .ref 31, .ref 32, .ref 33, .int (Int32.ofInt f38), .ref 34, .ref 35, .int (Int32.ofInt f41), .ref 36, .ref 37, .int (Int32.ofInt f44), .ref 38, .ref 39, .ref 40, .ref 41, .ref 42, .ref 43, .ref 44]))) (hK1 : zix w 30 = some (.inl (1, 27305, .inl g30))) (hK2 : zix w 34 = some (.inl (1, 5461, .inl g34))) (hr0 : 0 ≤ f23 ∧ f23 ≤ 5) (hr1 : 0 ≤ a1 ∧ a1 < f23) (hr2 : RMF g30 f23 F) (Q : zQ) (h : ∀ (v : Int) (T34 : Nat → Int32) (w' : zW), wfM (fun j => j ≠ 34) w w' → zix w' 34 = some (.inl (1, 5461, .inl T34)) → (ISV v (urN (F a1))) → Q (some (.int (Int32.ofInt v))) w') : zCl zTab (d + 2) iX12_unread [.ref 14, .int (Int32.ofInt a1)] w 0 0 Q := by
  refine zCl_i (M := kX12_unread) rfl (Nat.le_of_ble_eq_true rfl) fun R hR => ?_
  have fr0 : wfM (fun j => j ≠ 34) w w := wfM_rf _ w
  have nX0 : FX (∀ j : Nat, (j ≠ 34) → (j ≠ 34)) := fun j hj => by omega
  iterate 2 refine hR (?_ : R (_, _, _, _, _, _))
  refine hR (c_obj hK0 (zcall_i 0 0 (Nat.le_of_ble_eq_true rfl) (Nat.le_of_ble_eq_true rfl) (x_findComesR _ _ _ _ _ _ _ _ _ _ _ _ _ _ _ _ _ _ _ _ _ _ _ _ _ _ _ _ hK0 hK1 hK2 (by omega) (by omega) hr2 _ fun T34_1 w2 gg3 hC4 hp5 => ?_)))
  have fr6 := wfM_tr fr0 gg3 nX0
  have hC7 := (gg3.2 14 (by (try dsimp only); decide)).trans hK0
  have hC8 := (gg3.2 30 (by (try dsimp only); decide)).trans hK1
  refine (?_ : R (_, _, [], w2, 0, 0))
  have hL := hp5
  iterate 4 refine hR (?_ : R (_, _, _, _, _, _))
  have lp9 : ∀ (N : Nat) (sv : Int) (tt : Int), (0 ≤ sv ∧ sv ≤ 5461) → (0 ≤ tt ∧ tt ≤ 5461) → (sv = (cntP (fun t => decide (ldP (F a1) 5461 (t : Int) = 0)) tt.toNat : Int)) → (sv ≤ tt) → (5462 - tt < N) → R (9, [some (.ref 14), some (.int (Int32.ofInt a1)), some (.int (Int32.ofInt sv)), some (.int (Int32.ofInt tt))], [], w2, 0, 0) := by
    intro N
    induction N with
    | zero => intros; omega
    | succ N ih9 =>
      intro sv tt hf0_9 hf1_9 hp0_9 hp1_9 hN9
      refine hR (?_ : R (_, _, _, _, _, _))
      refine hR (t_c 5461 (by decide) ?_)
      refine hR (j_ge (by omega) (by omega) (fun hc9 => ?_) (fun hc9 => ?_))
      · skip
        refine hR (?_ : R (_, _, _, _, _, _))
        exact hR (zret_i rfl (Nat.le_refl _) trivial (h _ _ _ fr6 hC4 (ur_e hp0_9 (by omega))))
      iterate 2 refine hR (?_ : R (_, _, _, _, _, _))
      refine hR (c_get hC7 rfl ?_)
      refine hR (?_ : R (_, _, _, _, _, _))
      refine hR (c_aldE hC4 (by omega) (by omega) (Nat.le_of_ble_eq_true rfl) fun v10 ev10 rv10 => ?_)
      replace ev10 : v10 = tBy T34_1 tt := ev10
      subst ev10
      have hlt := hL tt (by omega) (by omega)
      refine hR (k_ne (by omega) (fun hc11 => ?_) (fun hc11 => ?_))
      · skip
        refine hR (?_ : R (_, _, _, _, _, _))
        refine hR (t_add ?_)
        refine hR (?_ : R (_, _, _, _, _, _))
        refine hR (t_inc ?_)
        refine hR (?_ : R (_, _, _, _, _, _))
        exact ih9 _ _ (by omega) (by omega) (cn_2 (by omega) hp0_9 (z0_f (by omega) (by omega))) (by omega) (by omega)
      iterate 2 refine hR (?_ : R (_, _, _, _, _, _))
      refine hR (t_add ?_)
      refine hR (?_ : R (_, _, _, _, _, _))
      refine hR (t_inc ?_)
      refine hR (?_ : R (_, _, _, _, _, _))
      exact ih9 _ _ (by omega) (by omega) (cn_1 (by omega) hp0_9 (z0_t (by omega) (by omega))) (by omega) (by omega)
  exact lp9 400000000 _ _ (by omega) (by omega) cn_0 (by omega) (by omega)
theorem x_fallAwayR (w : zW) (d : Nat) (a1 : Int) (f0 f9 f10 f11 f12 f13 f15 f16 f17 f20 f21 f22 f23 f26 f28 f31 f32 f33 f38 f41 f44 : Int) (x14 : Int64) (g30 g33 g34 : Nat → Int32) (F : Int → Int → Int) (hK0 : zix w 14 = some (.inr (11, [.int (Int32.ofInt f0), .ref 15, .ref 16, .ref 17, .ref 18, .ref 19, .ref 20, .ref 21, .ref 22, .int (Int32.ofInt f9), .int (Int32.ofInt f10), .int (Int32.ofInt f11), .int (Int32.ofInt f12), .int (Int32.ofInt f13), .long x14, .int (Int32.ofInt f15), .int (Int32.ofInt f16), .int (Int32.ofInt f17), .ref 23, .ref 24, .int (Int32.ofInt f20), .int (Int32.ofInt f21), .int (Int32.ofInt f22), .int (Int32.ofInt f23), .ref 25, .ref 26, .int (Int32.ofInt f26), .ref 27, .int (Int32.ofInt f28), .ref 28, .ref 29, .int (Int32.ofInt f31), .int (Int32.ofInt f32), .int (Int32.ofInt f33), .ref 30, .ref 31, .ref 32, .ref 33, .int (Int32.ofInt f38), .ref 34, .ref 35, .int (Int32.ofInt f41), .ref 36, .ref 37, .int (Int32.ofInt f44), .ref 38, .ref 39, .ref 40, .ref 41, .ref 42, .ref 43, .ref 44]))) (hK1 : zix w 30 = some (.inl (1, 27305, .inl g30))) (hK2 : zix w 33 = some (.inl (1, 5461, .inl g33))) (hK3 : zix w 34 = some (.inl (1, 5461, .inl g34))) (hr0 : 0 ≤ f23 ∧ f23 ≤ 5) (hr1 : 0 ≤ a1 ∧ a1 < f23) (hr2 : RMF g30 f23 F) (Q : zQ) (h : ∀ (v : Int) (T33 T34 : Nat → Int32) (w' : zW), wfM (fun j => j ≠ 33 ∧ j ≠ 34) w w' → zix w' 33 = some (.inl (1, 5461, .inl T33)) → zix w' 34 = some (.inl (1, 5461, .inl T34)) → (TQR (flF (F a1)) v T33 T34) → (0 ≤ v ∧ v ≤ 5461) → Q (some (.int (Int32.ofInt v))) w') : zCl zTab (d + 2) iX12_fallAway [.ref 14, .int (Int32.ofInt a1)] w 0 0 Q := by
  refine zCl_i (M := kX12_fallAway) rfl (Nat.le_of_ble_eq_true rfl) fun R hR => ?_
  have fr0 : wfM (fun j => j ≠ 33 ∧ j ≠ 34) w w := wfM_rf _ w
  have hG := fo_g (rm_ok hr2) hr1.1 hr1.2
  have nX0 : FX (∀ j : Nat, (j ≠ 33 ∧ j ≠ 34) → (j ≠ 34)) := fun j hj => by omega
  have nX1 : FX (∀ j : Nat, (j ≠ 33 ∧ j ≠ 34) → j ≠ 34) := fun j hj => by omega
  have nX2 : FX (∀ j : Nat, (j ≠ 33 ∧ j ≠ 34) → j ≠ 33) := fun j hj => by omega
  iterate 2 refine hR (?_ : R (_, _, _, _, _, _))
  refine hR (c_obj hK0 (zcall_i 0 0 (Nat.le_of_ble_eq_true rfl) (Nat.le_of_ble_eq_true rfl) (x_findComesR _ _ _ _ _ _ _ _ _ _ _ _ _ _ _ _ _ _ _ _ _ _ _ _ _ _ _ _ hK0 hK1 hK3 (by omega) (by omega) hr2 _ fun T34_1 w2 gg3 hC4 hp5 => ?_)))
  have fr6 := wfM_tr fr0 gg3 nX0
  have hC7 := (gg3.2 14 (by (try dsimp only); decide)).trans hK0
  have hC8 := (gg3.2 30 (by (try dsimp only); decide)).trans hK1
  have hC9 := (gg3.2 33 (by (try dsimp only); decide)).trans hK2
  refine (?_ : R (_, _, [], w2, 0, 0))
  have hL := hp5
  iterate 4 refine hR (?_ : R (_, _, _, _, _, _))
  have lp9 : ∀ (N : Nat) (sv : Int) (tt : Int) (T : Nat → Int32) (w_9 : zW), (wfM (fun j => j ≠ 33 ∧ j ≠ 34) w w_9) → (zix w_9 14 = some (.inr (11, [.int (Int32.ofInt f0), .ref 15, .ref 16, .ref 17, .ref 18, .ref 19, .ref 20, .ref 21, .ref 22, .int (Int32.ofInt f9), .int (Int32.ofInt f10), .int (Int32.ofInt f11), .int (Int32.ofInt f12), .int (Int32.ofInt f13), .long x14, .int (Int32.ofInt f15), .int (Int32.ofInt f16), .int (Int32.ofInt f17), .ref 23, .ref 24, .int (Int32.ofInt f20), .int (Int32.ofInt f21), .int (Int32.ofInt f22), .int (Int32.ofInt f23), .ref 25, .ref 26, .int (Int32.ofInt f26), .ref 27, .int (Int32.ofInt f28), .ref 28, .ref 29, .int (Int32.ofInt f31), .int (Int32.ofInt f32), .int (Int32.ofInt f33), .ref 30, .ref 31, .ref 32, .ref 33, .int (Int32.ofInt f38), .ref 34, .ref 35, .int (Int32.ofInt f41), .ref 36, .ref 37, .int (Int32.ofInt f44), .ref 38, .ref 39, .ref 40, .ref 41, .ref 42, .ref 43, .ref 44]))) → (zix w_9 30 = some (.inl (1, 27305, .inl g30))) → (zix w_9 33 = some (.inl (1, 5461, .inl T))) → (zix w_9 34 = some (.inl (1, 5461, .inl T34_1))) → (0 ≤ sv ∧ sv ≤ 5461) → (0 ≤ tt ∧ tt ≤ 5461) → (sv = (zlN (ldP (F a1) 5461) tt.toNat).1 ∧ ∀ j : Int, 0 ≤ j → j < sv → tBy T j = (zlN (ldP (F a1) 5461) tt.toNat).2 j) → (sv ≤ tt) → (5462 - tt < N) → R (9, [some (.ref 14), some (.int (Int32.ofInt a1)), some (.int (Int32.ofInt sv)), some (.int (Int32.ofInt tt)), none], [], w_9, 0, 0) := by
    intro N
    induction N with
    | zero => intros; omega
    | succ N ih9 =>
      intro sv tt T w_9 fr_9 hC14_9 hC30_9 hC33_9 hC34_9 hf0_9 hf1_9 hp0_9 hp1_9 hN9
      refine hR (?_ : R (_, _, _, _, _, _))
      refine hR (t_c 5461 (by decide) ?_)
      refine hR (j_ge (by omega) (by omega) (fun hc10 => ?_) (fun hc10 => ?_))
      rotate_left
      · skip
        refine hR (?_ : R (_, _, _, _, _, _))
        refine hR (c_get hC14_9 rfl ?_)
        refine hR (?_ : R (_, _, _, _, _, _))
        refine hR (c_aldE hC34_9 (by omega) (by omega) (Nat.le_of_ble_eq_true rfl) fun v28 ev28 rv28 => ?_)
        replace ev28 : v28 = tBy T34_1 tt := ev28
        subst ev28
        refine hR (k_ne (by omega) (fun hc29 => ?_) (fun hc29 => ?_))
        · skip
          refine hR (t_inc ?_)
          refine hR (?_ : R (_, _, _, _, _, _))
          exact ih9 _ _ _ _ fr_9 hC14_9 hC30_9 hC33_9 hC34_9 (by omega) (by omega) (zq_n hp0_9 (by omega) (by rw [← hL tt (by omega) (by omega)]; omega)) (by omega) (by omega)
        refine hR (?_ : R (_, _, _, _, _, _))
        refine hR (c_get hC14_9 rfl ?_)
        iterate 2 refine hR (?_ : R (_, _, _, _, _, _))
        refine hR (x_ast hC33_9 (by omega) (by omega) (Nat.le_of_ble_eq_true rfl) fun w30 ff30 hC30 => ?_)
        have fr31 := wfM_st fr_9 ff30 nX2
        have hC32 := (ff30.2 14 (by (try dsimp only); decide)).trans hC14_9
        have hC33 := (ff30.2 30 (by (try dsimp only); decide)).trans hC30_9
        have hC34 := (ff30.2 34 (by (try dsimp only); decide)).trans hC34_9
        refine hR (t_inc ?_)
        refine hR (t_inc ?_)
        refine hR (?_ : R (_, _, _, _, _, _))
        exact ih9 _ _ _ _ fr31 hC32 hC33 hC30 hC34 (by omega) (by omega) (zq_y hp0_9 (by omega) (by omega) (by omega) (by rw [← hL tt (by omega) (by omega)]; omega)) (by omega) (by omega)
      iterate 2 refine hR (?_ : R (_, _, _, _, _, _))
      have lp43 : ∀ (N : Nat) (sz : Int) (ii : Int) (o4_43 : Option Value) (O L : Nat → Int32) (w_43 : zW), (zc2 o4_43 = false) → (wfM (fun j => j ≠ 33 ∧ j ≠ 34) w w_43) → (zix w_43 14 = some (.inr (11, [.int (Int32.ofInt f0), .ref 15, .ref 16, .ref 17, .ref 18, .ref 19, .ref 20, .ref 21, .ref 22, .int (Int32.ofInt f9), .int (Int32.ofInt f10), .int (Int32.ofInt f11), .int (Int32.ofInt f12), .int (Int32.ofInt f13), .long x14, .int (Int32.ofInt f15), .int (Int32.ofInt f16), .int (Int32.ofInt f17), .ref 23, .ref 24, .int (Int32.ofInt f20), .int (Int32.ofInt f21), .int (Int32.ofInt f22), .int (Int32.ofInt f23), .ref 25, .ref 26, .int (Int32.ofInt f26), .ref 27, .int (Int32.ofInt f28), .ref 28, .ref 29, .int (Int32.ofInt f31), .int (Int32.ofInt f32), .int (Int32.ofInt f33), .ref 30, .ref 31, .ref 32, .ref 33, .int (Int32.ofInt f38), .ref 34, .ref 35, .int (Int32.ofInt f41), .ref 36, .ref 37, .int (Int32.ofInt f44), .ref 38, .ref 39, .ref 40, .ref 41, .ref 42, .ref 43, .ref 44]))) → (zix w_43 30 = some (.inl (1, 27305, .inl g30))) → (zix w_43 33 = some (.inl (1, 5461, .inl O))) → (zix w_43 34 = some (.inl (1, 5461, .inl L))) → (0 ≤ sz ∧ sz ≤ 5461) → (0 ≤ ii ∧ ii ≤ 5461) → (TQR (flI (F a1) ii.toNat) sz O L) → (5462 - ii < N) → R (43, [some (.ref 14), some (.int (Int32.ofInt a1)), some (.int (Int32.ofInt sz)), some (.int (Int32.ofInt ii)), o4_43], [], w_43, 0, 0) := by
        intro N
        induction N with
        | zero => intros; omega
        | succ N ih43 =>
          intro sz ii o4_43 O L w_43 hzo4_43 fr_43 hC14_43 hC30_43 hC33_43 hC34_43 hf0_43 hf1_43 hp0_43 hN43
          iterate 2 refine hR (?_ : R (_, _, _, _, _, _))
          refine hR (j_ge (by omega) (by omega) (fun hc11 => ?_) (fun hc11 => ?_))
          · skip
            refine hR (?_ : R (_, _, _, _, _, _))
            exact hR (zret_i rfl (Nat.le_refl _) trivial (h _ _ _ _ fr_43 hC33_43 hC34_43 (tqr_e hp0_43 (by omega) (by omega) (by omega)) (by omega)))
          refine hR (?_ : R (_, _, _, _, _, _))
          refine hR (c_get hC14_43 rfl ?_)
          refine hR (t_c 5461 (by decide) ?_)
          refine hR (?_ : R (_, _, _, _, _, _))
          refine hR (t_mul ?_)
          refine hR (?_ : R (_, _, _, _, _, _))
          refine hR (c_get hC14_43 rfl ?_)
          refine hR (?_ : R (_, _, _, _, _, _))
          refine hR (c_aldE hC33_43 (by omega) (by omega) (Nat.le_of_ble_eq_true rfl) fun v12 ev12 rv12 => ?_)
          replace ev12 : v12 = tBy O ii := ev12
          subst ev12
          have hot := tqr_o hG hp0_43 (by omega) (by omega)
          refine hR (t_add ?_)
          refine hR (c_aldE hC30_43 (by omega) (by omega) (Nat.le_of_ble_eq_true rfl) fun v13 ev13 rv13 => ?_)
          replace ev13 : v13 = tBy g30 ((5461 * a1) + (tBy O ii)) := ev13
          have hf14 := rm_ld (r := a1) (t := (tBy O ii)) hr2 ev13 (by omega) (by omega) (by omega) (by omega)
          have hlv := tqr_l hG hp0_43 (by omega) (by omega) hf14.1
          have hts := tqr_s hG hp0_43 (by omega) (by omega) rfl hf14.1
          iterate 2 refine hR (?_ : R (_, _, _, _, _, _))
          refine hR (c_get hC14_43 rfl ?_)
          iterate 2 refine hR (?_ : R (_, _, _, _, _, _))
          refine hR (c_aldE hC34_43 (by omega) (by omega) (Nat.le_of_ble_eq_true rfl) fun v15 ev15 rv15 => ?_)
          replace ev15 : v15 = tBy L v13 := ev15
          subst ev15
          refine hR (?_ : R (_, _, _, _, _, _))
          refine hR (t_sub ?_)
          refine hR (x_ast hC34_43 (by omega) (by omega) (Nat.le_of_ble_eq_true rfl) fun w16 ff16 hC16 => ?_)
          have fr17 := wfM_st fr_43 ff16 nX1
          have hC18 := (ff16.2 14 (by (try dsimp only); decide)).trans hC14_43
          have hC19 := (ff16.2 30 (by (try dsimp only); decide)).trans hC30_43
          have hC20 := (ff16.2 33 (by (try dsimp only); decide)).trans hC33_43
          refine hR (?_ : R (_, _, _, _, _, _))
          refine hR (c_get hC18 rfl ?_)
          refine hR (?_ : R (_, _, _, _, _, _))
          refine hR (c_aldE hC16 (by omega) (by omega) (Nat.le_of_ble_eq_true rfl) fun v21 ev21 rv21 => ?_)
          replace ev21 : v21 = tBy (upd L (v13 : Int).toNat (Int32.ofInt ((tBy L v13) - 1))) v13 := ev21
          subst ev21
          have hll := up_v (g := L) (i := v13) (e := tBy L v13 - 1) (by exact ⟨by omega, by omega⟩) (by omega)
          refine hR (k_ne (by omega) (fun hc22 => ?_) (fun hc22 => ?_))
          · skip
            refine hR (t_inc ?_)
            refine hR (?_ : R (_, _, _, _, _, _))
            exact ih43 _ _ _ _ _ _ (by rfl) fr17 hC18 hC19 hC20 hC16 (by omega) (by omega) (hts.1 (by omega)) (by omega)
          have hsz := (hts.2 (by omega)).1
          refine hR (?_ : R (_, _, _, _, _, _))
          refine hR (c_get hC18 rfl ?_)
          iterate 2 refine hR (?_ : R (_, _, _, _, _, _))
          refine hR (x_ast hC20 (by omega) (by omega) (Nat.le_of_ble_eq_true rfl) fun w23 ff23 hC23 => ?_)
          have fr24 := wfM_st fr17 ff23 nX2
          have hC25 := (ff23.2 14 (by (try dsimp only); decide)).trans hC18
          have hC26 := (ff23.2 30 (by (try dsimp only); decide)).trans hC19
          have hC27 := (ff23.2 34 (by (try dsimp only); decide)).trans hC16
          refine hR (t_inc ?_)
          refine hR (t_inc ?_)
          refine hR (?_ : R (_, _, _, _, _, _))
          exact ih43 _ _ _ _ _ _ (by rfl) fr24 hC25 hC26 hC23 hC27 (by omega) (by omega) (hts.2 (by omega)).2 (by omega)
      exact lp43 400000000 _ _ _ _ _ _ (by rfl) fr_9 hC14_9 hC30_9 hC33_9 hC34_9 (by omega) (by omega) (tqr_0 hL (zq_e hp0_9 (by omega))) (by omega)
  exact lp9 400000000 _ _ _ _ fr6 hC7 hC8 hC9 hC4 (by omega) (by omega) ⟨rfl, fun j j0 j1 => by omega⟩ (by omega) (by omega)
theorem x_tailR (w : zW) (d : Nat) (a1 a2 : Int) (f0 f9 f10 f11 f12 f13 f15 f16 f17 f20 f21 f22 f23 f26 f28 f31 f32 f33 f38 f41 f44 : Int) (x14 : Int64) (g30 g31 g33 gl : Nat → Int32) (F : Int → Int → Int) (s : FS) (hK0 : zix w 14 = some (.inr (11, [.int (Int32.ofInt f0), .ref 15, .ref 16, .ref 17, .ref 18, .ref 19, .ref 20, .ref 21, .ref 22, .int (Int32.ofInt f9), .int (Int32.ofInt f10), .int (Int32.ofInt f11), .int (Int32.ofInt f12), .int (Int32.ofInt f13), .long x14, .int (Int32.ofInt f15), .int (Int32.ofInt f16), .int (Int32.ofInt f17), .ref 23, .ref 24, .int (Int32.ofInt f20), .int (Int32.ofInt f21), .int (Int32.ofInt f22), .int (Int32.ofInt f23), .ref 25, .ref 26, .int (Int32.ofInt f26), .ref 27, .int (Int32.ofInt f28), .ref 28, .ref 29, .int (Int32.ofInt f31), .int (Int32.ofInt f32), .int (Int32.ofInt f33), .ref 30, .ref 31, .ref 32, .ref 33, .int (Int32.ofInt f38), .ref 34, .ref 35, .int (Int32.ofInt f41), .ref 36, .ref 37, .int (Int32.ofInt f44), .ref 38, .ref 39, .ref 40, .ref 41, .ref 42, .ref 43, .ref 44]))) (hK1 : zix w 30 = some (.inl (1, 27305, .inl g30))) (hK2 : zix w 31 = some (.inl (1, 5461, .inl g31))) (hK3 : zix w 33 = some (.inl (1, 5461, .inl g33))) (hr0 : 0 ≤ f23 ∧ f23 ≤ 5) (hr1 : 0 ≤ a1 ∧ a1 < f23) (hr2 : RMF g30 f23 F) (hr3 : FSK (F a1) 5461 s) (hr4 : TQR s a2 g33 gl) (hr5 : 0 ≤ a2 ∧ a2 ≤ 5461) (Q : zQ) (h : ∀ (v : Int) (T31 : Nat → Int32) (w' : zW), wfM (fun j => j ≠ 31) w w' → zix w' 31 = some (.inl (1, 5461, .inl T31)) → (ISV v (tlI (F a1) s.2.1 s.1 s.1.toNat).2) → Q (some (.int (Int32.ofInt v))) w') : zCl zTab (d + 2) iX12_tail [.ref 14, .int (Int32.ofInt a1), .int (Int32.ofInt a2)] w 0 0 Q := by
  refine zCl_i (M := kX12_tail) rfl (Nat.le_of_ble_eq_true rfl) fun R hR => ?_
  have fr0 : wfM (fun j => j ≠ 31) w w := wfM_rf _ w
  have hG := fo_g (rm_ok hr2) hr1.1 hr1.2
  have hk := hr3
  have he := hr4.1
  have nX0 : FX (∀ j : Nat, (j ≠ 31) → j ≠ 31) := fun j hj => by omega
  iterate 4 refine hR (?_ : R (_, _, _, _, _, _))
  have lp5 : ∀ (N : Nat) (tt : Int) (U : Nat → Int32) (w_5 : zW), (wfM (fun j => j ≠ 31) w w_5) → (zix w_5 14 = some (.inr (11, [.int (Int32.ofInt f0), .ref 15, .ref 16, .ref 17, .ref 18, .ref 19, .ref 20, .ref 21, .ref 22, .int (Int32.ofInt f9), .int (Int32.ofInt f10), .int (Int32.ofInt f11), .int (Int32.ofInt f12), .int (Int32.ofInt f13), .long x14, .int (Int32.ofInt f15), .int (Int32.ofInt f16), .int (Int32.ofInt f17), .ref 23, .ref 24, .int (Int32.ofInt f20), .int (Int32.ofInt f21), .int (Int32.ofInt f22), .int (Int32.ofInt f23), .ref 25, .ref 26, .int (Int32.ofInt f26), .ref 27, .int (Int32.ofInt f28), .ref 28, .ref 29, .int (Int32.ofInt f31), .int (Int32.ofInt f32), .int (Int32.ofInt f33), .ref 30, .ref 31, .ref 32, .ref 33, .int (Int32.ofInt f38), .ref 34, .ref 35, .int (Int32.ofInt f41), .ref 36, .ref 37, .int (Int32.ofInt f44), .ref 38, .ref 39, .ref 40, .ref 41, .ref 42, .ref 43, .ref 44]))) → (zix w_5 30 = some (.inl (1, 27305, .inl g30))) → (zix w_5 31 = some (.inl (1, 5461, .inl U))) → (zix w_5 33 = some (.inl (1, 5461, .inl g33))) → (0 ≤ tt ∧ tt ≤ 5461) → (∀ x : Int, 0 ≤ x → x < tt → tBy U x = 0) → (5462 - tt < N) → R (5, [some (.ref 14), some (.int (Int32.ofInt a1)), some (.int (Int32.ofInt a2)), some (.int (Int32.ofInt 0)), some (.int (Int32.ofInt tt))], [], w_5, 0, 0) := by
    intro N
    induction N with
    | zero => intros; omega
    | succ N ih5 =>
      intro tt U w_5 fr_5 hC14_5 hC30_5 hC31_5 hC33_5 hf0_5 hp0_5 hN5
      refine hR (?_ : R (_, _, _, _, _, _))
      refine hR (t_c 5461 (by decide) ?_)
      refine hR (j_ge (by omega) (by omega) (fun hc1 => ?_) (fun hc1 => ?_))
      rotate_left
      · skip
        refine hR (?_ : R (_, _, _, _, _, _))
        refine hR (c_get hC14_5 rfl ?_)
        iterate 2 refine hR (?_ : R (_, _, _, _, _, _))
        refine hR (x_ast hC31_5 (by omega) (by omega) (Nat.le_of_ble_eq_true rfl) fun w17 ff17 hC17 => ?_)
        have fr18 := wfM_st fr_5 ff17 nX0
        have hC19 := (ff17.2 14 (by (try dsimp only); decide)).trans hC14_5
        have hC20 := (ff17.2 30 (by (try dsimp only); decide)).trans hC30_5
        have hC21 := (ff17.2 33 (by (try dsimp only); decide)).trans hC33_5
        refine hR (t_inc ?_)
        refine hR (?_ : R (_, _, _, _, _, _))
        exact ih5 _ _ _ fr18 hC19 hC20 hC17 hC21 (by omega) (fun x x0 x1 => by rw [zupI (by exact ⟨by omega, by omega⟩) (by omega) x0]; by_cases c1 : x = tt; (· rw [if_pos c1]); rw [if_neg c1]; exact hp0_5 x x0 (by omega)) (by omega)
      iterate 2 refine hR (?_ : R (_, _, _, _, _, _))
      refine hR (t_sub ?_)
      refine hR (?_ : R (_, _, _, _, _, _))
      have lp32 : ∀ (N : Nat) (best : Int) (jj : Int) (T : Nat → Int32) (w_32 : zW), (wfM (fun j => j ≠ 31) w w_32) → (zix w_32 14 = some (.inr (11, [.int (Int32.ofInt f0), .ref 15, .ref 16, .ref 17, .ref 18, .ref 19, .ref 20, .ref 21, .ref 22, .int (Int32.ofInt f9), .int (Int32.ofInt f10), .int (Int32.ofInt f11), .int (Int32.ofInt f12), .int (Int32.ofInt f13), .long x14, .int (Int32.ofInt f15), .int (Int32.ofInt f16), .int (Int32.ofInt f17), .ref 23, .ref 24, .int (Int32.ofInt f20), .int (Int32.ofInt f21), .int (Int32.ofInt f22), .int (Int32.ofInt f23), .ref 25, .ref 26, .int (Int32.ofInt f26), .ref 27, .int (Int32.ofInt f28), .ref 28, .ref 29, .int (Int32.ofInt f31), .int (Int32.ofInt f32), .int (Int32.ofInt f33), .ref 30, .ref 31, .ref 32, .ref 33, .int (Int32.ofInt f38), .ref 34, .ref 35, .int (Int32.ofInt f41), .ref 36, .ref 37, .int (Int32.ofInt f44), .ref 38, .ref 39, .ref 40, .ref 41, .ref 42, .ref 43, .ref 44]))) → (zix w_32 30 = some (.inl (1, 27305, .inl g30))) → (zix w_32 31 = some (.inl (1, 5461, .inl T))) → (zix w_32 33 = some (.inl (1, 5461, .inl g33))) → (0 ≤ best ∧ best ≤ 5461) → (-1 ≤ jj ∧ jj ≤ 5460) → (TLP (F a1) s.2.1 s.1 jj best T) → (jj < a2) → (jj + 2 < N) → R (32, [some (.ref 14), some (.int (Int32.ofInt a1)), some (.int (Int32.ofInt a2)), some (.int (Int32.ofInt best)), some (.int (Int32.ofInt jj))], [], w_32, 0, 0) := by
        intro N
        induction N with
        | zero => intros; omega
        | succ N ih32 =>
          intro best jj T w_32 fr_32 hC14_32 hC30_32 hC31_32 hC33_32 hf0_32 hf1_32 hp0_32 hp1_32 hN32
          refine hR (?_ : R (_, _, _, _, _, _))
          refine hR (k_lt (by omega) (fun hc2 => ?_) (fun hc2 => ?_))
          · skip
            refine hR (?_ : R (_, _, _, _, _, _))
            exact hR (zret_i rfl (Nat.le_refl _) trivial (h _ _ _ fr_32 hC31_32 (tlp_eS hp0_32 (by omega))))
          refine hR (?_ : R (_, _, _, _, _, _))
          refine hR (c_get hC14_32 rfl ?_)
          refine hR (?_ : R (_, _, _, _, _, _))
          refine hR (c_get hC14_32 rfl ?_)
          refine hR (?_ : R (_, _, _, _, _, _))
          refine hR (c_aldE hC33_32 (by omega) (by omega) (Nat.le_of_ble_eq_true rfl) fun v3 ev3 rv3 => ?_)
          replace ev3 : v3 = tBy g33 jj := ev3
          subst ev3
          have hot : 0 ≤ tBy g33 jj ∧ tBy g33 jj ≤ 5460 := by rw [hr4.2.1 jj (by omega) (by omega)]; exact hk.2.1 jj (by omega) (by omega)
          refine hR (?_ : R (_, _, _, _, _, _))
          refine hR (c_get hC14_32 rfl ?_)
          refine hR (?_ : R (_, _, _, _, _, _))
          refine hR (c_get hC14_32 rfl ?_)
          refine hR (t_c 5461 (by decide) ?_)
          refine hR (?_ : R (_, _, _, _, _, _))
          refine hR (t_mul ?_)
          refine hR (?_ : R (_, _, _, _, _, _))
          refine hR (c_get hC14_32 rfl ?_)
          refine hR (?_ : R (_, _, _, _, _, _))
          refine hR (c_aldE hC33_32 (by omega) (by omega) (Nat.le_of_ble_eq_true rfl) fun v4 ev4 rv4 => ?_)
          replace ev4 : v4 = tBy g33 jj := ev4
          subst ev4
          refine hR (t_add ?_)
          refine hR (c_aldE hC30_32 (by omega) (by omega) (Nat.le_of_ble_eq_true rfl) fun v5 ev5 rv5 => ?_)
          replace ev5 : v5 = tBy g30 ((5461 * a1) + (tBy g33 jj)) := ev5
          have hf6 := rm_ld (r := a1) (t := (tBy g33 jj)) hr2 ev5 (by omega) (by omega) (by omega) (by omega)
          have htb := tlp_b hk hp0_32 (by omega) (by omega)
          have htv := htb.2 v5 (by omega) (by omega)
          refine hR (c_aldE hC31_32 (by omega) (by omega) (Nat.le_of_ble_eq_true rfl) fun v7 ev7 rv7 => ?_)
          replace ev7 : v7 = tBy T v5 := ev7
          subst ev7
          refine hR (?_ : R (_, _, _, _, _, _))
          refine hR (t_add ?_)
          refine hR (x_ast hC31_32 (by omega) (by omega) (Nat.le_of_ble_eq_true rfl) fun w8 ff8 hC8 => ?_)
          have fr9 := wfM_st fr_32 ff8 nX0
          have hC10 := (ff8.2 14 (by (try dsimp only); decide)).trans hC14_32
          have hC11 := (ff8.2 30 (by (try dsimp only); decide)).trans hC30_32
          have hC12 := (ff8.2 33 (by (try dsimp only); decide)).trans hC33_32
          iterate 2 refine hR (?_ : R (_, _, _, _, _, _))
          refine hR (c_get hC10 rfl ?_)
          refine hR (?_ : R (_, _, _, _, _, _))
          refine hR (c_get hC10 rfl ?_)
          refine hR (?_ : R (_, _, _, _, _, _))
          refine hR (c_aldE hC12 (by omega) (by omega) (Nat.le_of_ble_eq_true rfl) fun v13 ev13 rv13 => ?_)
          replace ev13 : v13 = tBy g33 jj := ev13
          subst ev13
          refine hR (c_aldE hC8 (by omega) (by omega) (Nat.le_of_ble_eq_true rfl) fun v14 ev14 rv14 => ?_)
          replace ev14 : v14 = tBy (upd T (tBy g33 jj : Int).toNat (Int32.ofInt ((tBy T v5) + 1))) (tBy g33 jj) := ev14
          subst ev14
          have hfl := up_v (g := T) (i := tBy g33 jj) (e := tBy T v5 + 1) (by exact ⟨by omega, by omega⟩) (by omega)
          refine hR (zcall_i 0 0 (Nat.le_of_ble_eq_true rfl) (Nat.le_of_ble_eq_true rfl) (m_greater _ best (tBy (upd T (tBy g33 jj : Int).toNat (Int32.ofInt ((tBy T v5) + 1))) (tBy g33 jj)) _ (by omega) (by omega) _ fun v15 hp16 => ?_))
          refine (?_ : R (_, _, .int (Int32.ofInt v15) :: [], w8, 0, 0))
          have htl := tlp_s (m := v15) hk hr4 hp0_32 (by omega) (by omega) hf6.1 (by omega) (by omega)
          have htb2 := (tlp_b hk htl (by omega) (by omega)).1
          refine hR (?_ : R (_, _, _, _, _, _))
          refine hR (t_inc ?_)
          refine hR (?_ : R (_, _, _, _, _, _))
          exact ih32 _ _ _ _ fr9 hC10 hC11 hC8 hC12 (by omega) (by omega) htl (by omega) (by omega)
      exact lp32 400000000 _ _ _ _ fr_5 hC14_5 hC30_5 hC31_5 hC33_5 (by omega) (by omega) (by rw [he]; exact tlp_0 (fun x x0 x1 => hp0_5 x x0 (by omega))) (by omega) (by omega)
  exact lp5 400000000 _ _ _ fr0 hK0 hK1 hK2 hK3 (by omega) (fun x x0 x1 => by omega) (by omega)
theorem x_longestR (w : zW) (d : Nat) (a1 a2 : Int) (f0 f9 f10 f11 f12 f13 f15 f16 f17 f20 f21 f22 f23 f26 f28 f31 f32 f33 f38 f41 f44 : Int) (x14 : Int64) (g30 g34 : Nat → Int32) (F : Int → Int → Int) (hK0 : zix w 14 = some (.inr (11, [.int (Int32.ofInt f0), .ref 15, .ref 16, .ref 17, .ref 18, .ref 19, .ref 20, .ref 21, .ref 22, .int (Int32.ofInt f9), .int (Int32.ofInt f10), .int (Int32.ofInt f11), .int (Int32.ofInt f12), .int (Int32.ofInt f13), .long x14, .int (Int32.ofInt f15), .int (Int32.ofInt f16), .int (Int32.ofInt f17), .ref 23, .ref 24, .int (Int32.ofInt f20), .int (Int32.ofInt f21), .int (Int32.ofInt f22), .int (Int32.ofInt f23), .ref 25, .ref 26, .int (Int32.ofInt f26), .ref 27, .int (Int32.ofInt f28), .ref 28, .ref 29, .int (Int32.ofInt f31), .int (Int32.ofInt f32), .int (Int32.ofInt f33), .ref 30, .ref 31, .ref 32, .ref 33, .int (Int32.ofInt f38), .ref 34, .ref 35, .int (Int32.ofInt f41), .ref 36, .ref 37, .int (Int32.ofInt f44), .ref 38, .ref 39, .ref 40, .ref 41, .ref 42, .ref 43, .ref 44]))) (hK1 : zix w 30 = some (.inl (1, 27305, .inl g30))) (hK2 : zix w 34 = some (.inl (1, 5461, .inl g34))) (hr0 : 0 ≤ f23 ∧ f23 ≤ 5) (hr1 : 0 ≤ a1 ∧ a1 < f23) (hr2 : RMF g30 f23 F) (hr3 : 0 ≤ a2 ∧ a2 ≤ 1) (hr4 : ∀ x : Int, 0 ≤ x → x ≤ 5460 → tBy g34 x = (flF (F a1)).2.2.1 x) (Q : zQ) (h : ∀ (v : Int) (T34 : Nat → Int32) (w' : zW), wfM (fun j => j ≠ 34) w w' → zix w' 34 = some (.inl (1, 5461, .inl T34)) → ((a2 = 1 ∧ ISV v (rlI (F a1) (flF (F a1)).2.2.1 5461).2.1) ∨ (a2 = 0 ∧ ISV v (rlI (F a1) (flF (F a1)).2.2.1 5461).2.2)) → Q (some (.int (Int32.ofInt v))) w') : zCl zTab (d + 2) iX12_longest [.ref 14, .int (Int32.ofInt a1), .int (Int32.ofInt a2)] w 0 0 Q := by
  refine zCl_i (M := kX12_longest) rfl (Nat.le_of_ble_eq_true rfl) fun R hR => ?_
  have fr0 : wfM (fun j => j ≠ 34) w w := wfM_rf _ w
  have hG := fo_g (rm_ok hr2) hr1.1 hr1.2
  have nX0 : FX (∀ j : Nat, (j ≠ 34) → j ≠ 34) := fun j hj => by omega
  iterate 6 refine hR (?_ : R (_, _, _, _, _, _))
  have lp8 : ∀ (N : Nat) (rn : Int) (best : Int) (tt : Int) (o6_8 : Option Value) (o7_8 : Option Value) (L : Nat → Int32) (w_8 : zW), (zc2 o6_8 = false) → (zc2 o7_8 = false) → (wfM (fun j => j ≠ 34) w w_8) → (zix w_8 14 = some (.inr (11, [.int (Int32.ofInt f0), .ref 15, .ref 16, .ref 17, .ref 18, .ref 19, .ref 20, .ref 21, .ref 22, .int (Int32.ofInt f9), .int (Int32.ofInt f10), .int (Int32.ofInt f11), .int (Int32.ofInt f12), .int (Int32.ofInt f13), .long x14, .int (Int32.ofInt f15), .int (Int32.ofInt f16), .int (Int32.ofInt f17), .ref 23, .ref 24, .int (Int32.ofInt f20), .int (Int32.ofInt f21), .int (Int32.ofInt f22), .int (Int32.ofInt f23), .ref 25, .ref 26, .int (Int32.ofInt f26), .ref 27, .int (Int32.ofInt f28), .ref 28, .ref 29, .int (Int32.ofInt f31), .int (Int32.ofInt f32), .int (Int32.ofInt f33), .ref 30, .ref 31, .ref 32, .ref 33, .int (Int32.ofInt f38), .ref 34, .ref 35, .int (Int32.ofInt f41), .ref 36, .ref 37, .int (Int32.ofInt f44), .ref 38, .ref 39, .ref 40, .ref 41, .ref 42, .ref 43, .ref 44]))) → (zix w_8 30 = some (.inl (1, 27305, .inl g30))) → (zix w_8 34 = some (.inl (1, 5461, .inl L))) → (0 ≤ rn ∧ rn ≤ 5461) → (0 ≤ best ∧ best ≤ 5461) → (0 ≤ tt ∧ tt ≤ 5461) → (RLP (F a1) (flF (F a1)).2.2.1 tt rn best L) → (5462 - tt < N) → R (8, [some (.ref 14), some (.int (Int32.ofInt a1)), some (.int (Int32.ofInt a2)), some (.int (Int32.ofInt rn)), some (.int (Int32.ofInt best)), some (.int (Int32.ofInt tt)), o6_8, o7_8], [], w_8, 0, 0) := by
    intro N
    induction N with
    | zero => intros; omega
    | succ N ih8 =>
      intro rn best tt o6_8 o7_8 L w_8 hzo6_8 hzo7_8 fr_8 hC14_8 hC30_8 hC34_8 hf0_8 hf1_8 hf2_8 hp0_8 hN8
      refine hR (?_ : R (_, _, _, _, _, _))
      refine hR (t_c 5461 (by decide) ?_)
      refine hR (j_ge (by omega) (by omega) (fun hc1 => ?_) (fun hc1 => ?_))
      · skip
        refine hR (?_ : R (_, _, _, _, _, _))
        refine hR (k_eq (by omega) (fun hc2 => ?_) (fun hc2 => ?_))
        · skip
          refine hR (?_ : R (_, _, _, _, _, _))
          exact hR (zret_i rfl (Nat.le_refl _) trivial (h _ _ _ fr_8 hC34_8 (Or.inr ⟨by omega, (rlp_e hp0_8 (by omega)).2⟩)))
        iterate 2 refine hR (?_ : R (_, _, _, _, _, _))
        exact hR (zret_i rfl (Nat.le_refl _) trivial (h _ _ _ fr_8 hC34_8 (Or.inl ⟨by omega, (rlp_e hp0_8 (by omega)).1⟩)))
      iterate 4 refine hR (?_ : R (_, _, _, _, _, _))
      have lp23 : ∀ (N : Nat) (ln : Int) (xx : Int) (U : Nat → Int32) (w_23 : zW), (wfM (fun j => j ≠ 34) w w_23) → (zix w_23 14 = some (.inr (11, [.int (Int32.ofInt f0), .ref 15, .ref 16, .ref 17, .ref 18, .ref 19, .ref 20, .ref 21, .ref 22, .int (Int32.ofInt f9), .int (Int32.ofInt f10), .int (Int32.ofInt f11), .int (Int32.ofInt f12), .int (Int32.ofInt f13), .long x14, .int (Int32.ofInt f15), .int (Int32.ofInt f16), .int (Int32.ofInt f17), .ref 23, .ref 24, .int (Int32.ofInt f20), .int (Int32.ofInt f21), .int (Int32.ofInt f22), .int (Int32.ofInt f23), .ref 25, .ref 26, .int (Int32.ofInt f26), .ref 27, .int (Int32.ofInt f28), .ref 28, .ref 29, .int (Int32.ofInt f31), .int (Int32.ofInt f32), .int (Int32.ofInt f33), .ref 30, .ref 31, .ref 32, .ref 33, .int (Int32.ofInt f38), .ref 34, .ref 35, .int (Int32.ofInt f41), .ref 36, .ref 37, .int (Int32.ofInt f44), .ref 38, .ref 39, .ref 40, .ref 41, .ref 42, .ref 43, .ref 44]))) → (zix w_23 30 = some (.inl (1, 27305, .inl g30))) → (zix w_23 34 = some (.inl (1, 5461, .inl U))) → (0 ≤ ln ∧ ln ≤ 5461) → (0 ≤ xx ∧ xx ≤ 5460) → (GRP (F a1) (rlI (F a1) (flF (F a1)).2.2.1 tt.toNat).1 tt ln xx U) → (5462 - ln < N) → R (23, [some (.ref 14), some (.int (Int32.ofInt a1)), some (.int (Int32.ofInt a2)), some (.int (Int32.ofInt rn)), some (.int (Int32.ofInt best)), some (.int (Int32.ofInt tt)), some (.int (Int32.ofInt ln)), some (.int (Int32.ofInt xx))], [], w_23, 0, 0) := by
        intro N
        induction N with
        | zero => intros; omega
        | succ N ih23 =>
          intro ln xx U w_23 fr_23 hC14_23 hC30_23 hC34_23 hf0_23 hf1_23 hp0_23 hN23
          refine hR (?_ : R (_, _, _, _, _, _))
          refine hR (c_get hC14_23 rfl ?_)
          refine hR (?_ : R (_, _, _, _, _, _))
          refine hR (c_aldE hC34_23 (by omega) (by omega) (Nat.le_of_ble_eq_true rfl) fun v3 ev3 rv3 => ?_)
          replace ev3 : v3 = tBy U xx := ev3
          subst ev3
          refine hR (k_le (by omega) (fun hc4 => ?_) (fun hc4 => ?_))
          rotate_left
          · skip
            have hll := grp_l hG (by omega) (by omega) hp0_23 (by omega) (by omega) (by omega)
            refine hR (?_ : R (_, _, _, _, _, _))
            refine hR (c_get hC14_23 rfl ?_)
            iterate 2 refine hR (?_ : R (_, _, _, _, _, _))
            refine hR (x_ast hC34_23 (by omega) (by omega) (Nat.le_of_ble_eq_true rfl) fun w10 ff10 hC10 => ?_)
            have fr11 := wfM_st fr_23 ff10 nX0
            have hC12 := (ff10.2 14 (by (try dsimp only); decide)).trans hC14_23
            have hC13 := (ff10.2 30 (by (try dsimp only); decide)).trans hC30_23
            refine hR (t_inc ?_)
            refine hR (?_ : R (_, _, _, _, _, _))
            refine hR (c_get hC12 rfl ?_)
            refine hR (t_c 5461 (by decide) ?_)
            refine hR (?_ : R (_, _, _, _, _, _))
            refine hR (t_mul ?_)
            refine hR (?_ : R (_, _, _, _, _, _))
            refine hR (t_add ?_)
            refine hR (c_aldE hC13 (by omega) (by omega) (Nat.le_of_ble_eq_true rfl) fun v14 ev14 rv14 => ?_)
            replace ev14 : v14 = tBy g30 ((5461 * a1) + xx) := ev14
            have hf15 := rm_ld (r := a1) (t := xx) hr2 ev14 (by omega) (by omega) (by omega) (by omega)
            iterate 2 refine hR (?_ : R (_, _, _, _, _, _))
            exact ih23 _ _ _ _ fr11 hC12 hC13 hC10 (by omega) (by omega) (grp_s hp0_23 (by omega) (by omega) (by omega) (by omega) hf15.1) (by omega)
          have hge := grp_e hp0_23 (by omega) (by omega) (by omega) (by omega) (Or.inl (by omega))
          have hrb := rlp_b hG hp0_8 (by omega) (by omega)
          iterate 2 refine hR (?_ : R (_, _, _, _, _, _))
          refine hR (k_le (by omega) (fun hc5 => ?_) (fun hc5 => ?_))
          · skip
            refine hR (?_ : R (_, _, _, _, _, _))
            refine hR (t_add ?_)
            iterate 3 refine hR (?_ : R (_, _, _, _, _, _))
            refine hR (zcall_i 0 0 (Nat.le_of_ble_eq_true rfl) (Nat.le_of_ble_eq_true rfl) (m_greater _ best ln _ (by omega) (by omega) _ fun v6 hp7 => ?_))
            refine (?_ : R (_, _, .int (Int32.ofInt v6) :: [], w_23, 0, 0))
            refine hR (?_ : R (_, _, _, _, _, _))
            refine hR (t_inc ?_)
            refine hR (?_ : R (_, _, _, _, _, _))
            exact ih8 _ _ _ _ _ _ _ (by rfl) (by rfl) fr_23 hC14_23 hC30_23 hC34_23 (by omega) (by omega) (by omega) (rlp_s hG hp0_8 (by omega) (by omega) hge (by omega) hp7) (by omega)
          iterate 2 refine hR (?_ : R (_, _, _, _, _, _))
          refine hR (t_add ?_)
          iterate 3 refine hR (?_ : R (_, _, _, _, _, _))
          refine hR (zcall_i 0 0 (Nat.le_of_ble_eq_true rfl) (Nat.le_of_ble_eq_true rfl) (m_greater _ best ln _ (by omega) (by omega) _ fun v8 hp9 => ?_))
          refine (?_ : R (_, _, .int (Int32.ofInt v8) :: [], w_23, 0, 0))
          refine hR (?_ : R (_, _, _, _, _, _))
          refine hR (t_inc ?_)
          refine hR (?_ : R (_, _, _, _, _, _))
          exact ih8 _ _ _ _ _ _ _ (by rfl) (by rfl) fr_23 hC14_23 hC30_23 hC34_23 (by omega) (by omega) (by omega) (rlp_s hG hp0_8 (by omega) (by omega) hge (by omega) hp9) (by omega)
      exact lp23 400000000 _ _ _ _ fr_8 hC14_8 hC30_8 hC34_8 (by omega) (by omega) (grp_0 hp0_8.2.2) (by omega)
  exact lp8 400000000 _ _ _ _ _ _ _ (by rfl) (by rfl) fr0 hK0 hK1 hK2 (by omega) (by omega) (by omega) (rlp_0 hr4) (by omega)
theorem x_staysR (w : zW) (d : Nat) (a1 : Int) (f0 f9 f10 f11 f12 f13 f15 f16 f17 f20 f21 f22 f23 f26 f28 f31 f32 f33 f38 f41 f44 : Int) (x14 : Int64) (g30 : Nat → Int32) (F : Int → Int → Int) (hK0 : zix w 14 = some (.inr (11, [.int (Int32.ofInt f0), .ref 15, .ref 16, .ref 17, .ref 18, .ref 19, .ref 20, .ref 21, .ref 22, .int (Int32.ofInt f9), .int (Int32.ofInt f10), .int (Int32.ofInt f11), .int (Int32.ofInt f12), .int (Int32.ofInt f13), .long x14, .int (Int32.ofInt f15), .int (Int32.ofInt f16), .int (Int32.ofInt f17), .ref 23, .ref 24, .int (Int32.ofInt f20), .int (Int32.ofInt f21), .int (Int32.ofInt f22), .int (Int32.ofInt f23), .ref 25, .ref 26, .int (Int32.ofInt f26), .ref 27, .int (Int32.ofInt f28), .ref 28, .ref 29, .int (Int32.ofInt f31), .int (Int32.ofInt f32), .int (Int32.ofInt f33), .ref 30, .ref 31, .ref 32, .ref 33, .int (Int32.ofInt f38), .ref 34, .ref 35, .int (Int32.ofInt f41), .ref 36, .ref 37, .int (Int32.ofInt f44), .ref 38, .ref 39, .ref 40, .ref 41, .ref 42, .ref 43, .ref 44]))) (hK1 : zix w 30 = some (.inl (1, 27305, .inl g30))) (hr0 : 0 ≤ f23 ∧ f23 ≤ 5) (hr1 : 0 ≤ a1 ∧ a1 < f23) (hr2 : RMF g30 f23 F) (Q : zQ) (h : ∀ (v : Int), (ISV v (stN (F a1))) → Q (some (.int (Int32.ofInt v))) w) : zCl zTab (d + 1) iX12_stays [.ref 14, .int (Int32.ofInt a1)] w 0 0 Q := by
  refine zCl_i (M := kX12_stays) rfl (Nat.le_of_ble_eq_true rfl) fun R hR => ?_
  iterate 4 refine hR (?_ : R (_, _, _, _, _, _))
  have lp4 : ∀ (N : Nat) (sv : Int) (tt : Int), (0 ≤ sv ∧ sv ≤ 5461) → (0 ≤ tt ∧ tt ≤ 5461) → (sv = (cntP (stP (F a1)) tt.toNat : Int)) → (sv ≤ tt) → (5462 - tt < N) → R (4, [some (.ref 14), some (.int (Int32.ofInt a1)), some (.int (Int32.ofInt sv)), some (.int (Int32.ofInt tt))], [], w, 0, 0) := by
    intro N
    induction N with
    | zero => intros; omega
    | succ N ih4 =>
      intro sv tt hf0_4 hf1_4 hp0_4 hp1_4 hN4
      refine hR (?_ : R (_, _, _, _, _, _))
      refine hR (t_c 5461 (by decide) ?_)
      refine hR (j_ge (by omega) (by omega) (fun hc1 => ?_) (fun hc1 => ?_))
      · skip
        refine hR (?_ : R (_, _, _, _, _, _))
        exact hR (zret_i rfl (Nat.le_refl _) trivial (h _ (st_e hp0_4 (by omega))))
      iterate 2 refine hR (?_ : R (_, _, _, _, _, _))
      refine hR (c_get hK0 rfl ?_)
      refine hR (t_c 5461 (by decide) ?_)
      refine hR (?_ : R (_, _, _, _, _, _))
      refine hR (t_mul ?_)
      refine hR (?_ : R (_, _, _, _, _, _))
      refine hR (t_add ?_)
      refine hR (c_aldE hK1 (by omega) (by omega) (Nat.le_of_ble_eq_true rfl) fun v2 ev2 rv2 => ?_)
      replace ev2 : v2 = tBy g30 ((5461 * a1) + tt) := ev2
      have hf3 := rm_ld (r := a1) (t := tt) hr2 ev2 (by omega) (by omega) (by omega) (by omega)
      refine hR (?_ : R (_, _, _, _, _, _))
      refine hR (j_ne (by omega) (by omega) (fun hc4 => ?_) (fun hc4 => ?_))
      · skip
        refine hR (?_ : R (_, _, _, _, _, _))
        refine hR (t_add ?_)
        refine hR (?_ : R (_, _, _, _, _, _))
        refine hR (t_inc ?_)
        refine hR (?_ : R (_, _, _, _, _, _))
        exact ih4 _ _ (by omega) (by omega) (cn_2 (by omega) hp0_4 (stP_f (by omega) hf3.1 (by omega))) (by omega) (by omega)
      iterate 2 refine hR (?_ : R (_, _, _, _, _, _))
      refine hR (t_add ?_)
      refine hR (?_ : R (_, _, _, _, _, _))
      refine hR (t_inc ?_)
      refine hR (?_ : R (_, _, _, _, _, _))
      exact ih4 _ _ (by omega) (by omega) (cn_1 (by omega) hp0_4 (stP_t (by omega) hf3.1 (by omega))) (by omega) (by omega)
  exact lp4 400000000 _ _ (by omega) (by omega) cn_0 (by omega) (by omega)
theorem x_orbitsR (w : zW) (d : Nat) (a1 a2 a3 : Int) (f0 f9 f10 f11 f12 f13 f15 f16 f17 f20 f21 f22 f23 f26 f28 f31 f32 f33 f38 f41 f44 : Int) (x14 : Int64) (g19 g20 g25 g30 g31 g33 g34 : Nat → Int32) (hK0 : zix w 14 = some (.inr (11, [.int (Int32.ofInt f0), .ref 15, .ref 16, .ref 17, .ref 18, .ref 19, .ref 20, .ref 21, .ref 22, .int (Int32.ofInt f9), .int (Int32.ofInt f10), .int (Int32.ofInt f11), .int (Int32.ofInt f12), .int (Int32.ofInt f13), .long x14, .int (Int32.ofInt f15), .int (Int32.ofInt f16), .int (Int32.ofInt f17), .ref 23, .ref 24, .int (Int32.ofInt f20), .int (Int32.ofInt f21), .int (Int32.ofInt f22), .int (Int32.ofInt f23), .ref 25, .ref 26, .int (Int32.ofInt f26), .ref 27, .int (Int32.ofInt f28), .ref 28, .ref 29, .int (Int32.ofInt f31), .int (Int32.ofInt f32), .int (Int32.ofInt f33), .ref 30, .ref 31, .ref 32, .ref 33, .int (Int32.ofInt f38), .ref 34, .ref 35, .int (Int32.ofInt f41), .ref 36, .ref 37, .int (Int32.ofInt f44), .ref 38, .ref 39, .ref 40, .ref 41, .ref 42, .ref 43, .ref 44]))) (hK1 : zix w 19 = some (.inl (1, 12, .inl g19))) (hK2 : zix w 20 = some (.inl (1, 408, .inl g20))) (hK3 : zix w 25 = some (.inl (1, 7, .inl g25))) (hK4 : zix w 30 = some (.inl (1, 27305, .inl g30))) (hK5 : zix w 31 = some (.inl (1, 5461, .inl g31))) (hK6 : zix w 33 = some (.inl (1, 5461, .inl g33))) (hK7 : zix w 34 = some (.inl (1, 5461, .inl g34))) (hr0 : (-2147483648 ≤ a1 ∧ a1 ≤ 2147483647) ∧ (-2147483648 ≤ a2 ∧ a2 ≤ 2147483647) ∧ (-2147483648 ≤ a3 ∧ a3 ≤ 2147483647)) (hr1 : ∀ i : Int, 0 ≤ i → i ≤ 2 → 0 ≤ tBy g19 i ∧ tBy g19 i ≤ 2) (hr2 : bkOK g20) (hr3 : (-1 ≤ f21 ∧ f21 ≤ 1) ∧ RMD g30 g20 f21) (Q : zQ) (h : ∀ (v : Int) (y20 y21 y22 y23 y26 : Int) (T25 T30 T31 T33 T34 : Nat → Int32) (w' : zW), wfM (fun j => j ≠ 14 ∧ j ≠ 25 ∧ j ≠ 30 ∧ j ≠ 31 ∧ j ≠ 33 ∧ j ≠ 34) w w' → zix w' 14 = some (.inr (11, [.int (Int32.ofInt 0), .ref 15, .ref 16, .ref 17, .ref 18, .ref 19, .ref 20, .ref 21, .ref 22, .int (Int32.ofInt f9), .int (Int32.ofInt f10), .int (Int32.ofInt f11), .int (Int32.ofInt f12), .int (Int32.ofInt f13), .long x14, .int (Int32.ofInt f15), .int (Int32.ofInt f16), .int (Int32.ofInt f17), .ref 23, .ref 24, .int (Int32.ofInt y20), .int (Int32.ofInt y21), .int (Int32.ofInt y22), .int (Int32.ofInt y23), .ref 25, .ref 26, .int (Int32.ofInt y26), .ref 27, .int (Int32.ofInt f28), .ref 28, .ref 29, .int (Int32.ofInt f31), .int (Int32.ofInt f32), .int (Int32.ofInt f33), .ref 30, .ref 31, .ref 32, .ref 33, .int (Int32.ofInt f38), .ref 34, .ref 35, .int (Int32.ofInt f41), .ref 36, .ref 37, .int (Int32.ofInt f44), .ref 38, .ref 39, .ref 40, .ref 41, .ref 42, .ref 43, .ref 44])) → zix w' 25 = some (.inl (1, 7, .inl T25)) → zix w' 30 = some (.inl (1, 27305, .inl T30)) → zix w' 31 = some (.inl (1, 5461, .inl T31)) → zix w' 33 = some (.inl (1, 5461, .inl T33)) → zix w' 34 = some (.inl (1, 5461, .inl T34)) → (((a1 < 0 ∨ tBy g19 0 ≤ a1) ∧ v = -1) ∨ ((0 ≤ a1 ∧ a1 < tBy g19 0) ∧ v = orbV (rF g20 (51 * a1)) (tBy g20 (51 * a1 + 1)) a2 a3)) → Q (some (.int (Int32.ofInt v))) w') : zCl zTab (d + 6) iX12_orbits [.ref 14, .int (Int32.ofInt a1), .int (Int32.ofInt a2), .int (Int32.ofInt a3)] w 0 0 Q := by
  refine zCl_i (M := kX12_orbits) rfl (Nat.le_of_ble_eq_true rfl) fun R hR => ?_
  have fr0 : wfM (fun j => j ≠ 14 ∧ j ≠ 25 ∧ j ≠ 30 ∧ j ≠ 31 ∧ j ≠ 33 ∧ j ≠ 34) w w := wfM_rf _ w
  have h190 := hr1 0 (by omega) (by omega)
  have nX0 : FX (∀ j : Nat, (j ≠ 14 ∧ j ≠ 25 ∧ j ≠ 30 ∧ j ≠ 31 ∧ j ≠ 33 ∧ j ≠ 34) → j ≠ 14) := fun j hj => by omega
  have nX1 : FX (∀ j : Nat, (j ≠ 14 ∧ j ≠ 25 ∧ j ≠ 30 ∧ j ≠ 31 ∧ j ≠ 33 ∧ j ≠ 34) → (j ≠ 14)) := fun j hj => by omega
  have nX2 : FX (∀ j : Nat, (j ≠ 14 ∧ j ≠ 25 ∧ j ≠ 30 ∧ j ≠ 31 ∧ j ≠ 33 ∧ j ≠ 34) → (j ≠ 14 ∧ j ≠ 25 ∧ j ≠ 30)) := fun j hj => by omega
  have nX3 : FX (∀ j : Nat, (j ≠ 14 ∧ j ≠ 25 ∧ j ≠ 30 ∧ j ≠ 31 ∧ j ≠ 33 ∧ j ≠ 34) → (j ≠ 33 ∧ j ≠ 34)) := fun j hj => by omega
  have nX4 : FX (∀ j : Nat, (j ≠ 14 ∧ j ≠ 25 ∧ j ≠ 30 ∧ j ≠ 31 ∧ j ≠ 33 ∧ j ≠ 34) → (j ≠ 34)) := fun j hj => by omega
  have nX5 : FX (∀ j : Nat, (j ≠ 14 ∧ j ≠ 25 ∧ j ≠ 30 ∧ j ≠ 31 ∧ j ≠ 33 ∧ j ≠ 34) → (j ≠ 31)) := fun j hj => by omega
  iterate 2 refine hR (?_ : R (_, _, _, _, _, _))
  refine hR (c_put hK0 rfl rfl fun w1 ff1 hC1 => ?_)
  have fr2 := wfM_st fr0 ff1 nX0
  have hC3 := (ff1.2 19 (by (try dsimp only); decide)).trans hK1
  have hC4 := (ff1.2 20 (by (try dsimp only); decide)).trans hK2
  have hC5 := (ff1.2 25 (by (try dsimp only); decide)).trans hK3
  have hC6 := (ff1.2 30 (by (try dsimp only); decide)).trans hK4
  have hC7 := (ff1.2 31 (by (try dsimp only); decide)).trans hK5
  have hC8 := (ff1.2 33 (by (try dsimp only); decide)).trans hK6
  have hC9 := (ff1.2 34 (by (try dsimp only); decide)).trans hK7
  replace hC1 : zix w1 14 = some (.inr (11, [.int (Int32.ofInt 0), .ref 15, .ref 16, .ref 17, .ref 18, .ref 19, .ref 20, .ref 21, .ref 22, .int (Int32.ofInt f9), .int (Int32.ofInt f10), .int (Int32.ofInt f11), .int (Int32.ofInt f12), .int (Int32.ofInt f13), .long x14, .int (Int32.ofInt f15), .int (Int32.ofInt f16), .int (Int32.ofInt f17), .ref 23, .ref 24, .int (Int32.ofInt f20), .int (Int32.ofInt f21), .int (Int32.ofInt f22), .int (Int32.ofInt f23), .ref 25, .ref 26, .int (Int32.ofInt f26), .ref 27, .int (Int32.ofInt f28), .ref 28, .ref 29, .int (Int32.ofInt f31), .int (Int32.ofInt f32), .int (Int32.ofInt f33), .ref 30, .ref 31, .ref 32, .ref 33, .int (Int32.ofInt f38), .ref 34, .ref 35, .int (Int32.ofInt f41), .ref 36, .ref 37, .int (Int32.ofInt f44), .ref 38, .ref 39, .ref 40, .ref 41, .ref 42, .ref 43, .ref 44])) := hC1
  iterate 2 refine hR (?_ : R (_, _, _, _, _, _))
  refine hR (c_obj hC1 (zcall_i 0 0 (Nat.le_of_ble_eq_true rfl) (Nat.le_of_ble_eq_true rfl) (x_handR _ _ _ _ _ _ _ _ _ _ _ _ _ _ _ _ _ _ _ _ _ _ _ _ _ _ _ hC1 hC3 hC4 (by omega) hr1 _ fun v10 y20_11 y22_12 y23_13 w14 gg15 hC16 hp17 => ?_)))
  have fr18 := wfM_tr fr2 gg15 nX1
  have hC19 := (gg15.2 19 (by (try dsimp only); decide)).trans hC3
  have hC20 := (gg15.2 20 (by (try dsimp only); decide)).trans hC4
  have hC21 := (gg15.2 25 (by (try dsimp only); decide)).trans hC5
  have hC22 := (gg15.2 30 (by (try dsimp only); decide)).trans hC6
  have hC23 := (gg15.2 31 (by (try dsimp only); decide)).trans hC7
  have hC24 := (gg15.2 33 (by (try dsimp only); decide)).trans hC8
  have hC25 := (gg15.2 34 (by (try dsimp only); decide)).trans hC9
  refine (?_ : R (_, _, .int (Int32.ofInt v10) :: [], w14, 0, 0))
  refine hR (k_eq (by omega) (fun hc26 => ?_) (fun hc26 => ?_))
  · skip
    refine hR (?_ : R (_, _, _, _, _, _))
    exact hR (zret_i rfl (Nat.le_refl _) trivial (h _ _ _ _ _ _ _ _ _ _ _ _ fr18 hC16 hC21 hC22 hC23 hC24 hC25 (Or.inl ⟨by omega, rfl⟩)))
  have ht : (0 ≤ a1 ∧ a1 < tBy g19 0 ∧ a1 ≤ 1) ∧ a1 = y20_11 ∧ y22_12 = tBy g20 (51 * a1 + 0) ∧ y23_13 = tBy g20 (51 * a1 + 1) := by omega
  obtain ⟨ht1, ht2, ht3, ht4⟩ := ht
  subst ht2
  have hb1 := bk_b1 hr2 a1 (by omega) (by omega)
  iterate 2 refine hR (?_ : R (_, _, _, _, _, _))
  refine hR (c_obj hC16 (zcall_i 0 0 (Nat.le_of_ble_eq_true rfl) (Nat.le_of_ble_eq_true rfl) (x_isReaderR _ _ _ _ _ _ _ _ _ _ _ _ _ _ _ _ _ _ _ _ _ _ _ _ _ hC16 (by omega) (by omega) _ fun v27 hp28 => ?_)))
  refine (?_ : R (_, _, .int (Int32.ofInt v27) :: [], w14, 0, 0))
  refine hR (k_eq (by omega) (fun hc29 => ?_) (fun hc29 => ?_))
  · skip
    refine hR (?_ : R (_, _, _, _, _, _))
    exact hR (zret_i rfl (Nat.le_refl _) trivial (h _ _ _ _ _ _ _ _ _ _ _ _ fr18 hC16 hC21 hC22 hC23 hC24 hC25 (Or.inr ⟨by omega, (by rw [← ht4]; exact (orb_n (by omega)).symm)⟩)))
  iterate 3 refine hR (?_ : R (_, _, _, _, _, _))
  refine hR (zcall_i 0 0 (Nat.le_of_ble_eq_true rfl) (Nat.le_of_ble_eq_true rfl) (m_in _ a3 0 5 _ (by omega) (by omega) (by omega) _ fun v30 hp31 => ?_))
  refine (?_ : R (_, _, .int (Int32.ofInt v30) :: [], w14, 0, 0))
  refine hR (k_ne (by omega) (fun hc32 => ?_) (fun hc32 => ?_))
  rotate_left
  · skip
    refine hR (?_ : R (_, _, _, _, _, _))
    exact hR (zret_i rfl (Nat.le_refl _) trivial (h _ _ _ _ _ _ _ _ _ _ _ _ fr18 hC16 hC21 hC22 hC23 hC24 hC25 (Or.inr ⟨by omega, (by rw [← ht4]; exact (orb_n (by omega)).symm)⟩)))
  refine hR (?_ : R (_, _, _, _, _, _))
  refine hR (c_obj hC16 (zcall_i 0 0 (Nat.le_of_ble_eq_true rfl) (Nat.le_of_ble_eq_true rfl) (x_layMadeR _ _ _ _ _ _ _ _ _ _ _ _ _ _ _ _ _ _ _ _ _ _ _ _ _ _ _ hC16 hC20 hC21 hC22 hr2 (by omega) ⟨ht4, by omega, by omega⟩ hr3 _ fun y26_33 T25_34 T30_35 w36 gg37 hC38 hC39 hC40 hp41 => ?_)))
  have fr42 := wfM_tr fr18 gg37 nX2
  have hC43 := (gg37.2 19 (by (try dsimp only); decide)).trans hC19
  have hC44 := (gg37.2 20 (by (try dsimp only); decide)).trans hC20
  have hC45 := (gg37.2 31 (by (try dsimp only); decide)).trans hC23
  have hC46 := (gg37.2 33 (by (try dsimp only); decide)).trans hC24
  have hC47 := (gg37.2 34 (by (try dsimp only); decide)).trans hC25
  refine (?_ : R (_, _, [], w36, 0, 0))
  have hF := hp41
  iterate 2 refine hR (?_ : R (_, _, _, _, _, _))
  refine hR (j_le (by omega) (by omega) (fun hc48 => ?_) (fun hc48 => ?_))
  rotate_left
  · skip
    iterate 2 refine hR (?_ : R (_, _, _, _, _, _))
    refine hR (j_ne (by omega) (by omega) (fun hc110 => ?_) (fun hc110 => ?_))
    · skip
      iterate 2 refine hR (?_ : R (_, _, _, _, _, _))
      refine hR (c_obj hC38 (zcall_i 0 0 (Nat.le_of_ble_eq_true rfl) (Nat.le_of_ble_eq_true rfl) (x_staysR _ _ _ _ _ _ _ _ _ _ _ _ _ _ _ _ _ _ _ _ _ _ _ _ _ _ _ hC38 hC40 (by omega) (by omega) hF _ fun v111 hp112 => ?_)))
      refine (?_ : R (_, _, .int (Int32.ofInt v111) :: [], w36, 0, 0))
      exact hR (zret_i rfl (Nat.le_refl _) trivial (h _ _ _ _ _ _ _ _ _ _ _ _ fr42 hC38 hC39 hC40 hC45 hC46 hC47 (Or.inr ⟨by omega, (by rw [← ht4]; exact ((isv hp112).trans (orv_5 (by omega)).symm).trans (orb_y (by omega)).symm)⟩)))
    iterate 2 refine hR (?_ : R (_, _, _, _, _, _))
    refine hR (c_obj hC38 (zcall_i 0 0 (Nat.le_of_ble_eq_true rfl) (Nat.le_of_ble_eq_true rfl) (x_unreadR _ _ _ _ _ _ _ _ _ _ _ _ _ _ _ _ _ _ _ _ _ _ _ _ _ _ _ _ hC38 hC40 hC47 (by omega) (by omega) hF _ fun v113 T34_114 w115 gg116 hC117 hp118 => ?_)))
    have fr119 := wfM_tr fr42 gg116 nX4
    have hC120 := (gg116.2 14 (by (try dsimp only); decide)).trans hC38
    have hC121 := (gg116.2 19 (by (try dsimp only); decide)).trans hC43
    have hC122 := (gg116.2 20 (by (try dsimp only); decide)).trans hC44
    have hC123 := (gg116.2 25 (by (try dsimp only); decide)).trans hC39
    have hC124 := (gg116.2 30 (by (try dsimp only); decide)).trans hC40
    have hC125 := (gg116.2 31 (by (try dsimp only); decide)).trans hC45
    have hC126 := (gg116.2 33 (by (try dsimp only); decide)).trans hC46
    refine (?_ : R (_, _, .int (Int32.ofInt v113) :: [], w115, 0, 0))
    refine hR (?_ : R (_, _, _, _, _, _))
    exact hR (zret_i rfl (Nat.le_refl _) trivial (h _ _ _ _ _ _ _ _ _ _ _ _ fr119 hC120 hC123 hC124 hC125 hC126 hC117 (Or.inr ⟨by omega, (by rw [← ht4]; exact ((isv hp118).trans (orv_4 (by omega)).symm).trans (orb_y (by omega)).symm)⟩)))
  iterate 2 refine hR (?_ : R (_, _, _, _, _, _))
  refine hR (c_obj hC38 (zcall_i 0 0 (Nat.le_of_ble_eq_true rfl) (Nat.le_of_ble_eq_true rfl) (x_fallAwayR _ _ _ _ _ _ _ _ _ _ _ _ _ _ _ _ _ _ _ _ _ _ _ _ _ _ _ _ _ hC38 hC40 hC46 hC47 (by omega) (by omega) hF _ fun v49 T33_50 T34_51 w52 gg53 hC54 hC55 hp56 hp57 => ?_)))
  have fr58 := wfM_tr fr42 gg53 nX3
  have hC59 := (gg53.2 14 (by (try dsimp only); decide)).trans hC38
  have hC60 := (gg53.2 19 (by (try dsimp only); decide)).trans hC43
  have hC61 := (gg53.2 20 (by (try dsimp only); decide)).trans hC44
  have hC62 := (gg53.2 25 (by (try dsimp only); decide)).trans hC39
  have hC63 := (gg53.2 30 (by (try dsimp only); decide)).trans hC40
  have hC64 := (gg53.2 31 (by (try dsimp only); decide)).trans hC45
  refine (?_ : R (_, _, .int (Int32.ofInt v49) :: [], w52, 0, 0))
  have hTQ := hp56
  have hTr := hp57
  iterate 3 refine hR (?_ : R (_, _, _, _, _, _))
  refine hR (j_ne (by omega) (by omega) (fun hc65 => ?_) (fun hc65 => ?_))
  rotate_left
  · skip
    refine hR (t_c 5461 (by decide) ?_)
    refine hR (?_ : R (_, _, _, _, _, _))
    refine hR (t_sub ?_)
    refine hR (?_ : R (_, _, _, _, _, _))
    exact hR (zret_i rfl (Nat.le_refl _) trivial (h _ _ _ _ _ _ _ _ _ _ _ _ fr58 hC59 hC62 hC63 hC64 hC54 hC55 (Or.inr ⟨by omega, (by rw [← ht4]; exact ((or2_e hTQ.1).trans (orv_2 (by omega)).symm).trans (orb_y (by omega)).symm)⟩)))
  iterate 2 refine hR (?_ : R (_, _, _, _, _, _))
  refine hR (j_ne (by omega) (by omega) (fun hc66 => ?_) (fun hc66 => ?_))
  rotate_left
  · skip
    iterate 3 refine hR (?_ : R (_, _, _, _, _, _))
    refine hR (c_obj hC59 (zcall_i 0 0 (Nat.le_of_ble_eq_true rfl) (Nat.le_of_ble_eq_true rfl) (x_tailR _ _ _ _ _ _ _ _ _ _ _ _ _ _ _ _ _ _ _ _ _ _ _ _ _ _ _ _ _ _ _ _ hC59 hC63 hC64 hC54 (by omega) (by omega) hF (fl_kF (fo_g (rm_ok hF) (by omega) (by omega))) hTQ (by omega) _ fun v96 T31_97 w98 gg99 hC100 hp101 => ?_)))
    have fr102 := wfM_tr fr58 gg99 nX5
    have hC103 := (gg99.2 14 (by (try dsimp only); decide)).trans hC59
    have hC104 := (gg99.2 19 (by (try dsimp only); decide)).trans hC60
    have hC105 := (gg99.2 20 (by (try dsimp only); decide)).trans hC61
    have hC106 := (gg99.2 25 (by (try dsimp only); decide)).trans hC62
    have hC107 := (gg99.2 30 (by (try dsimp only); decide)).trans hC63
    have hC108 := (gg99.2 33 (by (try dsimp only); decide)).trans hC54
    have hC109 := (gg99.2 34 (by (try dsimp only); decide)).trans hC55
    refine (?_ : R (_, _, .int (Int32.ofInt v96) :: [], w98, 0, 0))
    refine hR (?_ : R (_, _, _, _, _, _))
    exact hR (zret_i rfl (Nat.le_refl _) trivial (h _ _ _ _ _ _ _ _ _ _ _ _ fr102 hC103 hC106 hC107 hC100 hC108 hC109 (Or.inr ⟨by omega, (by rw [← ht4]; exact ((isv hp101).trans ((tlv_e _).symm.trans (orv_3 (by omega)).symm)).trans (orb_y (by omega)).symm)⟩)))
  iterate 3 refine hR (?_ : R (_, _, _, _, _, _))
  refine hR (k_ne (by omega) (fun hc67 => ?_) (fun hc67 => ?_))
  · skip
    refine hR (?_ : R (_, _, _, _, _, _))
    refine hR (c_obj hC59 (zcall_i 0 0 (Nat.le_of_ble_eq_true rfl) (Nat.le_of_ble_eq_true rfl) (x_longestR _ _ _ _ _ _ _ _ _ _ _ _ _ _ _ _ _ _ _ _ _ _ _ _ _ _ _ _ _ hC59 hC63 hC55 (by omega) (by omega) hF (by omega) hTQ.2.2 _ fun v68 T34_69 w70 gg71 hC72 hp73 => ?_)))
    have fr74 := wfM_tr fr58 gg71 nX4
    have hC75 := (gg71.2 14 (by (try dsimp only); decide)).trans hC59
    have hC76 := (gg71.2 19 (by (try dsimp only); decide)).trans hC60
    have hC77 := (gg71.2 20 (by (try dsimp only); decide)).trans hC61
    have hC78 := (gg71.2 25 (by (try dsimp only); decide)).trans hC62
    have hC79 := (gg71.2 30 (by (try dsimp only); decide)).trans hC63
    have hC80 := (gg71.2 31 (by (try dsimp only); decide)).trans hC64
    have hC81 := (gg71.2 33 (by (try dsimp only); decide)).trans hC54
    refine (?_ : R (_, _, .int (Int32.ofInt v68) :: [], w70, 0, 0))
    exact hR (zret_i rfl (Nat.le_refl _) trivial (h _ _ _ _ _ _ _ _ _ _ _ _ fr74 hC75 hC78 hC79 hC80 hC81 hC72 (Or.inr ⟨by omega, (by rw [← ht4]; exact ((isv (hp73.resolve_left (fun z => by omega)).2).trans (orv_1 (by omega)).symm).trans (orb_y (by omega)).symm)⟩)))
  iterate 2 refine hR (?_ : R (_, _, _, _, _, _))
  refine hR (c_obj hC59 (zcall_i 0 0 (Nat.le_of_ble_eq_true rfl) (Nat.le_of_ble_eq_true rfl) (x_longestR _ _ _ _ _ _ _ _ _ _ _ _ _ _ _ _ _ _ _ _ _ _ _ _ _ _ _ _ _ hC59 hC63 hC55 (by omega) (by omega) hF (by omega) hTQ.2.2 _ fun v82 T34_83 w84 gg85 hC86 hp87 => ?_)))
  have fr88 := wfM_tr fr58 gg85 nX4
  have hC89 := (gg85.2 14 (by (try dsimp only); decide)).trans hC59
  have hC90 := (gg85.2 19 (by (try dsimp only); decide)).trans hC60
  have hC91 := (gg85.2 20 (by (try dsimp only); decide)).trans hC61
  have hC92 := (gg85.2 25 (by (try dsimp only); decide)).trans hC62
  have hC93 := (gg85.2 30 (by (try dsimp only); decide)).trans hC63
  have hC94 := (gg85.2 31 (by (try dsimp only); decide)).trans hC64
  have hC95 := (gg85.2 33 (by (try dsimp only); decide)).trans hC54
  refine (?_ : R (_, _, .int (Int32.ofInt v82) :: [], w84, 0, 0))
  exact hR (zret_i rfl (Nat.le_refl _) trivial (h _ _ _ _ _ _ _ _ _ _ _ _ fr88 hC89 hC92 hC93 hC94 hC95 hC86 (Or.inr ⟨by omega, (by rw [← ht4]; exact ((isv (hp87.resolve_right (fun z => by omega)).2).trans (orv_0 (by omega)).symm).trans (orb_y (by omega)).symm)⟩)))
