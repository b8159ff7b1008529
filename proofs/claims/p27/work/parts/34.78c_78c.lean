/-! THE REFERENCE TAKES A TEXT, exactly. -/
theorem x_storeB (w : zW) (d : Nat) (a3 : Int) (f0 f9 f10 f11 f12 f13 f15 f16 f17 f20 f21 f22 f23 f26 f28 f31 f32 f33 f38 f41 f44 : Int) (x14 : Int64) (gr g23 : Nat → Int32) (hK0 : zix w 14 = some (.inr (11, [.int (Int32.ofInt f0), .ref 15, .ref 16, .ref 17, .ref 18, .ref 19, .ref 20, .ref 21, .ref 22, .int (Int32.ofInt f9), .int (Int32.ofInt f10), .int (Int32.ofInt f11), .int (Int32.ofInt f12), .int (Int32.ofInt f13), .long x14, .int (Int32.ofInt f15), .int (Int32.ofInt f16), .int (Int32.ofInt f17), .ref 23, .ref 24, .int (Int32.ofInt f20), .int (Int32.ofInt f21), .int (Int32.ofInt f22), .int (Int32.ofInt f23), .ref 25, .ref 26, .int (Int32.ofInt f26), .ref 27, .int (Int32.ofInt f28), .ref 28, .ref 29, .int (Int32.ofInt f31), .int (Int32.ofInt f32), .int (Int32.ofInt f33), .ref 30, .ref 31, .ref 32, .ref 33, .int (Int32.ofInt f38), .ref 34, .ref 35, .int (Int32.ofInt f41), .ref 36, .ref 37, .int (Int32.ofInt f44), .ref 38, .ref 39, .ref 40, .ref 41, .ref 42, .ref 43, .ref 44]))) (hK1 : zix w 20 = some (.inl (1, 408, .inl gr))) (hK2 : zix w 23 = some (.inl (1, 121, .inl g23))) (hr0 : 0 ≤ a3 ∧ a3 ≤ 1) (Q : zQ) (h : ∀ (kr : Nat → Int32) (w' : zW), wfM (fun j => j ≠ 20) w w' → zix w' 20 = some (.inl (1, 408, .inl kr)) → (kr = kpR gr (51 * a3.toNat) g23 51) → Q (none) w') : zCl zTab (d + 1) iX12_store [.ref 14, .ref 20, .int (Int32.ofInt 51), .int (Int32.ofInt a3)] w 0 0 Q := by
  refine zCl_i (M := kX12_store) rfl (Nat.le_of_ble_eq_true rfl) fun R hR => ?_
  have fr0 : wfM (fun j => j ≠ 20) w w := wfM_rf _ w
  have nX0 : FX (∀ j : Nat, (j ≠ 20) → j ≠ 20) := fun j hj => by omega
  iterate 2 refine hR (?_ : R (_, _, _, _, _, _))
  have lp3 : ∀ (N : Nat) (ii : Int) (q2 : Nat → Int32) (w_3 : zW), (wfM (fun j => j ≠ 20) w w_3) → (zix w_3 14 = some (.inr (11, [.int (Int32.ofInt f0), .ref 15, .ref 16, .ref 17, .ref 18, .ref 19, .ref 20, .ref 21, .ref 22, .int (Int32.ofInt f9), .int (Int32.ofInt f10), .int (Int32.ofInt f11), .int (Int32.ofInt f12), .int (Int32.ofInt f13), .long x14, .int (Int32.ofInt f15), .int (Int32.ofInt f16), .int (Int32.ofInt f17), .ref 23, .ref 24, .int (Int32.ofInt f20), .int (Int32.ofInt f21), .int (Int32.ofInt f22), .int (Int32.ofInt f23), .ref 25, .ref 26, .int (Int32.ofInt f26), .ref 27, .int (Int32.ofInt f28), .ref 28, .ref 29, .int (Int32.ofInt f31), .int (Int32.ofInt f32), .int (Int32.ofInt f33), .ref 30, .ref 31, .ref 32, .ref 33, .int (Int32.ofInt f38), .ref 34, .ref 35, .int (Int32.ofInt f41), .ref 36, .ref 37, .int (Int32.ofInt f44), .ref 38, .ref 39, .ref 40, .ref 41, .ref 42, .ref 43, .ref 44]))) → (zix w_3 20 = some (.inl (1, 408, .inl q2))) → (zix w_3 23 = some (.inl (1, 121, .inl g23))) → (0 ≤ ii ∧ ii ≤ 51) → (q2 = kpR gr (51 * a3.toNat) g23 ii.toNat) → (51 - ii < N) → R (3, [some (.ref 14), some (.ref 20), some (.int (Int32.ofInt 51)), some (.int (Int32.ofInt a3)), some (.int (Int32.ofInt ii))], [], w_3, 0, 0) := by
    intro N
    induction N with
    | zero => intros; omega
    | succ N ih3 =>
      intro ii q2 w_3 fr_3 hC14_3 hC20_3 hC23_3 hf0_3 hp0_3 hN3
      iterate 2 refine hR (?_ : R (_, _, _, _, _, _))
      refine hR (j_ge (by omega) (by omega) (fun hc1 => ?_) (fun hc1 => ?_))
      · skip
        exact hR (zret_i rfl (Nat.le_refl _) rfl (h _ _ fr_3 hC20_3 (kpR_e hp0_3 (by omega))))
      iterate 3 refine hR (?_ : R (_, _, _, _, _, _))
      refine hR (t_mul ?_)
      refine hR (?_ : R (_, _, _, _, _, _))
      refine hR (t_add ?_)
      refine hR (?_ : R (_, _, _, _, _, _))
      refine hR (c_get hC14_3 rfl ?_)
      refine hR (?_ : R (_, _, _, _, _, _))
      refine hR (c_aldE hC23_3 (by omega) (by omega) (Nat.le_of_ble_eq_true rfl) fun v2 ev2 rv2 => ?_)
      replace ev2 : v2 = tBy g23 ii := ev2
      subst ev2
      refine hR (x_ast hC20_3 (by omega) (by omega) (Nat.le_of_ble_eq_true rfl) fun w3 ff3 hC3 => ?_)
      have fr4 := wfM_st fr_3 ff3 nX0
      have hC5 := (ff3.2 14 (by (try dsimp only); decide)).trans hC14_3
      have hC6 := (ff3.2 23 (by (try dsimp only); decide)).trans hC23_3
      refine hR (t_inc ?_)
      refine hR (?_ : R (_, _, _, _, _, _))
      exact ih3 _ (upd q2 ((51 * a3) + ii : Int).toNat (Int32.ofInt (tBy g23 ii))) _ fr4 hC5 hC3 hC6 (by omega) (kpR_s hp0_3 (by omega) (by omega) (by omega) rfl) (by omega)
  exact lp3 400000000 _ gr _ fr0 hK0 hK1 hK2 (by omega) (kpR_0 _ _ _) (by omega)
set_option maxHeartbeats 4000000 in
theorem x_textBR (w : zW) (d : Nat) (a2 : Int) (f0 f9 f10 f11 f12 f13 f15 f16 f17 f20 f21 f22 f23 f26 f28 f31 f32 f33 f38 f41 f44 : Int) (x14 : Int64) (nu : Int) (g15 g g16 g17 g18 g19 gr g23 g24 : Nat → Int32) (hK0 : zix w 14 = some (.inr (11, [.int (Int32.ofInt f0), .ref 15, .ref 16, .ref 17, .ref 18, .ref 19, .ref 20, .ref 21, .ref 22, .int (Int32.ofInt f9), .int (Int32.ofInt f10), .int (Int32.ofInt f11), .int (Int32.ofInt f12), .int (Int32.ofInt f13), .long x14, .int (Int32.ofInt f15), .int (Int32.ofInt f16), .int (Int32.ofInt f17), .ref 23, .ref 24, .int (Int32.ofInt f20), .int (Int32.ofInt f21), .int (Int32.ofInt f22), .int (Int32.ofInt f23), .ref 25, .ref 26, .int (Int32.ofInt f26), .ref 27, .int (Int32.ofInt f28), .ref 28, .ref 29, .int (Int32.ofInt f31), .int (Int32.ofInt f32), .int (Int32.ofInt f33), .ref 30, .ref 31, .ref 32, .ref 33, .int (Int32.ofInt f38), .ref 34, .ref 35, .int (Int32.ofInt f41), .ref 36, .ref 37, .int (Int32.ofInt f44), .ref 38, .ref 39, .ref 40, .ref 41, .ref 42, .ref 43, .ref 44]))) (hK1 : zix w 15 = some (.inl (0, 2400, .inl g15))) (hK2 : zix w 16 = some (.inl (1, 4, .inl g16))) (hK3 : zix w 17 = some (.inl (1, 4, .inl g17))) (hK4 : zix w 18 = some (.inl (1, 4, .inl g18))) (hK5 : zix w 19 = some (.inl (1, 12, .inl g19))) (hK6 : zix w 20 = some (.inl (1, 408, .inl gr))) (hK7 : zix w 23 = some (.inl (1, 121, .inl g23))) (hK8 : zix w 24 = some (.inl (1, 3, .inl g24))) (hr0 : 0 ≤ tBy g16 0 ∧ tBy g16 0 ≤ 600) (hr1 : ∀ i : Int, 0 ≤ i → i < tBy g16 0 → tBy g15 i = tBy g i ∧ -128 ≤ tBy g i ∧ tBy g i ≤ 127) (hr2 : ∀ i : Int, 0 ≤ i → i ≤ 2 → 0 ≤ tBy g19 i ∧ tBy g19 i ≤ 2) (hr3 : (-2147483648 ≤ a2 ∧ a2 ≤ 2147483647) ∧ (-2147483648 ≤ f17 ∧ f17 ≤ 2147483647)) (hr4 : (a2 = -1 ∧ tBy g19 0 < 2 ∧ nu = tBy g19 0) ∨ (0 ≤ a2 ∧ a2 < tBy g19 0 ∧ nu = a2)) (hr5 : bIni (0, -1, 0, 0, -1, knF, zrF, zrF, zrF)) (Q : zQ) (h : ∀ (v : Int) (k16 k17 k18 k19 kr : Nat → Int32) (w' : zW), wfM (fun j => j ≠ 14 ∧ j ≠ 16 ∧ j ≠ 17 ∧ j ≠ 18 ∧ j ≠ 19 ∧ j ≠ 20 ∧ j ≠ 23 ∧ j ≠ 24) w w' → zix w' 16 = some (.inl (1, 4, .inl k16)) → zix w' 17 = some (.inl (1, 4, .inl k17)) → zix w' 18 = some (.inl (1, 4, .inl k18)) → zix w' 19 = some (.inl (1, 12, .inl k19)) → zix w' 20 = some (.inl (1, 408, .inl kr)) → (tBy k16 0 = 0) → (∀ j : Nat, j ≠ 0 → k16 j = g16 j) → (∀ i : Int, 1 ≤ i → tBy k17 i = tBy g17 i ∧ tBy k18 i = tBy g18 i) → ((v = -1 ∧ TXF (fun X : tpB => X.1) (fun X : tpB => X.2.1) g (tBy g16 0) (teF g (tBy g16 0) (tlB g (tBy g16 0)) 601 0 (0, -1, 0, 0, -1, knF, zrF, zrF, zrF)) (tBy k17 0) (tBy k18 0) ∧ k19 = g19 ∧ kr = gr) ∨ (v = nu ∧ tBy k17 0 = 0 ∧ tBy k18 0 = -1 ∧ tBy k19 0 = tBy g19 0 + (if a2 = -1 then 1 else 0) ∧ (∀ j : Nat, j ≠ 0 → k19 j = g19 j) ∧ ∃ b X f' c' T, teF g (tBy g16 0) (tlB g (tBy g16 0)) 601 0 (0, -1, 0, 0, -1, knF, zrF, zrF, zrF) = (true, b, X) ∧ X.1 = 0 ∧ RELB X f' c' T ∧ kr = kpR gr (51 * nu.toNat) T 51)) → Q (some (.int (Int32.ofInt v))) w') : zCl zTab (d + 10) iX12_text [.ref 14, .int (Int32.ofInt 0), .int (Int32.ofInt a2)] w 0 0 Q := by
  refine zCl_i (M := kX12_text) rfl (Nat.le_of_ble_eq_true rfl) fun R hR => ?_
  have fr0 : wfM (fun j => j ≠ 14 ∧ j ≠ 16 ∧ j ≠ 17 ∧ j ≠ 18 ∧ j ≠ 19 ∧ j ≠ 20 ∧ j ≠ 23 ∧ j ≠ 24) w w := wfM_rf _ w
  have h19i := hr2 0 (by omega) (by omega)
  have nX0 : FX (∀ j : Nat, (j ≠ 14 ∧ j ≠ 16 ∧ j ≠ 17 ∧ j ≠ 18 ∧ j ≠ 19 ∧ j ≠ 20 ∧ j ≠ 23 ∧ j ≠ 24) → j ≠ 14) := fun j hj => by omega
  have nX1 : FX (∀ j : Nat, (j ≠ 14 ∧ j ≠ 16 ∧ j ≠ 17 ∧ j ≠ 18 ∧ j ≠ 19 ∧ j ≠ 20 ∧ j ≠ 23 ∧ j ≠ 24) → j ≠ 16) := fun j hj => by omega
  have nX2 : FX (∀ j : Nat, (j ≠ 14 ∧ j ≠ 16 ∧ j ≠ 17 ∧ j ≠ 18 ∧ j ≠ 19 ∧ j ≠ 20 ∧ j ≠ 23 ∧ j ≠ 24) → j ≠ 17) := fun j hj => by omega
  have nX3 : FX (∀ j : Nat, (j ≠ 14 ∧ j ≠ 16 ∧ j ≠ 17 ∧ j ≠ 18 ∧ j ≠ 19 ∧ j ≠ 20 ∧ j ≠ 23 ∧ j ≠ 24) → j ≠ 18) := fun j hj => by omega
  have nX4 : FX (∀ j : Nat, (j ≠ 14 ∧ j ≠ 16 ∧ j ≠ 17 ∧ j ≠ 18 ∧ j ≠ 19 ∧ j ≠ 20 ∧ j ≠ 23 ∧ j ≠ 24) → (j ≠ 14 ∧ j ≠ 17 ∧ j ≠ 18 ∧ j ≠ 23 ∧ j ≠ 24)) := fun j hj => by omega
  have nX5 : FX (∀ j : Nat, (j ≠ 14 ∧ j ≠ 16 ∧ j ≠ 17 ∧ j ≠ 18 ∧ j ≠ 19 ∧ j ≠ 20 ∧ j ≠ 23 ∧ j ≠ 24) → j ≠ 19) := fun j hj => by omega
  have nX6 : FX (∀ j : Nat, (j ≠ 14 ∧ j ≠ 16 ∧ j ≠ 17 ∧ j ≠ 18 ∧ j ≠ 19 ∧ j ≠ 20 ∧ j ≠ 23 ∧ j ≠ 24) → (j ≠ 20)) := fun j hj => by omega
  iterate 2 refine hR (?_ : R (_, _, _, _, _, _))
  refine hR (c_put hK0 rfl rfl fun w1 ff1 hC1 => ?_)
  have fr2 := wfM_st fr0 ff1 nX0
  have hC3 := (ff1.2 15 (by (try dsimp only); decide)).trans hK1
  have hC4 := (ff1.2 16 (by (try dsimp only); decide)).trans hK2
  have hC5 := (ff1.2 17 (by (try dsimp only); decide)).trans hK3
  have hC6 := (ff1.2 18 (by (try dsimp only); decide)).trans hK4
  have hC7 := (ff1.2 19 (by (try dsimp only); decide)).trans hK5
  have hC8 := (ff1.2 20 (by (try dsimp only); decide)).trans hK6
  have hC9 := (ff1.2 23 (by (try dsimp only); decide)).trans hK7
  have hC10 := (ff1.2 24 (by (try dsimp only); decide)).trans hK8
  replace hC1 : zix w1 14 = some (.inr (11, [.int (Int32.ofInt 0), .ref 15, .ref 16, .ref 17, .ref 18, .ref 19, .ref 20, .ref 21, .ref 22, .int (Int32.ofInt f9), .int (Int32.ofInt f10), .int (Int32.ofInt f11), .int (Int32.ofInt f12), .int (Int32.ofInt f13), .long x14, .int (Int32.ofInt f15), .int (Int32.ofInt f16), .int (Int32.ofInt f17), .ref 23, .ref 24, .int (Int32.ofInt f20), .int (Int32.ofInt f21), .int (Int32.ofInt f22), .int (Int32.ofInt f23), .ref 25, .ref 26, .int (Int32.ofInt f26), .ref 27, .int (Int32.ofInt f28), .ref 28, .ref 29, .int (Int32.ofInt f31), .int (Int32.ofInt f32), .int (Int32.ofInt f33), .ref 30, .ref 31, .ref 32, .ref 33, .int (Int32.ofInt f38), .ref 34, .ref 35, .int (Int32.ofInt f41), .ref 36, .ref 37, .int (Int32.ofInt f44), .ref 38, .ref 39, .ref 40, .ref 41, .ref 42, .ref 43, .ref 44])) := hC1
  iterate 2 refine hR (?_ : R (_, _, _, _, _, _))
  refine hR (c_get hC1 rfl ?_)
  refine hR (?_ : R (_, _, _, _, _, _))
  refine hR (c_aldE hC4 (by omega) (by omega) (Nat.le_of_ble_eq_true rfl) fun v11 ev11 rv11 => ?_)
  replace ev11 : v11 = tBy g16 0 := ev11
  subst ev11
  refine hR (c_put hC1 rfl rfl fun w12 ff12 hC12 => ?_)
  have fr13 := wfM_st fr2 ff12 nX0
  have hC14 := (ff12.2 15 (by (try dsimp only); decide)).trans hC3
  have hC15 := (ff12.2 16 (by (try dsimp only); decide)).trans hC4
  have hC16 := (ff12.2 17 (by (try dsimp only); decide)).trans hC5
  have hC17 := (ff12.2 18 (by (try dsimp only); decide)).trans hC6
  have hC18 := (ff12.2 19 (by (try dsimp only); decide)).trans hC7
  have hC19 := (ff12.2 20 (by (try dsimp only); decide)).trans hC8
  have hC20 := (ff12.2 23 (by (try dsimp only); decide)).trans hC9
  have hC21 := (ff12.2 24 (by (try dsimp only); decide)).trans hC10
  replace hC12 : zix w12 14 = some (.inr (11, [.int (Int32.ofInt 0), .ref 15, .ref 16, .ref 17, .ref 18, .ref 19, .ref 20, .ref 21, .ref 22, .int (Int32.ofInt f9), .int (Int32.ofInt (tBy g16 0)), .int (Int32.ofInt f11), .int (Int32.ofInt f12), .int (Int32.ofInt f13), .long x14, .int (Int32.ofInt f15), .int (Int32.ofInt f16), .int (Int32.ofInt f17), .ref 23, .ref 24, .int (Int32.ofInt f20), .int (Int32.ofInt f21), .int (Int32.ofInt f22), .int (Int32.ofInt f23), .ref 25, .ref 26, .int (Int32.ofInt f26), .ref 27, .int (Int32.ofInt f28), .ref 28, .ref 29, .int (Int32.ofInt f31), .int (Int32.ofInt f32), .int (Int32.ofInt f33), .ref 30, .ref 31, .ref 32, .ref 33, .int (Int32.ofInt f38), .ref 34, .ref 35, .int (Int32.ofInt f41), .ref 36, .ref 37, .int (Int32.ofInt f44), .ref 38, .ref 39, .ref 40, .ref 41, .ref 42, .ref 43, .ref 44])) := hC12
  refine hR (?_ : R (_, _, _, _, _, _))
  refine hR (c_get hC12 rfl ?_)
  iterate 2 refine hR (?_ : R (_, _, _, _, _, _))
  refine hR (x_ast hC15 (by omega) (by omega) (Nat.le_of_ble_eq_true rfl) fun w22 ff22 hC22 => ?_)
  have fr23 := wfM_st fr13 ff22 nX1
  have hC24 := (ff22.2 14 (by (try dsimp only); decide)).trans hC12
  have hC25 := (ff22.2 15 (by (try dsimp only); decide)).trans hC14
  have hC26 := (ff22.2 17 (by (try dsimp only); decide)).trans hC16
  have hC27 := (ff22.2 18 (by (try dsimp only); decide)).trans hC17
  have hC28 := (ff22.2 19 (by (try dsimp only); decide)).trans hC18
  have hC29 := (ff22.2 20 (by (try dsimp only); decide)).trans hC19
  have hC30 := (ff22.2 23 (by (try dsimp only); decide)).trans hC20
  have hC31 := (ff22.2 24 (by (try dsimp only); decide)).trans hC21
  refine hR (?_ : R (_, _, _, _, _, _))
  refine hR (c_get hC24 rfl ?_)
  iterate 2 refine hR (?_ : R (_, _, _, _, _, _))
  refine hR (x_ast hC26 (by omega) (by omega) (Nat.le_of_ble_eq_true rfl) fun w32 ff32 hC32 => ?_)
  have fr33 := wfM_st fr23 ff32 nX2
  have hC34 := (ff32.2 14 (by (try dsimp only); decide)).trans hC24
  have hC35 := (ff32.2 15 (by (try dsimp only); decide)).trans hC25
  have hC36 := (ff32.2 16 (by (try dsimp only); decide)).trans hC22
  have hC37 := (ff32.2 18 (by (try dsimp only); decide)).trans hC27
  have hC38 := (ff32.2 19 (by (try dsimp only); decide)).trans hC28
  have hC39 := (ff32.2 20 (by (try dsimp only); decide)).trans hC29
  have hC40 := (ff32.2 23 (by (try dsimp only); decide)).trans hC30
  have hC41 := (ff32.2 24 (by (try dsimp only); decide)).trans hC31
  refine hR (?_ : R (_, _, _, _, _, _))
  refine hR (c_get hC34 rfl ?_)
  iterate 2 refine hR (?_ : R (_, _, _, _, _, _))
  refine hR (x_ast hC37 (by omega) (by omega) (Nat.le_of_ble_eq_true rfl) fun w42 ff42 hC42 => ?_)
  have fr43 := wfM_st fr33 ff42 nX3
  have hC44 := (ff42.2 14 (by (try dsimp only); decide)).trans hC34
  have hC45 := (ff42.2 15 (by (try dsimp only); decide)).trans hC35
  have hC46 := (ff42.2 16 (by (try dsimp only); decide)).trans hC36
  have hC47 := (ff42.2 17 (by (try dsimp only); decide)).trans hC32
  have hC48 := (ff42.2 19 (by (try dsimp only); decide)).trans hC38
  have hC49 := (ff42.2 20 (by (try dsimp only); decide)).trans hC39
  have hC50 := (ff42.2 23 (by (try dsimp only); decide)).trans hC40
  have hC51 := (ff42.2 24 (by (try dsimp only); decide)).trans hC41
  iterate 3 refine hR (?_ : R (_, _, _, _, _, _))
  refine hR (zcall_i 0 0 (Nat.le_of_ble_eq_true rfl) (Nat.le_of_ble_eq_true rfl) (m_in _ 0 0 2 _ (by omega) (by omega) (by omega) _ fun v52 hp53 => ?_))
  refine (?_ : R (_, _, .int (Int32.ofInt v52) :: [], w42, 0, 0))
  refine hR (k_eq (by omega) (fun hc => by omega) (fun _ => ?_))
  iterate 2 refine hR (?_ : R (_, _, _, _, _, _))
  refine hR (j_ne (by omega) (by omega) (fun hc54 => ?_) (fun hc54 => ?_))
  · skip
    iterate 3 refine hR (?_ : R (_, _, _, _, _, _))
    refine hR (c_obj hC44 (zcall_i 0 0 (Nat.le_of_ble_eq_true rfl) (Nat.le_of_ble_eq_true rfl) (x_isR _ _ _ _ _ _ _ _ _ _ _ _ _ _ _ _ _ _ _ _ _ _ _ _ _ _ _ hC44 hC48 (by omega) (by omega) hr2 _ fun v55 hp56 => ?_)))
    refine (?_ : R (_, _, .int (Int32.ofInt v55) :: [], w42, 0, 0))
    refine hR (k_ne (by omega) (fun _ => ?_) (fun hc => by omega))
    iterate 2 refine hR (?_ : R (_, _, _, _, _, _))
    refine hR (c_obj hC44 (zcall_i 0 0 (Nat.le_of_ble_eq_true rfl) (Nat.le_of_ble_eq_true rfl) (x_readTextB _ _ _ _ _ _ _ _ _ _ _ _ _ _ _ _ _ _ _ _ _ _ _ _ _ _ _ _ _ _ _ _ _ _ _ _ _ _ _ hC44 hC45 hC47 hC42 hC50 hC51 (by omega) hr1 (by omega) hr5 _ fun v57 a'_58 x'_59 f'_60 c'_61 y15_62 z'_63 H'_64 P'_65 T'_66 R'_67 w68 gg69 hC70 hC71 hC72 hC73 hC74 hp75 hp76 hp77 => ?_)))
    have fr78 := wfM_tr fr43 gg69 nX4
    have hC79 := (gg69.2 15 (by (try dsimp only); decide)).trans hC45
    have hC80 := (gg69.2 16 (by (try dsimp only); decide)).trans hC46
    have hC81 := (gg69.2 19 (by (try dsimp only); decide)).trans hC48
    have hC82 := (gg69.2 20 (by (try dsimp only); decide)).trans hC49
    refine (?_ : R (_, _, .int (Int32.ofInt v57) :: [], w68, 0, 0))
    refine hR (k_ne (by omega) (fun hc83 => ?_) (fun hc83 => ?_))
    rotate_left
    · skip
      refine hR (?_ : R (_, _, _, _, _, _))
      exact hR (zret_i rfl (Nat.le_refl _) trivial (h _ _ _ _ _ _ _ fr78 hC80 hC71 hC72 hC81 hC82 (by rw [zup (by omega), if_pos rfl]) (fun j hj => pk_un hj) (fun i hi => ⟨((hp76 i hi).1).trans (by rw [zup (by omega), if_neg (by omega)]), ((hp76 i hi).2).trans (by rw [zup (by omega), if_neg (by omega)])⟩) (Or.inl ⟨rfl, by rcases hp75 with ⟨h, -⟩ | ⟨-, b, X, h1, h2, h3, h4⟩ | ⟨-, b, X, h1, h2, h3⟩; (· omega); (· exact Or.inl ⟨b, X, h1, h2, h3, h4⟩); exact Or.inr ⟨b, X, h1, h2, h3⟩, rfl, rfl⟩)))
    iterate 2 refine hR (?_ : R (_, _, _, _, _, _))
    refine hR (j_ne (by omega) (by omega) (fun _ => ?_) (fun hc => by omega))
    iterate 3 refine hR (?_ : R (_, _, _, _, _, _))
    refine hR (c_get hC70 rfl ?_)
    iterate 2 refine hR (?_ : R (_, _, _, _, _, _))
    refine hR (c_aldE hC81 (by omega) (by omega) (Nat.le_of_ble_eq_true rfl) fun v84 ev84 rv84 => ?_)
    replace ev84 : v84 = tBy g19 0 := ev84
    subst ev84
    iterate 2 refine hR (?_ : R (_, _, _, _, _, _))
    refine hR (j_ne (by omega) (by omega) (fun _ => ?_) (fun hc => by omega))
    refine hR (?_ : R (_, _, _, _, _, _))
    refine hR (t_add ?_)
    refine hR (x_ast hC81 (by omega) (by omega) (Nat.le_of_ble_eq_true rfl) fun w85 ff85 hC85 => ?_)
    have fr86 := wfM_st fr78 ff85 nX5
    have hC87 := (ff85.2 14 (by (try dsimp only); decide)).trans hC70
    have hC88 := (ff85.2 15 (by (try dsimp only); decide)).trans hC79
    have hC89 := (ff85.2 16 (by (try dsimp only); decide)).trans hC80
    have hC90 := (ff85.2 17 (by (try dsimp only); decide)).trans hC71
    have hC91 := (ff85.2 18 (by (try dsimp only); decide)).trans hC72
    have hC92 := (ff85.2 20 (by (try dsimp only); decide)).trans hC82
    have hC93 := (ff85.2 23 (by (try dsimp only); decide)).trans hC73
    have hC94 := (ff85.2 24 (by (try dsimp only); decide)).trans hC74
    refine hR (?_ : R (_, _, _, _, _, _))
    refine hR (k_ne (by omega) (fun hc => by omega) (fun _ => ?_))
    iterate 2 refine hR (?_ : R (_, _, _, _, _, _))
    refine hR (c_get hC87 rfl ?_)
    refine hR (t_c 51 (by decide) ?_)
    refine hR (?_ : R (_, _, _, _, _, _))
    refine hR (c_obj hC87 (zcall_i 0 0 (Nat.le_of_ble_eq_true rfl) (Nat.le_of_ble_eq_true rfl) (x_storeB _ _ _ _ _ _ _ _ _ _ _ _ _ _ _ _ _ _ _ _ _ _ _ _ _ _ _ hC87 hC92 hC93 (by omega) _ fun kr_95 w96 gg97 hC98 hp99 => ?_)))
    have fr100 := wfM_tr fr86 gg97 nX6
    have hC101 := (gg97.2 14 (by (try dsimp only); decide)).trans hC87
    have hC102 := (gg97.2 15 (by (try dsimp only); decide)).trans hC88
    have hC103 := (gg97.2 16 (by (try dsimp only); decide)).trans hC89
    have hC104 := (gg97.2 17 (by (try dsimp only); decide)).trans hC90
    have hC105 := (gg97.2 18 (by (try dsimp only); decide)).trans hC91
    have hC106 := (gg97.2 19 (by (try dsimp only); decide)).trans hC85
    have hC107 := (gg97.2 23 (by (try dsimp only); decide)).trans hC93
    have hC108 := (gg97.2 24 (by (try dsimp only); decide)).trans hC94
    refine (?_ : R (_, _, [], w96, 0, 0))
    iterate 2 refine hR (?_ : R (_, _, _, _, _, _))
    refine hR (c_put hC101 rfl rfl fun w109 ff109 hC109 => ?_)
    have fr110 := wfM_st fr100 ff109 nX0
    have hC111 := (ff109.2 15 (by (try dsimp only); decide)).trans hC102
    have hC112 := (ff109.2 16 (by (try dsimp only); decide)).trans hC103
    have hC113 := (ff109.2 17 (by (try dsimp only); decide)).trans hC104
    have hC114 := (ff109.2 18 (by (try dsimp only); decide)).trans hC105
    have hC115 := (ff109.2 19 (by (try dsimp only); decide)).trans hC106
    have hC116 := (ff109.2 20 (by (try dsimp only); decide)).trans hC98
    have hC117 := (ff109.2 23 (by (try dsimp only); decide)).trans hC107
    have hC118 := (ff109.2 24 (by (try dsimp only); decide)).trans hC108
    replace hC109 : zix w109 14 = some (.inr (11, [.int (Int32.ofInt 0), .ref 15, .ref 16, .ref 17, .ref 18, .ref 19, .ref 20, .ref 21, .ref 22, .int (Int32.ofInt (tE g (tBy g16 0) a'_58)), .int (Int32.ofInt (tBy g16 0)), .int (Int32.ofInt (tS g (tBy g16 0) a'_58)), .int (Int32.ofInt (rK (tK g (tBy g16 0) a'_58))), .int (Int32.ofInt x'_59), .long z'_63, .int (Int32.ofInt y15_62), .int (Int32.ofInt f'_60), .int (Int32.ofInt c'_61), .ref 23, .ref 24, .int (Int32.ofInt f20), .int (Int32.ofInt ((-1))), .int (Int32.ofInt f22), .int (Int32.ofInt f23), .ref 25, .ref 26, .int (Int32.ofInt f26), .ref 27, .int (Int32.ofInt f28), .ref 28, .ref 29, .int (Int32.ofInt f31), .int (Int32.ofInt f32), .int (Int32.ofInt f33), .ref 30, .ref 31, .ref 32, .ref 33, .int (Int32.ofInt f38), .ref 34, .ref 35, .int (Int32.ofInt f41), .ref 36, .ref 37, .int (Int32.ofInt f44), .ref 38, .ref 39, .ref 40, .ref 41, .ref 42, .ref 43, .ref 44])) := hC109
    iterate 2 refine hR (?_ : R (_, _, _, _, _, _))
    exact hR (zret_i rfl (Nat.le_refl _) trivial (h _ _ _ _ _ _ _ fr110 hC112 hC113 hC114 hC115 hC116 (by rw [zup (by omega), if_pos rfl]) (fun j hj => pk_un hj) (fun i hi => ⟨((hp76 i hi).1).trans (by rw [zup (by omega), if_neg (by omega)]), ((hp76 i hi).2).trans (by rw [zup (by omega), if_neg (by omega)])⟩) (Or.inr (by rcases hp75 with ⟨-, b, X, h1, h2, h3, h4, h5⟩ | ⟨h, -⟩ | ⟨h, -⟩; (· exact ⟨by omega, h4, h5, by rw [zup (by omega), if_pos rfl]; (split <;> omega), fun j hj => pk_un hj, b, X, _, _, _, h1, h2, h3, by rw [hp99]; congr 2; omega⟩); (· omega); omega))))
  refine hR (?_ : R (_, _, _, _, _, _))
  refine hR (c_get hC44 rfl ?_)
  refine hR (?_ : R (_, _, _, _, _, _))
  refine hR (c_aldE hC48 (by omega) (by omega) (Nat.le_of_ble_eq_true rfl) fun v119 ev119 rv119 => ?_)
  replace ev119 : v119 = tBy g19 0 := ev119
  subst ev119
  refine hR (?_ : R (_, _, _, _, _, _))
  refine hR (j_ne (by omega) (by omega) (fun _ => ?_) (fun hc => by omega))
  iterate 2 refine hR (?_ : R (_, _, _, _, _, _))
  refine hR (c_obj hC44 (zcall_i 0 0 (Nat.le_of_ble_eq_true rfl) (Nat.le_of_ble_eq_true rfl) (x_readTextB _ _ _ _ _ _ _ _ _ _ _ _ _ _ _ _ _ _ _ _ _ _ _ _ _ _ _ _ _ _ _ _ _ _ _ _ _ _ _ hC44 hC45 hC47 hC42 hC50 hC51 (by omega) hr1 (by omega) hr5 _ fun v120 a'_121 x'_122 f'_123 c'_124 y15_125 z'_126 H'_127 P'_128 T'_129 R'_130 w131 gg132 hC133 hC134 hC135 hC136 hC137 hp138 hp139 hp140 => ?_)))
  have fr141 := wfM_tr fr43 gg132 nX4
  have hC142 := (gg132.2 15 (by (try dsimp only); decide)).trans hC45
  have hC143 := (gg132.2 16 (by (try dsimp only); decide)).trans hC46
  have hC144 := (gg132.2 19 (by (try dsimp only); decide)).trans hC48
  have hC145 := (gg132.2 20 (by (try dsimp only); decide)).trans hC49
  refine (?_ : R (_, _, .int (Int32.ofInt v120) :: [], w131, 0, 0))
  refine hR (k_ne (by omega) (fun hc146 => ?_) (fun hc146 => ?_))
  rotate_left
  · skip
    refine hR (?_ : R (_, _, _, _, _, _))
    exact hR (zret_i rfl (Nat.le_refl _) trivial (h _ _ _ _ _ _ _ fr141 hC143 hC134 hC135 hC144 hC145 (by rw [zup (by omega), if_pos rfl]) (fun j hj => pk_un hj) (fun i hi => ⟨((hp139 i hi).1).trans (by rw [zup (by omega), if_neg (by omega)]), ((hp139 i hi).2).trans (by rw [zup (by omega), if_neg (by omega)])⟩) (Or.inl ⟨rfl, by rcases hp138 with ⟨h, -⟩ | ⟨-, b, X, h1, h2, h3, h4⟩ | ⟨-, b, X, h1, h2, h3⟩; (· omega); (· exact Or.inl ⟨b, X, h1, h2, h3, h4⟩); exact Or.inr ⟨b, X, h1, h2, h3⟩, rfl, rfl⟩)))
  iterate 2 refine hR (?_ : R (_, _, _, _, _, _))
  refine hR (j_ne (by omega) (by omega) (fun hc => by omega) (fun _ => ?_))
  refine hR (?_ : R (_, _, _, _, _, _))
  refine hR (c_get hC133 rfl ?_)
  refine hR (?_ : R (_, _, _, _, _, _))
  refine hR (c_aldE hC144 (by omega) (by omega) (Nat.le_of_ble_eq_true rfl) fun v147 ev147 rv147 => ?_)
  replace ev147 : v147 = tBy g19 0 := ev147
  subst ev147
  iterate 3 refine hR (?_ : R (_, _, _, _, _, _))
  refine hR (c_get hC133 rfl ?_)
  iterate 2 refine hR (?_ : R (_, _, _, _, _, _))
  refine hR (c_aldE hC144 (by omega) (by omega) (Nat.le_of_ble_eq_true rfl) fun v148 ev148 rv148 => ?_)
  replace ev148 : v148 = tBy g19 0 := ev148
  subst ev148
  iterate 2 refine hR (?_ : R (_, _, _, _, _, _))
  refine hR (j_ne (by omega) (by omega) (fun hc => by omega) (fun _ => ?_))
  iterate 2 refine hR (?_ : R (_, _, _, _, _, _))
  refine hR (t_add ?_)
  refine hR (x_ast hC144 (by omega) (by omega) (Nat.le_of_ble_eq_true rfl) fun w149 ff149 hC149 => ?_)
  have fr150 := wfM_st fr141 ff149 nX5
  have hC151 := (ff149.2 14 (by (try dsimp only); decide)).trans hC133
  have hC152 := (ff149.2 15 (by (try dsimp only); decide)).trans hC142
  have hC153 := (ff149.2 16 (by (try dsimp only); decide)).trans hC143
  have hC154 := (ff149.2 17 (by (try dsimp only); decide)).trans hC134
  have hC155 := (ff149.2 18 (by (try dsimp only); decide)).trans hC135
  have hC156 := (ff149.2 20 (by (try dsimp only); decide)).trans hC145
  have hC157 := (ff149.2 23 (by (try dsimp only); decide)).trans hC136
  have hC158 := (ff149.2 24 (by (try dsimp only); decide)).trans hC137
  refine hR (?_ : R (_, _, _, _, _, _))
  refine hR (k_ne (by omega) (fun hc => by omega) (fun _ => ?_))
  iterate 2 refine hR (?_ : R (_, _, _, _, _, _))
  refine hR (c_get hC151 rfl ?_)
  refine hR (t_c 51 (by decide) ?_)
  refine hR (?_ : R (_, _, _, _, _, _))
  refine hR (c_obj hC151 (zcall_i 0 0 (Nat.le_of_ble_eq_true rfl) (Nat.le_of_ble_eq_true rfl) (x_storeB _ _ _ _ _ _ _ _ _ _ _ _ _ _ _ _ _ _ _ _ _ _ _ _ _ _ _ hC151 hC156 hC157 (by omega) _ fun kr_159 w160 gg161 hC162 hp163 => ?_)))
  have fr164 := wfM_tr fr150 gg161 nX6
  have hC165 := (gg161.2 14 (by (try dsimp only); decide)).trans hC151
  have hC166 := (gg161.2 15 (by (try dsimp only); decide)).trans hC152
  have hC167 := (gg161.2 16 (by (try dsimp only); decide)).trans hC153
  have hC168 := (gg161.2 17 (by (try dsimp only); decide)).trans hC154
  have hC169 := (gg161.2 18 (by (try dsimp only); decide)).trans hC155
  have hC170 := (gg161.2 19 (by (try dsimp only); decide)).trans hC149
  have hC171 := (gg161.2 23 (by (try dsimp only); decide)).trans hC157
  have hC172 := (gg161.2 24 (by (try dsimp only); decide)).trans hC158
  refine (?_ : R (_, _, [], w160, 0, 0))
  iterate 2 refine hR (?_ : R (_, _, _, _, _, _))
  refine hR (c_put hC165 rfl rfl fun w173 ff173 hC173 => ?_)
  have fr174 := wfM_st fr164 ff173 nX0
  have hC175 := (ff173.2 15 (by (try dsimp only); decide)).trans hC166
  have hC176 := (ff173.2 16 (by (try dsimp only); decide)).trans hC167
  have hC177 := (ff173.2 17 (by (try dsimp only); decide)).trans hC168
  have hC178 := (ff173.2 18 (by (try dsimp only); decide)).trans hC169
  have hC179 := (ff173.2 19 (by (try dsimp only); decide)).trans hC170
  have hC180 := (ff173.2 20 (by (try dsimp only); decide)).trans hC162
  have hC181 := (ff173.2 23 (by (try dsimp only); decide)).trans hC171
  have hC182 := (ff173.2 24 (by (try dsimp only); decide)).trans hC172
  replace hC173 : zix w173 14 = some (.inr (11, [.int (Int32.ofInt 0), .ref 15, .ref 16, .ref 17, .ref 18, .ref 19, .ref 20, .ref 21, .ref 22, .int (Int32.ofInt (tE g (tBy g16 0) a'_121)), .int (Int32.ofInt (tBy g16 0)), .int (Int32.ofInt (tS g (tBy g16 0) a'_121)), .int (Int32.ofInt (rK (tK g (tBy g16 0) a'_121))), .int (Int32.ofInt x'_122), .long z'_126, .int (Int32.ofInt y15_125), .int (Int32.ofInt f'_123), .int (Int32.ofInt c'_124), .ref 23, .ref 24, .int (Int32.ofInt f20), .int (Int32.ofInt ((-1))), .int (Int32.ofInt f22), .int (Int32.ofInt f23), .ref 25, .ref 26, .int (Int32.ofInt f26), .ref 27, .int (Int32.ofInt f28), .ref 28, .ref 29, .int (Int32.ofInt f31), .int (Int32.ofInt f32), .int (Int32.ofInt f33), .ref 30, .ref 31, .ref 32, .ref 33, .int (Int32.ofInt f38), .ref 34, .ref 35, .int (Int32.ofInt f41), .ref 36, .ref 37, .int (Int32.ofInt f44), .ref 38, .ref 39, .ref 40, .ref 41, .ref 42, .ref 43, .ref 44])) := hC173
  iterate 2 refine hR (?_ : R (_, _, _, _, _, _))
  exact hR (zret_i rfl (Nat.le_refl _) trivial (h _ _ _ _ _ _ _ fr174 hC176 hC177 hC178 hC179 hC180 (by rw [zup (by omega), if_pos rfl]) (fun j hj => pk_un hj) (fun i hi => ⟨((hp139 i hi).1).trans (by rw [zup (by omega), if_neg (by omega)]), ((hp139 i hi).2).trans (by rw [zup (by omega), if_neg (by omega)])⟩) (Or.inr (by rcases hp138 with ⟨-, b, X, h1, h2, h3, h4, h5⟩ | ⟨h, -⟩ | ⟨h, -⟩; (· exact ⟨by omega, h4, h5, by rw [zup (by omega), if_pos rfl]; (split <;> omega), fun j hj => pk_un hj, b, X, _, _, _, h1, h2, h3, by rw [hp163]; congr 2; omega⟩); (· omega); omega))))
theorem x_storeY (w : zW) (d : Nat) (a3 : Int) (f0 f9 f10 f11 f12 f13 f15 f16 f17 f20 f21 f22 f23 f26 f28 f31 f32 f33 f38 f41 f44 : Int) (x14 : Int64) (gr g23 : Nat → Int32) (hK0 : zix w 14 = some (.inr (11, [.int (Int32.ofInt f0), .ref 15, .ref 16, .ref 17, .ref 18, .ref 19, .ref 20, .ref 21, .ref 22, .int (Int32.ofInt f9), .int (Int32.ofInt f10), .int (Int32.ofInt f11), .int (Int32.ofInt f12), .int (Int32.ofInt f13), .long x14, .int (Int32.ofInt f15), .int (Int32.ofInt f16), .int (Int32.ofInt f17), .ref 23, .ref 24, .int (Int32.ofInt f20), .int (Int32.ofInt f21), .int (Int32.ofInt f22), .int (Int32.ofInt f23), .ref 25, .ref 26, .int (Int32.ofInt f26), .ref 27, .int (Int32.ofInt f28), .ref 28, .ref 29, .int (Int32.ofInt f31), .int (Int32.ofInt f32), .int (Int32.ofInt f33), .ref 30, .ref 31, .ref 32, .ref 33, .int (Int32.ofInt f38), .ref 34, .ref 35, .int (Int32.ofInt f41), .ref 36, .ref 37, .int (Int32.ofInt f44), .ref 38, .ref 39, .ref 40, .ref 41, .ref 42, .ref 43, .ref 44]))) (hK1 : zix w 21 = some (.inl (1, 968, .inl gr))) (hK2 : zix w 23 = some (.inl (1, 121, .inl g23))) (hr0 : 0 ≤ a3 ∧ a3 ≤ 1) (Q : zQ) (h : ∀ (kr : Nat → Int32) (w' : zW), wfM (fun j => j ≠ 21) w w' → zix w' 21 = some (.inl (1, 968, .inl kr)) → (kr = kpR gr (121 * a3.toNat) g23 121) → Q (none) w') : zCl zTab (d + 1) iX12_store [.ref 14, .ref 21, .int (Int32.ofInt 121), .int (Int32.ofInt a3)] w 0 0 Q := by
  refine zCl_i (M := kX12_store) rfl (Nat.le_of_ble_eq_true rfl) fun R hR => ?_
  have fr0 : wfM (fun j => j ≠ 21) w w := wfM_rf _ w
  have nX0 : FX (∀ j : Nat, (j ≠ 21) → j ≠ 21) := fun j hj => by omega
  iterate 2 refine hR (?_ : R (_, _, _, _, _, _))
  have lp3 : ∀ (N : Nat) (ii : Int) (q2 : Nat → Int32) (w_3 : zW), (wfM (fun j => j ≠ 21) w w_3) → (zix w_3 14 = some (.inr (11, [.int (Int32.ofInt f0), .ref 15, .ref 16, .ref 17, .ref 18, .ref 19, .ref 20, .ref 21, .ref 22, .int (Int32.ofInt f9), .int (Int32.ofInt f10), .int (Int32.ofInt f11), .int (Int32.ofInt f12), .int (Int32.ofInt f13), .long x14, .int (Int32.ofInt f15), .int (Int32.ofInt f16), .int (Int32.ofInt f17), .ref 23, .ref 24, .int (Int32.ofInt f20), .int (Int32.ofInt f21), .int (Int32.ofInt f22), .int (Int32.ofInt f23), .ref 25, .ref 26, .int (Int32.ofInt f26), .ref 27, .int (Int32.ofInt f28), .ref 28, .ref 29, .int (Int32.ofInt f31), .int (Int32.ofInt f32), .int (Int32.ofInt f33), .ref 30, .ref 31, .ref 32, .ref 33, .int (Int32.ofInt f38), .ref 34, .ref 35, .int (Int32.ofInt f41), .ref 36, .ref 37, .int (Int32.ofInt f44), .ref 38, .ref 39, .ref 40, .ref 41, .ref 42, .ref 43, .ref 44]))) → (zix w_3 21 = some (.inl (1, 968, .inl q2))) → (zix w_3 23 = some (.inl (1, 121, .inl g23))) → (0 ≤ ii ∧ ii ≤ 121) → (q2 = kpR gr (121 * a3.toNat) g23 ii.toNat) → (121 - ii < N) → R (3, [some (.ref 14), some (.ref 21), some (.int (Int32.ofInt 121)), some (.int (Int32.ofInt a3)), some (.int (Int32.ofInt ii))], [], w_3, 0, 0) := by
    intro N
    induction N with
    | zero => intros; omega
    | succ N ih3 =>
      intro ii q2 w_3 fr_3 hC14_3 hC21_3 hC23_3 hf0_3 hp0_3 hN3
      iterate 2 refine hR (?_ : R (_, _, _, _, _, _))
      refine hR (j_ge (by omega) (by omega) (fun hc1 => ?_) (fun hc1 => ?_))
      · skip
        exact hR (zret_i rfl (Nat.le_refl _) rfl (h _ _ fr_3 hC21_3 (kpR_e hp0_3 (by omega))))
      iterate 3 refine hR (?_ : R (_, _, _, _, _, _))
      refine hR (t_mul ?_)
      refine hR (?_ : R (_, _, _, _, _, _))
      refine hR (t_add ?_)
      refine hR (?_ : R (_, _, _, _, _, _))
      refine hR (c_get hC14_3 rfl ?_)
      refine hR (?_ : R (_, _, _, _, _, _))
      refine hR (c_aldE hC23_3 (by omega) (by omega) (Nat.le_of_ble_eq_true rfl) fun v2 ev2 rv2 => ?_)
      replace ev2 : v2 = tBy g23 ii := ev2
      subst ev2
      refine hR (x_ast hC21_3 (by omega) (by omega) (Nat.le_of_ble_eq_true rfl) fun w3 ff3 hC3 => ?_)
      have fr4 := wfM_st fr_3 ff3 nX0
      have hC5 := (ff3.2 14 (by (try dsimp only); decide)).trans hC14_3
      have hC6 := (ff3.2 23 (by (try dsimp only); decide)).trans hC23_3
      refine hR (t_inc ?_)
      refine hR (?_ : R (_, _, _, _, _, _))
      exact ih3 _ (upd q2 ((121 * a3) + ii : Int).toNat (Int32.ofInt (tBy g23 ii))) _ fr4 hC5 hC3 hC6 (by omega) (kpR_s hp0_3 (by omega) (by omega) (by omega) rfl) (by omega)
  exact lp3 400000000 _ gr _ fr0 hK0 hK1 hK2 (by omega) (kpR_0 _ _ _) (by omega)
set_option maxHeartbeats 4000000 in
theorem x_textYR (w : zW) (d : Nat) (a2 : Int) (f0 f9 f10 f11 f12 f13 f15 f16 f17 f20 f21 f22 f23 f26 f28 f31 f32 f33 f38 f41 f44 : Int) (x14 : Int64) (nu : Int) (g15 g g16 g17 g18 g19 gr g23 g24 : Nat → Int32) (hK0 : zix w 14 = some (.inr (11, [.int (Int32.ofInt f0), .ref 15, .ref 16, .ref 17, .ref 18, .ref 19, .ref 20, .ref 21, .ref 22, .int (Int32.ofInt f9), .int (Int32.ofInt f10), .int (Int32.ofInt f11), .int (Int32.ofInt f12), .int (Int32.ofInt f13), .long x14, .int (Int32.ofInt f15), .int (Int32.ofInt f16), .int (Int32.ofInt f17), .ref 23, .ref 24, .int (Int32.ofInt f20), .int (Int32.ofInt f21), .int (Int32.ofInt f22), .int (Int32.ofInt f23), .ref 25, .ref 26, .int (Int32.ofInt f26), .ref 27, .int (Int32.ofInt f28), .ref 28, .ref 29, .int (Int32.ofInt f31), .int (Int32.ofInt f32), .int (Int32.ofInt f33), .ref 30, .ref 31, .ref 32, .ref 33, .int (Int32.ofInt f38), .ref 34, .ref 35, .int (Int32.ofInt f41), .ref 36, .ref 37, .int (Int32.ofInt f44), .ref 38, .ref 39, .ref 40, .ref 41, .ref 42, .ref 43, .ref 44]))) (hK1 : zix w 15 = some (.inl (0, 2400, .inl g15))) (hK2 : zix w 16 = some (.inl (1, 4, .inl g16))) (hK3 : zix w 17 = some (.inl (1, 4, .inl g17))) (hK4 : zix w 18 = some (.inl (1, 4, .inl g18))) (hK5 : zix w 19 = some (.inl (1, 12, .inl g19))) (hK6 : zix w 21 = some (.inl (1, 968, .inl gr))) (hK7 : zix w 23 = some (.inl (1, 121, .inl g23))) (hK8 : zix w 24 = some (.inl (1, 3, .inl g24))) (hr0 : 0 ≤ tBy g16 0 ∧ tBy g16 0 ≤ 600) (hr1 : ∀ i : Int, 0 ≤ i → i < tBy g16 0 → tBy g15 i = tBy g i ∧ -128 ≤ tBy g i ∧ tBy g i ≤ 127) (hr2 : ∀ i : Int, 0 ≤ i → i ≤ 2 → 0 ≤ tBy g19 i ∧ tBy g19 i ≤ 2) (hr3 : (-2147483648 ≤ a2 ∧ a2 ≤ 2147483647) ∧ (-2147483648 ≤ f17 ∧ f17 ≤ 2147483647)) (hr4 : (a2 = -1 ∧ tBy g19 1 < 2 ∧ nu = tBy g19 1) ∨ (0 ≤ a2 ∧ a2 < tBy g19 1 ∧ nu = a2)) (hr5 : yIni (0, -1, 0, zrF, zrF, zrF)) (Q : zQ) (h : ∀ (v : Int) (k16 k17 k18 k19 kr : Nat → Int32) (w' : zW), wfM (fun j => j ≠ 14 ∧ j ≠ 16 ∧ j ≠ 17 ∧ j ≠ 18 ∧ j ≠ 19 ∧ j ≠ 21 ∧ j ≠ 23 ∧ j ≠ 24) w w' → zix w' 16 = some (.inl (1, 4, .inl k16)) → zix w' 17 = some (.inl (1, 4, .inl k17)) → zix w' 18 = some (.inl (1, 4, .inl k18)) → zix w' 19 = some (.inl (1, 12, .inl k19)) → zix w' 21 = some (.inl (1, 968, .inl kr)) → (tBy k16 0 = 0) → (∀ j : Nat, j ≠ 0 → k16 j = g16 j) → (∀ i : Int, 1 ≤ i → tBy k17 i = tBy g17 i ∧ tBy k18 i = tBy g18 i) → ((v = -1 ∧ TXF (fun X : tpY => X.1) (fun X : tpY => X.2.1) g (tBy g16 0) (teF g (tBy g16 0) (tlY g (tBy g16 0)) 601 0 (0, -1, 0, zrF, zrF, zrF)) (tBy k17 0) (tBy k18 0) ∧ k19 = g19 ∧ kr = gr) ∨ (v = nu ∧ tBy k17 0 = 0 ∧ tBy k18 0 = -1 ∧ tBy k19 1 = tBy g19 1 + (if a2 = -1 then 1 else 0) ∧ (∀ j : Nat, j ≠ 1 → k19 j = g19 j) ∧ ∃ b X f' c' T, teF g (tBy g16 0) (tlY g (tBy g16 0)) 601 0 (0, -1, 0, zrF, zrF, zrF) = (true, b, X) ∧ X.1 = 0 ∧ RELY X f' c' T ∧ kr = kpR gr (121 * nu.toNat) T 121)) → Q (some (.int (Int32.ofInt v))) w') : zCl zTab (d + 9) iX12_text [.ref 14, .int (Int32.ofInt 1), .int (Int32.ofInt a2)] w 0 0 Q := by
  refine zCl_i (M := kX12_text) rfl (Nat.le_of_ble_eq_true rfl) fun R hR => ?_
  have fr0 : wfM (fun j => j ≠ 14 ∧ j ≠ 16 ∧ j ≠ 17 ∧ j ≠ 18 ∧ j ≠ 19 ∧ j ≠ 21 ∧ j ≠ 23 ∧ j ≠ 24) w w := wfM_rf _ w
  have h19i := hr2 1 (by omega) (by omega)
  have nX0 : FX (∀ j : Nat, (j ≠ 14 ∧ j ≠ 16 ∧ j ≠ 17 ∧ j ≠ 18 ∧ j ≠ 19 ∧ j ≠ 21 ∧ j ≠ 23 ∧ j ≠ 24) → j ≠ 14) := fun j hj => by omega
  have nX1 : FX (∀ j : Nat, (j ≠ 14 ∧ j ≠ 16 ∧ j ≠ 17 ∧ j ≠ 18 ∧ j ≠ 19 ∧ j ≠ 21 ∧ j ≠ 23 ∧ j ≠ 24) → j ≠ 16) := fun j hj => by omega
  have nX2 : FX (∀ j : Nat, (j ≠ 14 ∧ j ≠ 16 ∧ j ≠ 17 ∧ j ≠ 18 ∧ j ≠ 19 ∧ j ≠ 21 ∧ j ≠ 23 ∧ j ≠ 24) → j ≠ 17) := fun j hj => by omega
  have nX3 : FX (∀ j : Nat, (j ≠ 14 ∧ j ≠ 16 ∧ j ≠ 17 ∧ j ≠ 18 ∧ j ≠ 19 ∧ j ≠ 21 ∧ j ≠ 23 ∧ j ≠ 24) → j ≠ 18) := fun j hj => by omega
  have nX4 : FX (∀ j : Nat, (j ≠ 14 ∧ j ≠ 16 ∧ j ≠ 17 ∧ j ≠ 18 ∧ j ≠ 19 ∧ j ≠ 21 ∧ j ≠ 23 ∧ j ≠ 24) → (j ≠ 14 ∧ j ≠ 17 ∧ j ≠ 18 ∧ j ≠ 23 ∧ j ≠ 24)) := fun j hj => by omega
  have nX5 : FX (∀ j : Nat, (j ≠ 14 ∧ j ≠ 16 ∧ j ≠ 17 ∧ j ≠ 18 ∧ j ≠ 19 ∧ j ≠ 21 ∧ j ≠ 23 ∧ j ≠ 24) → j ≠ 19) := fun j hj => by omega
  have nX6 : FX (∀ j : Nat, (j ≠ 14 ∧ j ≠ 16 ∧ j ≠ 17 ∧ j ≠ 18 ∧ j ≠ 19 ∧ j ≠ 21 ∧ j ≠ 23 ∧ j ≠ 24) → (j ≠ 21)) := fun j hj => by omega
  iterate 2 refine hR (?_ : R (_, _, _, _, _, _))
  refine hR (c_put hK0 rfl rfl fun w1 ff1 hC1 => ?_)
  have fr2 := wfM_st fr0 ff1 nX0
  have hC3 := (ff1.2 15 (by (try dsimp only); decide)).trans hK1
  have hC4 := (ff1.2 16 (by (try dsimp only); decide)).trans hK2
  have hC5 := (ff1.2 17 (by (try dsimp only); decide)).trans hK3
  have hC6 := (ff1.2 18 (by (try dsimp only); decide)).trans hK4
  have hC7 := (ff1.2 19 (by (try dsimp only); decide)).trans hK5
  have hC8 := (ff1.2 21 (by (try dsimp only); decide)).trans hK6
  have hC9 := (ff1.2 23 (by (try dsimp only); decide)).trans hK7
  have hC10 := (ff1.2 24 (by (try dsimp only); decide)).trans hK8
  replace hC1 : zix w1 14 = some (.inr (11, [.int (Int32.ofInt 0), .ref 15, .ref 16, .ref 17, .ref 18, .ref 19, .ref 20, .ref 21, .ref 22, .int (Int32.ofInt f9), .int (Int32.ofInt f10), .int (Int32.ofInt f11), .int (Int32.ofInt f12), .int (Int32.ofInt f13), .long x14, .int (Int32.ofInt f15), .int (Int32.ofInt f16), .int (Int32.ofInt f17), .ref 23, .ref 24, .int (Int32.ofInt f20), .int (Int32.ofInt f21), .int (Int32.ofInt f22), .int (Int32.ofInt f23), .ref 25, .ref 26, .int (Int32.ofInt f26), .ref 27, .int (Int32.ofInt f28), .ref 28, .ref 29, .int (Int32.ofInt f31), .int (Int32.ofInt f32), .int (Int32.ofInt f33), .ref 30, .ref 31, .ref 32, .ref 33, .int (Int32.ofInt f38), .ref 34, .ref 35, .int (Int32.ofInt f41), .ref 36, .ref 37, .int (Int32.ofInt f44), .ref 38, .ref 39, .ref 40, .ref 41, .ref 42, .ref 43, .ref 44])) := hC1
  iterate 2 refine hR (?_ : R (_, _, _, _, _, _))
  refine hR (c_get hC1 rfl ?_)
  refine hR (?_ : R (_, _, _, _, _, _))
  refine hR (c_aldE hC4 (by omega) (by omega) (Nat.le_of_ble_eq_true rfl) fun v11 ev11 rv11 => ?_)
  replace ev11 : v11 = tBy g16 0 := ev11
  subst ev11
  refine hR (c_put hC1 rfl rfl fun w12 ff12 hC12 => ?_)
  have fr13 := wfM_st fr2 ff12 nX0
  have hC14 := (ff12.2 15 (by (try dsimp only); decide)).trans hC3
  have hC15 := (ff12.2 16 (by (try dsimp only); decide)).trans hC4
  have hC16 := (ff12.2 17 (by (try dsimp only); decide)).trans hC5
  have hC17 := (ff12.2 18 (by (try dsimp only); decide)).trans hC6
  have hC18 := (ff12.2 19 (by (try dsimp only); decide)).trans hC7
  have hC19 := (ff12.2 21 (by (try dsimp only); decide)).trans hC8
  have hC20 := (ff12.2 23 (by (try dsimp only); decide)).trans hC9
  have hC21 := (ff12.2 24 (by (try dsimp only); decide)).trans hC10
  replace hC12 : zix w12 14 = some (.inr (11, [.int (Int32.ofInt 0), .ref 15, .ref 16, .ref 17, .ref 18, .ref 19, .ref 20, .ref 21, .ref 22, .int (Int32.ofInt f9), .int (Int32.ofInt (tBy g16 0)), .int (Int32.ofInt f11), .int (Int32.ofInt f12), .int (Int32.ofInt f13), .long x14, .int (Int32.ofInt f15), .int (Int32.ofInt f16), .int (Int32.ofInt f17), .ref 23, .ref 24, .int (Int32.ofInt f20), .int (Int32.ofInt f21), .int (Int32.ofInt f22), .int (Int32.ofInt f23), .ref 25, .ref 26, .int (Int32.ofInt f26), .ref 27, .int (Int32.ofInt f28), .ref 28, .ref 29, .int (Int32.ofInt f31), .int (Int32.ofInt f32), .int (Int32.ofInt f33), .ref 30, .ref 31, .ref 32, .ref 33, .int (Int32.ofInt f38), .ref 34, .ref 35, .int (Int32.ofInt f41), .ref 36, .ref 37, .int (Int32.ofInt f44), .ref 38, .ref 39, .ref 40, .ref 41, .ref 42, .ref 43, .ref 44])) := hC12
  refine hR (?_ : R (_, _, _, _, _, _))
  refine hR (c_get hC12 rfl ?_)
  iterate 2 refine hR (?_ : R (_, _, _, _, _, _))
  refine hR (x_ast hC15 (by omega) (by omega) (Nat.le_of_ble_eq_true rfl) fun w22 ff22 hC22 => ?_)
  have fr23 := wfM_st fr13 ff22 nX1
  have hC24 := (ff22.2 14 (by (try dsimp only); decide)).trans hC12
  have hC25 := (ff22.2 15 (by (try dsimp only); decide)).trans hC14
  have hC26 := (ff22.2 17 (by (try dsimp only); decide)).trans hC16
  have hC27 := (ff22.2 18 (by (try dsimp only); decide)).trans hC17
  have hC28 := (ff22.2 19 (by (try dsimp only); decide)).trans hC18
  have hC29 := (ff22.2 21 (by (try dsimp only); decide)).trans hC19
  have hC30 := (ff22.2 23 (by (try dsimp only); decide)).trans hC20
  have hC31 := (ff22.2 24 (by (try dsimp only); decide)).trans hC21
  refine hR (?_ : R (_, _, _, _, _, _))
  refine hR (c_get hC24 rfl ?_)
  iterate 2 refine hR (?_ : R (_, _, _, _, _, _))
  refine hR (x_ast hC26 (by omega) (by omega) (Nat.le_of_ble_eq_true rfl) fun w32 ff32 hC32 => ?_)
  have fr33 := wfM_st fr23 ff32 nX2
  have hC34 := (ff32.2 14 (by (try dsimp only); decide)).trans hC24
  have hC35 := (ff32.2 15 (by (try dsimp only); decide)).trans hC25
  have hC36 := (ff32.2 16 (by (try dsimp only); decide)).trans hC22
  have hC37 := (ff32.2 18 (by (try dsimp only); decide)).trans hC27
  have hC38 := (ff32.2 19 (by (try dsimp only); decide)).trans hC28
  have hC39 := (ff32.2 21 (by (try dsimp only); decide)).trans hC29
  have hC40 := (ff32.2 23 (by (try dsimp only); decide)).trans hC30
  have hC41 := (ff32.2 24 (by (try dsimp only); decide)).trans hC31
  refine hR (?_ : R (_, _, _, _, _, _))
  refine hR (c_get hC34 rfl ?_)
  iterate 2 refine hR (?_ : R (_, _, _, _, _, _))
  refine hR (x_ast hC37 (by omega) (by omega) (Nat.le_of_ble_eq_true rfl) fun w42 ff42 hC42 => ?_)
  have fr43 := wfM_st fr33 ff42 nX3
  have hC44 := (ff42.2 14 (by (try dsimp only); decide)).trans hC34
  have hC45 := (ff42.2 15 (by (try dsimp only); decide)).trans hC35
  have hC46 := (ff42.2 16 (by (try dsimp only); decide)).trans hC36
  have hC47 := (ff42.2 17 (by (try dsimp only); decide)).trans hC32
  have hC48 := (ff42.2 19 (by (try dsimp only); decide)).trans hC38
  have hC49 := (ff42.2 21 (by (try dsimp only); decide)).trans hC39
  have hC50 := (ff42.2 23 (by (try dsimp only); decide)).trans hC40
  have hC51 := (ff42.2 24 (by (try dsimp only); decide)).trans hC41
  iterate 3 refine hR (?_ : R (_, _, _, _, _, _))
  refine hR (zcall_i 0 0 (Nat.le_of_ble_eq_true rfl) (Nat.le_of_ble_eq_true rfl) (m_in _ 1 0 2 _ (by omega) (by omega) (by omega) _ fun v52 hp53 => ?_))
  refine (?_ : R (_, _, .int (Int32.ofInt v52) :: [], w42, 0, 0))
  refine hR (k_eq (by omega) (fun hc => by omega) (fun _ => ?_))
  iterate 2 refine hR (?_ : R (_, _, _, _, _, _))
  refine hR (j_ne (by omega) (by omega) (fun hc54 => ?_) (fun hc54 => ?_))
  · skip
    iterate 3 refine hR (?_ : R (_, _, _, _, _, _))
    refine hR (c_obj hC44 (zcall_i 0 0 (Nat.le_of_ble_eq_true rfl) (Nat.le_of_ble_eq_true rfl) (x_isR _ _ _ _ _ _ _ _ _ _ _ _ _ _ _ _ _ _ _ _ _ _ _ _ _ _ _ hC44 hC48 (by omega) (by omega) hr2 _ fun v55 hp56 => ?_)))
    refine (?_ : R (_, _, .int (Int32.ofInt v55) :: [], w42, 0, 0))
    refine hR (k_ne (by omega) (fun _ => ?_) (fun hc => by omega))
    iterate 2 refine hR (?_ : R (_, _, _, _, _, _))
    refine hR (c_obj hC44 (zcall_i 0 0 (Nat.le_of_ble_eq_true rfl) (Nat.le_of_ble_eq_true rfl) (x_readTextY _ _ _ _ _ _ _ _ _ _ _ _ _ _ _ _ _ _ _ _ _ _ _ _ _ _ _ _ _ _ _ _ _ _ _ _ hC44 hC45 hC47 hC42 hC50 hC51 (by omega) hr1 (by omega) hr5 _ fun v57 a'_58 x'_59 f'_60 c'_61 y15_62 z'_63 H'_64 P'_65 T'_66 R'_67 w68 gg69 hC70 hC71 hC72 hC73 hC74 hp75 hp76 hp77 => ?_)))
    have fr78 := wfM_tr fr43 gg69 nX4
    have hC79 := (gg69.2 15 (by (try dsimp only); decide)).trans hC45
    have hC80 := (gg69.2 16 (by (try dsimp only); decide)).trans hC46
    have hC81 := (gg69.2 19 (by (try dsimp only); decide)).trans hC48
    have hC82 := (gg69.2 21 (by (try dsimp only); decide)).trans hC49
    refine (?_ : R (_, _, .int (Int32.ofInt v57) :: [], w68, 0, 0))
    refine hR (k_ne (by omega) (fun hc83 => ?_) (fun hc83 => ?_))
    rotate_left
    · skip
      refine hR (?_ : R (_, _, _, _, _, _))
      exact hR (zret_i rfl (Nat.le_refl _) trivial (h _ _ _ _ _ _ _ fr78 hC80 hC71 hC72 hC81 hC82 (by rw [zup (by omega), if_pos rfl]) (fun j hj => pk_un hj) (fun i hi => ⟨((hp76 i hi).1).trans (by rw [zup (by omega), if_neg (by omega)]), ((hp76 i hi).2).trans (by rw [zup (by omega), if_neg (by omega)])⟩) (Or.inl ⟨rfl, by rcases hp75 with ⟨h, -⟩ | ⟨-, b, X, h1, h2, h3, h4⟩ | ⟨-, b, X, h1, h2, h3⟩; (· omega); (· exact Or.inl ⟨b, X, h1, h2, h3, h4⟩); exact Or.inr ⟨b, X, h1, h2, h3⟩, rfl, rfl⟩)))
    iterate 2 refine hR (?_ : R (_, _, _, _, _, _))
    refine hR (j_ne (by omega) (by omega) (fun _ => ?_) (fun hc => by omega))
    iterate 3 refine hR (?_ : R (_, _, _, _, _, _))
    refine hR (c_get hC70 rfl ?_)
    iterate 2 refine hR (?_ : R (_, _, _, _, _, _))
    refine hR (c_aldE hC81 (by omega) (by omega) (Nat.le_of_ble_eq_true rfl) fun v84 ev84 rv84 => ?_)
    replace ev84 : v84 = tBy g19 1 := ev84
    subst ev84
    iterate 2 refine hR (?_ : R (_, _, _, _, _, _))
    refine hR (j_ne (by omega) (by omega) (fun _ => ?_) (fun hc => by omega))
    refine hR (?_ : R (_, _, _, _, _, _))
    refine hR (t_add ?_)
    refine hR (x_ast hC81 (by omega) (by omega) (Nat.le_of_ble_eq_true rfl) fun w85 ff85 hC85 => ?_)
    have fr86 := wfM_st fr78 ff85 nX5
    have hC87 := (ff85.2 14 (by (try dsimp only); decide)).trans hC70
    have hC88 := (ff85.2 15 (by (try dsimp only); decide)).trans hC79
    have hC89 := (ff85.2 16 (by (try dsimp only); decide)).trans hC80
    have hC90 := (ff85.2 17 (by (try dsimp only); decide)).trans hC71
    have hC91 := (ff85.2 18 (by (try dsimp only); decide)).trans hC72
    have hC92 := (ff85.2 21 (by (try dsimp only); decide)).trans hC82
    have hC93 := (ff85.2 23 (by (try dsimp only); decide)).trans hC73
    have hC94 := (ff85.2 24 (by (try dsimp only); decide)).trans hC74
    refine hR (?_ : R (_, _, _, _, _, _))
    refine hR (k_ne (by omega) (fun _ => ?_) (fun hc => by omega))
    iterate 2 refine hR (?_ : R (_, _, _, _, _, _))
    refine hR (j_ne (by omega) (by omega) (fun hc => by omega) (fun _ => ?_))
    iterate 2 refine hR (?_ : R (_, _, _, _, _, _))
    refine hR (c_get hC87 rfl ?_)
    refine hR (t_c 121 (by decide) ?_)
    refine hR (?_ : R (_, _, _, _, _, _))
    refine hR (c_obj hC87 (zcall_i 0 0 (Nat.le_of_ble_eq_true rfl) (Nat.le_of_ble_eq_true rfl) (x_storeY _ _ _ _ _ _ _ _ _ _ _ _ _ _ _ _ _ _ _ _ _ _ _ _ _ _ _ hC87 hC92 hC93 (by omega) _ fun kr_95 w96 gg97 hC98 hp99 => ?_)))
    have fr100 := wfM_tr fr86 gg97 nX6
    have hC101 := (gg97.2 14 (by (try dsimp only); decide)).trans hC87
    have hC102 := (gg97.2 15 (by (try dsimp only); decide)).trans hC88
    have hC103 := (gg97.2 16 (by (try dsimp only); decide)).trans hC89
    have hC104 := (gg97.2 17 (by (try dsimp only); decide)).trans hC90
    have hC105 := (gg97.2 18 (by (try dsimp only); decide)).trans hC91
    have hC106 := (gg97.2 19 (by (try dsimp only); decide)).trans hC85
    have hC107 := (gg97.2 23 (by (try dsimp only); decide)).trans hC93
    have hC108 := (gg97.2 24 (by (try dsimp only); decide)).trans hC94
    refine (?_ : R (_, _, [], w96, 0, 0))
    iterate 2 refine hR (?_ : R (_, _, _, _, _, _))
    exact hR (zret_i rfl (Nat.le_refl _) trivial (h _ _ _ _ _ _ _ fr100 hC103 hC104 hC105 hC106 hC98 (by rw [zup (by omega), if_pos rfl]) (fun j hj => pk_un hj) (fun i hi => ⟨((hp76 i hi).1).trans (by rw [zup (by omega), if_neg (by omega)]), ((hp76 i hi).2).trans (by rw [zup (by omega), if_neg (by omega)])⟩) (Or.inr (by rcases hp75 with ⟨-, b, X, h1, h2, h3, h4, h5⟩ | ⟨h, -⟩ | ⟨h, -⟩; (· exact ⟨by omega, h4, h5, by rw [zup (by omega), if_pos rfl]; (split <;> omega), fun j hj => pk_un hj, b, X, _, _, _, h1, h2, h3, by rw [hp99]; congr 2; omega⟩); (· omega); omega))))
  refine hR (?_ : R (_, _, _, _, _, _))
  refine hR (c_get hC44 rfl ?_)
  refine hR (?_ : R (_, _, _, _, _, _))
  refine hR (c_aldE hC48 (by omega) (by omega) (Nat.le_of_ble_eq_true rfl) fun v109 ev109 rv109 => ?_)
  replace ev109 : v109 = tBy g19 1 := ev109
  subst ev109
  refine hR (?_ : R (_, _, _, _, _, _))
  refine hR (j_ne (by omega) (by omega) (fun _ => ?_) (fun hc => by omega))
  iterate 2 refine hR (?_ : R (_, _, _, _, _, _))
  refine hR (c_obj hC44 (zcall_i 0 0 (Nat.le_of_ble_eq_true rfl) (Nat.le_of_ble_eq_true rfl) (x_readTextY _ _ _ _ _ _ _ _ _ _ _ _ _ _ _ _ _ _ _ _ _ _ _ _ _ _ _ _ _ _ _ _ _ _ _ _ hC44 hC45 hC47 hC42 hC50 hC51 (by omega) hr1 (by omega) hr5 _ fun v110 a'_111 x'_112 f'_113 c'_114 y15_115 z'_116 H'_117 P'_118 T'_119 R'_120 w121 gg122 hC123 hC124 hC125 hC126 hC127 hp128 hp129 hp130 => ?_)))
  have fr131 := wfM_tr fr43 gg122 nX4
  have hC132 := (gg122.2 15 (by (try dsimp only); decide)).trans hC45
  have hC133 := (gg122.2 16 (by (try dsimp only); decide)).trans hC46
  have hC134 := (gg122.2 19 (by (try dsimp only); decide)).trans hC48
  have hC135 := (gg122.2 21 (by (try dsimp only); decide)).trans hC49
  refine (?_ : R (_, _, .int (Int32.ofInt v110) :: [], w121, 0, 0))
  refine hR (k_ne (by omega) (fun hc136 => ?_) (fun hc136 => ?_))
  rotate_left
  · skip
    refine hR (?_ : R (_, _, _, _, _, _))
    exact hR (zret_i rfl (Nat.le_refl _) trivial (h _ _ _ _ _ _ _ fr131 hC133 hC124 hC125 hC134 hC135 (by rw [zup (by omega), if_pos rfl]) (fun j hj => pk_un hj) (fun i hi => ⟨((hp129 i hi).1).trans (by rw [zup (by omega), if_neg (by omega)]), ((hp129 i hi).2).trans (by rw [zup (by omega), if_neg (by omega)])⟩) (Or.inl ⟨rfl, by rcases hp128 with ⟨h, -⟩ | ⟨-, b, X, h1, h2, h3, h4⟩ | ⟨-, b, X, h1, h2, h3⟩; (· omega); (· exact Or.inl ⟨b, X, h1, h2, h3, h4⟩); exact Or.inr ⟨b, X, h1, h2, h3⟩, rfl, rfl⟩)))
  iterate 2 refine hR (?_ : R (_, _, _, _, _, _))
  refine hR (j_ne (by omega) (by omega) (fun hc => by omega) (fun _ => ?_))
  refine hR (?_ : R (_, _, _, _, _, _))
  refine hR (c_get hC123 rfl ?_)
  refine hR (?_ : R (_, _, _, _, _, _))
  refine hR (c_aldE hC134 (by omega) (by omega) (Nat.le_of_ble_eq_true rfl) fun v137 ev137 rv137 => ?_)
  replace ev137 : v137 = tBy g19 1 := ev137
  subst ev137
  iterate 3 refine hR (?_ : R (_, _, _, _, _, _))
  refine hR (c_get hC123 rfl ?_)
  iterate 2 refine hR (?_ : R (_, _, _, _, _, _))
  refine hR (c_aldE hC134 (by omega) (by omega) (Nat.le_of_ble_eq_true rfl) fun v138 ev138 rv138 => ?_)
  replace ev138 : v138 = tBy g19 1 := ev138
  subst ev138
  iterate 2 refine hR (?_ : R (_, _, _, _, _, _))
  refine hR (j_ne (by omega) (by omega) (fun hc => by omega) (fun _ => ?_))
  iterate 2 refine hR (?_ : R (_, _, _, _, _, _))
  refine hR (t_add ?_)
  refine hR (x_ast hC134 (by omega) (by omega) (Nat.le_of_ble_eq_true rfl) fun w139 ff139 hC139 => ?_)
  have fr140 := wfM_st fr131 ff139 nX5
  have hC141 := (ff139.2 14 (by (try dsimp only); decide)).trans hC123
  have hC142 := (ff139.2 15 (by (try dsimp only); decide)).trans hC132
  have hC143 := (ff139.2 16 (by (try dsimp only); decide)).trans hC133
  have hC144 := (ff139.2 17 (by (try dsimp only); decide)).trans hC124
  have hC145 := (ff139.2 18 (by (try dsimp only); decide)).trans hC125
  have hC146 := (ff139.2 21 (by (try dsimp only); decide)).trans hC135
  have hC147 := (ff139.2 23 (by (try dsimp only); decide)).trans hC126
  have hC148 := (ff139.2 24 (by (try dsimp only); decide)).trans hC127
  refine hR (?_ : R (_, _, _, _, _, _))
  refine hR (k_ne (by omega) (fun _ => ?_) (fun hc => by omega))
  iterate 2 refine hR (?_ : R (_, _, _, _, _, _))
  refine hR (j_ne (by omega) (by omega) (fun hc => by omega) (fun _ => ?_))
  iterate 2 refine hR (?_ : R (_, _, _, _, _, _))
  refine hR (c_get hC141 rfl ?_)
  refine hR (t_c 121 (by decide) ?_)
  refine hR (?_ : R (_, _, _, _, _, _))
  refine hR (c_obj hC141 (zcall_i 0 0 (Nat.le_of_ble_eq_true rfl) (Nat.le_of_ble_eq_true rfl) (x_storeY _ _ _ _ _ _ _ _ _ _ _ _ _ _ _ _ _ _ _ _ _ _ _ _ _ _ _ hC141 hC146 hC147 (by omega) _ fun kr_149 w150 gg151 hC152 hp153 => ?_)))
  have fr154 := wfM_tr fr140 gg151 nX6
  have hC155 := (gg151.2 14 (by (try dsimp only); decide)).trans hC141
  have hC156 := (gg151.2 15 (by (try dsimp only); decide)).trans hC142
  have hC157 := (gg151.2 16 (by (try dsimp only); decide)).trans hC143
  have hC158 := (gg151.2 17 (by (try dsimp only); decide)).trans hC144
  have hC159 := (gg151.2 18 (by (try dsimp only); decide)).trans hC145
  have hC160 := (gg151.2 19 (by (try dsimp only); decide)).trans hC139
  have hC161 := (gg151.2 23 (by (try dsimp only); decide)).trans hC147
  have hC162 := (gg151.2 24 (by (try dsimp only); decide)).trans hC148
  refine (?_ : R (_, _, [], w150, 0, 0))
  iterate 2 refine hR (?_ : R (_, _, _, _, _, _))
  exact hR (zret_i rfl (Nat.le_refl _) trivial (h _ _ _ _ _ _ _ fr154 hC157 hC158 hC159 hC160 hC152 (by rw [zup (by omega), if_pos rfl]) (fun j hj => pk_un hj) (fun i hi => ⟨((hp129 i hi).1).trans (by rw [zup (by omega), if_neg (by omega)]), ((hp129 i hi).2).trans (by rw [zup (by omega), if_neg (by omega)])⟩) (Or.inr (by rcases hp128 with ⟨-, b, X, h1, h2, h3, h4, h5⟩ | ⟨h, -⟩ | ⟨h, -⟩; (· exact ⟨by omega, h4, h5, by rw [zup (by omega), if_pos rfl]; (split <;> omega), fun j hj => pk_un hj, b, X, _, _, _, h1, h2, h3, by rw [hp153]; congr 2; omega⟩); (· omega); omega))))
theorem x_storeS (w : zW) (d : Nat) (a3 : Int) (f0 f9 f10 f11 f12 f13 f15 f16 f17 f20 f21 f22 f23 f26 f28 f31 f32 f33 f38 f41 f44 : Int) (x14 : Int64) (gr g23 : Nat → Int32) (hK0 : zix w 14 = some (.inr (11, [.int (Int32.ofInt f0), .ref 15, .ref 16, .ref 17, .ref 18, .ref 19, .ref 20, .ref 21, .ref 22, .int (Int32.ofInt f9), .int (Int32.ofInt f10), .int (Int32.ofInt f11), .int (Int32.ofInt f12), .int (Int32.ofInt f13), .long x14, .int (Int32.ofInt f15), .int (Int32.ofInt f16), .int (Int32.ofInt f17), .ref 23, .ref 24, .int (Int32.ofInt f20), .int (Int32.ofInt f21), .int (Int32.ofInt f22), .int (Int32.ofInt f23), .ref 25, .ref 26, .int (Int32.ofInt f26), .ref 27, .int (Int32.ofInt f28), .ref 28, .ref 29, .int (Int32.ofInt f31), .int (Int32.ofInt f32), .int (Int32.ofInt f33), .ref 30, .ref 31, .ref 32, .ref 33, .int (Int32.ofInt f38), .ref 34, .ref 35, .int (Int32.ofInt f41), .ref 36, .ref 37, .int (Int32.ofInt f44), .ref 38, .ref 39, .ref 40, .ref 41, .ref 42, .ref 43, .ref 44]))) (hK1 : zix w 22 = some (.inl (1, 104, .inl gr))) (hK2 : zix w 23 = some (.inl (1, 121, .inl g23))) (hr0 : 0 ≤ a3 ∧ a3 ≤ 1) (Q : zQ) (h : ∀ (kr : Nat → Int32) (w' : zW), wfM (fun j => j ≠ 22) w w' → zix w' 22 = some (.inl (1, 104, .inl kr)) → (kr = kpR gr (13 * a3.toNat) g23 13) → Q (none) w') : zCl zTab (d + 1) iX12_store [.ref 14, .ref 22, .int (Int32.ofInt 13), .int (Int32.ofInt a3)] w 0 0 Q := by
  refine zCl_i (M := kX12_store) rfl (Nat.le_of_ble_eq_true rfl) fun R hR => ?_
  have fr0 : wfM (fun j => j ≠ 22) w w := wfM_rf _ w
  have nX0 : FX (∀ j : Nat, (j ≠ 22) → j ≠ 22) := fun j hj => by omega
  iterate 2 refine hR (?_ : R (_, _, _, _, _, _))
  have lp3 : ∀ (N : Nat) (ii : Int) (q2 : Nat → Int32) (w_3 : zW), (wfM (fun j => j ≠ 22) w w_3) → (zix w_3 14 = some (.inr (11, [.int (Int32.ofInt f0), .ref 15, .ref 16, .ref 17, .ref 18, .ref 19, .ref 20, .ref 21, .ref 22, .int (Int32.ofInt f9), .int (Int32.ofInt f10), .int (Int32.ofInt f11), .int (Int32.ofInt f12), .int (Int32.ofInt f13), .long x14, .int (Int32.ofInt f15), .int (Int32.ofInt f16), .int (Int32.ofInt f17), .ref 23, .ref 24, .int (Int32.ofInt f20), .int (Int32.ofInt f21), .int (Int32.ofInt f22), .int (Int32.ofInt f23), .ref 25, .ref 26, .int (Int32.ofInt f26), .ref 27, .int (Int32.ofInt f28), .ref 28, .ref 29, .int (Int32.ofInt f31), .int (Int32.ofInt f32), .int (Int32.ofInt f33), .ref 30, .ref 31, .ref 32, .ref 33, .int (Int32.ofInt f38), .ref 34, .ref 35, .int (Int32.ofInt f41), .ref 36, .ref 37, .int (Int32.ofInt f44), .ref 38, .ref 39, .ref 40, .ref 41, .ref 42, .ref 43, .ref 44]))) → (zix w_3 22 = some (.inl (1, 104, .inl q2))) → (zix w_3 23 = some (.inl (1, 121, .inl g23))) → (0 ≤ ii ∧ ii ≤ 13) → (q2 = kpR gr (13 * a3.toNat) g23 ii.toNat) → (13 - ii < N) → R (3, [some (.ref 14), some (.ref 22), some (.int (Int32.ofInt 13)), some (.int (Int32.ofInt a3)), some (.int (Int32.ofInt ii))], [], w_3, 0, 0) := by
    intro N
    induction N with
    | zero => intros; omega
    | succ N ih3 =>
      intro ii q2 w_3 fr_3 hC14_3 hC22_3 hC23_3 hf0_3 hp0_3 hN3
      iterate 2 refine hR (?_ : R (_, _, _, _, _, _))
      refine hR (j_ge (by omega) (by omega) (fun hc1 => ?_) (fun hc1 => ?_))
      · skip
        exact hR (zret_i rfl (Nat.le_refl _) rfl (h _ _ fr_3 hC22_3 (kpR_e hp0_3 (by omega))))
      iterate 3 refine hR (?_ : R (_, _, _, _, _, _))
      refine hR (t_mul ?_)
      refine hR (?_ : R (_, _, _, _, _, _))
      refine hR (t_add ?_)
      refine hR (?_ : R (_, _, _, _, _, _))
      refine hR (c_get hC14_3 rfl ?_)
      refine hR (?_ : R (_, _, _, _, _, _))
      refine hR (c_aldE hC23_3 (by omega) (by omega) (Nat.le_of_ble_eq_true rfl) fun v2 ev2 rv2 => ?_)
      replace ev2 : v2 = tBy g23 ii := ev2
      subst ev2
      refine hR (x_ast hC22_3 (by omega) (by omega) (Nat.le_of_ble_eq_true rfl) fun w3 ff3 hC3 => ?_)
      have fr4 := wfM_st fr_3 ff3 nX0
      have hC5 := (ff3.2 14 (by (try dsimp only); decide)).trans hC14_3
      have hC6 := (ff3.2 23 (by (try dsimp only); decide)).trans hC23_3
      refine hR (t_inc ?_)
      refine hR (?_ : R (_, _, _, _, _, _))
      exact ih3 _ (upd q2 ((13 * a3) + ii : Int).toNat (Int32.ofInt (tBy g23 ii))) _ fr4 hC5 hC3 hC6 (by omega) (kpR_s hp0_3 (by omega) (by omega) (by omega) rfl) (by omega)
  exact lp3 400000000 _ gr _ fr0 hK0 hK1 hK2 (by omega) (kpR_0 _ _ _) (by omega)
set_option maxHeartbeats 4000000 in
theorem x_textSR (w : zW) (d : Nat) (a2 : Int) (f0 f9 f10 f11 f12 f13 f15 f16 f17 f20 f21 f22 f23 f26 f28 f31 f32 f33 f38 f41 f44 : Int) (x14 : Int64) (nu : Int) (g15 g g16 g17 g18 g19 gr g23 g24 : Nat → Int32) (hK0 : zix w 14 = some (.inr (11, [.int (Int32.ofInt f0), .ref 15, .ref 16, .ref 17, .ref 18, .ref 19, .ref 20, .ref 21, .ref 22, .int (Int32.ofInt f9), .int (Int32.ofInt f10), .int (Int32.ofInt f11), .int (Int32.ofInt f12), .int (Int32.ofInt f13), .long x14, .int (Int32.ofInt f15), .int (Int32.ofInt f16), .int (Int32.ofInt f17), .ref 23, .ref 24, .int (Int32.ofInt f20), .int (Int32.ofInt f21), .int (Int32.ofInt f22), .int (Int32.ofInt f23), .ref 25, .ref 26, .int (Int32.ofInt f26), .ref 27, .int (Int32.ofInt f28), .ref 28, .ref 29, .int (Int32.ofInt f31), .int (Int32.ofInt f32), .int (Int32.ofInt f33), .ref 30, .ref 31, .ref 32, .ref 33, .int (Int32.ofInt f38), .ref 34, .ref 35, .int (Int32.ofInt f41), .ref 36, .ref 37, .int (Int32.ofInt f44), .ref 38, .ref 39, .ref 40, .ref 41, .ref 42, .ref 43, .ref 44]))) (hK1 : zix w 15 = some (.inl (0, 2400, .inl g15))) (hK2 : zix w 16 = some (.inl (1, 4, .inl g16))) (hK3 : zix w 17 = some (.inl (1, 4, .inl g17))) (hK4 : zix w 18 = some (.inl (1, 4, .inl g18))) (hK5 : zix w 19 = some (.inl (1, 12, .inl g19))) (hK6 : zix w 22 = some (.inl (1, 104, .inl gr))) (hK7 : zix w 23 = some (.inl (1, 121, .inl g23))) (hK8 : zix w 24 = some (.inl (1, 3, .inl g24))) (hr0 : 0 ≤ tBy g16 0 ∧ tBy g16 0 ≤ 600) (hr1 : ∀ i : Int, 0 ≤ i → i < tBy g16 0 → tBy g15 i = tBy g i ∧ -128 ≤ tBy g i ∧ tBy g i ≤ 127) (hr2 : ∀ i : Int, 0 ≤ i → i ≤ 2 → 0 ≤ tBy g19 i ∧ tBy g19 i ≤ 2) (hr3 : (-2147483648 ≤ a2 ∧ a2 ≤ 2147483647) ∧ (-2147483648 ≤ f17 ∧ f17 ≤ 2147483647)) (hr4 : (a2 = -1 ∧ tBy g19 2 < 2 ∧ nu = tBy g19 2) ∨ (0 ≤ a2 ∧ a2 < tBy g19 2 ∧ nu = a2)) (hr5 : sIni (0, -1, 0, zrF, zrF)) (Q : zQ) (h : ∀ (v : Int) (k16 k17 k18 k19 kr : Nat → Int32) (w' : zW), wfM (fun j => j ≠ 14 ∧ j ≠ 16 ∧ j ≠ 17 ∧ j ≠ 18 ∧ j ≠ 19 ∧ j ≠ 22 ∧ j ≠ 23 ∧ j ≠ 24) w w' → zix w' 16 = some (.inl (1, 4, .inl k16)) → zix w' 17 = some (.inl (1, 4, .inl k17)) → zix w' 18 = some (.inl (1, 4, .inl k18)) → zix w' 19 = some (.inl (1, 12, .inl k19)) → zix w' 22 = some (.inl (1, 104, .inl kr)) → (tBy k16 0 = 0) → (∀ j : Nat, j ≠ 0 → k16 j = g16 j) → (∀ i : Int, 1 ≤ i → tBy k17 i = tBy g17 i ∧ tBy k18 i = tBy g18 i) → ((v = -1 ∧ TXF (fun X : tpS => X.1) (fun X : tpS => X.2.1) g (tBy g16 0) (teF g (tBy g16 0) (tlS g (tBy g16 0)) 601 0 (0, -1, 0, zrF, zrF)) (tBy k17 0) (tBy k18 0) ∧ k19 = g19 ∧ kr = gr) ∨ (v = nu ∧ tBy k17 0 = 0 ∧ tBy k18 0 = -1 ∧ tBy k19 2 = tBy g19 2 + (if a2 = -1 then 1 else 0) ∧ (∀ j : Nat, j ≠ 2 → k19 j = g19 j) ∧ ∃ b X f' c' T, teF g (tBy g16 0) (tlS g (tBy g16 0)) 601 0 (0, -1, 0, zrF, zrF) = (true, b, X) ∧ X.1 = 0 ∧ RELS X f' c' T ∧ kr = kpR gr (13 * nu.toNat) T 13)) → Q (some (.int (Int32.ofInt v))) w') : zCl zTab (d + 10) iX12_text [.ref 14, .int (Int32.ofInt 2), .int (Int32.ofInt a2)] w 0 0 Q := by
  refine zCl_i (M := kX12_text) rfl (Nat.le_of_ble_eq_true rfl) fun R hR => ?_
  have fr0 : wfM (fun j => j ≠ 14 ∧ j ≠ 16 ∧ j ≠ 17 ∧ j ≠ 18 ∧ j ≠ 19 ∧ j ≠ 22 ∧ j ≠ 23 ∧ j ≠ 24) w w := wfM_rf _ w
  have h19i := hr2 2 (by omega) (by omega)
  have nX0 : FX (∀ j : Nat, (j ≠ 14 ∧ j ≠ 16 ∧ j ≠ 17 ∧ j ≠ 18 ∧ j ≠ 19 ∧ j ≠ 22 ∧ j ≠ 23 ∧ j ≠ 24) → j ≠ 14) := fun j hj => by omega
  have nX1 : FX (∀ j : Nat, (j ≠ 14 ∧ j ≠ 16 ∧ j ≠ 17 ∧ j ≠ 18 ∧ j ≠ 19 ∧ j ≠ 22 ∧ j ≠ 23 ∧ j ≠ 24) → j ≠ 16) := fun j hj => by omega
  have nX2 : FX (∀ j : Nat, (j ≠ 14 ∧ j ≠ 16 ∧ j ≠ 17 ∧ j ≠ 18 ∧ j ≠ 19 ∧ j ≠ 22 ∧ j ≠ 23 ∧ j ≠ 24) → j ≠ 17) := fun j hj => by omega
  have nX3 : FX (∀ j : Nat, (j ≠ 14 ∧ j ≠ 16 ∧ j ≠ 17 ∧ j ≠ 18 ∧ j ≠ 19 ∧ j ≠ 22 ∧ j ≠ 23 ∧ j ≠ 24) → j ≠ 18) := fun j hj => by omega
  have nX4 : FX (∀ j : Nat, (j ≠ 14 ∧ j ≠ 16 ∧ j ≠ 17 ∧ j ≠ 18 ∧ j ≠ 19 ∧ j ≠ 22 ∧ j ≠ 23 ∧ j ≠ 24) → (j ≠ 14 ∧ j ≠ 17 ∧ j ≠ 18 ∧ j ≠ 23 ∧ j ≠ 24)) := fun j hj => by omega
  have nX5 : FX (∀ j : Nat, (j ≠ 14 ∧ j ≠ 16 ∧ j ≠ 17 ∧ j ≠ 18 ∧ j ≠ 19 ∧ j ≠ 22 ∧ j ≠ 23 ∧ j ≠ 24) → j ≠ 19) := fun j hj => by omega
  have nX6 : FX (∀ j : Nat, (j ≠ 14 ∧ j ≠ 16 ∧ j ≠ 17 ∧ j ≠ 18 ∧ j ≠ 19 ∧ j ≠ 22 ∧ j ≠ 23 ∧ j ≠ 24) → (j ≠ 22)) := fun j hj => by omega
  iterate 2 refine hR (?_ : R (_, _, _, _, _, _))
  refine hR (c_put hK0 rfl rfl fun w1 ff1 hC1 => ?_)
  have fr2 := wfM_st fr0 ff1 nX0
  have hC3 := (ff1.2 15 (by (try dsimp only); decide)).trans hK1
  have hC4 := (ff1.2 16 (by (try dsimp only); decide)).trans hK2
  have hC5 := (ff1.2 17 (by (try dsimp only); decide)).trans hK3
  have hC6 := (ff1.2 18 (by (try dsimp only); decide)).trans hK4
  have hC7 := (ff1.2 19 (by (try dsimp only); decide)).trans hK5
  have hC8 := (ff1.2 22 (by (try dsimp only); decide)).trans hK6
  have hC9 := (ff1.2 23 (by (try dsimp only); decide)).trans hK7
  have hC10 := (ff1.2 24 (by (try dsimp only); decide)).trans hK8
  replace hC1 : zix w1 14 = some (.inr (11, [.int (Int32.ofInt 0), .ref 15, .ref 16, .ref 17, .ref 18, .ref 19, .ref 20, .ref 21, .ref 22, .int (Int32.ofInt f9), .int (Int32.ofInt f10), .int (Int32.ofInt f11), .int (Int32.ofInt f12), .int (Int32.ofInt f13), .long x14, .int (Int32.ofInt f15), .int (Int32.ofInt f16), .int (Int32.ofInt f17), .ref 23, .ref 24, .int (Int32.ofInt f20), .int (Int32.ofInt f21), .int (Int32.ofInt f22), .int (Int32.ofInt f23), .ref 25, .ref 26, .int (Int32.ofInt f26), .ref 27, .int (Int32.ofInt f28), .ref 28, .ref 29, .int (Int32.ofInt f31), .int (Int32.ofInt f32), .int (Int32.ofInt f33), .ref 30, .ref 31, .ref 32, .ref 33, .int (Int32.ofInt f38), .ref 34, .ref 35, .int (Int32.ofInt f41), .ref 36, .ref 37, .int (Int32.ofInt f44), .ref 38, .ref 39, .ref 40, .ref 41, .ref 42, .ref 43, .ref 44])) := hC1
  iterate 2 refine hR (?_ : R (_, _, _, _, _, _))
  refine hR (c_get hC1 rfl ?_)
  refine hR (?_ : R (_, _, _, _, _, _))
  refine hR (c_aldE hC4 (by omega) (by omega) (Nat.le_of_ble_eq_true rfl) fun v11 ev11 rv11 => ?_)
  replace ev11 : v11 = tBy g16 0 := ev11
  subst ev11
  refine hR (c_put hC1 rfl rfl fun w12 ff12 hC12 => ?_)
  have fr13 := wfM_st fr2 ff12 nX0
  have hC14 := (ff12.2 15 (by (try dsimp only); decide)).trans hC3
  have hC15 := (ff12.2 16 (by (try dsimp only); decide)).trans hC4
  have hC16 := (ff12.2 17 (by (try dsimp only); decide)).trans hC5
  have hC17 := (ff12.2 18 (by (try dsimp only); decide)).trans hC6
  have hC18 := (ff12.2 19 (by (try dsimp only); decide)).trans hC7
  have hC19 := (ff12.2 22 (by (try dsimp only); decide)).trans hC8
  have hC20 := (ff12.2 23 (by (try dsimp only); decide)).trans hC9
  have hC21 := (ff12.2 24 (by (try dsimp only); decide)).trans hC10
  replace hC12 : zix w12 14 = some (.inr (11, [.int (Int32.ofInt 0), .ref 15, .ref 16, .ref 17, .ref 18, .ref 19, .ref 20, .ref 21, .ref 22, .int (Int32.ofInt f9), .int (Int32.ofInt (tBy g16 0)), .int (Int32.ofInt f11), .int (Int32.ofInt f12), .int (Int32.ofInt f13), .long x14, .int (Int32.ofInt f15), .int (Int32.ofInt f16), .int (Int32.ofInt f17), .ref 23, .ref 24, .int (Int32.ofInt f20), .int (Int32.ofInt f21), .int (Int32.ofInt f22), .int (Int32.ofInt f23), .ref 25, .ref 26, .int (Int32.ofInt f26), .ref 27, .int (Int32.ofInt f28), .ref 28, .ref 29, .int (Int32.ofInt f31), .int (Int32.ofInt f32), .int (Int32.ofInt f33), .ref 30, .ref 31, .ref 32, .ref 33, .int (Int32.ofInt f38), .ref 34, .ref 35, .int (Int32.ofInt f41), .ref 36, .ref 37, .int (Int32.ofInt f44), .ref 38, .ref 39, .ref 40, .ref 41, .ref 42, .ref 43, .ref 44])) := hC12
  refine hR (?_ : R (_, _, _, _, _, _))
  refine hR (c_get hC12 rfl ?_)
  iterate 2 refine hR (?_ : R (_, _, _, _, _, _))
  refine hR (x_ast hC15 (by omega) (by omega) (Nat.le_of_ble_eq_true rfl) fun w22 ff22 hC22 => ?_)
  have fr23 := wfM_st fr13 ff22 nX1
  have hC24 := (ff22.2 14 (by (try dsimp only); decide)).trans hC12
  have hC25 := (ff22.2 15 (by (try dsimp only); decide)).trans hC14
  have hC26 := (ff22.2 17 (by (try dsimp only); decide)).trans hC16
  have hC27 := (ff22.2 18 (by (try dsimp only); decide)).trans hC17
  have hC28 := (ff22.2 19 (by (try dsimp only); decide)).trans hC18
  have hC29 := (ff22.2 22 (by (try dsimp only); decide)).trans hC19
  have hC30 := (ff22.2 23 (by (try dsimp only); decide)).trans hC20
  have hC31 := (ff22.2 24 (by (try dsimp only); decide)).trans hC21
  refine hR (?_ : R (_, _, _, _, _, _))
  refine hR (c_get hC24 rfl ?_)
  iterate 2 refine hR (?_ : R (_, _, _, _, _, _))
  refine hR (x_ast hC26 (by omega) (by omega) (Nat.le_of_ble_eq_true rfl) fun w32 ff32 hC32 => ?_)
  have fr33 := wfM_st fr23 ff32 nX2
  have hC34 := (ff32.2 14 (by (try dsimp only); decide)).trans hC24
  have hC35 := (ff32.2 15 (by (try dsimp only); decide)).trans hC25
  have hC36 := (ff32.2 16 (by (try dsimp only); decide)).trans hC22
  have hC37 := (ff32.2 18 (by (try dsimp only); decide)).trans hC27
  have hC38 := (ff32.2 19 (by (try dsimp only); decide)).trans hC28
  have hC39 := (ff32.2 22 (by (try dsimp only); decide)).trans hC29
  have hC40 := (ff32.2 23 (by (try dsimp only); decide)).trans hC30
  have hC41 := (ff32.2 24 (by (try dsimp only); decide)).trans hC31
  refine hR (?_ : R (_, _, _, _, _, _))
  refine hR (c_get hC34 rfl ?_)
  iterate 2 refine hR (?_ : R (_, _, _, _, _, _))
  refine hR (x_ast hC37 (by omega) (by omega) (Nat.le_of_ble_eq_true rfl) fun w42 ff42 hC42 => ?_)
  have fr43 := wfM_st fr33 ff42 nX3
  have hC44 := (ff42.2 14 (by (try dsimp only); decide)).trans hC34
  have hC45 := (ff42.2 15 (by (try dsimp only); decide)).trans hC35
  have hC46 := (ff42.2 16 (by (try dsimp only); decide)).trans hC36
  have hC47 := (ff42.2 17 (by (try dsimp only); decide)).trans hC32
  have hC48 := (ff42.2 19 (by (try dsimp only); decide)).trans hC38
  have hC49 := (ff42.2 22 (by (try dsimp only); decide)).trans hC39
  have hC50 := (ff42.2 23 (by (try dsimp only); decide)).trans hC40
  have hC51 := (ff42.2 24 (by (try dsimp only); decide)).trans hC41
  iterate 3 refine hR (?_ : R (_, _, _, _, _, _))
  refine hR (zcall_i 0 0 (Nat.le_of_ble_eq_true rfl) (Nat.le_of_ble_eq_true rfl) (m_in _ 2 0 2 _ (by omega) (by omega) (by omega) _ fun v52 hp53 => ?_))
  refine (?_ : R (_, _, .int (Int32.ofInt v52) :: [], w42, 0, 0))
  refine hR (k_eq (by omega) (fun hc => by omega) (fun _ => ?_))
  iterate 2 refine hR (?_ : R (_, _, _, _, _, _))
  refine hR (j_ne (by omega) (by omega) (fun hc54 => ?_) (fun hc54 => ?_))
  · skip
    iterate 3 refine hR (?_ : R (_, _, _, _, _, _))
    refine hR (c_obj hC44 (zcall_i 0 0 (Nat.le_of_ble_eq_true rfl) (Nat.le_of_ble_eq_true rfl) (x_isR _ _ _ _ _ _ _ _ _ _ _ _ _ _ _ _ _ _ _ _ _ _ _ _ _ _ _ hC44 hC48 (by omega) (by omega) hr2 _ fun v55 hp56 => ?_)))
    refine (?_ : R (_, _, .int (Int32.ofInt v55) :: [], w42, 0, 0))
    refine hR (k_ne (by omega) (fun _ => ?_) (fun hc => by omega))
    iterate 2 refine hR (?_ : R (_, _, _, _, _, _))
    refine hR (c_obj hC44 (zcall_i 0 0 (Nat.le_of_ble_eq_true rfl) (Nat.le_of_ble_eq_true rfl) (x_readTextS _ _ _ _ _ _ _ _ _ _ _ _ _ _ _ _ _ _ _ _ _ _ _ _ _ _ _ _ _ _ _ _ _ _ _ hC44 hC45 hC47 hC42 hC50 hC51 (by omega) hr1 (by omega) hr5 _ fun v57 a'_58 x'_59 f'_60 c'_61 y15_62 z'_63 H'_64 P'_65 T'_66 R'_67 w68 gg69 hC70 hC71 hC72 hC73 hC74 hp75 hp76 hp77 => ?_)))
    have fr78 := wfM_tr fr43 gg69 nX4
    have hC79 := (gg69.2 15 (by (try dsimp only); decide)).trans hC45
    have hC80 := (gg69.2 16 (by (try dsimp only); decide)).trans hC46
    have hC81 := (gg69.2 19 (by (try dsimp only); decide)).trans hC48
    have hC82 := (gg69.2 22 (by (try dsimp only); decide)).trans hC49
    refine (?_ : R (_, _, .int (Int32.ofInt v57) :: [], w68, 0, 0))
    refine hR (k_ne (by omega) (fun hc83 => ?_) (fun hc83 => ?_))
    rotate_left
    · skip
      refine hR (?_ : R (_, _, _, _, _, _))
      exact hR (zret_i rfl (Nat.le_refl _) trivial (h _ _ _ _ _ _ _ fr78 hC80 hC71 hC72 hC81 hC82 (by rw [zup (by omega), if_pos rfl]) (fun j hj => pk_un hj) (fun i hi => ⟨((hp76 i hi).1).trans (by rw [zup (by omega), if_neg (by omega)]), ((hp76 i hi).2).trans (by rw [zup (by omega), if_neg (by omega)])⟩) (Or.inl ⟨rfl, by rcases hp75 with ⟨h, -⟩ | ⟨-, b, X, h1, h2, h3, h4⟩ | ⟨-, b, X, h1, h2, h3⟩; (· omega); (· exact Or.inl ⟨b, X, h1, h2, h3, h4⟩); exact Or.inr ⟨b, X, h1, h2, h3⟩, rfl, rfl⟩)))
    iterate 2 refine hR (?_ : R (_, _, _, _, _, _))
    refine hR (j_ne (by omega) (by omega) (fun _ => ?_) (fun hc => by omega))
    iterate 3 refine hR (?_ : R (_, _, _, _, _, _))
    refine hR (c_get hC70 rfl ?_)
    iterate 2 refine hR (?_ : R (_, _, _, _, _, _))
    refine hR (c_aldE hC81 (by omega) (by omega) (Nat.le_of_ble_eq_true rfl) fun v84 ev84 rv84 => ?_)
    replace ev84 : v84 = tBy g19 2 := ev84
    subst ev84
    iterate 2 refine hR (?_ : R (_, _, _, _, _, _))
    refine hR (j_ne (by omega) (by omega) (fun _ => ?_) (fun hc => by omega))
    refine hR (?_ : R (_, _, _, _, _, _))
    refine hR (t_add ?_)
    refine hR (x_ast hC81 (by omega) (by omega) (Nat.le_of_ble_eq_true rfl) fun w85 ff85 hC85 => ?_)
    have fr86 := wfM_st fr78 ff85 nX5
    have hC87 := (ff85.2 14 (by (try dsimp only); decide)).trans hC70
    have hC88 := (ff85.2 15 (by (try dsimp only); decide)).trans hC79
    have hC89 := (ff85.2 16 (by (try dsimp only); decide)).trans hC80
    have hC90 := (ff85.2 17 (by (try dsimp only); decide)).trans hC71
    have hC91 := (ff85.2 18 (by (try dsimp only); decide)).trans hC72
    have hC92 := (ff85.2 22 (by (try dsimp only); decide)).trans hC82
    have hC93 := (ff85.2 23 (by (try dsimp only); decide)).trans hC73
    have hC94 := (ff85.2 24 (by (try dsimp only); decide)).trans hC74
    refine hR (?_ : R (_, _, _, _, _, _))
    refine hR (k_ne (by omega) (fun _ => ?_) (fun hc => by omega))
    iterate 2 refine hR (?_ : R (_, _, _, _, _, _))
    refine hR (j_ne (by omega) (by omega) (fun _ => ?_) (fun hc => by omega))
    iterate 2 refine hR (?_ : R (_, _, _, _, _, _))
    refine hR (c_get hC87 rfl ?_)
    refine hR (t_c 13 (by decide) ?_)
    refine hR (?_ : R (_, _, _, _, _, _))
    refine hR (c_obj hC87 (zcall_i 0 0 (Nat.le_of_ble_eq_true rfl) (Nat.le_of_ble_eq_true rfl) (x_storeS _ _ _ _ _ _ _ _ _ _ _ _ _ _ _ _ _ _ _ _ _ _ _ _ _ _ _ hC87 hC92 hC93 (by omega) _ fun kr_95 w96 gg97 hC98 hp99 => ?_)))
    have fr100 := wfM_tr fr86 gg97 nX6
    have hC101 := (gg97.2 14 (by (try dsimp only); decide)).trans hC87
    have hC102 := (gg97.2 15 (by (try dsimp only); decide)).trans hC88
    have hC103 := (gg97.2 16 (by (try dsimp only); decide)).trans hC89
    have hC104 := (gg97.2 17 (by (try dsimp only); decide)).trans hC90
    have hC105 := (gg97.2 18 (by (try dsimp only); decide)).trans hC91
    have hC106 := (gg97.2 19 (by (try dsimp only); decide)).trans hC85
    have hC107 := (gg97.2 23 (by (try dsimp only); decide)).trans hC93
    have hC108 := (gg97.2 24 (by (try dsimp only); decide)).trans hC94
    refine (?_ : R (_, _, [], w96, 0, 0))
    refine hR (?_ : R (_, _, _, _, _, _))
    exact hR (zret_i rfl (Nat.le_refl _) trivial (h _ _ _ _ _ _ _ fr100 hC103 hC104 hC105 hC106 hC98 (by rw [zup (by omega), if_pos rfl]) (fun j hj => pk_un hj) (fun i hi => ⟨((hp76 i hi).1).trans (by rw [zup (by omega), if_neg (by omega)]), ((hp76 i hi).2).trans (by rw [zup (by omega), if_neg (by omega)])⟩) (Or.inr (by rcases hp75 with ⟨-, b, X, h1, h2, h3, h4, h5⟩ | ⟨h, -⟩ | ⟨h, -⟩; (· exact ⟨by omega, h4, h5, by rw [zup (by omega), if_pos rfl]; (split <;> omega), fun j hj => pk_un hj, b, X, _, _, _, h1, h2, h3, by rw [hp99]; congr 2; omega⟩); (· omega); omega))))
  refine hR (?_ : R (_, _, _, _, _, _))
  refine hR (c_get hC44 rfl ?_)
  refine hR (?_ : R (_, _, _, _, _, _))
  refine hR (c_aldE hC48 (by omega) (by omega) (Nat.le_of_ble_eq_true rfl) fun v109 ev109 rv109 => ?_)
  replace ev109 : v109 = tBy g19 2 := ev109
  subst ev109
  refine hR (?_ : R (_, _, _, _, _, _))
  refine hR (j_ne (by omega) (by omega) (fun _ => ?_) (fun hc => by omega))
  iterate 2 refine hR (?_ : R (_, _, _, _, _, _))
  refine hR (c_obj hC44 (zcall_i 0 0 (Nat.le_of_ble_eq_true rfl) (Nat.le_of_ble_eq_true rfl) (x_readTextS _ _ _ _ _ _ _ _ _ _ _ _ _ _ _ _ _ _ _ _ _ _ _ _ _ _ _ _ _ _ _ _ _ _ _ hC44 hC45 hC47 hC42 hC50 hC51 (by omega) hr1 (by omega) hr5 _ fun v110 a'_111 x'_112 f'_113 c'_114 y15_115 z'_116 H'_117 P'_118 T'_119 R'_120 w121 gg122 hC123 hC124 hC125 hC126 hC127 hp128 hp129 hp130 => ?_)))
  have fr131 := wfM_tr fr43 gg122 nX4
  have hC132 := (gg122.2 15 (by (try dsimp only); decide)).trans hC45
  have hC133 := (gg122.2 16 (by (try dsimp only); decide)).trans hC46
  have hC134 := (gg122.2 19 (by (try dsimp only); decide)).trans hC48
  have hC135 := (gg122.2 22 (by (try dsimp only); decide)).trans hC49
  refine (?_ : R (_, _, .int (Int32.ofInt v110) :: [], w121, 0, 0))
  refine hR (k_ne (by omega) (fun hc136 => ?_) (fun hc136 => ?_))
  rotate_left
  · skip
    refine hR (?_ : R (_, _, _, _, _, _))
    exact hR (zret_i rfl (Nat.le_refl _) trivial (h _ _ _ _ _ _ _ fr131 hC133 hC124 hC125 hC134 hC135 (by rw [zup (by omega), if_pos rfl]) (fun j hj => pk_un hj) (fun i hi => ⟨((hp129 i hi).1).trans (by rw [zup (by omega), if_neg (by omega)]), ((hp129 i hi).2).trans (by rw [zup (by omega), if_neg (by omega)])⟩) (Or.inl ⟨rfl, by rcases hp128 with ⟨h, -⟩ | ⟨-, b, X, h1, h2, h3, h4⟩ | ⟨-, b, X, h1, h2, h3⟩; (· omega); (· exact Or.inl ⟨b, X, h1, h2, h3, h4⟩); exact Or.inr ⟨b, X, h1, h2, h3⟩, rfl, rfl⟩)))
  iterate 2 refine hR (?_ : R (_, _, _, _, _, _))
  refine hR (j_ne (by omega) (by omega) (fun hc => by omega) (fun _ => ?_))
  refine hR (?_ : R (_, _, _, _, _, _))
  refine hR (c_get hC123 rfl ?_)
  refine hR (?_ : R (_, _, _, _, _, _))
  refine hR (c_aldE hC134 (by omega) (by omega) (Nat.le_of_ble_eq_true rfl) fun v137 ev137 rv137 => ?_)
  replace ev137 : v137 = tBy g19 2 := ev137
  subst ev137
  iterate 3 refine hR (?_ : R (_, _, _, _, _, _))
  refine hR (c_get hC123 rfl ?_)
  iterate 2 refine hR (?_ : R (_, _, _, _, _, _))
  refine hR (c_aldE hC134 (by omega) (by omega) (Nat.le_of_ble_eq_true rfl) fun v138 ev138 rv138 => ?_)
  replace ev138 : v138 = tBy g19 2 := ev138
  subst ev138
  iterate 2 refine hR (?_ : R (_, _, _, _, _, _))
  refine hR (j_ne (by omega) (by omega) (fun hc => by omega) (fun _ => ?_))
  iterate 2 refine hR (?_ : R (_, _, _, _, _, _))
  refine hR (t_add ?_)
  refine hR (x_ast hC134 (by omega) (by omega) (Nat.le_of_ble_eq_true rfl) fun w139 ff139 hC139 => ?_)
  have fr140 := wfM_st fr131 ff139 nX5
  have hC141 := (ff139.2 14 (by (try dsimp only); decide)).trans hC123
  have hC142 := (ff139.2 15 (by (try dsimp only); decide)).trans hC132
  have hC143 := (ff139.2 16 (by (try dsimp only); decide)).trans hC133
  have hC144 := (ff139.2 17 (by (try dsimp only); decide)).trans hC124
  have hC145 := (ff139.2 18 (by (try dsimp only); decide)).trans hC125
  have hC146 := (ff139.2 22 (by (try dsimp only); decide)).trans hC135
  have hC147 := (ff139.2 23 (by (try dsimp only); decide)).trans hC126
  have hC148 := (ff139.2 24 (by (try dsimp only); decide)).trans hC127
  refine hR (?_ : R (_, _, _, _, _, _))
  refine hR (k_ne (by omega) (fun _ => ?_) (fun hc => by omega))
  iterate 2 refine hR (?_ : R (_, _, _, _, _, _))
  refine hR (j_ne (by omega) (by omega) (fun _ => ?_) (fun hc => by omega))
  iterate 2 refine hR (?_ : R (_, _, _, _, _, _))
  refine hR (c_get hC141 rfl ?_)
  refine hR (t_c 13 (by decide) ?_)
  refine hR (?_ : R (_, _, _, _, _, _))
  refine hR (c_obj hC141 (zcall_i 0 0 (Nat.le_of_ble_eq_true rfl) (Nat.le_of_ble_eq_true rfl) (x_storeS _ _ _ _ _ _ _ _ _ _ _ _ _ _ _ _ _ _ _ _ _ _ _ _ _ _ _ hC141 hC146 hC147 (by omega) _ fun kr_149 w150 gg151 hC152 hp153 => ?_)))
  have fr154 := wfM_tr fr140 gg151 nX6
  have hC155 := (gg151.2 14 (by (try dsimp only); decide)).trans hC141
  have hC156 := (gg151.2 15 (by (try dsimp only); decide)).trans hC142
  have hC157 := (gg151.2 16 (by (try dsimp only); decide)).trans hC143
  have hC158 := (gg151.2 17 (by (try dsimp only); decide)).trans hC144
  have hC159 := (gg151.2 18 (by (try dsimp only); decide)).trans hC145
  have hC160 := (gg151.2 19 (by (try dsimp only); decide)).trans hC139
  have hC161 := (gg151.2 23 (by (try dsimp only); decide)).trans hC147
  have hC162 := (gg151.2 24 (by (try dsimp only); decide)).trans hC148
  refine (?_ : R (_, _, [], w150, 0, 0))
  refine hR (?_ : R (_, _, _, _, _, _))
  exact hR (zret_i rfl (Nat.le_refl _) trivial (h _ _ _ _ _ _ _ fr154 hC157 hC158 hC159 hC160 hC152 (by rw [zup (by omega), if_pos rfl]) (fun j hj => pk_un hj) (fun i hi => ⟨((hp129 i hi).1).trans (by rw [zup (by omega), if_neg (by omega)]), ((hp129 i hi).2).trans (by rw [zup (by omega), if_neg (by omega)])⟩) (Or.inr (by rcases hp128 with ⟨-, b, X, h1, h2, h3, h4, h5⟩ | ⟨h, -⟩ | ⟨h, -⟩; (· exact ⟨by omega, h4, h5, by rw [zup (by omega), if_pos rfl]; (split <;> omega), fun j hj => pk_un hj, b, X, _, _, _, h1, h2, h3, by rw [hp153]; congr 2; omega⟩); (· omega); omega))))
theorem x_text0R (w : zW) (d : Nat) (a1 a2 : Int) (f0 f9 f10 f11 f12 f13 f15 f16 f17 f20 f21 f22 f23 f26 f28 f31 f32 f33 f38 f41 f44 : Int) (x14 : Int64) (g16 g17 g18 g19 : Nat → Int32) (hK0 : zix w 14 = some (.inr (11, [.int (Int32.ofInt f0), .ref 15, .ref 16, .ref 17, .ref 18, .ref 19, .ref 20, .ref 21, .ref 22, .int (Int32.ofInt f9), .int (Int32.ofInt f10), .int (Int32.ofInt f11), .int (Int32.ofInt f12), .int (Int32.ofInt f13), .long x14, .int (Int32.ofInt f15), .int (Int32.ofInt f16), .int (Int32.ofInt f17), .ref 23, .ref 24, .int (Int32.ofInt f20), .int (Int32.ofInt f21), .int (Int32.ofInt f22), .int (Int32.ofInt f23), .ref 25, .ref 26, .int (Int32.ofInt f26), .ref 27, .int (Int32.ofInt f28), .ref 28, .ref 29, .int (Int32.ofInt f31), .int (Int32.ofInt f32), .int (Int32.ofInt f33), .ref 30, .ref 31, .ref 32, .ref 33, .int (Int32.ofInt f38), .ref 34, .ref 35, .int (Int32.ofInt f41), .ref 36, .ref 37, .int (Int32.ofInt f44), .ref 38, .ref 39, .ref 40, .ref 41, .ref 42, .ref 43, .ref 44]))) (hK1 : zix w 16 = some (.inl (1, 4, .inl g16))) (hK2 : zix w 17 = some (.inl (1, 4, .inl g17))) (hK3 : zix w 18 = some (.inl (1, 4, .inl g18))) (hK4 : zix w 19 = some (.inl (1, 12, .inl g19))) (hr0 : (-2147483648 ≤ a1 ∧ a1 ≤ 2147483647) ∧ (-2147483648 ≤ a2 ∧ a2 ≤ 2147483647)) (hr1 : ∀ i : Int, 0 ≤ i → i ≤ 2 → 0 ≤ tBy g19 i ∧ tBy g19 i ≤ 2) (hr2 : (a1 < 0 ∨ 2 < a1) ∨ (a2 = -1 ∧ tBy g19 a1 = 2) ∨ (a2 ≠ -1 ∧ (a2 < 0 ∨ tBy g19 a1 ≤ a2))) (Q : zQ) (h : ∀ (v : Int) (k16 k17 k18 : Nat → Int32) (w' : zW), wfM (fun j => j ≠ 14 ∧ j ≠ 16 ∧ j ≠ 17 ∧ j ≠ 18) w w' → zix w' 16 = some (.inl (1, 4, .inl k16)) → zix w' 17 = some (.inl (1, 4, .inl k17)) → zix w' 18 = some (.inl (1, 4, .inl k18)) → (tBy k16 0 = 0) → (∀ j : Nat, j ≠ 0 → k16 j = g16 j) → (tBy k17 0 = 0) → (tBy k18 0 = -1) → (∀ j : Nat, j ≠ 0 → k17 j = g17 j) → (∀ j : Nat, j ≠ 0 → k18 j = g18 j) → (v = -2) → Q (some (.int (Int32.ofInt v))) w') : zCl zTab (d + 10) iX12_text [.ref 14, .int (Int32.ofInt a1), .int (Int32.ofInt a2)] w 0 0 Q := by
  refine zCl_i (M := kX12_text) rfl (Nat.le_of_ble_eq_true rfl) fun R hR => ?_
  have fr0 : wfM (fun j => j ≠ 14 ∧ j ≠ 16 ∧ j ≠ 17 ∧ j ≠ 18) w w := wfM_rf _ w
  have nX0 : FX (∀ j : Nat, (j ≠ 14 ∧ j ≠ 16 ∧ j ≠ 17 ∧ j ≠ 18) → j ≠ 14) := fun j hj => by omega
  have nX1 : FX (∀ j : Nat, (j ≠ 14 ∧ j ≠ 16 ∧ j ≠ 17 ∧ j ≠ 18) → j ≠ 16) := fun j hj => by omega
  have nX2 : FX (∀ j : Nat, (j ≠ 14 ∧ j ≠ 16 ∧ j ≠ 17 ∧ j ≠ 18) → j ≠ 17) := fun j hj => by omega
  have nX3 : FX (∀ j : Nat, (j ≠ 14 ∧ j ≠ 16 ∧ j ≠ 17 ∧ j ≠ 18) → j ≠ 18) := fun j hj => by omega
  iterate 2 refine hR (?_ : R (_, _, _, _, _, _))
  refine hR (c_put hK0 rfl rfl fun w1 ff1 hC1 => ?_)
  have fr2 := wfM_st fr0 ff1 nX0
  have hC3 := (ff1.2 16 (by (try dsimp only); decide)).trans hK1
  have hC4 := (ff1.2 17 (by (try dsimp only); decide)).trans hK2
  have hC5 := (ff1.2 18 (by (try dsimp only); decide)).trans hK3
  have hC6 := (ff1.2 19 (by (try dsimp only); decide)).trans hK4
  replace hC1 : zix w1 14 = some (.inr (11, [.int (Int32.ofInt 0), .ref 15, .ref 16, .ref 17, .ref 18, .ref 19, .ref 20, .ref 21, .ref 22, .int (Int32.ofInt f9), .int (Int32.ofInt f10), .int (Int32.ofInt f11), .int (Int32.ofInt f12), .int (Int32.ofInt f13), .long x14, .int (Int32.ofInt f15), .int (Int32.ofInt f16), .int (Int32.ofInt f17), .ref 23, .ref 24, .int (Int32.ofInt f20), .int (Int32.ofInt f21), .int (Int32.ofInt f22), .int (Int32.ofInt f23), .ref 25, .ref 26, .int (Int32.ofInt f26), .ref 27, .int (Int32.ofInt f28), .ref 28, .ref 29, .int (Int32.ofInt f31), .int (Int32.ofInt f32), .int (Int32.ofInt f33), .ref 30, .ref 31, .ref 32, .ref 33, .int (Int32.ofInt f38), .ref 34, .ref 35, .int (Int32.ofInt f41), .ref 36, .ref 37, .int (Int32.ofInt f44), .ref 38, .ref 39, .ref 40, .ref 41, .ref 42, .ref 43, .ref 44])) := hC1
  iterate 2 refine hR (?_ : R (_, _, _, _, _, _))
  refine hR (c_get hC1 rfl ?_)
  refine hR (?_ : R (_, _, _, _, _, _))
  refine hR (c_aldE hC3 (by omega) (by omega) (Nat.le_of_ble_eq_true rfl) fun v7 ev7 rv7 => ?_)
  replace ev7 : v7 = tBy g16 0 := ev7
  subst ev7
  refine hR (c_put hC1 rfl rfl fun w8 ff8 hC8 => ?_)
  have fr9 := wfM_st fr2 ff8 nX0
  have hC10 := (ff8.2 16 (by (try dsimp only); decide)).trans hC3
  have hC11 := (ff8.2 17 (by (try dsimp only); decide)).trans hC4
  have hC12 := (ff8.2 18 (by (try dsimp only); decide)).trans hC5
  have hC13 := (ff8.2 19 (by (try dsimp only); decide)).trans hC6
  replace hC8 : zix w8 14 = some (.inr (11, [.int (Int32.ofInt 0), .ref 15, .ref 16, .ref 17, .ref 18, .ref 19, .ref 20, .ref 21, .ref 22, .int (Int32.ofInt f9), .int (Int32.ofInt (tBy g16 0)), .int (Int32.ofInt f11), .int (Int32.ofInt f12), .int (Int32.ofInt f13), .long x14, .int (Int32.ofInt f15), .int (Int32.ofInt f16), .int (Int32.ofInt f17), .ref 23, .ref 24, .int (Int32.ofInt f20), .int (Int32.ofInt f21), .int (Int32.ofInt f22), .int (Int32.ofInt f23), .ref 25, .ref 26, .int (Int32.ofInt f26), .ref 27, .int (Int32.ofInt f28), .ref 28, .ref 29, .int (Int32.ofInt f31), .int (Int32.ofInt f32), .int (Int32.ofInt f33), .ref 30, .ref 31, .ref 32, .ref 33, .int (Int32.ofInt f38), .ref 34, .ref 35, .int (Int32.ofInt f41), .ref 36, .ref 37, .int (Int32.ofInt f44), .ref 38, .ref 39, .ref 40, .ref 41, .ref 42, .ref 43, .ref 44])) := hC8
  refine hR (?_ : R (_, _, _, _, _, _))
  refine hR (c_get hC8 rfl ?_)
  iterate 2 refine hR (?_ : R (_, _, _, _, _, _))
  refine hR (x_ast hC10 (by omega) (by omega) (Nat.le_of_ble_eq_true rfl) fun w14 ff14 hC14 => ?_)
  have fr15 := wfM_st fr9 ff14 nX1
  have hC16 := (ff14.2 14 (by (try dsimp only); decide)).trans hC8
  have hC17 := (ff14.2 17 (by (try dsimp only); decide)).trans hC11
  have hC18 := (ff14.2 18 (by (try dsimp only); decide)).trans hC12
  have hC19 := (ff14.2 19 (by (try dsimp only); decide)).trans hC13
  refine hR (?_ : R (_, _, _, _, _, _))
  refine hR (c_get hC16 rfl ?_)
  iterate 2 refine hR (?_ : R (_, _, _, _, _, _))
  refine hR (x_ast hC17 (by omega) (by omega) (Nat.le_of_ble_eq_true rfl) fun w20 ff20 hC20 => ?_)
  have fr21 := wfM_st fr15 ff20 nX2
  have hC22 := (ff20.2 14 (by (try dsimp only); decide)).trans hC16
  have hC23 := (ff20.2 16 (by (try dsimp only); decide)).trans hC14
  have hC24 := (ff20.2 18 (by (try dsimp only); decide)).trans hC18
  have hC25 := (ff20.2 19 (by (try dsimp only); decide)).trans hC19
  refine hR (?_ : R (_, _, _, _, _, _))
  refine hR (c_get hC22 rfl ?_)
  iterate 2 refine hR (?_ : R (_, _, _, _, _, _))
  refine hR (x_ast hC24 (by omega) (by omega) (Nat.le_of_ble_eq_true rfl) fun w26 ff26 hC26 => ?_)
  have fr27 := wfM_st fr21 ff26 nX3
  have hC28 := (ff26.2 14 (by (try dsimp only); decide)).trans hC22
  have hC29 := (ff26.2 16 (by (try dsimp only); decide)).trans hC23
  have hC30 := (ff26.2 17 (by (try dsimp only); decide)).trans hC20
  have hC31 := (ff26.2 19 (by (try dsimp only); decide)).trans hC25
  iterate 3 refine hR (?_ : R (_, _, _, _, _, _))
  refine hR (zcall_i 0 0 (Nat.le_of_ble_eq_true rfl) (Nat.le_of_ble_eq_true rfl) (m_in _ a1 0 2 _ (by omega) (by omega) (by omega) _ fun v32 hp33 => ?_))
  refine (?_ : R (_, _, .int (Int32.ofInt v32) :: [], w26, 0, 0))
  refine hR (k_eq (by omega) (fun hc34 => ?_) (fun hc34 => ?_))
  · skip
    refine hR (t_c (-2) (by decide) ?_)
    exact hR (zret_i rfl (Nat.le_refl _) trivial (h _ _ _ _ _ fr27 hC29 hC30 hC26 (by rw [zup (by omega), if_pos rfl]) (fun j hj => pk_un hj) (by rw [zup (by omega), if_pos rfl]) (by rw [zup (by omega), if_pos rfl]) (fun j hj => pk_un hj) (fun j hj => pk_un hj) rfl))
  have h19i := hr1 a1 (by omega) (by omega)
  iterate 2 refine hR (?_ : R (_, _, _, _, _, _))
  refine hR (j_ne (by omega) (by omega) (fun hc35 => ?_) (fun hc35 => ?_))
  · skip
    iterate 3 refine hR (?_ : R (_, _, _, _, _, _))
    refine hR (c_obj hC28 (zcall_i 0 0 (Nat.le_of_ble_eq_true rfl) (Nat.le_of_ble_eq_true rfl) (x_isR _ _ _ _ _ _ _ _ _ _ _ _ _ _ _ _ _ _ _ _ _ _ _ _ _ _ _ hC28 hC31 (by omega) (by omega) hr1 _ fun v36 hp37 => ?_)))
    refine (?_ : R (_, _, .int (Int32.ofInt v36) :: [], w26, 0, 0))
    refine hR (k_ne (by omega) (fun hc => by omega) (fun _ => ?_))
    refine hR (t_c (-2) (by decide) ?_)
    exact hR (zret_i rfl (Nat.le_refl _) trivial (h _ _ _ _ _ fr27 hC29 hC30 hC26 (by rw [zup (by omega), if_pos rfl]) (fun j hj => pk_un hj) (by rw [zup (by omega), if_pos rfl]) (by rw [zup (by omega), if_pos rfl]) (fun j hj => pk_un hj) (fun j hj => pk_un hj) rfl))
  refine hR (?_ : R (_, _, _, _, _, _))
  refine hR (c_get hC28 rfl ?_)
  refine hR (?_ : R (_, _, _, _, _, _))
  refine hR (c_aldE hC31 (by omega) (by omega) (Nat.le_of_ble_eq_true rfl) fun v38 ev38 rv38 => ?_)
  replace ev38 : v38 = tBy g19 a1 := ev38
  subst ev38
  refine hR (?_ : R (_, _, _, _, _, _))
  refine hR (j_ne (by omega) (by omega) (fun hc => by omega) (fun _ => ?_))
  refine hR (?_ : R (_, _, _, _, _, _))
  refine hR (t_c (-2) (by decide) ?_)
  exact hR (zret_i rfl (Nat.le_refl _) trivial (h _ _ _ _ _ fr27 hC29 hC30 hC26 (by rw [zup (by omega), if_pos rfl]) (fun j hj => pk_un hj) (by rw [zup (by omega), if_pos rfl]) (by rw [zup (by omega), if_pos rfl]) (fun j hj => pk_un hj) (fun j hj => pk_un hj) rfl))
