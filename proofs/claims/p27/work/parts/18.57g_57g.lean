/-! THE REFERENCE'S NUMBERS, exactly. -/
theorem rK_r {g : Nat → Int32} {n a : Int} : (tK g n a = 0 ∧ rK (tK g n a) = 0) ∨ (tK g n a = 1 ∧ rK (tK g n a) = 2) ∨ (tK g n a = 2 ∧ rK (tK g n a) = 3) ∨ (tK g n a = 3 ∧ rK (tK g n a) = 4) ∨ (tK g n a = 4 ∧ rK (tK g n a) = 1) := by
  have h := tK_r (g := g) (n := n) (a := a)
  rcases h with h | h | h | h | h <;> rw [h] <;> decide
noncomputable def wB (f c lo hi bu x s : Int) : Int := if lo ≤ x ∧ x ≤ hi ∧ x ≠ bu then f else fW f c 2 s
noncomputable def wC (f c lo hi bu x s : Int) : Int := if lo ≤ x ∧ x ≤ hi ∧ x ≠ bu then c else fC f c 2 s
theorem wB_I {f c lo hi x s : Int} (h : 0 ≤ x) : wB f c lo hi (-1) x s = wI f c lo hi x s ∧ wC f c lo hi (-1) x s = wJ f c lo hi x s := by
  unfold wB wC wI wJ
  constructor <;> (repeat' split) <;> first | rfl | omega
/-- a NUMBER taken, or none there -/
noncomputable def TBP (g : Nat → Int32) (n a k x f c y15 : Int) (Rd : Nat → Int32) (v a' f' c' y15' : Int) (Rd' : Nat → Int32) (F C : Int) : Prop :=
  (v = 0 ∧ tK g n a ≠ 2 ∧ a' = a ∧ f' = f ∧ c' = c ∧ Rd' = Rd ∧ y15' = tS g n a) ∨ (v = 1 ∧ tK g n a = 2 ∧ a' = tE g n a ∧ f' = F ∧ c' = C ∧ Rd' = upd Rd k.toNat (Int32.ofInt x) ∧ y15' = y15)
theorem x_takeBut (w : zW) (d : Nat) (a1 a2 a3 a4 : Int) (f0 f10 f13 f15 f16 f17 f20 f21 f22 f23 f26 f28 f31 f32 f33 f38 f41 f44 a : Int) (x14 : Int64) (g15 g g24 : Nat → Int32) (hK0 : zix w 14 = some (.inr (11, [.int (Int32.ofInt f0), .ref 15, .ref 16, .ref 17, .ref 18, .ref 19, .ref 20, .ref 21, .ref 22, .int (Int32.ofInt (tE g f10 a)), .int (Int32.ofInt f10), .int (Int32.ofInt (tS g f10 a)), .int (Int32.ofInt (rK (tK g f10 a))), .int (Int32.ofInt f13), .long x14, .int (Int32.ofInt f15), .int (Int32.ofInt f16), .int (Int32.ofInt f17), .ref 23, .ref 24, .int (Int32.ofInt f20), .int (Int32.ofInt f21), .int (Int32.ofInt f22), .int (Int32.ofInt f23), .ref 25, .ref 26, .int (Int32.ofInt f26), .ref 27, .int (Int32.ofInt f28), .ref 28, .ref 29, .int (Int32.ofInt f31), .int (Int32.ofInt f32), .int (Int32.ofInt f33), .ref 30, .ref 31, .ref 32, .ref 33, .int (Int32.ofInt f38), .ref 34, .ref 35, .int (Int32.ofInt f41), .ref 36, .ref 37, .int (Int32.ofInt f44), .ref 38, .ref 39, .ref 40, .ref 41, .ref 42, .ref 43, .ref 44]))) (hK1 : zix w 15 = some (.inl (0, 2400, .inl g15))) (hK2 : zix w 24 = some (.inl (1, 3, .inl g24))) (hr0 : 0 ≤ a ∧ a ≤ f10 ∧ f10 ≤ 600) (hr1 : ∀ i : Int, 0 ≤ i → i < f10 → tBy g15 i = tBy g i ∧ -128 ≤ tBy g i ∧ tBy g i ≤ 127) (hr2 : tK g f10 a = 2 → f13 = tV g f10 a) (hr3 : (-2147483648 ≤ f16 ∧ f16 ≤ 2147483647) ∧ (-2147483648 ≤ f17 ∧ f17 ≤ 2147483647)) (hr4 : 0 ≤ a1 ∧ a1 ≤ 2) (hr5 : (-2147483648 ≤ a2 ∧ a2 ≤ 2147483647) ∧ (-2147483648 ≤ a3 ∧ a3 ≤ 2147483647) ∧ (-2147483648 ≤ a4 ∧ a4 ≤ 2147483647)) (Q : zQ) (h : ∀ (v : Int) (a' x' f' c' y15 : Int) (z' : Int64) (R' : Nat → Int32) (w' : zW), wfM (fun j => j ≠ 14 ∧ j ≠ 24) w w' → zix w' 14 = some (.inr (11, [.int (Int32.ofInt f0), .ref 15, .ref 16, .ref 17, .ref 18, .ref 19, .ref 20, .ref 21, .ref 22, .int (Int32.ofInt (tE g f10 a')), .int (Int32.ofInt f10), .int (Int32.ofInt (tS g f10 a')), .int (Int32.ofInt (rK (tK g f10 a'))), .int (Int32.ofInt x'), .long z', .int (Int32.ofInt y15), .int (Int32.ofInt f'), .int (Int32.ofInt c'), .ref 23, .ref 24, .int (Int32.ofInt f20), .int (Int32.ofInt f21), .int (Int32.ofInt f22), .int (Int32.ofInt f23), .ref 25, .ref 26, .int (Int32.ofInt f26), .ref 27, .int (Int32.ofInt f28), .ref 28, .ref 29, .int (Int32.ofInt f31), .int (Int32.ofInt f32), .int (Int32.ofInt f33), .ref 30, .ref 31, .ref 32, .ref 33, .int (Int32.ofInt f38), .ref 34, .ref 35, .int (Int32.ofInt f41), .ref 36, .ref 37, .int (Int32.ofInt f44), .ref 38, .ref 39, .ref 40, .ref 41, .ref 42, .ref 43, .ref 44])) → zix w' 24 = some (.inl (1, 3, .inl R')) → (TBP g f10 a a1 f13 f16 f17 f15 g24 v a' f' c' y15 R' (wB f16 f17 a2 a3 a4 f13 (tS g f10 a)) (wC f16 f17 a2 a3 a4 f13 (tS g f10 a))) → (tK g f10 a' = 2 → x' = tV g f10 a') → (r32 f' ∧ r32 c' ∧ a ≤ a' ∧ a' ≤ f10 ∧ (v = 0 ∨ v = 1)) → Q (some (.int (Int32.ofInt v))) w') : zCl zTab (d + 3) iX12_takeBut [.ref 14, .int (Int32.ofInt a1), .int (Int32.ofInt a2), .int (Int32.ofInt a3), .int (Int32.ofInt a4)] w 0 0 Q := by
  refine zCl_i (M := kX12_takeBut) rfl (Nat.le_of_ble_eq_true rfl) fun R hR => ?_
  have fr0 : wfM (fun j => j ≠ 14 ∧ j ≠ 24) w w := wfM_rf _ w
  have hb1 := tS_b (g := g) (n := f10) (a := a) (by omega) (by omega)
  have hb2 := tE_b (g := g) (n := f10) (a := a) (by omega) (by omega)
  have hb3 := rK_r (g := g) (n := f10) (a := a)
  have nX0 : FX (∀ j : Nat, (j ≠ 14 ∧ j ≠ 24) → j ≠ 24) := fun j hj => by omega
  have nX1 : FX (∀ j : Nat, (j ≠ 14 ∧ j ≠ 24) → (j ≠ 14)) := fun j hj => by omega
  refine hR (?_ : R (_, _, _, _, _, _))
  refine hR (c_get hK0 rfl ?_)
  refine hR (?_ : R (_, _, _, _, _, _))
  refine hR (j_eq (by omega) (by omega) (fun hc4 => ?_) (fun hc4 => ?_))
  rotate_left
  · skip
    refine hR (?_ : R (_, _, _, _, _, _))
    refine hR (c_obj hK0 (zcall_i 0 0 (Nat.le_of_ble_eq_true rfl) (Nat.le_of_ble_eq_true rfl) (x_fails _ _ _ _ _ _ _ _ _ _ _ _ _ _ _ _ _ _ _ _ _ _ _ _ hK0 _ fun v75 w76 gg77 hC78 hp79 => ?_)))
    have fr80 := wfM_tr fr0 gg77 nX1
    have hC81 := (gg77.2 15 (by (try dsimp only); decide)).trans hK1
    have hC82 := (gg77.2 24 (by (try dsimp only); decide)).trans hK2
    subst hp79
    refine (?_ : R (_, _, .int (Int32.ofInt 0) :: [], w76, 0, 0))
    exact hR (zret_i rfl (Nat.le_refl _) (zbo (by omega)) (h _ _ _ _ _ _ _ _ _ fr80 hC78 hC82 (Or.inl ⟨rfl, by omega, rfl, rfl, rfl, rfl, rfl⟩) hr2 (by omega)))
  have hv := hr2 (by omega)
  have hn := tK_num (g := g) (n := f10) (a := a) (by omega) (by omega) (by omega)
  refine hR (?_ : R (_, _, _, _, _, _))
  refine hR (c_get hK0 rfl ?_)
  iterate 2 refine hR (?_ : R (_, _, _, _, _, _))
  refine hR (c_get hK0 rfl ?_)
  refine hR (x_ast hK2 (by omega) (by omega) (Nat.le_of_ble_eq_true rfl) fun w5 ff5 hC5 => ?_)
  have fr6 := wfM_st fr0 ff5 nX0
  have hC7 := (ff5.2 14 (by (try dsimp only); decide)).trans hK0
  have hC8 := (ff5.2 15 (by (try dsimp only); decide)).trans hK1
  refine hR (?_ : R (_, _, _, _, _, _))
  refine hR (c_get hC7 rfl ?_)
  iterate 2 refine hR (?_ : R (_, _, _, _, _, _))
  refine hR (zcall_i 0 0 (Nat.le_of_ble_eq_true rfl) (Nat.le_of_ble_eq_true rfl) (m_in _ f13 a2 a3 _ (by omega) (by omega) (by omega) _ fun v9 hp10 => ?_))
  refine (?_ : R (_, _, .int (Int32.ofInt v9) :: [], w5, 0, 0))
  refine hR (k_eq (by omega) (fun hc11 => ?_) (fun hc11 => ?_))
  · skip
    iterate 3 refine hR (?_ : R (_, _, _, _, _, _))
    refine hR (c_get hC7 rfl ?_)
    refine hR (c_obj hC7 (zcall_i 0 0 (Nat.le_of_ble_eq_true rfl) (Nat.le_of_ble_eq_true rfl) (x_later _ _ _ _ _ _ _ _ _ _ _ _ _ _ _ _ _ _ _ _ _ _ _ _ _ _ hC7 (by omega) _ fun f'_12 c'_13 w14 gg15 hC16 hp17 => ?_)))
    have fr18 := wfM_tr fr6 gg15 nX1
    have hC19 := (gg15.2 15 (by (try dsimp only); decide)).trans hC8
    have hC20 := (gg15.2 24 (by (try dsimp only); decide)).trans hC5
    obtain ⟨rfl, rfl⟩ := hp17
    have hq21 := @fW_r f16 f17 2 (tS g f10 a) (by omega)
    refine (?_ : R (_, _, [], w14, 0, 0))
    refine hR (?_ : R (_, _, _, _, _, _))
    refine hR (c_obj hC16 (zcall_i 0 0 (Nat.le_of_ble_eq_true rfl) (Nat.le_of_ble_eq_true rfl) (x_token _ _ _ _ _ _ _ _ _ _ _ _ _ _ _ _ _ _ _ _ _ _ _ _ _ _ hC16 hC19 (by omega) hr1 _ fun y9_22 y11_23 y12_24 y13_25 y14_26 w27 gg28 hC29 hp30 => ?_)))
    have fr31 := wfM_tr fr18 gg28 nX1
    have hC32 := (gg28.2 15 (by (try dsimp only); decide)).trans hC19
    have hC33 := (gg28.2 24 (by (try dsimp only); decide)).trans hC20
    obtain ⟨rfl, rfl, rfl, hx34, hw35⟩ := hp30
    refine (?_ : R (_, _, [], w27, 0, 0))
    refine hR (?_ : R (_, _, _, _, _, _))
    exact hR (zret_i rfl (Nat.le_refl _) (zbo (by omega)) (h _ _ _ _ _ _ _ _ _ fr31 hC29 hC33 (Or.inr ⟨rfl, by omega, rfl, (if_neg (by omega)).symm, (if_neg (by omega)).symm, rfl, rfl⟩) hx34 (by omega)))
  refine hR (?_ : R (_, _, _, _, _, _))
  refine hR (c_get hC7 rfl ?_)
  refine hR (?_ : R (_, _, _, _, _, _))
  refine hR (j_ne (by omega) (by omega) (fun hc36 => ?_) (fun hc36 => ?_))
  · skip
    refine hR (?_ : R (_, _, _, _, _, _))
    refine hR (c_obj hC7 (zcall_i 0 0 (Nat.le_of_ble_eq_true rfl) (Nat.le_of_ble_eq_true rfl) (x_token _ _ _ _ _ _ _ _ _ _ _ _ _ _ _ _ _ _ _ _ _ _ _ _ _ _ hC7 hC8 (by omega) hr1 _ fun y9_37 y11_38 y12_39 y13_40 y14_41 w42 gg43 hC44 hp45 => ?_)))
    have fr46 := wfM_tr fr6 gg43 nX1
    have hC47 := (gg43.2 15 (by (try dsimp only); decide)).trans hC8
    have hC48 := (gg43.2 24 (by (try dsimp only); decide)).trans hC5
    obtain ⟨rfl, rfl, rfl, hx49, hw50⟩ := hp45
    refine (?_ : R (_, _, [], w42, 0, 0))
    refine hR (?_ : R (_, _, _, _, _, _))
    exact hR (zret_i rfl (Nat.le_refl _) (zbo (by omega)) (h _ _ _ _ _ _ _ _ _ fr46 hC44 hC48 (Or.inr ⟨rfl, by omega, rfl, (if_pos ⟨by omega, by omega, by omega⟩).symm, (if_pos ⟨by omega, by omega, by omega⟩).symm, rfl, rfl⟩) hx49 (by omega)))
  iterate 3 refine hR (?_ : R (_, _, _, _, _, _))
  refine hR (c_get hC7 rfl ?_)
  refine hR (c_obj hC7 (zcall_i 0 0 (Nat.le_of_ble_eq_true rfl) (Nat.le_of_ble_eq_true rfl) (x_later _ _ _ _ _ _ _ _ _ _ _ _ _ _ _ _ _ _ _ _ _ _ _ _ _ _ hC7 (by omega) _ fun f'_51 c'_52 w53 gg54 hC55 hp56 => ?_)))
  have fr57 := wfM_tr fr6 gg54 nX1
  have hC58 := (gg54.2 15 (by (try dsimp only); decide)).trans hC8
  have hC59 := (gg54.2 24 (by (try dsimp only); decide)).trans hC5
  obtain ⟨rfl, rfl⟩ := hp56
  have hq60 := @fW_r f16 f17 2 (tS g f10 a) (by omega)
  refine (?_ : R (_, _, [], w53, 0, 0))
  refine hR (?_ : R (_, _, _, _, _, _))
  refine hR (c_obj hC55 (zcall_i 0 0 (Nat.le_of_ble_eq_true rfl) (Nat.le_of_ble_eq_true rfl) (x_token _ _ _ _ _ _ _ _ _ _ _ _ _ _ _ _ _ _ _ _ _ _ _ _ _ _ hC55 hC58 (by omega) hr1 _ fun y9_61 y11_62 y12_63 y13_64 y14_65 w66 gg67 hC68 hp69 => ?_)))
  have fr70 := wfM_tr fr57 gg67 nX1
  have hC71 := (gg67.2 15 (by (try dsimp only); decide)).trans hC58
  have hC72 := (gg67.2 24 (by (try dsimp only); decide)).trans hC59
  obtain ⟨rfl, rfl, rfl, hx73, hw74⟩ := hp69
  refine (?_ : R (_, _, [], w66, 0, 0))
  refine hR (?_ : R (_, _, _, _, _, _))
  exact hR (zret_i rfl (Nat.le_refl _) (zbo (by omega)) (h _ _ _ _ _ _ _ _ _ fr70 hC68 hC72 (Or.inr ⟨rfl, by omega, rfl, (if_neg (by omega)).symm, (if_neg (by omega)).symm, rfl, rfl⟩) hx73 (by omega)))
theorem x_take (w : zW) (d : Nat) (a1 a2 a3 : Int) (f0 f10 f13 f15 f16 f17 f20 f21 f22 f23 f26 f28 f31 f32 f33 f38 f41 f44 a : Int) (x14 : Int64) (g15 g g24 : Nat → Int32) (hK0 : zix w 14 = some (.inr (11, [.int (Int32.ofInt f0), .ref 15, .ref 16, .ref 17, .ref 18, .ref 19, .ref 20, .ref 21, .ref 22, .int (Int32.ofInt (tE g f10 a)), .int (Int32.ofInt f10), .int (Int32.ofInt (tS g f10 a)), .int (Int32.ofInt (rK (tK g f10 a))), .int (Int32.ofInt f13), .long x14, .int (Int32.ofInt f15), .int (Int32.ofInt f16), .int (Int32.ofInt f17), .ref 23, .ref 24, .int (Int32.ofInt f20), .int (Int32.ofInt f21), .int (Int32.ofInt f22), .int (Int32.ofInt f23), .ref 25, .ref 26, .int (Int32.ofInt f26), .ref 27, .int (Int32.ofInt f28), .ref 28, .ref 29, .int (Int32.ofInt f31), .int (Int32.ofInt f32), .int (Int32.ofInt f33), .ref 30, .ref 31, .ref 32, .ref 33, .int (Int32.ofInt f38), .ref 34, .ref 35, .int (Int32.ofInt f41), .ref 36, .ref 37, .int (Int32.ofInt f44), .ref 38, .ref 39, .ref 40, .ref 41, .ref 42, .ref 43, .ref 44]))) (hK1 : zix w 15 = some (.inl (0, 2400, .inl g15))) (hK2 : zix w 24 = some (.inl (1, 3, .inl g24))) (hr0 : 0 ≤ a ∧ a ≤ f10 ∧ f10 ≤ 600) (hr1 : ∀ i : Int, 0 ≤ i → i < f10 → tBy g15 i = tBy g i ∧ -128 ≤ tBy g i ∧ tBy g i ≤ 127) (hr2 : tK g f10 a = 2 → f13 = tV g f10 a) (hr3 : (-2147483648 ≤ f16 ∧ f16 ≤ 2147483647) ∧ (-2147483648 ≤ f17 ∧ f17 ≤ 2147483647)) (hr4 : 0 ≤ a1 ∧ a1 ≤ 2) (hr5 : (-2147483648 ≤ a2 ∧ a2 ≤ 2147483647) ∧ (-2147483648 ≤ a3 ∧ a3 ≤ 2147483647)) (Q : zQ) (h : ∀ (v : Int) (a' x' f' c' y15 : Int) (z' : Int64) (R' : Nat → Int32) (w' : zW), wfM (fun j => j ≠ 14 ∧ j ≠ 24) w w' → zix w' 14 = some (.inr (11, [.int (Int32.ofInt f0), .ref 15, .ref 16, .ref 17, .ref 18, .ref 19, .ref 20, .ref 21, .ref 22, .int (Int32.ofInt (tE g f10 a')), .int (Int32.ofInt f10), .int (Int32.ofInt (tS g f10 a')), .int (Int32.ofInt (rK (tK g f10 a'))), .int (Int32.ofInt x'), .long z', .int (Int32.ofInt y15), .int (Int32.ofInt f'), .int (Int32.ofInt c'), .ref 23, .ref 24, .int (Int32.ofInt f20), .int (Int32.ofInt f21), .int (Int32.ofInt f22), .int (Int32.ofInt f23), .ref 25, .ref 26, .int (Int32.ofInt f26), .ref 27, .int (Int32.ofInt f28), .ref 28, .ref 29, .int (Int32.ofInt f31), .int (Int32.ofInt f32), .int (Int32.ofInt f33), .ref 30, .ref 31, .ref 32, .ref 33, .int (Int32.ofInt f38), .ref 34, .ref 35, .int (Int32.ofInt f41), .ref 36, .ref 37, .int (Int32.ofInt f44), .ref 38, .ref 39, .ref 40, .ref 41, .ref 42, .ref 43, .ref 44])) → zix w' 24 = some (.inl (1, 3, .inl R')) → (TBP g f10 a a1 f13 f16 f17 f15 g24 v a' f' c' y15 R' (wI f16 f17 a2 a3 f13 (tS g f10 a)) (wJ f16 f17 a2 a3 f13 (tS g f10 a))) → (tK g f10 a' = 2 → x' = tV g f10 a') → (r32 f' ∧ r32 c' ∧ a ≤ a' ∧ a' ≤ f10 ∧ (v = 0 ∨ v = 1)) → Q (some (.int (Int32.ofInt v))) w') : zCl zTab (d + 4) iX12_take [.ref 14, .int (Int32.ofInt a1), .int (Int32.ofInt a2), .int (Int32.ofInt a3)] w 0 0 Q := by
  refine zCl_i (M := kX12_take) rfl (Nat.le_of_ble_eq_true rfl) fun R hR => ?_
  have fr0 : wfM (fun j => j ≠ 14 ∧ j ≠ 24) w w := wfM_rf _ w
  have nX0 : FX (∀ j : Nat, (j ≠ 14 ∧ j ≠ 24) → (j ≠ 14 ∧ j ≠ 24)) := fun j hj => by omega
  iterate 5 refine hR (?_ : R (_, _, _, _, _, _))
  refine hR (c_obj hK0 (zcall_i 0 0 (Nat.le_of_ble_eq_true rfl) (Nat.le_of_ble_eq_true rfl) (x_takeBut _ _ _ _ _ _ _ _ _ _ _ _ _ _ _ _ _ _ _ _ _ _ _ _ _ _ _ _ _ hK0 hK1 hK2 (by omega) hr1 hr2 (by omega) (by omega) (by omega) _ fun v1 a'_2 x'_3 f'_4 c'_5 y15_6 z'_7 R'_8 w9 gg10 hC11 hC12 hp13 hp14 hp15 => ?_)))
  have fr16 := wfM_tr fr0 gg10 nX0
  have hC17 := (gg10.2 15 (by (try dsimp only); decide)).trans hK1
  refine (?_ : R (_, _, .int (Int32.ofInt v1) :: [], w9, 0, 0))
  exact hR (zret_i rfl (Nat.le_refl _) (zbo (by omega)) (h _ _ _ _ _ _ _ _ _ fr16 hC11 hC12 (by rcases hp13 with q | ⟨q1, q2, q3, q4, q5, q6⟩; (· exact Or.inl q); have hv := hr2 q2; have hn := tK_num (g := g) (n := f10) (a := a) (by omega) (by omega) q2; have e := @wB_I f16 f17 a2 a3 f13 (tS g f10 a) (by omega); exact Or.inr ⟨q1, q2, q3, q4.trans e.1, q5.trans e.2, q6⟩) hp14 hp15))
theorem x_full (w : zW) (d : Nat) (a1 a2 a3 : Int) (f0 f9 f10 f11 f12 f13 f15 f16 f17 f20 f21 f22 f23 f26 f28 f31 f32 f33 f38 f41 f44 : Int) (x14 : Int64) (g23 : Nat → Int32) (hK0 : zix w 14 = some (.inr (11, [.int (Int32.ofInt f0), .ref 15, .ref 16, .ref 17, .ref 18, .ref 19, .ref 20, .ref 21, .ref 22, .int (Int32.ofInt f9), .int (Int32.ofInt f10), .int (Int32.ofInt f11), .int (Int32.ofInt f12), .int (Int32.ofInt f13), .long x14, .int (Int32.ofInt f15), .int (Int32.ofInt f16), .int (Int32.ofInt f17), .ref 23, .ref 24, .int (Int32.ofInt f20), .int (Int32.ofInt f21), .int (Int32.ofInt f22), .int (Int32.ofInt f23), .ref 25, .ref 26, .int (Int32.ofInt f26), .ref 27, .int (Int32.ofInt f28), .ref 28, .ref 29, .int (Int32.ofInt f31), .int (Int32.ofInt f32), .int (Int32.ofInt f33), .ref 30, .ref 31, .ref 32, .ref 33, .int (Int32.ofInt f38), .ref 34, .ref 35, .int (Int32.ofInt f41), .ref 36, .ref 37, .int (Int32.ofInt f44), .ref 38, .ref 39, .ref 40, .ref 41, .ref 42, .ref 43, .ref 44]))) (hK1 : zix w 23 = some (.inl (1, 121, .inl g23))) (hr0 : 0 ≤ a1 ∧ a1 ≤ 120) (hr1 : (-2147483648 ≤ f16 ∧ f16 ≤ 2147483647) ∧ (-2147483648 ≤ f17 ∧ f17 ≤ 2147483647) ∧ (-2147483648 ≤ a2 ∧ a2 ≤ 2147483647) ∧ (-2147483648 ≤ a3 ∧ a3 ≤ 2147483647)) (Q : zQ) (h : ∀ (f' c' : Int) (w' : zW), wfM (fun j => j ≠ 14) w w' → zix w' 14 = some (.inr (11, [.int (Int32.ofInt f0), .ref 15, .ref 16, .ref 17, .ref 18, .ref 19, .ref 20, .ref 21, .ref 22, .int (Int32.ofInt f9), .int (Int32.ofInt f10), .int (Int32.ofInt f11), .int (Int32.ofInt f12), .int (Int32.ofInt f13), .long x14, .int (Int32.ofInt f15), .int (Int32.ofInt f'), .int (Int32.ofInt c'), .ref 23, .ref 24, .int (Int32.ofInt f20), .int (Int32.ofInt f21), .int (Int32.ofInt f22), .int (Int32.ofInt f23), .ref 25, .ref 26, .int (Int32.ofInt f26), .ref 27, .int (Int32.ofInt f28), .ref 28, .ref 29, .int (Int32.ofInt f31), .int (Int32.ofInt f32), .int (Int32.ofInt f33), .ref 30, .ref 31, .ref 32, .ref 33, .int (Int32.ofInt f38), .ref 34, .ref 35, .int (Int32.ofInt f41), .ref 36, .ref 37, .int (Int32.ofInt f44), .ref 38, .ref 39, .ref 40, .ref 41, .ref 42, .ref 43, .ref 44])) → ((tBy g23 a1 = a2 ∧ f' = fW f16 f17 3 a3 ∧ c' = fC f16 f17 3 a3) ∨ (tBy g23 a1 ≠ a2 ∧ f' = f16 ∧ c' = f17)) → Q (none) w') : zCl zTab (d + 2) iX12_full [.ref 14, .int (Int32.ofInt a1), .int (Int32.ofInt a2), .int (Int32.ofInt a3)] w 0 0 Q := by
  refine zCl_i (M := kX12_full) rfl (Nat.le_of_ble_eq_true rfl) fun R hR => ?_
  have fr0 : wfM (fun j => j ≠ 14) w w := wfM_rf _ w
  have nX0 : FX (∀ j : Nat, (j ≠ 14) → (j ≠ 14)) := fun j hj => by omega
  refine hR (?_ : R (_, _, _, _, _, _))
  refine hR (c_get hK0 rfl ?_)
  refine hR (?_ : R (_, _, _, _, _, _))
  refine hR (c_aldE hK1 (by omega) (by omega) (Nat.le_of_ble_eq_true rfl) fun v1 ev1 rv1 => ?_)
  replace ev1 : v1 = tBy g23 a1 := ev1
  subst ev1
  refine hR (?_ : R (_, _, _, _, _, _))
  refine hR (j_ne (by omega) (by omega) (fun hc2 => ?_) (fun hc2 => ?_))
  · skip
    exact hR (zret_i rfl (Nat.le_refl _) rfl (h _ _ _ fr0 hK0 (Or.inr ⟨by omega, rfl, rfl⟩)))
  iterate 3 refine hR (?_ : R (_, _, _, _, _, _))
  refine hR (c_obj hK0 (zcall_i 0 0 (Nat.le_of_ble_eq_true rfl) (Nat.le_of_ble_eq_true rfl) (x_later _ _ _ _ _ _ _ _ _ _ _ _ _ _ _ _ _ _ _ _ _ _ _ _ _ _ hK0 (by omega) _ fun f'_3 c'_4 w5 gg6 hC7 hp8 => ?_)))
  have fr9 := wfM_tr fr0 gg6 nX0
  have hC10 := (gg6.2 23 (by (try dsimp only); decide)).trans hK1
  obtain ⟨rfl, rfl⟩ := hp8
  have hq11 := @fW_r f16 f17 3 a3 (by omega)
  refine (?_ : R (_, _, [], w5, 0, 0))
  exact hR (zret_i rfl (Nat.le_refl _) rfl (h _ _ _ fr9 hC7 (Or.inl ⟨by omega, rfl, rfl⟩)))
theorem x_stepBy (w : zW) (d : Nat) (lw : Int64)   (Q : zQ) (h : ∀ (v : Int), ((v = lnB lw.toInt ∧ 0 ≤ v ∧ v ≤ 4) ∨ (v = -1 ∧ (lnB lw.toInt = -1 ∨ 5 ≤ lnB lw.toInt))) → Q (some (.int (Int32.ofInt v))) w) : zCl zTab (d + 1) iX12_stepBy [.long lw] w 0 0 Q := by
  refine zCl_i (M := kX12_stepBy) rfl (Nat.le_of_ble_eq_true rfl) fun R hR => ?_
  iterate 3 refine hR (?_ : R (_, _, _, _, _, _))
  skip
  refine hR (x_lcmp (a := 495672977012) (by decide) (fun hc1 => ?_) (fun hc1 => ?_))
  rotate_left
  · skip
    iterate 2 refine hR (?_ : R (_, _, _, _, _, _))
    exact hR (zret_i rfl (Nat.le_refl _) trivial (h _ (by unfold lnB; (repeat' split) <;> omega)))
  iterate 3 refine hR (?_ : R (_, _, _, _, _, _))
  skip
  refine hR (x_lcmp (a := 1685221232) (by decide) (fun hc2 => ?_) (fun hc2 => ?_))
  rotate_left
  · skip
    iterate 2 refine hR (?_ : R (_, _, _, _, _, _))
    exact hR (zret_i rfl (Nat.le_refl _) trivial (h _ (by unfold lnB; (repeat' split) <;> omega)))
  iterate 3 refine hR (?_ : R (_, _, _, _, _, _))
  skip
  refine hR (x_lcmp (a := 110429873532005) (by decide) (fun hc3 => ?_) (fun hc3 => ?_))
  rotate_left
  · skip
    iterate 2 refine hR (?_ : R (_, _, _, _, _, _))
    exact hR (zret_i rfl (Nat.le_refl _) trivial (h _ (by unfold lnB; (repeat' split) <;> omega)))
  iterate 3 refine hR (?_ : R (_, _, _, _, _, _))
  skip
  refine hR (x_lcmp (a := 1937203568) (by decide) (fun hc4 => ?_) (fun hc4 => ?_))
  rotate_left
  · skip
    iterate 2 refine hR (?_ : R (_, _, _, _, _, _))
    exact hR (zret_i rfl (Nat.le_refl _) trivial (h _ (by unfold lnB; (repeat' split) <;> omega)))
  iterate 3 refine hR (?_ : R (_, _, _, _, _, _))
  skip
  refine hR (x_lcmp (a := 1953854062) (by decide) (fun hc5 => ?_) (fun hc5 => ?_))
  · skip
    refine hR (?_ : R (_, _, _, _, _, _))
    exact hR (zret_i rfl (Nat.le_refl _) trivial (h _ (by unfold lnB; (repeat' split) <;> omega)))
  iterate 2 refine hR (?_ : R (_, _, _, _, _, _))
  exact hR (zret_i rfl (Nat.le_refl _) trivial (h _ (by unfold lnB; (repeat' split) <;> omega)))
theorem x_deedBy (w : zW) (d : Nat) (lw : Int64)   (Q : zQ) (h : ∀ (v : Int), (v = lnY lw.toInt) → Q (some (.int (Int32.ofInt v))) w) : zCl zTab (d + 1) iX12_deedBy [.long lw] w 0 0 Q := by
  refine zCl_i (M := kX12_deedBy) rfl (Nat.le_of_ble_eq_true rfl) fun R hR => ?_
  iterate 3 refine hR (?_ : R (_, _, _, _, _, _))
  skip
  refine hR (x_lcmp (a := 1919246692) (by decide) (fun hc1 => ?_) (fun hc1 => ?_))
  rotate_left
  · skip
    iterate 2 refine hR (?_ : R (_, _, _, _, _, _))
    exact hR (zret_i rfl (Nat.le_refl _) trivial (h _ (by unfold lnY; (repeat' split) <;> omega)))
  iterate 3 refine hR (?_ : R (_, _, _, _, _, _))
  skip
  refine hR (x_lcmp (a := 1668247673) (by decide) (fun hc2 => ?_) (fun hc2 => ?_))
  rotate_left
  · skip
    iterate 2 refine hR (?_ : R (_, _, _, _, _, _))
    exact hR (zret_i rfl (Nat.le_refl _) trivial (h _ (by unfold lnY; (repeat' split) <;> omega)))
  iterate 3 refine hR (?_ : R (_, _, _, _, _, _))
  skip
  refine hR (x_lcmp (a := 1936023916) (by decide) (fun hc3 => ?_) (fun hc3 => ?_))
  rotate_left
  · skip
    iterate 2 refine hR (?_ : R (_, _, _, _, _, _))
    exact hR (zret_i rfl (Nat.le_refl _) trivial (h _ (by unfold lnY; (repeat' split) <;> omega)))
  iterate 3 refine hR (?_ : R (_, _, _, _, _, _))
  skip
  refine hR (x_lcmp (a := 32199693894120037) (by decide) (fun hc4 => ?_) (fun hc4 => ?_))
  rotate_left
  · skip
    iterate 2 refine hR (?_ : R (_, _, _, _, _, _))
    exact hR (zret_i rfl (Nat.le_refl _) trivial (h _ (by unfold lnY; (repeat' split) <;> omega)))
  iterate 3 refine hR (?_ : R (_, _, _, _, _, _))
  skip
  refine hR (x_lcmp (a := 1752527720) (by decide) (fun hc5 => ?_) (fun hc5 => ?_))
  rotate_left
  · skip
    iterate 2 refine hR (?_ : R (_, _, _, _, _, _))
    exact hR (zret_i rfl (Nat.le_refl _) trivial (h _ (by unfold lnY; (repeat' split) <;> omega)))
  iterate 3 refine hR (?_ : R (_, _, _, _, _, _))
  skip
  refine hR (x_lcmp (a := 6578553) (by decide) (fun hc6 => ?_) (fun hc6 => ?_))
  · skip
    refine hR (?_ : R (_, _, _, _, _, _))
    exact hR (zret_i rfl (Nat.le_refl _) trivial (h _ (by unfold lnY; (repeat' split) <;> omega)))
  iterate 2 refine hR (?_ : R (_, _, _, _, _, _))
  exact hR (zret_i rfl (Nat.le_refl _) trivial (h _ (by unfold lnY; (repeat' split) <;> omega)))
