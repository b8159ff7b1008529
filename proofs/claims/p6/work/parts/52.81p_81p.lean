theorem x_isInI (w : zW) (d : Nat) (a1 a2 : Int)   (Q : zQ) (h : ∀ (v : Int), ((hHas a1 a2 = 0 ∧ v = 0) ∨ (hHas a1 a2 ≠ 0 ∧ v = 1)) → Q (some (.int (Int32.ofInt v))) w) : zCl zTab (d + 1) iX11_isIn [.int (Int32.ofInt a1), .int (Int32.ofInt a2)] w 0 0 Q := by
  refine zCl_i (M := kX11_isIn) rfl (Nat.le_of_ble_eq_true rfl) fun R hR => ?_
  iterate 2 refine hR (?_ : R (_, _, _, _, _, _))
  refine hR (t_c (bShr a1 a2) (zoi _).symm ?_)
  have hbt1 : r32 (bShr a1 a2) := zrg _
  refine hR (?_ : R (_, _, _, _, _, _))
  refine hR (t_c (bAnd (bShr a1 a2) 1) (zoi _).symm ?_)
  have hbt2 : r32 (bAnd (bShr a1 a2) 1) := zrg _
  refine hR (k_eq (by omega) (fun hc3 => ?_) (fun hc3 => ?_))
  · skip
    refine hR (?_ : R (_, _, _, _, _, _))
    exact hR (zret_i rfl (Nat.le_refl _) (zbo (by omega)) (h _ (by unfold hHas; omega)))
  iterate 2 refine hR (?_ : R (_, _, _, _, _, _))
  exact hR (zret_i rfl (Nat.le_refl _) (zbo (by omega)) (h _ (by unfold hHas; omega)))
theorem x_cBegin (w : zW) (d : Nat) (b : Nat) (e1 e2 e3 e4 : Int) (bq : Value) (gc gt : Nat → Int32) (n0 n1 n2 : Int) (hK0 : zix w 9 = some (.inr (1, [bq, .int (Int32.ofInt e1), .int (Int32.ofInt e2), .int (Int32.ofInt e3), .int (Int32.ofInt e4), .ref 10, .ref 11]))) (hK1 : zix w 10 = some (.inl (1, 4, .inl gc))) (hK2 : zix w 11 = some (.inl (1, 5, .inl gt))) (hK3 : zix w b = some (.inr (0, [.int (Int32.ofInt n0), .int (Int32.ofInt n1), .int (Int32.ofInt n2), .ref (b + 1), .ref (b + 2), .ref (b + 3), .ref (b + 4)]))) (hr0 : 45 ≤ b) (hr1 : 0 ≤ n0 ∧ n0 ≤ 5460) (Q : zQ) (h : ∀ (Tc Tt : Nat → Int32) (w' : zW), wfM (fun j => j ≠ 9 ∧ j ≠ 10 ∧ j ≠ 11) w w' → zix w' 9 = some (.inr (1, [.ref b, .int (Int32.ofInt 0), .int (Int32.ofInt 0), .int (Int32.ofInt 0), .int (Int32.ofInt e4), .ref 10, .ref 11])) → zix w' 10 = some (.inl (1, 4, .inl Tc)) → zix w' 11 = some (.inl (1, 5, .inl Tt)) → (CSR 0 (cs0 n0) 0 0 0 Tc Tt) → Q (none) w') : zCl zTab (d + 2) iX1_begin [.ref 9, .ref b] w 0 0 Q := by
  refine zCl_i (M := kX1_begin) rfl (Nat.le_of_ble_eq_true rfl) fun R hR => ?_
  have fr0 : wfM (fun j => j ≠ 9 ∧ j ≠ 10 ∧ j ≠ 11) w w := wfM_rf _ w
  have nX0 : FX (∀ j : Nat, (j ≠ 9 ∧ j ≠ 10 ∧ j ≠ 11) → j ≠ 9) := fun j hj => by omega
  have nX1 : FX (b ≠ 9) := (show b ≠ 9 by omega)
  have nX2 : FX (∀ j : Nat, (j ≠ 9 ∧ j ≠ 10 ∧ j ≠ 11) → (j ≠ 10)) := fun j hj => by omega
  have nX3 : FX (b ≠ 10) := (show b ≠ 10 by omega)
  have nX4 : FX (∀ j : Nat, (j ≠ 9 ∧ j ≠ 10 ∧ j ≠ 11) → (j ≠ 11)) := fun j hj => by omega
  have nX5 : FX (b ≠ 11) := (show b ≠ 11 by omega)
  iterate 2 refine hR (?_ : R (_, _, _, _, _, _))
  refine hR (c_put hK0 rfl rfl fun w1 ff1 hC1 => ?_)
  have fr2 := wfM_st fr0 ff1 nX0
  have hC3 := (ff1.2 10 (by (try dsimp only); decide)).trans hK1
  have hC4 := (ff1.2 11 (by (try dsimp only); decide)).trans hK2
  have hC5 := (ff1.2 b nX1).trans hK3
  replace hC1 : zix w1 9 = some (.inr (1, [.ref b, .int (Int32.ofInt e1), .int (Int32.ofInt e2), .int (Int32.ofInt e3), .int (Int32.ofInt e4), .ref 10, .ref 11])) := hC1
  iterate 2 refine hR (?_ : R (_, _, _, _, _, _))
  refine hR (c_put hC1 rfl rfl fun w6 ff6 hC6 => ?_)
  have fr7 := wfM_st fr2 ff6 nX0
  have hC8 := (ff6.2 10 (by (try dsimp only); decide)).trans hC3
  have hC9 := (ff6.2 11 (by (try dsimp only); decide)).trans hC4
  have hC10 := (ff6.2 b nX1).trans hC5
  replace hC6 : zix w6 9 = some (.inr (1, [.ref b, .int (Int32.ofInt 0), .int (Int32.ofInt e2), .int (Int32.ofInt e3), .int (Int32.ofInt e4), .ref 10, .ref 11])) := hC6
  iterate 2 refine hR (?_ : R (_, _, _, _, _, _))
  refine hR (c_put hC6 rfl rfl fun w11 ff11 hC11 => ?_)
  have fr12 := wfM_st fr7 ff11 nX0
  have hC13 := (ff11.2 10 (by (try dsimp only); decide)).trans hC8
  have hC14 := (ff11.2 11 (by (try dsimp only); decide)).trans hC9
  have hC15 := (ff11.2 b nX1).trans hC10
  replace hC11 : zix w11 9 = some (.inr (1, [.ref b, .int (Int32.ofInt 0), .int (Int32.ofInt 0), .int (Int32.ofInt e3), .int (Int32.ofInt e4), .ref 10, .ref 11])) := hC11
  iterate 2 refine hR (?_ : R (_, _, _, _, _, _))
  refine hR (c_put hC11 rfl rfl fun w16 ff16 hC16 => ?_)
  have fr17 := wfM_st fr12 ff16 nX0
  have hC18 := (ff16.2 10 (by (try dsimp only); decide)).trans hC13
  have hC19 := (ff16.2 11 (by (try dsimp only); decide)).trans hC14
  have hC20 := (ff16.2 b nX1).trans hC15
  replace hC16 : zix w16 9 = some (.inr (1, [.ref b, .int (Int32.ofInt 0), .int (Int32.ofInt 0), .int (Int32.ofInt 0), .int (Int32.ofInt e4), .ref 10, .ref 11])) := hC16
  refine hR (?_ : R (_, _, _, _, _, _))
  refine hR (c_get hC16 rfl ?_)
  refine hR (?_ : R (_, _, _, _, _, _))
  refine hR (c_get hC20 rfl ?_)
  refine hR (zcall_i 0 0 (Nat.le_of_ble_eq_true rfl) (Nat.le_of_ble_eq_true rfl) (x_fillI _ _ _ _ _ _ hC18 (by omega) _ fun T'_21 w22 gg23 hC24 hp25 => ?_))
  have fr26 := wfM_tr fr17 gg23 nX2
  have hC27 := (gg23.2 9 (by (try dsimp only); decide)).trans hC16
  have hC28 := (gg23.2 11 (by (try dsimp only); decide)).trans hC19
  have hC29 := (gg23.2 b nX3).trans hC20
  refine (?_ : R (_, _, [], w22, 0, 0))
  refine hR (?_ : R (_, _, _, _, _, _))
  refine hR (c_get hC27 rfl ?_)
  refine hR (?_ : R (_, _, _, _, _, _))
  refine hR (zcall_i 0 0 (Nat.le_of_ble_eq_true rfl) (Nat.le_of_ble_eq_true rfl) (x_fillI _ _ _ _ _ _ hC28 (by omega) _ fun T'_30 w31 gg32 hC33 hp34 => ?_))
  have fr35 := wfM_tr fr26 gg32 nX4
  have hC36 := (gg32.2 9 (by (try dsimp only); decide)).trans hC27
  have hC37 := (gg32.2 10 (by (try dsimp only); decide)).trans hC24
  have hC38 := (gg32.2 b nX5).trans hC29
  refine (?_ : R (_, _, [], w31, 0, 0))
  exact hR (zret_i rfl (Nat.le_refl _) rfl (h _ _ _ fr35 hC36 hC37 hC33 (cs_0 hr1 (fun i i0 i1 => hp25 i i0 (by omega)) (fun i i0 i1 => hp34 i i0 (by omega)))))
theorem x_cRead (w : zW) (d : Nat) (b : Nat) (a1 a2 : Int) (e1 e2 e3 e4 : Int) (gc gt : Nat → Int32) (n0 n1 n2 : Int) (g1 g2 g3 g4 : Nat → Int32) (F : Int → Int → Int) (s : CS) (m : Int) (hK0 : zix w 9 = some (.inr (1, [.ref b, .int (Int32.ofInt e1), .int (Int32.ofInt e2), .int (Int32.ofInt e3), .int (Int32.ofInt e4), .ref 10, .ref 11]))) (hK1 : zix w 10 = some (.inl (1, 4, .inl gc))) (hK2 : zix w 11 = some (.inl (1, 5, .inl gt))) (hK3 : zix w b = some (.inr (0, [.int (Int32.ofInt n0), .int (Int32.ofInt n1), .int (Int32.ofInt n2), .ref (b + 1), .ref (b + 2), .ref (b + 3), .ref (b + 4)]))) (hK4 : zix w (b + 1) = some (.inl (1, 4, .inl g1))) (hK5 : zix w (b + 2) = some (.inl (1, 5, .inl g2))) (hK6 : zix w (b + 3) = some (.inl (1, 20, .inl g3))) (hK7 : zix w (b + 4) = some (.inl (1, 20, .inl g4))) (hr0 : 45 ≤ b) (hr1 : BKF F n0 n1 g1 g2 g3 g4) (hr2 : CSR m s e1 e2 e3 gc gt) (hr3 : 0 ≤ a1 ∧ a1 ≤ 3) (hr4 : (-2147483648 ≤ a2 ∧ a2 ≤ 2147483647)) (hr5 : m ≤ 1000000) (Q : zQ) (h : ∀ (v : Int) (y1 y2 y3 : Int) (Tc Tt : Nat → Int32) (w' : zW), wfM (fun j => j ≠ 9 ∧ j ≠ 10 ∧ j ≠ 11) w w' → zix w' 9 = some (.inr (1, [.ref b, .int (Int32.ofInt y1), .int (Int32.ofInt y2), .int (Int32.ofInt y3), .int (Int32.ofInt e4), .ref 10, .ref 11])) → zix w' 10 = some (.inl (1, 4, .inl Tc)) → zix w' 11 = some (.inl (1, 5, .inl Tt)) → (v = dsB n1 0 a1 a2 s) → (CSR (m + 1) (dsS F n0 n1 0 a1 a2 s) y1 y2 y3 Tc Tt) → Q (some (.int (Int32.ofInt v))) w') : zCl zTab (d + 4) iX1_doRead [.ref 9, .int (Int32.ofInt a1), .int (Int32.ofInt a2)] w 0 0 Q := by
  refine zCl_i (M := kX1_doRead) rfl (Nat.le_of_ble_eq_true rfl) fun R hR => ?_
  have fr0 : wfM (fun j => j ≠ 9 ∧ j ≠ 10 ∧ j ≠ 11) w w := wfM_rf _ w
  obtain ⟨hn0, hn1, hBK, hFF⟩ := id hr1
  have hcr := csr_r hr2
  have hcc := csr_c hr2 (i := a1) (by omega) (by omega)
  have nX0 : FX (∀ j : Nat, (j ≠ 9 ∧ j ≠ 10 ∧ j ≠ 11) → j ≠ 11) := fun j hj => by omega
  have nX1 : FX (b ≠ 11) := (show b ≠ 11 by omega)
  have nX2 : FX ((b + 1) ≠ 11) := (show (b + 1) ≠ 11 by omega)
  have nX3 : FX ((b + 2) ≠ 11) := (show (b + 2) ≠ 11 by omega)
  have nX4 : FX ((b + 3) ≠ 11) := (show (b + 3) ≠ 11 by omega)
  have nX5 : FX ((b + 4) ≠ 11) := (show (b + 4) ≠ 11 by omega)
  have nX6 : FX (∀ j : Nat, (j ≠ 9 ∧ j ≠ 10 ∧ j ≠ 11) → j ≠ 10) := fun j hj => by omega
  have nX7 : FX (b ≠ 10) := (show b ≠ 10 by omega)
  have nX8 : FX ((b + 1) ≠ 10) := (show (b + 1) ≠ 10 by omega)
  have nX9 : FX ((b + 2) ≠ 10) := (show (b + 2) ≠ 10 by omega)
  have nX10 : FX ((b + 3) ≠ 10) := (show (b + 3) ≠ 10 by omega)
  have nX11 : FX ((b + 4) ≠ 10) := (show (b + 4) ≠ 10 by omega)
  have nX12 : FX (∀ j : Nat, (j ≠ 9 ∧ j ≠ 10 ∧ j ≠ 11) → j ≠ 9) := fun j hj => by omega
  have nX13 : FX (b ≠ 9) := (show b ≠ 9 by omega)
  have nX14 : FX ((b + 1) ≠ 9) := (show (b + 1) ≠ 9 by omega)
  have nX15 : FX ((b + 2) ≠ 9) := (show (b + 2) ≠ 9 by omega)
  have nX16 : FX ((b + 3) ≠ 9) := (show (b + 3) ≠ 9 by omega)
  have nX17 : FX ((b + 4) ≠ 9) := (show (b + 4) ≠ 9 by omega)
  refine hR (?_ : R (_, _, _, _, _, _))
  refine hR (c_get hK0 rfl ?_)
  refine hR (?_ : R (_, _, _, _, _, _))
  refine hR (c_obj hK3 (zcall_i 0 0 (Nat.le_of_ble_eq_true rfl) (Nat.le_of_ble_eq_true rfl) (x_bHas _ _ _ _ _ _ _ hK3 (by omega) _ fun v1 hp2 => ?_)))
  refine (?_ : R (_, _, .int (Int32.ofInt v1) :: [], w, 0, 0))
  refine hR (k_ne (by omega) (fun hc3 => ?_) (fun hc3 => ?_))
  rotate_left
  · skip
    refine hR (?_ : R (_, _, _, _, _, _))
    exact hR (zret_i rfl (Nat.le_refl _) (zbo (by omega)) (h _ _ _ _ _ _ _ fr0 hK0 hK1 hK2 (cs_r0 (F := F) (base := n0) hr2 (by omega)).1 (cs_r0 hr2 (by omega)).2))
  have hct := csr_t hr2 (i := a2) (by omega) (by omega)
  refine hR (?_ : R (_, _, _, _, _, _))
  refine hR (c_get hK0 rfl ?_)
  iterate 2 refine hR (?_ : R (_, _, _, _, _, _))
  refine hR (c_aldE hK2 (by omega) (by omega) (Nat.le_of_ble_eq_true rfl) fun v4 ev4 rv4 => ?_)
  replace ev4 : v4 = tBy gt a2 := ev4
  subst ev4
  refine hR (?_ : R (_, _, _, _, _, _))
  refine hR (t_add ?_)
  refine hR (x_ast hK2 (by omega) (by omega) (Nat.le_of_ble_eq_true rfl) fun w5 ff5 hC5 => ?_)
  have fr6 := wfM_st fr0 ff5 nX0
  have hC7 := (ff5.2 9 (by (try dsimp only); decide)).trans hK0
  have hC8 := (ff5.2 10 (by (try dsimp only); decide)).trans hK1
  have hC9 := (ff5.2 b nX1).trans hK3
  have hC10 := (ff5.2 (b + 1) nX2).trans hK4
  have hC11 := (ff5.2 (b + 2) nX3).trans hK5
  have hC12 := (ff5.2 (b + 3) nX4).trans hK6
  have hC13 := (ff5.2 (b + 4) nX5).trans hK7
  refine hR (?_ : R (_, _, _, _, _, _))
  refine hR (c_get hC7 rfl ?_)
  refine hR (?_ : R (_, _, _, _, _, _))
  refine hR (zcall_i 0 0 (Nat.le_of_ble_eq_true rfl) (Nat.le_of_ble_eq_true rfl) (x_isInI _ _ _ _ _ fun v14 hp15 => ?_))
  refine (?_ : R (_, _, .int (Int32.ofInt v14) :: [], w5, 0, 0))
  refine hR (k_eq (by omega) (fun hc16 => ?_) (fun hc16 => ?_))
  rotate_left
  · skip
    iterate 2 refine hR (?_ : R (_, _, _, _, _, _))
    refine hR (c_get hC7 rfl ?_)
    iterate 2 refine hR (?_ : R (_, _, _, _, _, _))
    refine hR (t_c (bShl 1 a1) (zoi _).symm ?_)
    have hbt29 : r32 (bShl 1 a1) := zrg _
    refine hR (?_ : R (_, _, _, _, _, _))
    refine hR (t_c (bXor (bShl 1 a1) ((-1))) (zoi _).symm ?_)
    have hbt30 : r32 (bXor (bShl 1 a1) ((-1))) := zrg _
    refine hR (t_c (bAnd e3 (bXor (bShl 1 a1) ((-1)))) (zoi _).symm ?_)
    have hbt31 : r32 (bAnd e3 (bXor (bShl 1 a1) ((-1)))) := zrg _
    refine hR (c_put hC7 rfl rfl fun w32 ff32 hC32 => ?_)
    have fr33 := wfM_st fr6 ff32 nX12
    have hC34 := (ff32.2 10 (by (try dsimp only); decide)).trans hC8
    have hC35 := (ff32.2 11 (by (try dsimp only); decide)).trans hC5
    have hC36 := (ff32.2 b nX13).trans hC9
    have hC37 := (ff32.2 (b + 1) nX14).trans hC10
    have hC38 := (ff32.2 (b + 2) nX15).trans hC11
    have hC39 := (ff32.2 (b + 3) nX16).trans hC12
    have hC40 := (ff32.2 (b + 4) nX17).trans hC13
    replace hC32 : zix w32 9 = some (.inr (1, [.ref b, .int (Int32.ofInt e1), .int (Int32.ofInt e2), .int (Int32.ofInt (bAnd e3 (bXor (bShl 1 a1) ((-1))))), .int (Int32.ofInt e4), .ref 10, .ref 11])) := hC32
    iterate 2 refine hR (?_ : R (_, _, _, _, _, _))
    exact hR (zret_i rfl (Nat.le_refl _) (zbo (by omega)) (h _ _ _ _ _ _ _ fr33 hC32 hC34 hC35 (ds_1 (by omega)) (cs_rd (F := F) (base := n0) (o := a1) (u := a2) hr2 (by omega) (by omega) (by have := hFF a2 (tBy gc a1) (by omega) (by omega) (by omega) (by omega); omega) rfl (fun i i0 i1 => by rw [if_neg (by omega)]) (fun i i0 i1 => zupI (by exact ⟨by omega, by omega⟩) (by omega) i0) (by omega)).2))
  have hFx := hFF a2 (tBy gc a1) (by omega) (by omega) (by omega) (by omega)
  refine hR (?_ : R (_, _, _, _, _, _))
  refine hR (c_get hC7 rfl ?_)
  iterate 2 refine hR (?_ : R (_, _, _, _, _, _))
  refine hR (c_get hC7 rfl ?_)
  iterate 2 refine hR (?_ : R (_, _, _, _, _, _))
  refine hR (c_get hC7 rfl ?_)
  refine hR (?_ : R (_, _, _, _, _, _))
  refine hR (c_aldE hC8 (by omega) (by omega) (Nat.le_of_ble_eq_true rfl) fun v17 ev17 rv17 => ?_)
  replace ev17 : v17 = tBy gc a1 := ev17
  subst ev17
  refine hR (c_obj hC9 (zcall_i 0 0 (Nat.le_of_ble_eq_true rfl) (Nat.le_of_ble_eq_true rfl) (x_bReadI _ _ _ _ _ _ _ _ _ _ _ _ hC9 hC10 hC11 hC12 hC13 (by omega) (by omega) hBK _ fun v18 hp19 => ?_)))
  subst hp19
  refine (?_ : R (_, _, .int (Int32.ofInt (cBY g1 g2 g3 g4 a2 (tBy gc a1))) :: .int (Int32.ofInt a1) :: .ref 10 :: [], w5, 0, 0))
  refine hR (x_ast hC8 (by omega) (by omega) (Nat.le_of_ble_eq_true rfl) fun w20 ff20 hC20 => ?_)
  have fr21 := wfM_st fr6 ff20 nX6
  have hC22 := (ff20.2 9 (by (try dsimp only); decide)).trans hC7
  have hC23 := (ff20.2 11 (by (try dsimp only); decide)).trans hC5
  have hC24 := (ff20.2 b nX7).trans hC9
  have hC25 := (ff20.2 (b + 1) nX8).trans hC10
  have hC26 := (ff20.2 (b + 2) nX9).trans hC11
  have hC27 := (ff20.2 (b + 3) nX10).trans hC12
  have hC28 := (ff20.2 (b + 4) nX11).trans hC13
  refine hR (?_ : R (_, _, _, _, _, _))
  exact hR (zret_i rfl (Nat.le_refl _) (zbo (by omega)) (h _ _ _ _ _ _ _ fr21 hC22 hC20 hC23 (ds_1 (by omega)) (cs_rd (F := F) (base := n0) (o := a1) (u := a2) hr2 (by omega) (by omega) (by omega) (by have := (h_f hcr.2.2.1 hcr.2.2.2 (c := a1) (by omega) (by omega)).2.2.2.1 (by omega); omega) (fun i i0 i1 => by rw [zupI (by exact ⟨by omega, by omega⟩) (by omega) i0]; by_cases c1 : i = a1; (· rw [if_pos c1, if_pos ⟨by omega, c1⟩]; exact hFx.1); rw [if_neg c1, if_neg (fun z => c1 z.2)]) (fun i i0 i1 => zupI (by exact ⟨by omega, by omega⟩) (by omega) i0) (by omega)).2))
theorem x_cCopy (w : zW) (d : Nat) (b : Nat) (a1 a2 : Int) (e1 e2 e3 e4 : Int) (gc gt : Nat → Int32) (n0 n1 n2 : Int) (g1 g2 g3 g4 : Nat → Int32) (F : Int → Int → Int) (s : CS) (m : Int) (hK0 : zix w 9 = some (.inr (1, [.ref b, .int (Int32.ofInt e1), .int (Int32.ofInt e2), .int (Int32.ofInt e3), .int (Int32.ofInt e4), .ref 10, .ref 11]))) (hK1 : zix w 10 = some (.inl (1, 4, .inl gc))) (hK2 : zix w 11 = some (.inl (1, 5, .inl gt))) (hK3 : zix w b = some (.inr (0, [.int (Int32.ofInt n0), .int (Int32.ofInt n1), .int (Int32.ofInt n2), .ref (b + 1), .ref (b + 2), .ref (b + 3), .ref (b + 4)]))) (hK4 : zix w (b + 1) = some (.inl (1, 4, .inl g1))) (hK5 : zix w (b + 2) = some (.inl (1, 5, .inl g2))) (hK6 : zix w (b + 3) = some (.inl (1, 20, .inl g3))) (hK7 : zix w (b + 4) = some (.inl (1, 20, .inl g4))) (hr0 : 45 ≤ b) (hr1 : BKF F n0 n1 g1 g2 g3 g4) (hr2 : CSR m s e1 e2 e3 gc gt) (hr3 : 0 ≤ a1 ∧ a1 ≤ 3) (hr4 : 0 ≤ a2 ∧ a2 ≤ 3) (Q : zQ) (h : ∀ (v : Int) (y1 y2 y3 : Int) (Tc Tt : Nat → Int32) (w' : zW), wfM (fun j => j ≠ 9 ∧ j ≠ 10 ∧ j ≠ 11) w w' → zix w' 9 = some (.inr (1, [.ref b, .int (Int32.ofInt y1), .int (Int32.ofInt y2), .int (Int32.ofInt y3), .int (Int32.ofInt e4), .ref 10, .ref 11])) → zix w' 10 = some (.inl (1, 4, .inl Tc)) → zix w' 11 = some (.inl (1, 5, .inl Tt)) → (v = dsB n1 1 a1 a2 s) → (CSR (m + 1) (dsS F n0 n1 1 a1 a2 s) y1 y2 y3 Tc Tt) → Q (some (.int (Int32.ofInt v))) w') : zCl zTab (d + 1) iX1_doCopy [.ref 9, .int (Int32.ofInt a1), .int (Int32.ofInt a2)] w 0 0 Q := by
  refine zCl_i (M := kX1_doCopy) rfl (Nat.le_of_ble_eq_true rfl) fun R hR => ?_
  have fr0 : wfM (fun j => j ≠ 9 ∧ j ≠ 10 ∧ j ≠ 11) w w := wfM_rf _ w
  have nX0 : FX (∀ j : Nat, (j ≠ 9 ∧ j ≠ 10 ∧ j ≠ 11) → j ≠ 10) := fun j hj => by omega
  have nX1 : FX (b ≠ 10) := (show b ≠ 10 by omega)
  have nX2 : FX ((b + 1) ≠ 10) := (show (b + 1) ≠ 10 by omega)
  have nX3 : FX ((b + 2) ≠ 10) := (show (b + 2) ≠ 10 by omega)
  have nX4 : FX ((b + 3) ≠ 10) := (show (b + 3) ≠ 10 by omega)
  have nX5 : FX ((b + 4) ≠ 10) := (show (b + 4) ≠ 10 by omega)
  refine hR (?_ : R (_, _, _, _, _, _))
  refine hR (k_lt (by omega) (fun hc1 => ?_) (fun hc1 => ?_))
  · skip
    refine hR (?_ : R (_, _, _, _, _, _))
    exact hR (zret_i rfl (Nat.le_refl _) (zbo (by omega)) (h _ _ _ _ _ _ _ fr0 hK0 hK1 hK2 (cs_c0 (by omega)) (cs_cp hr2 hr3 (fun i i0 i1 => by by_cases c1 : i = a2; (· rw [if_pos c1, c1, show a1 = a2 by omega]); rw [if_neg c1]))))
  iterate 2 refine hR (?_ : R (_, _, _, _, _, _))
  refine hR (j_ge (by omega) (by omega) (fun hc2 => ?_) (fun hc2 => ?_))
  · skip
    refine hR (?_ : R (_, _, _, _, _, _))
    exact hR (zret_i rfl (Nat.le_refl _) (zbo (by omega)) (h _ _ _ _ _ _ _ fr0 hK0 hK1 hK2 (cs_c0 (by omega)) (cs_cp hr2 hr3 (fun i i0 i1 => by by_cases c1 : i = a2; (· rw [if_pos c1, c1, show a1 = a2 by omega]); rw [if_neg c1]))))
  iterate 2 refine hR (?_ : R (_, _, _, _, _, _))
  refine hR (j_ne (by omega) (by omega) (fun hc3 => ?_) (fun hc3 => ?_))
  rotate_left
  · skip
    refine hR (?_ : R (_, _, _, _, _, _))
    exact hR (zret_i rfl (Nat.le_refl _) (zbo (by omega)) (h _ _ _ _ _ _ _ fr0 hK0 hK1 hK2 (cs_c0 (by omega)) (cs_cp hr2 hr3 (fun i i0 i1 => by by_cases c1 : i = a2; (· rw [if_pos c1, c1, show a1 = a2 by omega]); rw [if_neg c1]))))
  refine hR (?_ : R (_, _, _, _, _, _))
  refine hR (c_get hK0 rfl ?_)
  iterate 2 refine hR (?_ : R (_, _, _, _, _, _))
  refine hR (c_get hK0 rfl ?_)
  refine hR (?_ : R (_, _, _, _, _, _))
  refine hR (c_aldE hK1 (by omega) (by omega) (Nat.le_of_ble_eq_true rfl) fun v4 ev4 rv4 => ?_)
  replace ev4 : v4 = tBy gc a1 := ev4
  subst ev4
  refine hR (x_ast hK1 (by omega) (by omega) (Nat.le_of_ble_eq_true rfl) fun w5 ff5 hC5 => ?_)
  have fr6 := wfM_st fr0 ff5 nX0
  have hC7 := (ff5.2 9 (by (try dsimp only); decide)).trans hK0
  have hC8 := (ff5.2 11 (by (try dsimp only); decide)).trans hK2
  have hC9 := (ff5.2 b nX1).trans hK3
  have hC10 := (ff5.2 (b + 1) nX2).trans hK4
  have hC11 := (ff5.2 (b + 2) nX3).trans hK5
  have hC12 := (ff5.2 (b + 3) nX4).trans hK6
  have hC13 := (ff5.2 (b + 4) nX5).trans hK7
  refine hR (?_ : R (_, _, _, _, _, _))
  exact hR (zret_i rfl (Nat.le_refl _) (zbo (by omega)) (h _ _ _ _ _ _ _ fr6 hC7 hC5 hC8 (cs_c1 (by omega)) (cs_cp hr2 hr3 (fun i i0 i1 => zupI (tBy_r _ _) (by omega) i0))))
theorem x_cDeed (w : zW) (d : Nat) (b : Nat) (a1 a2 a3 : Int) (e1 e2 e3 e4 : Int) (gc gt : Nat → Int32) (n0 n1 n2 : Int) (g1 g2 g3 g4 : Nat → Int32) (F : Int → Int → Int) (s : CS) (m : Int) (hK0 : zix w 9 = some (.inr (1, [.ref b, .int (Int32.ofInt e1), .int (Int32.ofInt e2), .int (Int32.ofInt e3), .int (Int32.ofInt e4), .ref 10, .ref 11]))) (hK1 : zix w 10 = some (.inl (1, 4, .inl gc))) (hK2 : zix w 11 = some (.inl (1, 5, .inl gt))) (hK3 : zix w b = some (.inr (0, [.int (Int32.ofInt n0), .int (Int32.ofInt n1), .int (Int32.ofInt n2), .ref (b + 1), .ref (b + 2), .ref (b + 3), .ref (b + 4)]))) (hK4 : zix w (b + 1) = some (.inl (1, 4, .inl g1))) (hK5 : zix w (b + 2) = some (.inl (1, 5, .inl g2))) (hK6 : zix w (b + 3) = some (.inl (1, 20, .inl g3))) (hK7 : zix w (b + 4) = some (.inl (1, 20, .inl g4))) (hr0 : 45 ≤ b) (hr1 : BKF F n0 n1 g1 g2 g3 g4) (hr2 : CSR m s e1 e2 e3 gc gt) (hr3 : (0 ≤ a1 ∧ a1 ≤ 5) ∧ (a1 ≠ 5 → 0 ≤ a2 ∧ a2 ≤ 3) ∧ (a1 = 1 → 0 ≤ a3 ∧ a3 ≤ 3)) (hr4 : (-2147483648 ≤ a2 ∧ a2 ≤ 2147483647) ∧ (-2147483648 ≤ a3 ∧ a3 ≤ 2147483647)) (hr5 : m ≤ 1000000) (Q : zQ) (h : ∀ (v : Int) (y1 y2 y3 : Int) (Tc Tt : Nat → Int32) (w' : zW), wfM (fun j => j ≠ 9 ∧ j ≠ 10 ∧ j ≠ 11) w w' → zix w' 9 = some (.inr (1, [.ref b, .int (Int32.ofInt y1), .int (Int32.ofInt y2), .int (Int32.ofInt y3), .int (Int32.ofInt e4), .ref 10, .ref 11])) → zix w' 10 = some (.inl (1, 4, .inl Tc)) → zix w' 11 = some (.inl (1, 5, .inl Tt)) → (v = dsB n1 a1 a2 a3 s) → (CSR (m + 1) (dsS F n0 n1 a1 a2 a3 s) y1 y2 y3 Tc Tt) → Q (some (.int (Int32.ofInt v))) w') : zCl zTab (d + 5) iX1_doDeed [.ref 9, .int (Int32.ofInt a1), .int (Int32.ofInt a2), .int (Int32.ofInt a3)] w 0 0 Q := by
  refine zCl_i (M := kX1_doDeed) rfl (Nat.le_of_ble_eq_true rfl) fun R hR => ?_
  have fr0 : wfM (fun j => j ≠ 9 ∧ j ≠ 10 ∧ j ≠ 11) w w := wfM_rf _ w
  obtain ⟨hn0, hn1, hBK, hFF⟩ := id hr1
  have hcr := csr_r hr2
  have nX0 : FX (∀ j : Nat, (j ≠ 9 ∧ j ≠ 10 ∧ j ≠ 11) → (j ≠ 9 ∧ j ≠ 10 ∧ j ≠ 11)) := fun j hj => by omega
  have nX1 : FX (b ≠ 9 ∧ b ≠ 10 ∧ b ≠ 11) := (show b ≠ 9 ∧ b ≠ 10 ∧ b ≠ 11 by omega)
  have nX2 : FX ((b + 1) ≠ 9 ∧ (b + 1) ≠ 10 ∧ (b + 1) ≠ 11) := (show (b + 1) ≠ 9 ∧ (b + 1) ≠ 10 ∧ (b + 1) ≠ 11 by omega)
  have nX3 : FX ((b + 2) ≠ 9 ∧ (b + 2) ≠ 10 ∧ (b + 2) ≠ 11) := (show (b + 2) ≠ 9 ∧ (b + 2) ≠ 10 ∧ (b + 2) ≠ 11 by omega)
  have nX4 : FX ((b + 3) ≠ 9 ∧ (b + 3) ≠ 10 ∧ (b + 3) ≠ 11) := (show (b + 3) ≠ 9 ∧ (b + 3) ≠ 10 ∧ (b + 3) ≠ 11 by omega)
  have nX5 : FX ((b + 4) ≠ 9 ∧ (b + 4) ≠ 10 ∧ (b + 4) ≠ 11) := (show (b + 4) ≠ 9 ∧ (b + 4) ≠ 10 ∧ (b + 4) ≠ 11 by omega)
  have nX6 : FX (∀ j : Nat, (j ≠ 9 ∧ j ≠ 10 ∧ j ≠ 11) → j ≠ 9) := fun j hj => by omega
  have nX7 : FX (b ≠ 9) := (show b ≠ 9 by omega)
  have nX8 : FX ((b + 1) ≠ 9) := (show (b + 1) ≠ 9 by omega)
  have nX9 : FX ((b + 2) ≠ 9) := (show (b + 2) ≠ 9 by omega)
  have nX10 : FX ((b + 3) ≠ 9) := (show (b + 3) ≠ 9 by omega)
  have nX11 : FX ((b + 4) ≠ 9) := (show (b + 4) ≠ 9 by omega)
  have nX12 : FX (∀ j : Nat, (j ≠ 9 ∧ j ≠ 10 ∧ j ≠ 11) → j ≠ 10) := fun j hj => by omega
  have nX13 : FX (b ≠ 10) := (show b ≠ 10 by omega)
  have nX14 : FX ((b + 1) ≠ 10) := (show (b + 1) ≠ 10 by omega)
  have nX15 : FX ((b + 2) ≠ 10) := (show (b + 2) ≠ 10 by omega)
  have nX16 : FX ((b + 3) ≠ 10) := (show (b + 3) ≠ 10 by omega)
  have nX17 : FX ((b + 4) ≠ 10) := (show (b + 4) ≠ 10 by omega)
  iterate 2 refine hR (?_ : R (_, _, _, _, _, _))
  refine hR (j_eq (by omega) (by omega) (fun hc1 => ?_) (fun hc1 => ?_))
  · skip
    refine hR (?_ : R (_, _, _, _, _, _))
    have hl2 : a1 = 0 ∨ a1 = 1 ∨ a1 = 2 ∨ a1 = 3 ∨ a1 = 4 ∨ (a1 ≠ 0 ∧ a1 ≠ 1 ∧ a1 ≠ 2 ∧ a1 ≠ 3 ∧ a1 ≠ 4) := by omega
    rcases hl2 with hl2 | hl2 | hl2 | hl2 | hl2 | hl2
    · refine hR (?_ : _ ∧ _)
      rw [zti (e := a1) (by omega) (by omega)]
      refine ⟨fun hx => by omega, fun _ => ⟨35, by rw [hl2]; rfl, (?_ : R (_, _, _, _, _, _))⟩⟩
      iterate 3 refine hR (?_ : R (_, _, _, _, _, _))
      refine hR (c_obj hK0 (zcall_i 0 0 (Nat.le_of_ble_eq_true rfl) (Nat.le_of_ble_eq_true rfl) (x_cRead _ _ _ _ _ _ _ _ _ _ _ _ _ _ _ _ _ _ _ _ _ hK0 hK1 hK2 hK3 hK4 hK5 hK6 hK7 (by omega) hr1 hr2 (by omega) (by omega) (by omega) _ fun v3 y1_4 y2_5 y3_6 Tc_7 Tt_8 w9 gg10 hC11 hC12 hC13 hp14 hp15 => ?_)))
      have fr16 := wfM_tr fr0 gg10 nX0
      have hC17 := (gg10.2 b nX1).trans hK3
      have hC18 := (gg10.2 (b + 1) nX2).trans hK4
      have hC19 := (gg10.2 (b + 2) nX3).trans hK5
      have hC20 := (gg10.2 (b + 3) nX4).trans hK6
      have hC21 := (gg10.2 (b + 4) nX5).trans hK7
      refine (?_ : R (_, _, .int (Int32.ofInt v3) :: [], w9, 0, 0))
      have hbr22 := dsB_r n1 0 a2 a3 s
      have hbr23 := dsB_r n1 1 a2 a3 s
      exact hR (zret_i rfl (Nat.le_refl _) (zbo (by omega)) (h _ _ _ _ _ _ _ fr16 hC11 hC12 hC13 (by rw [show a1 = 0 by omega]; exact hp14) (by rw [show a1 = 0 by omega]; exact hp15)))
    · refine hR (?_ : _ ∧ _)
      rw [zti (e := a1) (by omega) (by omega)]
      refine ⟨fun hx => by omega, fun _ => ⟨42, by rw [hl2]; rfl, (?_ : R (_, _, _, _, _, _))⟩⟩
      iterate 3 refine hR (?_ : R (_, _, _, _, _, _))
      refine hR (c_obj hK0 (zcall_i 0 0 (Nat.le_of_ble_eq_true rfl) (Nat.le_of_ble_eq_true rfl) (x_cCopy _ _ _ _ _ _ _ _ _ _ _ _ _ _ _ _ _ _ _ _ _ hK0 hK1 hK2 hK3 hK4 hK5 hK6 hK7 (by omega) hr1 hr2 (by omega) (by omega) _ fun v24 y1_25 y2_26 y3_27 Tc_28 Tt_29 w30 gg31 hC32 hC33 hC34 hp35 hp36 => ?_)))
      have fr37 := wfM_tr fr0 gg31 nX0
      have hC38 := (gg31.2 b nX1).trans hK3
      have hC39 := (gg31.2 (b + 1) nX2).trans hK4
      have hC40 := (gg31.2 (b + 2) nX3).trans hK5
      have hC41 := (gg31.2 (b + 3) nX4).trans hK6
      have hC42 := (gg31.2 (b + 4) nX5).trans hK7
      refine (?_ : R (_, _, .int (Int32.ofInt v24) :: [], w30, 0, 0))
      have hbr43 := dsB_r n1 0 a2 a3 s
      have hbr44 := dsB_r n1 1 a2 a3 s
      exact hR (zret_i rfl (Nat.le_refl _) (zbo (by omega)) (h _ _ _ _ _ _ _ fr37 hC32 hC33 hC34 (by rw [show a1 = 1 by omega]; exact hp35) (by rw [show a1 = 1 by omega]; exact hp36)))
    · refine hR (?_ : _ ∧ _)
      rw [zti (e := a1) (by omega) (by omega)]
      refine ⟨fun hx => by omega, fun _ => ⟨49, by rw [hl2]; rfl, (?_ : R (_, _, _, _, _, _))⟩⟩
      iterate 2 refine hR (?_ : R (_, _, _, _, _, _))
      refine hR (c_put hK0 rfl rfl fun w45 ff45 hC45 => ?_)
      have fr46 := wfM_st fr0 ff45 nX6
      have hC47 := (ff45.2 10 (by (try dsimp only); decide)).trans hK1
      have hC48 := (ff45.2 11 (by (try dsimp only); decide)).trans hK2
      have hC49 := (ff45.2 b nX7).trans hK3
      have hC50 := (ff45.2 (b + 1) nX8).trans hK4
      have hC51 := (ff45.2 (b + 2) nX9).trans hK5
      have hC52 := (ff45.2 (b + 3) nX10).trans hK6
      have hC53 := (ff45.2 (b + 4) nX11).trans hK7
      replace hC45 : zix w45 9 = some (.inr (1, [.ref b, .int (Int32.ofInt e1), .int (Int32.ofInt a2), .int (Int32.ofInt e3), .int (Int32.ofInt e4), .ref 10, .ref 11])) := hC45
      refine hR (?_ : R (_, _, _, _, _, _))
      exact hR (zret_i rfl (Nat.le_refl _) (zbo (by omega)) (h _ _ _ _ _ _ _ fr46 hC45 hC47 hC48 (by rw [show a1 = 2 by omega]; exact (cs_s (F := F) (base := n0) hr2 (by omega)).1) (by rw [show a1 = 2 by omega]; exact (cs_s (F := F) (base := n0) hr2 (by omega)).2)))
    · refine hR (?_ : _ ∧ _)
      rw [zti (e := a1) (by omega) (by omega)]
      refine ⟨fun hx => by omega, fun _ => ⟨56, by rw [hl2]; rfl, (?_ : R (_, _, _, _, _, _))⟩⟩
      iterate 2 refine hR (?_ : R (_, _, _, _, _, _))
      refine hR (c_get hK0 rfl ?_)
      refine hR (j_ne (by omega) (by omega) (fun hc54 => ?_) (fun hc54 => ?_))
      rotate_left
      · skip
        refine hR (?_ : R (_, _, _, _, _, _))
        exact hR (zret_i rfl (Nat.le_refl _) (zbo (by omega)) (h _ _ _ _ _ _ _ fr0 hK0 hK1 hK2 (by rw [show a1 = 3 by omega, ds_x hr2, if_pos (by omega)]) (by rw [show a1 = 3 by omega]; exact (cs_x (F := F) (base := n0) (rd := n1) (u := a3) hr2 (o := a2) (by omega) hn0 (gc' := gc) (fun i i0 i1 => by rw [if_neg (fun z => by omega)])).2)))
      refine hR (?_ : R (_, _, _, _, _, _))
      refine hR (c_get hK0 rfl ?_)
      iterate 2 refine hR (?_ : R (_, _, _, _, _, _))
      refine hR (c_get hK0 rfl ?_)
      refine hR (c_get hK3 rfl ?_)
      refine hR (x_ast hK1 (by omega) (by omega) (Nat.le_of_ble_eq_true rfl) fun w55 ff55 hC55 => ?_)
      have fr56 := wfM_st fr0 ff55 nX12
      have hC57 := (ff55.2 9 (by (try dsimp only); decide)).trans hK0
      have hC58 := (ff55.2 11 (by (try dsimp only); decide)).trans hK2
      have hC59 := (ff55.2 b nX13).trans hK3
      have hC60 := (ff55.2 (b + 1) nX14).trans hK4
      have hC61 := (ff55.2 (b + 2) nX15).trans hK5
      have hC62 := (ff55.2 (b + 3) nX16).trans hK6
      have hC63 := (ff55.2 (b + 4) nX17).trans hK7
      refine hR (?_ : R (_, _, _, _, _, _))
      exact hR (zret_i rfl (Nat.le_refl _) (zbo (by omega)) (h _ _ _ _ _ _ _ fr56 hC57 hC55 hC58 (by rw [show a1 = 3 by omega, ds_x hr2, if_neg (by omega)]) (by rw [show a1 = 3 by omega]; exact (cs_x (F := F) (base := n0) (rd := n1) (u := a3) hr2 (o := a2) (by omega) hn0 (fun i i0 i1 => by rw [zupI (by exact ⟨by omega, by omega⟩) (by omega) i0]; by_cases c1 : i = a2; (· rw [if_pos c1, if_pos ⟨by omega, c1⟩]); rw [if_neg c1, if_neg (fun z => c1 z.2)])).2)))
    · refine hR (?_ : _ ∧ _)
      rw [zti (e := a1) (by omega) (by omega)]
      refine ⟨fun hx => by omega, fun _ => ⟨81, by rw [hl2]; rfl, (?_ : R (_, _, _, _, _, _))⟩⟩
      refine hR (?_ : R (_, _, _, _, _, _))
      refine hR (c_get hK0 rfl ?_)
      refine hR (?_ : R (_, _, _, _, _, _))
      refine hR (zcall_i 0 0 (Nat.le_of_ble_eq_true rfl) (Nat.le_of_ble_eq_true rfl) (x_isInI _ _ _ _ _ fun v64 hp65 => ?_))
      refine (?_ : R (_, _, .int (Int32.ofInt v64) :: [], w, 0, 0))
      refine hR (k_eq (by omega) (fun hc66 => ?_) (fun hc66 => ?_))
      rotate_left
      · skip
        refine hR (?_ : R (_, _, _, _, _, _))
        exact hR (zret_i rfl (Nat.le_refl _) (zbo (by omega)) (h _ _ _ _ _ _ _ fr0 hK0 hK1 hK2 (by rw [show a1 = 4 by omega]; exact (cs_h0 (F := F) (base := n0) hr2 (by omega) (by omega)).1) (by rw [show a1 = 4 by omega]; exact (cs_h0 (F := F) (base := n0) hr2 (by omega) (by omega)).2)))
      iterate 2 refine hR (?_ : R (_, _, _, _, _, _))
      refine hR (c_get hK0 rfl ?_)
      iterate 2 refine hR (?_ : R (_, _, _, _, _, _))
      refine hR (t_c (bShl 1 a2) (zoi _).symm ?_)
      have hbt67 : r32 (bShl 1 a2) := zrg _
      refine hR (t_c (bOr e3 (bShl 1 a2)) (zoi _).symm ?_)
      have hbt68 : r32 (bOr e3 (bShl 1 a2)) := zrg _
      refine hR (c_put hK0 rfl rfl fun w69 ff69 hC69 => ?_)
      have fr70 := wfM_st fr0 ff69 nX6
      have hC71 := (ff69.2 10 (by (try dsimp only); decide)).trans hK1
      have hC72 := (ff69.2 11 (by (try dsimp only); decide)).trans hK2
      have hC73 := (ff69.2 b nX7).trans hK3
      have hC74 := (ff69.2 (b + 1) nX8).trans hK4
      have hC75 := (ff69.2 (b + 2) nX9).trans hK5
      have hC76 := (ff69.2 (b + 3) nX10).trans hK6
      have hC77 := (ff69.2 (b + 4) nX11).trans hK7
      replace hC69 : zix w69 9 = some (.inr (1, [.ref b, .int (Int32.ofInt e1), .int (Int32.ofInt e2), .int (Int32.ofInt (bOr e3 (bShl 1 a2))), .int (Int32.ofInt e4), .ref 10, .ref 11])) := hC69
      refine hR (?_ : R (_, _, _, _, _, _))
      exact hR (zret_i rfl (Nat.le_refl _) (zbo (by omega)) (h _ _ _ _ _ _ _ fr70 hC69 hC71 hC72 (by rw [show a1 = 4 by omega]; exact (cs_h1 (F := F) (base := n0) hr2 (by omega) (by omega)).1) (by rw [show a1 = 4 by omega]; exact (cs_h1 (F := F) (base := n0) hr2 (by omega) (by omega)).2)))
    · refine hR (?_ : _ ∧ _)
      rw [zti (e := a1) (by omega) (by omega)]
      refine ⟨fun _ => (?_ : R (_, _, _, _, _, _)), fun hx => by omega⟩
      refine hR (?_ : R (_, _, _, _, _, _))
      refine hR (c_get hK0 rfl ?_)
      refine hR (t_c 99 (by decide) ?_)
      refine hR (j_lt (by omega) (by omega) (fun hc78 => ?_) (fun hc78 => ?_))
      rotate_left
      · skip
        refine hR (?_ : R (_, _, _, _, _, _))
        exact hR (zret_i rfl (Nat.le_refl _) (zbo (by omega)) (h _ _ _ _ _ _ _ fr0 hK0 hK1 hK2 (by rw [show a1 = 5 by omega]; exact (cs_d0 (F := F) (base := n0) hr2 (by omega)).1) (by rw [show a1 = 5 by omega]; exact (cs_d0 (F := F) (base := n0) hr2 (by omega)).2)))
      iterate 2 refine hR (?_ : R (_, _, _, _, _, _))
      refine hR (c_get hK0 rfl ?_)
      refine hR (?_ : R (_, _, _, _, _, _))
      refine hR (t_add ?_)
      refine hR (c_put hK0 rfl rfl fun w79 ff79 hC79 => ?_)
      have fr80 := wfM_st fr0 ff79 nX6
      have hC81 := (ff79.2 10 (by (try dsimp only); decide)).trans hK1
      have hC82 := (ff79.2 11 (by (try dsimp only); decide)).trans hK2
      have hC83 := (ff79.2 b nX7).trans hK3
      have hC84 := (ff79.2 (b + 1) nX8).trans hK4
      have hC85 := (ff79.2 (b + 2) nX9).trans hK5
      have hC86 := (ff79.2 (b + 3) nX10).trans hK6
      have hC87 := (ff79.2 (b + 4) nX11).trans hK7
      replace hC79 : zix w79 9 = some (.inr (1, [.ref b, .int (Int32.ofInt (e1 + 1)), .int (Int32.ofInt e2), .int (Int32.ofInt e3), .int (Int32.ofInt e4), .ref 10, .ref 11])) := hC79
      refine hR (?_ : R (_, _, _, _, _, _))
      exact hR (zret_i rfl (Nat.le_refl _) (zbo (by omega)) (h _ _ _ _ _ _ _ fr80 hC79 hC81 hC82 (by rw [show a1 = 5 by omega]; exact (cs_d1 (F := F) (base := n0) hr2 (by omega)).1) (by rw [show a1 = 5 by omega]; exact (cs_d1 (F := F) (base := n0) hr2 (by omega)).2)))
  refine hR (?_ : R (_, _, _, _, _, _))
  refine hR (k_lt (by omega) (fun hc88 => ?_) (fun hc88 => ?_))
  · skip
    refine hR (?_ : R (_, _, _, _, _, _))
    exact hR (zret_i rfl (Nat.le_refl _) (zbo (by omega)) (h _ _ _ _ _ _ _ fr0 hK0 hK1 hK2 (by omega) (by omega)))
  iterate 2 refine hR (?_ : R (_, _, _, _, _, _))
  refine hR (j_lt (by omega) (by omega) (fun hc89 => ?_) (fun hc89 => ?_))
  rotate_left
  · skip
    refine hR (?_ : R (_, _, _, _, _, _))
    exact hR (zret_i rfl (Nat.le_refl _) (zbo (by omega)) (h _ _ _ _ _ _ _ fr0 hK0 hK1 hK2 (by omega) (by omega)))
  refine hR (?_ : R (_, _, _, _, _, _))
  have hl90 : a1 = 0 ∨ a1 = 1 ∨ a1 = 2 ∨ a1 = 3 ∨ a1 = 4 ∨ (a1 ≠ 0 ∧ a1 ≠ 1 ∧ a1 ≠ 2 ∧ a1 ≠ 3 ∧ a1 ≠ 4) := by omega
  rcases hl90 with hl90 | hl90 | hl90 | hl90 | hl90 | hl90
  · refine hR (?_ : _ ∧ _)
    rw [zti (e := a1) (by omega) (by omega)]
    refine ⟨fun hx => by omega, fun _ => ⟨35, by rw [hl90]; rfl, (?_ : R (_, _, _, _, _, _))⟩⟩
    iterate 3 refine hR (?_ : R (_, _, _, _, _, _))
    refine hR (c_obj hK0 (zcall_i 0 0 (Nat.le_of_ble_eq_true rfl) (Nat.le_of_ble_eq_true rfl) (x_cRead _ _ _ _ _ _ _ _ _ _ _ _ _ _ _ _ _ _ _ _ _ hK0 hK1 hK2 hK3 hK4 hK5 hK6 hK7 (by omega) hr1 hr2 (by omega) (by omega) (by omega) _ fun v91 y1_92 y2_93 y3_94 Tc_95 Tt_96 w97 gg98 hC99 hC100 hC101 hp102 hp103 => ?_)))
    have fr104 := wfM_tr fr0 gg98 nX0
    have hC105 := (gg98.2 b nX1).trans hK3
    have hC106 := (gg98.2 (b + 1) nX2).trans hK4
    have hC107 := (gg98.2 (b + 2) nX3).trans hK5
    have hC108 := (gg98.2 (b + 3) nX4).trans hK6
    have hC109 := (gg98.2 (b + 4) nX5).trans hK7
    refine (?_ : R (_, _, .int (Int32.ofInt v91) :: [], w97, 0, 0))
    have hbr110 := dsB_r n1 0 a2 a3 s
    have hbr111 := dsB_r n1 1 a2 a3 s
    exact hR (zret_i rfl (Nat.le_refl _) (zbo (by omega)) (h _ _ _ _ _ _ _ fr104 hC99 hC100 hC101 (by rw [show a1 = 0 by omega]; exact hp102) (by rw [show a1 = 0 by omega]; exact hp103)))
  · refine hR (?_ : _ ∧ _)
    rw [zti (e := a1) (by omega) (by omega)]
    refine ⟨fun hx => by omega, fun _ => ⟨42, by rw [hl90]; rfl, (?_ : R (_, _, _, _, _, _))⟩⟩
    iterate 3 refine hR (?_ : R (_, _, _, _, _, _))
    refine hR (c_obj hK0 (zcall_i 0 0 (Nat.le_of_ble_eq_true rfl) (Nat.le_of_ble_eq_true rfl) (x_cCopy _ _ _ _ _ _ _ _ _ _ _ _ _ _ _ _ _ _ _ _ _ hK0 hK1 hK2 hK3 hK4 hK5 hK6 hK7 (by omega) hr1 hr2 (by omega) (by omega) _ fun v112 y1_113 y2_114 y3_115 Tc_116 Tt_117 w118 gg119 hC120 hC121 hC122 hp123 hp124 => ?_)))
    have fr125 := wfM_tr fr0 gg119 nX0
    have hC126 := (gg119.2 b nX1).trans hK3
    have hC127 := (gg119.2 (b + 1) nX2).trans hK4
    have hC128 := (gg119.2 (b + 2) nX3).trans hK5
    have hC129 := (gg119.2 (b + 3) nX4).trans hK6
    have hC130 := (gg119.2 (b + 4) nX5).trans hK7
    refine (?_ : R (_, _, .int (Int32.ofInt v112) :: [], w118, 0, 0))
    have hbr131 := dsB_r n1 0 a2 a3 s
    have hbr132 := dsB_r n1 1 a2 a3 s
    exact hR (zret_i rfl (Nat.le_refl _) (zbo (by omega)) (h _ _ _ _ _ _ _ fr125 hC120 hC121 hC122 (by rw [show a1 = 1 by omega]; exact hp123) (by rw [show a1 = 1 by omega]; exact hp124)))
  · refine hR (?_ : _ ∧ _)
    rw [zti (e := a1) (by omega) (by omega)]
    refine ⟨fun hx => by omega, fun _ => ⟨49, by rw [hl90]; rfl, (?_ : R (_, _, _, _, _, _))⟩⟩
    iterate 2 refine hR (?_ : R (_, _, _, _, _, _))
    refine hR (c_put hK0 rfl rfl fun w133 ff133 hC133 => ?_)
    have fr134 := wfM_st fr0 ff133 nX6
    have hC135 := (ff133.2 10 (by (try dsimp only); decide)).trans hK1
    have hC136 := (ff133.2 11 (by (try dsimp only); decide)).trans hK2
    have hC137 := (ff133.2 b nX7).trans hK3
    have hC138 := (ff133.2 (b + 1) nX8).trans hK4
    have hC139 := (ff133.2 (b + 2) nX9).trans hK5
    have hC140 := (ff133.2 (b + 3) nX10).trans hK6
    have hC141 := (ff133.2 (b + 4) nX11).trans hK7
    replace hC133 : zix w133 9 = some (.inr (1, [.ref b, .int (Int32.ofInt e1), .int (Int32.ofInt a2), .int (Int32.ofInt e3), .int (Int32.ofInt e4), .ref 10, .ref 11])) := hC133
    refine hR (?_ : R (_, _, _, _, _, _))
    exact hR (zret_i rfl (Nat.le_refl _) (zbo (by omega)) (h _ _ _ _ _ _ _ fr134 hC133 hC135 hC136 (by rw [show a1 = 2 by omega]; exact (cs_s (F := F) (base := n0) hr2 (by omega)).1) (by rw [show a1 = 2 by omega]; exact (cs_s (F := F) (base := n0) hr2 (by omega)).2)))
  · refine hR (?_ : _ ∧ _)
    rw [zti (e := a1) (by omega) (by omega)]
    refine ⟨fun hx => by omega, fun _ => ⟨56, by rw [hl90]; rfl, (?_ : R (_, _, _, _, _, _))⟩⟩
    iterate 2 refine hR (?_ : R (_, _, _, _, _, _))
    refine hR (c_get hK0 rfl ?_)
    refine hR (j_ne (by omega) (by omega) (fun hc142 => ?_) (fun hc142 => ?_))
    rotate_left
    · skip
      refine hR (?_ : R (_, _, _, _, _, _))
      exact hR (zret_i rfl (Nat.le_refl _) (zbo (by omega)) (h _ _ _ _ _ _ _ fr0 hK0 hK1 hK2 (by rw [show a1 = 3 by omega, ds_x hr2, if_pos (by omega)]) (by rw [show a1 = 3 by omega]; exact (cs_x (F := F) (base := n0) (rd := n1) (u := a3) hr2 (o := a2) (by omega) hn0 (gc' := gc) (fun i i0 i1 => by rw [if_neg (fun z => by omega)])).2)))
    refine hR (?_ : R (_, _, _, _, _, _))
    refine hR (c_get hK0 rfl ?_)
    iterate 2 refine hR (?_ : R (_, _, _, _, _, _))
    refine hR (c_get hK0 rfl ?_)
    refine hR (c_get hK3 rfl ?_)
    refine hR (x_ast hK1 (by omega) (by omega) (Nat.le_of_ble_eq_true rfl) fun w143 ff143 hC143 => ?_)
    have fr144 := wfM_st fr0 ff143 nX12
    have hC145 := (ff143.2 9 (by (try dsimp only); decide)).trans hK0
    have hC146 := (ff143.2 11 (by (try dsimp only); decide)).trans hK2
    have hC147 := (ff143.2 b nX13).trans hK3
    have hC148 := (ff143.2 (b + 1) nX14).trans hK4
    have hC149 := (ff143.2 (b + 2) nX15).trans hK5
    have hC150 := (ff143.2 (b + 3) nX16).trans hK6
    have hC151 := (ff143.2 (b + 4) nX17).trans hK7
    refine hR (?_ : R (_, _, _, _, _, _))
    exact hR (zret_i rfl (Nat.le_refl _) (zbo (by omega)) (h _ _ _ _ _ _ _ fr144 hC145 hC143 hC146 (by rw [show a1 = 3 by omega, ds_x hr2, if_neg (by omega)]) (by rw [show a1 = 3 by omega]; exact (cs_x (F := F) (base := n0) (rd := n1) (u := a3) hr2 (o := a2) (by omega) hn0 (fun i i0 i1 => by rw [zupI (by exact ⟨by omega, by omega⟩) (by omega) i0]; by_cases c1 : i = a2; (· rw [if_pos c1, if_pos ⟨by omega, c1⟩]); rw [if_neg c1, if_neg (fun z => c1 z.2)])).2)))
  · refine hR (?_ : _ ∧ _)
    rw [zti (e := a1) (by omega) (by omega)]
    refine ⟨fun hx => by omega, fun _ => ⟨81, by rw [hl90]; rfl, (?_ : R (_, _, _, _, _, _))⟩⟩
    refine hR (?_ : R (_, _, _, _, _, _))
    refine hR (c_get hK0 rfl ?_)
    refine hR (?_ : R (_, _, _, _, _, _))
    refine hR (zcall_i 0 0 (Nat.le_of_ble_eq_true rfl) (Nat.le_of_ble_eq_true rfl) (x_isInI _ _ _ _ _ fun v152 hp153 => ?_))
    refine (?_ : R (_, _, .int (Int32.ofInt v152) :: [], w, 0, 0))
    refine hR (k_eq (by omega) (fun hc154 => ?_) (fun hc154 => ?_))
    rotate_left
    · skip
      refine hR (?_ : R (_, _, _, _, _, _))
      exact hR (zret_i rfl (Nat.le_refl _) (zbo (by omega)) (h _ _ _ _ _ _ _ fr0 hK0 hK1 hK2 (by rw [show a1 = 4 by omega]; exact (cs_h0 (F := F) (base := n0) hr2 (by omega) (by omega)).1) (by rw [show a1 = 4 by omega]; exact (cs_h0 (F := F) (base := n0) hr2 (by omega) (by omega)).2)))
    iterate 2 refine hR (?_ : R (_, _, _, _, _, _))
    refine hR (c_get hK0 rfl ?_)
    iterate 2 refine hR (?_ : R (_, _, _, _, _, _))
    refine hR (t_c (bShl 1 a2) (zoi _).symm ?_)
    have hbt155 : r32 (bShl 1 a2) := zrg _
    refine hR (t_c (bOr e3 (bShl 1 a2)) (zoi _).symm ?_)
    have hbt156 : r32 (bOr e3 (bShl 1 a2)) := zrg _
    refine hR (c_put hK0 rfl rfl fun w157 ff157 hC157 => ?_)
    have fr158 := wfM_st fr0 ff157 nX6
    have hC159 := (ff157.2 10 (by (try dsimp only); decide)).trans hK1
    have hC160 := (ff157.2 11 (by (try dsimp only); decide)).trans hK2
    have hC161 := (ff157.2 b nX7).trans hK3
    have hC162 := (ff157.2 (b + 1) nX8).trans hK4
    have hC163 := (ff157.2 (b + 2) nX9).trans hK5
    have hC164 := (ff157.2 (b + 3) nX10).trans hK6
    have hC165 := (ff157.2 (b + 4) nX11).trans hK7
    replace hC157 : zix w157 9 = some (.inr (1, [.ref b, .int (Int32.ofInt e1), .int (Int32.ofInt e2), .int (Int32.ofInt (bOr e3 (bShl 1 a2))), .int (Int32.ofInt e4), .ref 10, .ref 11])) := hC157
    refine hR (?_ : R (_, _, _, _, _, _))
    exact hR (zret_i rfl (Nat.le_refl _) (zbo (by omega)) (h _ _ _ _ _ _ _ fr158 hC157 hC159 hC160 (by rw [show a1 = 4 by omega]; exact (cs_h1 (F := F) (base := n0) hr2 (by omega) (by omega)).1) (by rw [show a1 = 4 by omega]; exact (cs_h1 (F := F) (base := n0) hr2 (by omega) (by omega)).2)))
  · refine hR (?_ : _ ∧ _)
    rw [zti (e := a1) (by omega) (by omega)]
    refine ⟨fun _ => (?_ : R (_, _, _, _, _, _)), fun hx => by omega⟩
    refine hR (?_ : R (_, _, _, _, _, _))
    refine hR (c_get hK0 rfl ?_)
    refine hR (t_c 99 (by decide) ?_)
    refine hR (j_lt (by omega) (by omega) (fun hc166 => ?_) (fun hc166 => ?_))
    rotate_left
    · skip
      refine hR (?_ : R (_, _, _, _, _, _))
      exact hR (zret_i rfl (Nat.le_refl _) (zbo (by omega)) (h _ _ _ _ _ _ _ fr0 hK0 hK1 hK2 (by rw [show a1 = 5 by omega]; exact (cs_d0 (F := F) (base := n0) hr2 (by omega)).1) (by rw [show a1 = 5 by omega]; exact (cs_d0 (F := F) (base := n0) hr2 (by omega)).2)))
    iterate 2 refine hR (?_ : R (_, _, _, _, _, _))
    refine hR (c_get hK0 rfl ?_)
    refine hR (?_ : R (_, _, _, _, _, _))
    refine hR (t_add ?_)
    refine hR (c_put hK0 rfl rfl fun w167 ff167 hC167 => ?_)
    have fr168 := wfM_st fr0 ff167 nX6
    have hC169 := (ff167.2 10 (by (try dsimp only); decide)).trans hK1
    have hC170 := (ff167.2 11 (by (try dsimp only); decide)).trans hK2
    have hC171 := (ff167.2 b nX7).trans hK3
    have hC172 := (ff167.2 (b + 1) nX8).trans hK4
    have hC173 := (ff167.2 (b + 2) nX9).trans hK5
    have hC174 := (ff167.2 (b + 3) nX10).trans hK6
    have hC175 := (ff167.2 (b + 4) nX11).trans hK7
    replace hC167 : zix w167 9 = some (.inr (1, [.ref b, .int (Int32.ofInt (e1 + 1)), .int (Int32.ofInt e2), .int (Int32.ofInt e3), .int (Int32.ofInt e4), .ref 10, .ref 11])) := hC167
    refine hR (?_ : R (_, _, _, _, _, _))
    exact hR (zret_i rfl (Nat.le_refl _) (zbo (by omega)) (h _ _ _ _ _ _ _ fr168 hC167 hC169 hC170 (by rw [show a1 = 5 by omega]; exact (cs_d1 (F := F) (base := n0) hr2 (by omega)).1) (by rw [show a1 = 5 by omega]; exact (cs_d1 (F := F) (base := n0) hr2 (by omega)).2)))
theorem x_cFirst (w : zW) (d : Nat) (b y : Nat) (a2 : Int) (e1 e2 e3 e4 : Int) (gc gt : Nat → Int32) (n0 n1 n2 : Int) (g1 g2 g3 g4 : Nat → Int32) (yd : Int) (h1 h2 h3 : Nat → Int32) (F : Int → Int → Int) (K O U : Int → Int) (hK0 : zix w 9 = some (.inr (1, [.ref b, .int (Int32.ofInt e1), .int (Int32.ofInt e2), .int (Int32.ofInt e3), .int (Int32.ofInt e4), .ref 10, .ref 11]))) (hK1 : zix w 10 = some (.inl (1, 4, .inl gc))) (hK2 : zix w 11 = some (.inl (1, 5, .inl gt))) (hK3 : zix w b = some (.inr (0, [.int (Int32.ofInt n0), .int (Int32.ofInt n1), .int (Int32.ofInt n2), .ref (b + 1), .ref (b + 2), .ref (b + 3), .ref (b + 4)]))) (hK4 : zix w (b + 1) = some (.inl (1, 4, .inl g1))) (hK5 : zix w (b + 2) = some (.inl (1, 5, .inl g2))) (hK6 : zix w (b + 3) = some (.inl (1, 20, .inl g3))) (hK7 : zix w (b + 4) = some (.inl (1, 20, .inl g4))) (hK8 : zix w y = some (.inr (9, [.int (Int32.ofInt yd), .ref (y + 1), .ref (y + 2), .ref (y + 3)]))) (hK9 : zix w (y + 1) = some (.inl (1, 40, .inl h1))) (hK10 : zix w (y + 2) = some (.inl (1, 40, .inl h2))) (hK11 : zix w (y + 3) = some (.inl (1, 40, .inl h3))) (hr0 : 45 ≤ b ∧ 45 ≤ y) (hr1 : BKF F n0 n1 g1 g2 g3 g4) (hr2 : CSR 0 (cs0 n0) e1 e2 e3 gc gt) (hr3 : 0 ≤ a2 ∧ a2 ≤ yd ∧ yd ≤ 40) (hr4 : ∀ i : Int, 0 ≤ i → i < yd → tBy h1 i = K i ∧ tBy h2 i = O i ∧ tBy h3 i = U i ∧ DOK (K i) (O i) (U i)) (Q : zQ) (h : ∀ (v : Int) (y1 y2 y3 : Int) (Tc Tt : Nat → Int32) (w' : zW), wfM (fun j => j ≠ 9 ∧ j ≠ 10 ∧ j ≠ 11) w w' → zix w' 9 = some (.inr (1, [.ref b, .int (Int32.ofInt y1), .int (Int32.ofInt y2), .int (Int32.ofInt y3), .int (Int32.ofInt e4), .ref 10, .ref 11])) → zix w' 10 = some (.inl (1, 4, .inl Tc)) → zix w' 11 = some (.inl (1, 5, .inl Tt)) → (DON F n0 n1 K O U a2 v) → (v = a2 → CSR a2 (csN F n0 n1 K O U a2.toNat) y1 y2 y3 Tc Tt) → Q (some (.int (Int32.ofInt v))) w') : zCl zTab (d + 6) iX1_doFirst [.ref 9, .ref y, .int (Int32.ofInt a2)] w 0 0 Q := by
  refine zCl_i (M := kX1_doFirst) rfl (Nat.le_of_ble_eq_true rfl) fun R hR => ?_
  have fr0 : wfM (fun j => j ≠ 9 ∧ j ≠ 10 ∧ j ≠ 11) w w := wfM_rf _ w
  have nX0 : FX (∀ j : Nat, (j ≠ 9 ∧ j ≠ 10 ∧ j ≠ 11) → (j ≠ 9 ∧ j ≠ 10 ∧ j ≠ 11)) := fun j hj => by omega
  have nX1 : FX (b ≠ 9 ∧ b ≠ 10 ∧ b ≠ 11) := (show b ≠ 9 ∧ b ≠ 10 ∧ b ≠ 11 by omega)
  have nX2 : FX ((b + 1) ≠ 9 ∧ (b + 1) ≠ 10 ∧ (b + 1) ≠ 11) := (show (b + 1) ≠ 9 ∧ (b + 1) ≠ 10 ∧ (b + 1) ≠ 11 by omega)
  have nX3 : FX ((b + 2) ≠ 9 ∧ (b + 2) ≠ 10 ∧ (b + 2) ≠ 11) := (show (b + 2) ≠ 9 ∧ (b + 2) ≠ 10 ∧ (b + 2) ≠ 11 by omega)
  have nX4 : FX ((b + 3) ≠ 9 ∧ (b + 3) ≠ 10 ∧ (b + 3) ≠ 11) := (show (b + 3) ≠ 9 ∧ (b + 3) ≠ 10 ∧ (b + 3) ≠ 11 by omega)
  have nX5 : FX ((b + 4) ≠ 9 ∧ (b + 4) ≠ 10 ∧ (b + 4) ≠ 11) := (show (b + 4) ≠ 9 ∧ (b + 4) ≠ 10 ∧ (b + 4) ≠ 11 by omega)
  have nX6 : FX (y ≠ 9 ∧ y ≠ 10 ∧ y ≠ 11) := (show y ≠ 9 ∧ y ≠ 10 ∧ y ≠ 11 by omega)
  have nX7 : FX ((y + 1) ≠ 9 ∧ (y + 1) ≠ 10 ∧ (y + 1) ≠ 11) := (show (y + 1) ≠ 9 ∧ (y + 1) ≠ 10 ∧ (y + 1) ≠ 11 by omega)
  have nX8 : FX ((y + 2) ≠ 9 ∧ (y + 2) ≠ 10 ∧ (y + 2) ≠ 11) := (show (y + 2) ≠ 9 ∧ (y + 2) ≠ 10 ∧ (y + 2) ≠ 11 by omega)
  have nX9 : FX ((y + 3) ≠ 9 ∧ (y + 3) ≠ 10 ∧ (y + 3) ≠ 11) := (show (y + 3) ≠ 9 ∧ (y + 3) ≠ 10 ∧ (y + 3) ≠ 11 by omega)
  iterate 2 refine hR (?_ : R (_, _, _, _, _, _))
  have lp2 : ∀ (N : Nat) (kk : Int) (d1 d2 d3 : Int) (T1 T2 : Nat → Int32) (w_2 : zW), (wfM (fun j => j ≠ 9 ∧ j ≠ 10 ∧ j ≠ 11) w w_2) → (zix w_2 9 = some (.inr (1, [.ref b, .int (Int32.ofInt d1), .int (Int32.ofInt d2), .int (Int32.ofInt d3), .int (Int32.ofInt e4), .ref 10, .ref 11]))) → (zix w_2 10 = some (.inl (1, 4, .inl T1))) → (zix w_2 11 = some (.inl (1, 5, .inl T2))) → (zix w_2 b = some (.inr (0, [.int (Int32.ofInt n0), .int (Int32.ofInt n1), .int (Int32.ofInt n2), .ref (b + 1), .ref (b + 2), .ref (b + 3), .ref (b + 4)]))) → (zix w_2 (b + 1) = some (.inl (1, 4, .inl g1))) → (zix w_2 (b + 2) = some (.inl (1, 5, .inl g2))) → (zix w_2 (b + 3) = some (.inl (1, 20, .inl g3))) → (zix w_2 (b + 4) = some (.inl (1, 20, .inl g4))) → (zix w_2 y = some (.inr (9, [.int (Int32.ofInt yd), .ref (y + 1), .ref (y + 2), .ref (y + 3)]))) → (zix w_2 (y + 1) = some (.inl (1, 40, .inl h1))) → (zix w_2 (y + 2) = some (.inl (1, 40, .inl h2))) → (zix w_2 (y + 3) = some (.inl (1, 40, .inl h3))) → (0 ≤ kk ∧ kk ≤ 40) → (CSR kk (csN F n0 n1 K O U kk.toNat) d1 d2 d3 T1 T2) → (okN F n0 n1 K O U kk) → (kk ≤ a2) → (41 - kk < N) → R (2, [some (.ref 9), some (.ref y), some (.int (Int32.ofInt a2)), some (.int (Int32.ofInt kk))], [], w_2, 0, 0) := by
    intro N
    induction N with
    | zero => intros; omega
    | succ N ih2 =>
      intro kk d1 d2 d3 T1 T2 w_2 fr_2 hC9_2 hC10_2 hC11_2 hCb_2 hCb1_2 hCb2_2 hCb3_2 hCb4_2 hCy_2 hCy1_2 hCy2_2 hCy3_2 hf0_2 hp0_2 hp1_2 hp2_2 hN2
      iterate 2 refine hR (?_ : R (_, _, _, _, _, _))
      refine hR (j_ge (by omega) (by omega) (fun hc1 => ?_) (fun hc1 => ?_))
      · skip
        refine hR (?_ : R (_, _, _, _, _, _))
        exact hR (zret_i rfl (Nat.le_refl _) trivial (h _ _ _ _ _ _ _ fr_2 hC9_2 hC10_2 hC11_2 ⟨by omega, by rw [show a2 = kk by omega]; exact hp1_2, Or.inl rfl⟩ (fun _ => by rw [show a2 = kk by omega]; exact hp0_2)))
      iterate 2 refine hR (?_ : R (_, _, _, _, _, _))
      refine hR (c_get hCy_2 rfl ?_)
      refine hR (j_ge (by omega) (by omega) (fun hc2 => ?_) (fun hc2 => ?_))
      · skip
        refine hR (?_ : R (_, _, _, _, _, _))
        exact hR (zret_i rfl (Nat.le_refl _) trivial (h _ _ _ _ _ _ _ fr_2 hC9_2 hC10_2 hC11_2 ⟨by omega, by rw [show a2 = kk by omega]; exact hp1_2, Or.inl rfl⟩ (fun _ => by rw [show a2 = kk by omega]; exact hp0_2)))
      have hko := hr4 kk (by omega) (by omega)
      obtain ⟨hk1, hk2, hk3, hdk⟩ := hko
      unfold DOK at hdk
      rw [← hk1, ← hk2, ← hk3] at hdk
      have hty2 := tBy_r h2 kk
      have hty3 := tBy_r h3 kk
      iterate 2 refine hR (?_ : R (_, _, _, _, _, _))
      refine hR (c_get hCy_2 rfl ?_)
      refine hR (?_ : R (_, _, _, _, _, _))
      refine hR (c_aldE hCy1_2 (by omega) (by omega) (Nat.le_of_ble_eq_true rfl) fun v3 ev3 rv3 => ?_)
      replace ev3 : v3 = tBy h1 kk := ev3
      subst ev3
      refine hR (?_ : R (_, _, _, _, _, _))
      refine hR (c_get hCy_2 rfl ?_)
      refine hR (?_ : R (_, _, _, _, _, _))
      refine hR (c_aldE hCy2_2 (by omega) (by omega) (Nat.le_of_ble_eq_true rfl) fun v4 ev4 rv4 => ?_)
      replace ev4 : v4 = tBy h2 kk := ev4
      subst ev4
      refine hR (?_ : R (_, _, _, _, _, _))
      refine hR (c_get hCy_2 rfl ?_)
      refine hR (?_ : R (_, _, _, _, _, _))
      refine hR (c_aldE hCy3_2 (by omega) (by omega) (Nat.le_of_ble_eq_true rfl) fun v5 ev5 rv5 => ?_)
      replace ev5 : v5 = tBy h3 kk := ev5
      subst ev5
      refine hR (c_obj hC9_2 (zcall_i 0 0 (Nat.le_of_ble_eq_true rfl) (Nat.le_of_ble_eq_true rfl) (x_cDeed _ _ _ _ _ _ _ _ _ _ _ _ _ _ _ _ _ _ _ _ _ _ hC9_2 hC10_2 hC11_2 hCb_2 hCb1_2 hCb2_2 hCb3_2 hCb4_2 (by omega) hr1 hp0_2 (by omega) (by omega) (by omega) _ fun v6 y1_7 y2_8 y3_9 Tc_10 Tt_11 w12 gg13 hC14 hC15 hC16 hp17 hp18 => ?_)))
      have fr19 := wfM_tr fr_2 gg13 nX0
      have hC20 := (gg13.2 b nX1).trans hCb_2
      have hC21 := (gg13.2 (b + 1) nX2).trans hCb1_2
      have hC22 := (gg13.2 (b + 2) nX3).trans hCb2_2
      have hC23 := (gg13.2 (b + 3) nX4).trans hCb3_2
      have hC24 := (gg13.2 (b + 4) nX5).trans hCb4_2
      have hC25 := (gg13.2 y nX6).trans hCy_2
      have hC26 := (gg13.2 (y + 1) nX7).trans hCy1_2
      have hC27 := (gg13.2 (y + 2) nX8).trans hCy2_2
      have hC28 := (gg13.2 (y + 3) nX9).trans hCy3_2
      refine (?_ : R (_, _, .int (Int32.ofInt v6) :: [], w12, 0, 0))
      have hb0 := hp17
      have hb1 := hp18
      rw [hk1, hk2, hk3] at hb0 hb1
      have hbr := dsB_r n1 (K kk) (O kk) (U kk) (csN F n0 n1 K O U kk.toNat)
      rw [← csN_s (by omega)] at hb1
      refine hR (k_ne (by omega) (fun hc29 => ?_) (fun hc29 => ?_))
      rotate_left
      · skip
        refine hR (?_ : R (_, _, _, _, _, _))
        exact hR (zret_i rfl (Nat.le_refl _) trivial (h _ _ _ _ _ _ _ fr19 hC14 hC15 hC16 ⟨by omega, hp1_2, Or.inr ⟨by omega, by omega⟩⟩ (fun e => by omega)))
      have hok2 := okN_s hp1_2 (by omega)
      refine hR (t_inc ?_)
      refine hR (?_ : R (_, _, _, _, _, _))
      exact ih2 _ _ _ _ _ _ _ fr19 hC14 hC15 hC16 hC20 hC21 hC22 hC23 hC24 hC25 hC26 hC27 hC28 (by omega) hb1 hok2 (by omega) (by omega)
  exact lp2 400000000 _ _ _ _ _ _ _ fr0 hK0 hK1 hK2 hK3 hK4 hK5 hK6 hK7 hK8 hK9 hK10 hK11 (by omega) hr2 (fun j j0 j1 => by omega) (by omega) (by omega)
theorem x_cDrift (w : zW) (d : Nat) (b : Nat) (a1 : Int) (e1 e2 e3 e4 : Int) (gc gt : Nat → Int32) (n0 n1 n2 : Int) (s : CS) (m : Int) (hK0 : zix w 9 = some (.inr (1, [.ref b, .int (Int32.ofInt e1), .int (Int32.ofInt e2), .int (Int32.ofInt e3), .int (Int32.ofInt e4), .ref 10, .ref 11]))) (hK1 : zix w 10 = some (.inl (1, 4, .inl gc))) (hK2 : zix w 11 = some (.inl (1, 5, .inl gt))) (hK3 : zix w b = some (.inr (0, [.int (Int32.ofInt n0), .int (Int32.ofInt n1), .int (Int32.ofInt n2), .ref (b + 1), .ref (b + 2), .ref (b + 3), .ref (b + 4)]))) (hr0 : 0 ≤ n0 ∧ n0 ≤ 5460) (hr1 : CSR m s e1 e2 e3 gc gt) (hr2 : 0 ≤ a1 ∧ a1 ≤ 3) (Q : zQ) (h : ∀ (v : Int), (v = dft (s.2.2.2.1 a1) n0) → Q (some (.int (Int32.ofInt v))) w) : zCl zTab (d + 4) iX1_driftOfCopy [.ref 9, .int (Int32.ofInt a1)] w 0 0 Q := by
  refine zCl_i (M := kX1_driftOfCopy) rfl (Nat.le_of_ble_eq_true rfl) fun R hR => ?_
  have hcr := csr_r hr1
  refine hR (?_ : R (_, _, _, _, _, _))
  refine hR (c_get hK0 rfl ?_)
  refine hR (?_ : R (_, _, _, _, _, _))
  refine hR (c_aldE hK1 (by omega) (by omega) (Nat.le_of_ble_eq_true rfl) fun v1 ev1 rv1 => ?_)
  replace ev1 : v1 = tBy gc a1 := ev1
  subst ev1
  have hcc := csr_c hr1 (i := a1) (by omega) (by omega)
  refine hR (?_ : R (_, _, _, _, _, _))
  refine hR (c_get hK0 rfl ?_)
  refine hR (c_get hK3 rfl ?_)
  refine hR (zcall_i 0 0 (Nat.le_of_ble_eq_true rfl) (Nat.le_of_ble_eq_true rfl) (x_driftI _ _ (tBy gc a1) n0 (by omega) (by omega) _ fun v2 hp3 => ?_))
  subst hp3
  refine (?_ : R (_, _, .int (Int32.ofInt (dft (tBy gc a1) n0)) :: [], w, 0, 0))
  exact hR (zret_i rfl (Nat.le_refl _) trivial (h _ (by rw [(hr1.2.2.2.2.2.2.1 a1 (by omega) (by omega)).1])))
theorem x_cSuits (w : zW) (d : Nat) (b : Nat) (e1 e2 e3 e4 : Int) (gc gt : Nat → Int32) (s : CS) (m : Int) (hK0 : zix w 9 = some (.inr (1, [.ref b, .int (Int32.ofInt e1), .int (Int32.ofInt e2), .int (Int32.ofInt e3), .int (Int32.ofInt e4), .ref 10, .ref 11]))) (hK1 : zix w 10 = some (.inl (1, 4, .inl gc))) (hK2 : zix w 11 = some (.inl (1, 5, .inl gt))) (hr0 : 0 ≤ 0 ∧ True) (hr1 : CSR m s e1 e2 e3 gc gt) (Q : zQ) (h : ∀ (v : Int), (v = csU s) → Q (some (.int (Int32.ofInt v))) w) : zCl zTab (d + 1) iX1_suits [.ref 9] w 0 0 Q := by
  refine zCl_i (M := kX1_suits) rfl (Nat.le_of_ble_eq_true rfl) fun R hR => ?_
  have hcr := csr_r hr1
  iterate 4 refine hR (?_ : R (_, _, _, _, _, _))
  have lp4 : ∀ (N : Nat) (sv : Int) (kk : Int), (0 ≤ sv ∧ sv ≤ 4) → (0 ≤ kk ∧ kk ≤ 4) → (sv = csUn s kk.toNat) → (sv ≤ kk) → (5 - kk < N) → R (4, [some (.ref 9), some (.int (Int32.ofInt sv)), some (.int (Int32.ofInt kk))], [], w, 0, 0) := by
    intro N
    induction N with
    | zero => intros; omega
    | succ N ih4 =>
      intro sv kk hf0_4 hf1_4 hp0_4 hp1_4 hN4
      iterate 2 refine hR (?_ : R (_, _, _, _, _, _))
      refine hR (j_ge (by omega) (by omega) (fun hc1 => ?_) (fun hc1 => ?_))
      · skip
        refine hR (?_ : R (_, _, _, _, _, _))
        exact hR (zret_i rfl (Nat.le_refl _) trivial (h _ (by rw [hp0_4, show kk.toNat = 4 by omega]; rfl)))
      have hqk := hr1.2.2.2.2.2.2.1 kk (by omega) (by omega)
      have hqs := hr1.2.2.2.2.2.2.1 e2 (by omega) (by omega)
      have hq2 := hr1.2.1
      refine hR (?_ : R (_, _, _, _, _, _))
      refine hR (c_get hK0 rfl ?_)
      refine hR (?_ : R (_, _, _, _, _, _))
      refine hR (c_aldE hK1 (by omega) (by omega) (Nat.le_of_ble_eq_true rfl) fun v2 ev2 rv2 => ?_)
      replace ev2 : v2 = tBy gc kk := ev2
      subst ev2
      refine hR (?_ : R (_, _, _, _, _, _))
      refine hR (c_get hK0 rfl ?_)
      refine hR (?_ : R (_, _, _, _, _, _))
      refine hR (c_get hK0 rfl ?_)
      refine hR (c_aldE hK1 (by omega) (by omega) (Nat.le_of_ble_eq_true rfl) fun v3 ev3 rv3 => ?_)
      replace ev3 : v3 = tBy gc e2 := ev3
      subst ev3
      refine hR (j_eq (by omega) (by omega) (fun hc4 => ?_) (fun hc4 => ?_))
      · skip
        refine hR (t_inc ?_)
        refine hR (?_ : R (_, _, _, _, _, _))
        exact ih4 _ _ (by omega) (by omega) (by rw [csUn_s (by omega), ← hp0_4, ← hqk.1, ← hq2, ← hqs.1]; first | (rw [if_pos (by omega)]; omega) | (rw [if_neg (by omega)])) (by omega) (by omega)
      refine hR (t_inc ?_)
      refine hR (t_inc ?_)
      refine hR (?_ : R (_, _, _, _, _, _))
      exact ih4 _ _ (by omega) (by omega) (by rw [csUn_s (by omega), ← hp0_4, ← hqk.1, ← hq2, ← hqs.1]; first | (rw [if_pos (by omega)]; omega) | (rw [if_neg (by omega)])) (by omega) (by omega)
  exact lp4 400000000 _ _ (by omega) (by omega) rfl (by omega) (by omega)
theorem x_cAgainst (w : zW) (d : Nat) (b : Nat) (e1 e2 e3 e4 : Int) (gc gt : Nat → Int32) (n0 n1 n2 : Int) (s : CS) (m : Int) (hK0 : zix w 9 = some (.inr (1, [.ref b, .int (Int32.ofInt e1), .int (Int32.ofInt e2), .int (Int32.ofInt e3), .int (Int32.ofInt e4), .ref 10, .ref 11]))) (hK1 : zix w 10 = some (.inl (1, 4, .inl gc))) (hK2 : zix w 11 = some (.inl (1, 5, .inl gt))) (hK3 : zix w b = some (.inr (0, [.int (Int32.ofInt n0), .int (Int32.ofInt n1), .int (Int32.ofInt n2), .ref (b + 1), .ref (b + 2), .ref (b + 3), .ref (b + 4)]))) (hr0 : 0 ≤ n0 ∧ n0 ≤ 5460) (hr1 : CSR m s e1 e2 e3 gc gt) (Q : zQ) (h : ∀ (v : Int), (v = csW n0 s.2.2.2.1) → Q (some (.int (Int32.ofInt v))) w) : zCl zTab (d + 5) iX1_against [.ref 9] w 0 0 Q := by
  refine zCl_i (M := kX1_against) rfl (Nat.le_of_ble_eq_true rfl) fun R hR => ?_
  iterate 4 refine hR (?_ : R (_, _, _, _, _, _))
  have lp4 : ∀ (N : Nat) (wv : Int) (kk : Int), (0 ≤ wv ∧ wv ≤ 3) → (1 ≤ kk ∧ kk ≤ 4) → (wv = csWn n0 s.2.2.2.1 kk.toNat) → (5 - kk < N) → R (4, [some (.ref 9), some (.int (Int32.ofInt wv)), some (.int (Int32.ofInt kk))], [], w, 0, 0) := by
    intro N
    induction N with
    | zero => intros; omega
    | succ N ih4 =>
      intro wv kk hf0_4 hf1_4 hp0_4 hN4
      iterate 2 refine hR (?_ : R (_, _, _, _, _, _))
      refine hR (j_ge (by omega) (by omega) (fun hc1 => ?_) (fun hc1 => ?_))
      · skip
        refine hR (?_ : R (_, _, _, _, _, _))
        exact hR (zret_i rfl (Nat.le_refl _) trivial (h _ (by rw [hp0_4, show kk.toNat = 4 by omega]; rfl)))
      iterate 2 refine hR (?_ : R (_, _, _, _, _, _))
      refine hR (c_obj hK0 (zcall_i 0 0 (Nat.le_of_ble_eq_true rfl) (Nat.le_of_ble_eq_true rfl) (x_cDrift _ _ _ _ _ _ _ _ _ _ _ _ _ _ _ hK0 hK1 hK2 hK3 (by omega) hr1 (by omega) _ fun v2 hp3 => ?_)))
      subst hp3
      refine (?_ : R (_, _, .int (Int32.ofInt (dft (s.2.2.2.1 kk) n0)) :: [], w, 0, 0))
      have hd4 := dft_r (a := s.2.2.2.1 kk) (b := n0)
      iterate 2 refine hR (?_ : R (_, _, _, _, _, _))
      refine hR (c_obj hK0 (zcall_i 0 0 (Nat.le_of_ble_eq_true rfl) (Nat.le_of_ble_eq_true rfl) (x_cDrift _ _ _ _ _ _ _ _ _ _ _ _ _ _ _ hK0 hK1 hK2 hK3 (by omega) hr1 (by omega) _ fun v5 hp6 => ?_)))
      subst hp6
      refine (?_ : R (_, _, .int (Int32.ofInt (dft (s.2.2.2.1 wv) n0)) :: .int (Int32.ofInt (dft (s.2.2.2.1 kk) n0)) :: [], w, 0, 0))
      have hd7 := dft_r (a := s.2.2.2.1 wv) (b := n0)
      refine hR (j_le (by omega) (by omega) (fun hc8 => ?_) (fun hc8 => ?_))
      · skip
        refine hR (t_inc ?_)
        refine hR (?_ : R (_, _, _, _, _, _))
        exact ih4 _ _ (by omega) (by omega) (by rw [csWn_s (by omega), ← hp0_4]; first | (rw [if_pos (by omega)]) | (rw [if_neg (by omega)])) (by omega)
      iterate 2 refine hR (?_ : R (_, _, _, _, _, _))
      refine hR (t_inc ?_)
      refine hR (?_ : R (_, _, _, _, _, _))
      exact ih4 _ _ (by omega) (by omega) (by rw [csWn_s (by omega), ← hp0_4]; first | (rw [if_pos (by omega)]) | (rw [if_neg (by omega)])) (by omega)
  exact lp4 400000000 _ _ (by omega) (by omega) csWn_1.symm (by omega)
theorem x_cTells (w : zW) (d : Nat) (b : Nat) (a1 : Int) (e1 e2 e3 e4 : Int) (gc gt : Nat → Int32) (n0 n1 n2 : Int) (s : CS) (m : Int) (hK0 : zix w 9 = some (.inr (1, [.ref b, .int (Int32.ofInt e1), .int (Int32.ofInt e2), .int (Int32.ofInt e3), .int (Int32.ofInt e4), .ref 10, .ref 11]))) (hK1 : zix w 10 = some (.inl (1, 4, .inl gc))) (hK2 : zix w 11 = some (.inl (1, 5, .inl gt))) (hK3 : zix w b = some (.inr (0, [.int (Int32.ofInt n0), .int (Int32.ofInt n1), .int (Int32.ofInt n2), .ref (b + 1), .ref (b + 2), .ref (b + 3), .ref (b + 4)]))) (hr0 : (0 ≤ n0 ∧ n0 ≤ 5460) ∧ (0 ≤ n1 ∧ n1 ≤ 5)) (hr1 : CSR m s e1 e2 e3 gc gt) (hr2 : (-2147483648 ≤ a1 ∧ a1 ≤ 2147483647)) (Q : zQ) (h : ∀ (v : Int), (v = csV n0 n1 s a1) → Q (some (.int (Int32.ofInt v))) w) : zCl zTab (d + 6) iX1_tells [.ref 9, .int (Int32.ofInt a1)] w 0 0 Q := by
  refine zCl_i (M := kX1_tells) rfl (Nat.le_of_ble_eq_true rfl) fun R hR => ?_
  have hcr := csr_r hr1
  have hcr0 := hr1
  refine hR (?_ : R (_, _, _, _, _, _))
  have hl1 : a1 = 0 ∨ a1 = 1 ∨ a1 = 2 ∨ a1 = 3 ∨ a1 = 4 ∨ a1 = 5 ∨ (a1 ≠ 0 ∧ a1 ≠ 1 ∧ a1 ≠ 2 ∧ a1 ≠ 3 ∧ a1 ≠ 4 ∧ a1 ≠ 5) := by omega
  rcases hl1 with hl1 | hl1 | hl1 | hl1 | hl1 | hl1 | hl1
  · refine hR (?_ : _ ∧ _)
    rw [zti (e := a1) (by omega) (by omega)]
    refine ⟨fun hx => by omega, fun _ => ⟨39, by rw [hl1]; rfl, (?_ : R (_, _, _, _, _, _))⟩⟩
    refine hR (?_ : R (_, _, _, _, _, _))
    refine hR (c_get hK0 rfl ?_)
    exact hR (zret_i rfl (Nat.le_refl _) trivial (h _ (by unfold csV; (repeat' split) <;> first | rfl | omega | (exact hcr0.1) | (exact hcr0.2.1) | (exact hcr0.2.2.1))))
  · refine hR (?_ : _ ∧ _)
    rw [zti (e := a1) (by omega) (by omega)]
    refine ⟨fun hx => by omega, fun _ => ⟨44, by rw [hl1]; rfl, (?_ : R (_, _, _, _, _, _))⟩⟩
    refine hR (?_ : R (_, _, _, _, _, _))
    refine hR (c_get hK0 rfl ?_)
    exact hR (zret_i rfl (Nat.le_refl _) trivial (h _ (by unfold csV; (repeat' split) <;> first | rfl | omega | (exact hcr0.1) | (exact hcr0.2.1) | (exact hcr0.2.2.1))))
  · refine hR (?_ : _ ∧ _)
    rw [zti (e := a1) (by omega) (by omega)]
    refine ⟨fun hx => by omega, fun _ => ⟨49, by rw [hl1]; rfl, (?_ : R (_, _, _, _, _, _))⟩⟩
    refine hR (?_ : R (_, _, _, _, _, _))
    refine hR (c_obj hK0 (zcall_i 0 0 (Nat.le_of_ble_eq_true rfl) (Nat.le_of_ble_eq_true rfl) (x_cSuits _ _ _ _ _ _ _ _ _ _ _ hK0 hK1 hK2 ⟨Nat.le_refl _, trivial⟩ hr1 _ fun v2 hp3 => ?_)))
    subst hp3
    refine (?_ : R (_, _, .int (Int32.ofInt (csU s)) :: [], w, 0, 0))
    exact hR (zret_i rfl (Nat.le_refl _) trivial (h _ (by unfold csV; (repeat' split) <;> first | rfl | omega | (exact hcr0.1) | (exact hcr0.2.1) | (exact hcr0.2.2.1))))
  · refine hR (?_ : _ ∧ _)
    rw [zti (e := a1) (by omega) (by omega)]
    refine ⟨fun hx => by omega, fun _ => ⟨54, by rw [hl1]; rfl, (?_ : R (_, _, _, _, _, _))⟩⟩
    refine hR (?_ : R (_, _, _, _, _, _))
    refine hR (c_obj hK0 (zcall_i 0 0 (Nat.le_of_ble_eq_true rfl) (Nat.le_of_ble_eq_true rfl) (x_cAgainst _ _ _ _ _ _ _ _ _ _ _ _ _ _ hK0 hK1 hK2 hK3 (by omega) hr1 _ fun v4 hp5 => ?_)))
    subst hp5
    refine (?_ : R (_, _, .int (Int32.ofInt (csW n0 s.2.2.2.1)) :: [], w, 0, 0))
    have hw6 := csW_r (base := n0) (C := s.2.2.2.1)
    exact hR (zret_i rfl (Nat.le_refl _) trivial (h _ (by unfold csV; (repeat' split) <;> first | rfl | omega | (exact hcr0.1) | (exact hcr0.2.1) | (exact hcr0.2.2.1))))
  · refine hR (?_ : _ ∧ _)
    rw [zti (e := a1) (by omega) (by omega)]
    refine ⟨fun hx => by omega, fun _ => ⟨59, by rw [hl1]; rfl, (?_ : R (_, _, _, _, _, _))⟩⟩
    iterate 2 refine hR (?_ : R (_, _, _, _, _, _))
    refine hR (c_obj hK0 (zcall_i 0 0 (Nat.le_of_ble_eq_true rfl) (Nat.le_of_ble_eq_true rfl) (x_cAgainst _ _ _ _ _ _ _ _ _ _ _ _ _ _ hK0 hK1 hK2 hK3 (by omega) hr1 _ fun v7 hp8 => ?_)))
    subst hp8
    refine (?_ : R (_, _, .int (Int32.ofInt (csW n0 s.2.2.2.1)) :: .ref 9 :: [], w, 0, 0))
    have hw9 := csW_r (base := n0) (C := s.2.2.2.1)
    refine hR (c_obj hK0 (zcall_i 0 0 (Nat.le_of_ble_eq_true rfl) (Nat.le_of_ble_eq_true rfl) (x_cDrift _ _ _ _ _ _ _ _ _ _ _ _ _ _ _ hK0 hK1 hK2 hK3 (by omega) hr1 (by omega) _ fun v10 hp11 => ?_)))
    subst hp11
    refine (?_ : R (_, _, .int (Int32.ofInt (dft (s.2.2.2.1 (csW n0 s.2.2.2.1)) n0)) :: [], w, 0, 0))
    exact hR (zret_i rfl (Nat.le_refl _) trivial (h _ (by unfold csV; (repeat' split) <;> first | rfl | omega | (exact hcr0.1) | (exact hcr0.2.1) | (exact hcr0.2.2.1))))
  · refine hR (?_ : _ ∧ _)
    rw [zti (e := a1) (by omega) (by omega)]
    refine ⟨fun hx => by omega, fun _ => ⟨68, by rw [hl1]; rfl, (?_ : R (_, _, _, _, _, _))⟩⟩
    refine hR (?_ : R (_, _, _, _, _, _))
    refine hR (c_get hK0 rfl ?_)
    exact hR (zret_i rfl (Nat.le_refl _) trivial (h _ (by unfold csV; (repeat' split) <;> first | rfl | omega | (exact hcr0.1) | (exact hcr0.2.1) | (exact hcr0.2.2.1))))
  · refine hR (?_ : _ ∧ _)
    rw [zti (e := a1) (by omega) (by omega)]
    refine ⟨fun _ => (?_ : R (_, _, _, _, _, _)), fun hx => by omega⟩
    refine hR (?_ : R (_, _, _, _, _, _))
    refine hR (t_c 10 (by decide) ?_)
    refine hR (j_lt (by omega) (by omega) (fun hc12 => ?_) (fun hc12 => ?_))
    · skip
      refine hR (?_ : R (_, _, _, _, _, _))
      refine hR (t_c 20 (by decide) ?_)
      refine hR (j_lt (by omega) (by omega) (fun hc13 => ?_) (fun hc13 => ?_))
      · skip
        refine hR (t_c (-2) (by decide) ?_)
        exact hR (zret_i rfl (Nat.le_refl _) trivial (h _ (by unfold csV; (repeat' split) <;> first | rfl | omega | (exact hcr0.1) | (exact hcr0.2.1) | (exact hcr0.2.2.1))))
      refine hR (?_ : R (_, _, _, _, _, _))
      refine hR (t_c 20 (by decide) ?_)
      refine hR (?_ : R (_, _, _, _, _, _))
      refine hR (c_get hK0 rfl ?_)
      refine hR (c_get hK3 rfl ?_)
      refine hR (t_add ?_)
      refine hR (j_ge (by omega) (by omega) (fun hc14 => ?_) (fun hc14 => ?_))
      · skip
        refine hR (t_c (-2) (by decide) ?_)
        exact hR (zret_i rfl (Nat.le_refl _) trivial (h _ (by unfold csV; (repeat' split) <;> first | rfl | omega | (exact hcr0.1) | (exact hcr0.2.1) | (exact hcr0.2.2.1))))
      refine hR (?_ : R (_, _, _, _, _, _))
      refine hR (c_get hK0 rfl ?_)
      refine hR (?_ : R (_, _, _, _, _, _))
      refine hR (t_c 20 (by decide) ?_)
      refine hR (t_sub ?_)
      refine hR (c_aldE hK2 (by omega) (by omega) (Nat.le_of_ble_eq_true rfl) fun v15 ev15 rv15 => ?_)
      replace ev15 : v15 = tBy gt (a1 - 20) := ev15
      subst ev15
      refine hR (?_ : R (_, _, _, _, _, _))
      exact hR (zret_i rfl (Nat.le_refl _) trivial (h _ (by unfold csV; rw [if_neg (by omega), if_neg (by omega), if_neg (by omega), if_neg (by omega), if_neg (by omega), if_neg (by omega), if_neg (by omega), if_pos (by omega)]; exact (hr1.2.2.2.2.2.2.2 (a1 - 20) (by omega) (by omega)).1)))
    refine hR (?_ : R (_, _, _, _, _, _))
    refine hR (t_c 14 (by decide) ?_)
    refine hR (j_ge (by omega) (by omega) (fun hc16 => ?_) (fun hc16 => ?_))
    rotate_left
    · skip
      refine hR (?_ : R (_, _, _, _, _, _))
      refine hR (c_get hK0 rfl ?_)
      refine hR (?_ : R (_, _, _, _, _, _))
      refine hR (t_c 10 (by decide) ?_)
      refine hR (t_sub ?_)
      refine hR (c_aldE hK1 (by omega) (by omega) (Nat.le_of_ble_eq_true rfl) fun v20 ev20 rv20 => ?_)
      replace ev20 : v20 = tBy gc (a1 - 10) := ev20
      subst ev20
      exact hR (zret_i rfl (Nat.le_refl _) trivial (h _ (by unfold csV; rw [if_neg (by omega), if_neg (by omega), if_neg (by omega), if_neg (by omega), if_neg (by omega), if_neg (by omega), if_pos (by omega)]; exact (hr1.2.2.2.2.2.2.1 (a1 - 10) (by omega) (by omega)).1)))
    refine hR (?_ : R (_, _, _, _, _, _))
    refine hR (t_c 20 (by decide) ?_)
    refine hR (j_lt (by omega) (by omega) (fun hc17 => ?_) (fun hc17 => ?_))
    · skip
      refine hR (t_c (-2) (by decide) ?_)
      exact hR (zret_i rfl (Nat.le_refl _) trivial (h _ (by unfold csV; (repeat' split) <;> first | rfl | omega | (exact hcr0.1) | (exact hcr0.2.1) | (exact hcr0.2.2.1))))
    refine hR (?_ : R (_, _, _, _, _, _))
    refine hR (t_c 20 (by decide) ?_)
    refine hR (?_ : R (_, _, _, _, _, _))
    refine hR (c_get hK0 rfl ?_)
    refine hR (c_get hK3 rfl ?_)
    refine hR (t_add ?_)
    refine hR (j_ge (by omega) (by omega) (fun hc18 => ?_) (fun hc18 => ?_))
    · skip
      refine hR (t_c (-2) (by decide) ?_)
      exact hR (zret_i rfl (Nat.le_refl _) trivial (h _ (by unfold csV; (repeat' split) <;> first | rfl | omega | (exact hcr0.1) | (exact hcr0.2.1) | (exact hcr0.2.2.1))))
    refine hR (?_ : R (_, _, _, _, _, _))
    refine hR (c_get hK0 rfl ?_)
    refine hR (?_ : R (_, _, _, _, _, _))
    refine hR (t_c 20 (by decide) ?_)
    refine hR (t_sub ?_)
    refine hR (c_aldE hK2 (by omega) (by omega) (Nat.le_of_ble_eq_true rfl) fun v19 ev19 rv19 => ?_)
    replace ev19 : v19 = tBy gt (a1 - 20) := ev19
    subst ev19
    refine hR (?_ : R (_, _, _, _, _, _))
    exact hR (zret_i rfl (Nat.le_refl _) trivial (h _ (by unfold csV; rw [if_neg (by omega), if_neg (by omega), if_neg (by omega), if_neg (by omega), if_neg (by omega), if_neg (by omega), if_neg (by omega), if_pos (by omega)]; exact (hr1.2.2.2.2.2.2.2 (a1 - 20) (by omega) (by omega)).1)))
theorem x_cBelow (w : zW) (d : Nat) (b : Nat) (a1 : Int) (e1 e2 e3 e4 : Int) (hK0 : zix w 9 = some (.inr (1, [.ref b, .int (Int32.ofInt e1), .int (Int32.ofInt e2), .int (Int32.ofInt e3), .int (Int32.ofInt e4), .ref 10, .ref 11]))) (hr0 : 1 ≤ a1 ∧ a1 ≤ 8) (Q : zQ) (h : ∀ (v : Int) (w' : zW), wfM (fun j => j ≠ 9) w w' → zix w' 9 = some (.inr (1, [.ref b, .int (Int32.ofInt e1), .int (Int32.ofInt e2), .int (Int32.ofInt e3), .int (Int32.ofInt (sdN e4)), .ref 10, .ref 11])) → (v = drw (sdN e4) a1 ∧ 0 ≤ v ∧ v < a1) → Q (some (.int (Int32.ofInt v))) w') : zCl zTab (d + 1) iX1_drawBelow [.ref 9, .int (Int32.ofInt a1)] w 0 0 Q := by
  refine zCl_i (M := kX1_drawBelow) rfl (Nat.le_of_ble_eq_true rfl) fun R hR => ?_
  have fr0 : wfM (fun j => j ≠ 9) w w := wfM_rf _ w
  have nX0 : FX (∀ j : Nat, (j ≠ 9) → j ≠ 9) := fun j hj => by omega
  iterate 2 refine hR (?_ : R (_, _, _, _, _, _))
  refine hR (c_get hK0 rfl ?_)
  refine hR (t_c 1103515245 (by decide) ?_)
  refine hR (t_mul ?_)
  refine hR (t_c 12345 (by decide) ?_)
  refine hR (t_add ?_)
  refine hR (c_put hK0 rfl rfl fun w1 ff1 hC1 => ?_)
  have fr2 := wfM_st fr0 ff1 nX0
  replace hC1 : zix w1 9 = some (.inr (1, [.ref b, .int (Int32.ofInt e1), .int (Int32.ofInt e2), .int (Int32.ofInt e3), .int (Int32.ofInt ((e4 * 1103515245) + 12345)), .ref 10, .ref 11])) := hC1
  refine hR (?_ : R (_, _, _, _, _, _))
  refine hR (k_gt (by omega) (fun hc3 => ?_) (fun hc3 => ?_))
  rotate_left
  · skip
    iterate 2 refine hR (?_ : R (_, _, _, _, _, _))
    exact hR (zret_i rfl (Nat.le_refl _) trivial (h _ _ fr2 hC1 (by exfalso; omega)))
  refine hR (?_ : R (_, _, _, _, _, _))
  refine hR (c_get hC1 rfl ?_)
  refine hR (t_c 16 (by decide) ?_)
  refine hR (t_c (bUsr ((e4 * 1103515245) + 12345) 16) (zoi _).symm ?_)
  have hbt4 : r32 (bUsr ((e4 * 1103515245) + 12345) 16) := zrg _
  have hus := usr_r (e4 * 1103515245 + 12345)
  refine hR (?_ : R (_, _, _, _, _, _))
  refine hR (t_rem (by omega) (by omega) (by omega) (by omega) ?_)
  exact hR (zret_i rfl (Nat.le_refl _) trivial (h _ _ fr2 hC1 ⟨rfl, drw_r (sdN e4) (by omega)⟩))
theorem x_cDraw (w : zW) (d : Nat) (b : Nat) (a1 a2 : Int) (e1 e2 e3 e4 : Int) (gc gt : Nat → Int32) (n0 n1 n2 : Int) (g1 g2 g3 g4 : Nat → Int32) (F : Int → Int → Int) (hK0 : zix w 9 = some (.inr (1, [.ref b, .int (Int32.ofInt e1), .int (Int32.ofInt e2), .int (Int32.ofInt e3), .int (Int32.ofInt e4), .ref 10, .ref 11]))) (hK1 : zix w 10 = some (.inl (1, 4, .inl gc))) (hK2 : zix w 11 = some (.inl (1, 5, .inl gt))) (hK3 : zix w b = some (.inr (0, [.int (Int32.ofInt n0), .int (Int32.ofInt n1), .int (Int32.ofInt n2), .ref (b + 1), .ref (b + 2), .ref (b + 3), .ref (b + 4)]))) (hK4 : zix w (b + 1) = some (.inl (1, 4, .inl g1))) (hK5 : zix w (b + 2) = some (.inl (1, 5, .inl g2))) (hK6 : zix w (b + 3) = some (.inl (1, 20, .inl g3))) (hK7 : zix w (b + 4) = some (.inl (1, 20, .inl g4))) (hr0 : 45 ≤ b) (hr1 : BKF F n0 n1 g1 g2 g3 g4) (hr2 : CSR 0 (cs0 n0) e1 e2 e3 gc gt) (hr3 : 0 ≤ a2 ∧ a2 ≤ 60) (Q : zQ) (h : ∀ (y1 y2 y3 y4 : Int) (Tc Tt : Nat → Int32) (w' : zW), wfM (fun j => j ≠ 9 ∧ j ≠ 10 ∧ j ≠ 11) w w' → zix w' 9 = some (.inr (1, [.ref b, .int (Int32.ofInt y1), .int (Int32.ofInt y2), .int (Int32.ofInt y3), .int (Int32.ofInt y4), .ref 10, .ref 11])) → zix w' 10 = some (.inl (1, 4, .inl Tc)) → zix w' 11 = some (.inl (1, 5, .inl Tt)) → (CSR a2 (dwN F n0 n1 a1 a2.toNat).2 y1 y2 y3 Tc Tt) → Q (none) w') : zCl zTab (d + 6) iX1_draw [.ref 9, .int (Int32.ofInt a1), .int (Int32.ofInt a2)] w 0 0 Q := by
  refine zCl_i (M := kX1_draw) rfl (Nat.le_of_ble_eq_true rfl) fun R hR => ?_
  have fr0 : wfM (fun j => j ≠ 9 ∧ j ≠ 10 ∧ j ≠ 11) w w := wfM_rf _ w
  obtain ⟨hn0, hn1, hBK, hFF⟩ := id hr1
  have hCSR := hr2
  have nX0 : FX (∀ j : Nat, (j ≠ 9 ∧ j ≠ 10 ∧ j ≠ 11) → j ≠ 9) := fun j hj => by omega
  have nX1 : FX (b ≠ 9) := (show b ≠ 9 by omega)
  have nX2 : FX ((b + 1) ≠ 9) := (show (b + 1) ≠ 9 by omega)
  have nX3 : FX ((b + 2) ≠ 9) := (show (b + 2) ≠ 9 by omega)
  have nX4 : FX ((b + 3) ≠ 9) := (show (b + 3) ≠ 9 by omega)
  have nX5 : FX ((b + 4) ≠ 9) := (show (b + 4) ≠ 9 by omega)
  have nX6 : FX (∀ j : Nat, (j ≠ 9 ∧ j ≠ 10 ∧ j ≠ 11) → (j ≠ 9)) := fun j hj => by omega
  have nX7 : FX (∀ j : Nat, (j ≠ 9 ∧ j ≠ 10 ∧ j ≠ 11) → (j ≠ 9 ∧ j ≠ 10 ∧ j ≠ 11)) := fun j hj => by omega
  have nX8 : FX (b ≠ 9 ∧ b ≠ 10 ∧ b ≠ 11) := (show b ≠ 9 ∧ b ≠ 10 ∧ b ≠ 11 by omega)
  have nX9 : FX ((b + 1) ≠ 9 ∧ (b + 1) ≠ 10 ∧ (b + 1) ≠ 11) := (show (b + 1) ≠ 9 ∧ (b + 1) ≠ 10 ∧ (b + 1) ≠ 11 by omega)
  have nX10 : FX ((b + 2) ≠ 9 ∧ (b + 2) ≠ 10 ∧ (b + 2) ≠ 11) := (show (b + 2) ≠ 9 ∧ (b + 2) ≠ 10 ∧ (b + 2) ≠ 11 by omega)
  have nX11 : FX ((b + 3) ≠ 9 ∧ (b + 3) ≠ 10 ∧ (b + 3) ≠ 11) := (show (b + 3) ≠ 9 ∧ (b + 3) ≠ 10 ∧ (b + 3) ≠ 11 by omega)
  have nX12 : FX ((b + 4) ≠ 9 ∧ (b + 4) ≠ 10 ∧ (b + 4) ≠ 11) := (show (b + 4) ≠ 9 ∧ (b + 4) ≠ 10 ∧ (b + 4) ≠ 11 by omega)
  iterate 2 refine hR (?_ : R (_, _, _, _, _, _))
  refine hR (c_put hK0 rfl rfl fun w1 ff1 hC1 => ?_)
  have fr2 := wfM_st fr0 ff1 nX0
  have hC3 := (ff1.2 10 (by (try dsimp only); decide)).trans hK1
  have hC4 := (ff1.2 11 (by (try dsimp only); decide)).trans hK2
  have hC5 := (ff1.2 b nX1).trans hK3
  have hC6 := (ff1.2 (b + 1) nX2).trans hK4
  have hC7 := (ff1.2 (b + 2) nX3).trans hK5
  have hC8 := (ff1.2 (b + 3) nX4).trans hK6
  have hC9 := (ff1.2 (b + 4) nX5).trans hK7
  replace hC1 : zix w1 9 = some (.inr (1, [.ref b, .int (Int32.ofInt e1), .int (Int32.ofInt e2), .int (Int32.ofInt e3), .int (Int32.ofInt a1), .ref 10, .ref 11])) := hC1
  iterate 2 refine hR (?_ : R (_, _, _, _, _, _))
  have lp7 : ∀ (N : Nat) (kk : Int) (o4_7 : Option Value) (o5_7 : Option Value) (d1 d2 d3 d4 : Int) (T1 T2 : Nat → Int32) (w_7 : zW), (zc2 o4_7 = false) → (zc2 o5_7 = false) → (wfM (fun j => j ≠ 9 ∧ j ≠ 10 ∧ j ≠ 11) w w_7) → (zix w_7 9 = some (.inr (1, [.ref b, .int (Int32.ofInt d1), .int (Int32.ofInt d2), .int (Int32.ofInt d3), .int (Int32.ofInt d4), .ref 10, .ref 11]))) → (zix w_7 10 = some (.inl (1, 4, .inl T1))) → (zix w_7 11 = some (.inl (1, 5, .inl T2))) → (zix w_7 b = some (.inr (0, [.int (Int32.ofInt n0), .int (Int32.ofInt n1), .int (Int32.ofInt n2), .ref (b + 1), .ref (b + 2), .ref (b + 3), .ref (b + 4)]))) → (zix w_7 (b + 1) = some (.inl (1, 4, .inl g1))) → (zix w_7 (b + 2) = some (.inl (1, 5, .inl g2))) → (zix w_7 (b + 3) = some (.inl (1, 20, .inl g3))) → (zix w_7 (b + 4) = some (.inl (1, 20, .inl g4))) → (0 ≤ kk ∧ kk ≤ 60) → (CSR kk (dwN F n0 n1 a1 kk.toNat).2 d1 d2 d3 T1 T2) → (d4 = (dwN F n0 n1 a1 kk.toNat).1) → (kk ≤ a2) → (61 - kk < N) → R (7, [some (.ref 9), some (.int (Int32.ofInt a1)), some (.int (Int32.ofInt a2)), some (.int (Int32.ofInt kk)), o4_7, o5_7], [], w_7, 0, 0) := by
    intro N
    induction N with
    | zero => intros; omega
    | succ N ih7 =>
      intro kk o4_7 o5_7 d1 d2 d3 d4 T1 T2 w_7 hzo4_7 hzo5_7 fr_7 hC9_7 hC10_7 hC11_7 hCb_7 hCb1_7 hCb2_7 hCb3_7 hCb4_7 hf0_7 hp0_7 hp1_7 hp2_7 hN7
      iterate 2 refine hR (?_ : R (_, _, _, _, _, _))
      refine hR (j_ge (by omega) (by omega) (fun hc10 => ?_) (fun hc10 => ?_))
      · skip
        exact hR (zret_i rfl (Nat.le_refl _) rfl (h _ _ _ _ _ _ _ fr_7 hC9_7 hC10_7 hC11_7 (by rw [show a2 = kk by omega]; exact hp0_7)))
      iterate 2 refine hR (?_ : R (_, _, _, _, _, _))
      refine hR (c_obj hC9_7 (zcall_i 0 0 (Nat.le_of_ble_eq_true rfl) (Nat.le_of_ble_eq_true rfl) (x_cBelow _ _ _ _ _ _ _ _ hC9_7 (by omega) _ fun v11 w12 gg13 hC14 hp15 => ?_)))
      have fr16 := wfM_tr fr_7 gg13 nX6
      have hC17 := (gg13.2 10 (by (try dsimp only); decide)).trans hC10_7
      have hC18 := (gg13.2 11 (by (try dsimp only); decide)).trans hC11_7
      have hC19 := (gg13.2 b nX1).trans hCb_7
      have hC20 := (gg13.2 (b + 1) nX2).trans hCb1_7
      have hC21 := (gg13.2 (b + 2) nX3).trans hCb2_7
      have hC22 := (gg13.2 (b + 3) nX4).trans hCb3_7
      have hC23 := (gg13.2 (b + 4) nX5).trans hCb4_7
      refine (?_ : R (_, _, .int (Int32.ofInt v11) :: [], w12, 0, 0))
      iterate 2 refine hR (?_ : R (_, _, _, _, _, _))
      refine hR (t_c 8 (by decide) ?_)
      refine hR (c_obj hC14 (zcall_i 0 0 (Nat.le_of_ble_eq_true rfl) (Nat.le_of_ble_eq_true rfl) (x_cBelow _ _ _ _ _ _ _ _ hC14 (by omega) _ fun v24 w25 gg26 hC27 hp28 => ?_)))
      have fr29 := wfM_tr fr16 gg26 nX6
      have hC30 := (gg26.2 10 (by (try dsimp only); decide)).trans hC17
      have hC31 := (gg26.2 11 (by (try dsimp only); decide)).trans hC18
      have hC32 := (gg26.2 b nX1).trans hC19
      have hC33 := (gg26.2 (b + 1) nX2).trans hC20
      have hC34 := (gg26.2 (b + 2) nX3).trans hC21
      have hC35 := (gg26.2 (b + 3) nX4).trans hC22
      have hC36 := (gg26.2 (b + 4) nX5).trans hC23
      refine (?_ : R (_, _, .int (Int32.ofInt v24) :: [], w25, 0, 0))
      iterate 3 refine hR (?_ : R (_, _, _, _, _, _))
      refine hR (j_gt (by omega) (by omega) (fun hc37 => ?_) (fun hc37 => ?_))
      rotate_left
      · skip
        refine hR (?_ : R (_, _, _, _, _, _))
        refine hR (c_get hC27 rfl ?_)
        refine hR (c_get hC32 rfl ?_)
        refine hR (k_le (by omega) (fun hc110 => ?_) (fun hc110 => ?_))
        · skip
          refine hR (t_inc ?_)
          refine hR (?_ : R (_, _, _, _, _, _))
          exact ih7 _ _ _ _ _ _ _ _ _ _ (by rfl) (by rfl) fr29 hC27 hC30 hC31 hC32 hC33 hC34 hC35 hC36 (by omega) (by rw [dwN_s (by omega)]; unfold dwS; rw [← hp1_7, ← hp15.1, ← hp28.1]; rw [if_pos (by omega), if_neg (by omega)]; exact csr_m hp0_7 (by omega)) (by rw [dwN_s (by omega)]; unfold dwS; rw [← hp1_7, ← hp15.1, ← hp28.1]; rw [if_pos (by omega), if_neg (by omega)]) (by omega) (by omega)
        iterate 5 refine hR (?_ : R (_, _, _, _, _, _))
        refine hR (c_get hC27 rfl ?_)
        refine hR (c_get hC32 rfl ?_)
        refine hR (c_obj hC27 (zcall_i 0 0 (Nat.le_of_ble_eq_true rfl) (Nat.le_of_ble_eq_true rfl) (x_cBelow _ _ _ _ _ _ _ _ hC27 (by omega) _ fun v111 w112 gg113 hC114 hp115 => ?_)))
        have fr116 := wfM_tr fr29 gg113 nX6
        have hC117 := (gg113.2 10 (by (try dsimp only); decide)).trans hC30
        have hC118 := (gg113.2 11 (by (try dsimp only); decide)).trans hC31
        have hC119 := (gg113.2 b nX1).trans hC32
        have hC120 := (gg113.2 (b + 1) nX2).trans hC33
        have hC121 := (gg113.2 (b + 2) nX3).trans hC34
        have hC122 := (gg113.2 (b + 3) nX4).trans hC35
        have hC123 := (gg113.2 (b + 4) nX5).trans hC36
        refine (?_ : R (_, _, .int (Int32.ofInt v111) :: .int (Int32.ofInt v11) :: .int (Int32.ofInt 0) :: .ref 9 :: [], w112, 0, 0))
        refine hR (c_obj hC114 (zcall_i 0 0 (Nat.le_of_ble_eq_true rfl) (Nat.le_of_ble_eq_true rfl) (x_cDeed _ _ _ _ _ _ _ _ _ _ _ _ _ _ _ _ _ _ _ _ _ _ hC114 hC117 hC118 hC119 hC120 hC121 hC122 hC123 (by omega) hr1 hp0_7 (by omega) (by omega) (by omega) _ fun v124 y1_125 y2_126 y3_127 Tc_128 Tt_129 w130 gg131 hC132 hC133 hC134 hp135 hp136 => ?_)))
        have fr137 := wfM_tr fr116 gg131 nX7
        have hC138 := (gg131.2 b nX8).trans hC119
        have hC139 := (gg131.2 (b + 1) nX9).trans hC120
        have hC140 := (gg131.2 (b + 2) nX10).trans hC121
        have hC141 := (gg131.2 (b + 3) nX11).trans hC122
        have hC142 := (gg131.2 (b + 4) nX12).trans hC123
        refine (?_ : R (_, _, .int (Int32.ofInt v124) :: [], w130, 0, 0))
        have hdd := hp136
        iterate 2 refine hR (?_ : R (_, _, _, _, _, _))
        refine hR (t_inc ?_)
        refine hR (?_ : R (_, _, _, _, _, _))
        exact ih7 _ _ _ _ _ _ _ _ _ _ (by rfl) (by rfl) fr137 hC132 hC133 hC134 hC138 hC139 hC140 hC141 hC142 (by omega) (by rw [dwN_s (by omega)]; unfold dwS; rw [← hp1_7, ← hp15.1, ← hp28.1, ← hp115.1]; first | (rw [if_pos (by omega), if_pos (by omega)]; exact hdd) | (rw [if_neg (by omega), if_pos (by omega)]; exact hdd) | (rw [if_neg (by omega), if_neg (by omega), if_pos (by omega)]; exact hdd) | (rw [if_neg (by omega), if_neg (by omega), if_neg (by omega)]; exact hdd)) (by rw [dwN_s (by omega)]; unfold dwS; rw [← hp1_7, ← hp15.1, ← hp28.1, ← hp115.1]; first | (rw [if_pos (by omega), if_pos (by omega)]) | (rw [if_neg (by omega), if_pos (by omega)]) | (rw [if_neg (by omega), if_neg (by omega), if_pos (by omega)]) | (rw [if_neg (by omega), if_neg (by omega), if_neg (by omega)])) (by omega) (by omega)
      iterate 2 refine hR (?_ : R (_, _, _, _, _, _))
      refine hR (j_ne (by omega) (by omega) (fun hc38 => ?_) (fun hc38 => ?_))
      rotate_left
      · skip
        iterate 5 refine hR (?_ : R (_, _, _, _, _, _))
        refine hR (c_obj hC27 (zcall_i 0 0 (Nat.le_of_ble_eq_true rfl) (Nat.le_of_ble_eq_true rfl) (x_cBelow _ _ _ _ _ _ _ _ hC27 (by omega) _ fun v78 w79 gg80 hC81 hp82 => ?_)))
        have fr83 := wfM_tr fr29 gg80 nX6
        have hC84 := (gg80.2 10 (by (try dsimp only); decide)).trans hC30
        have hC85 := (gg80.2 11 (by (try dsimp only); decide)).trans hC31
        have hC86 := (gg80.2 b nX1).trans hC32
        have hC87 := (gg80.2 (b + 1) nX2).trans hC33
        have hC88 := (gg80.2 (b + 2) nX3).trans hC34
        have hC89 := (gg80.2 (b + 3) nX4).trans hC35
        have hC90 := (gg80.2 (b + 4) nX5).trans hC36
        refine (?_ : R (_, _, .int (Int32.ofInt v78) :: .int (Int32.ofInt v11) :: .int (Int32.ofInt 1) :: .ref 9 :: [], w79, 0, 0))
        refine hR (c_obj hC81 (zcall_i 0 0 (Nat.le_of_ble_eq_true rfl) (Nat.le_of_ble_eq_true rfl) (x_cDeed _ _ _ _ _ _ _ _ _ _ _ _ _ _ _ _ _ _ _ _ _ _ hC81 hC84 hC85 hC86 hC87 hC88 hC89 hC90 (by omega) hr1 hp0_7 (by omega) (by omega) (by omega) _ fun v91 y1_92 y2_93 y3_94 Tc_95 Tt_96 w97 gg98 hC99 hC100 hC101 hp102 hp103 => ?_)))
        have fr104 := wfM_tr fr83 gg98 nX7
        have hC105 := (gg98.2 b nX8).trans hC86
        have hC106 := (gg98.2 (b + 1) nX9).trans hC87
        have hC107 := (gg98.2 (b + 2) nX10).trans hC88
        have hC108 := (gg98.2 (b + 3) nX11).trans hC89
        have hC109 := (gg98.2 (b + 4) nX12).trans hC90
        refine (?_ : R (_, _, .int (Int32.ofInt v91) :: [], w97, 0, 0))
        have hdd := hp103
        iterate 2 refine hR (?_ : R (_, _, _, _, _, _))
        refine hR (t_inc ?_)
        refine hR (?_ : R (_, _, _, _, _, _))
        exact ih7 _ _ _ _ _ _ _ _ _ _ (by rfl) (by rfl) fr104 hC99 hC100 hC101 hC105 hC106 hC107 hC108 hC109 (by omega) (by rw [dwN_s (by omega)]; unfold dwS; rw [← hp1_7, ← hp15.1, ← hp28.1, ← hp82.1]; first | (rw [if_pos (by omega), if_pos (by omega)]; exact hdd) | (rw [if_neg (by omega), if_pos (by omega)]; exact hdd) | (rw [if_neg (by omega), if_neg (by omega), if_pos (by omega)]; exact hdd) | (rw [if_neg (by omega), if_neg (by omega), if_neg (by omega)]; exact hdd)) (by rw [dwN_s (by omega)]; unfold dwS; rw [← hp1_7, ← hp15.1, ← hp28.1, ← hp82.1]; first | (rw [if_pos (by omega), if_pos (by omega)]) | (rw [if_neg (by omega), if_pos (by omega)]) | (rw [if_neg (by omega), if_neg (by omega), if_pos (by omega)]) | (rw [if_neg (by omega), if_neg (by omega), if_neg (by omega)])) (by omega) (by omega)
      iterate 2 refine hR (?_ : R (_, _, _, _, _, _))
      refine hR (t_c 6 (by decide) ?_)
      refine hR (j_ne (by omega) (by omega) (fun hc39 => ?_) (fun hc39 => ?_))
      · skip
        iterate 3 refine hR (?_ : R (_, _, _, _, _, _))
        refine hR (c_obj hC27 (zcall_i 0 0 (Nat.le_of_ble_eq_true rfl) (Nat.le_of_ble_eq_true rfl) (x_cDeed _ _ _ _ _ _ _ _ _ _ _ _ _ _ _ _ _ _ _ _ _ _ hC27 hC30 hC31 hC32 hC33 hC34 hC35 hC36 (by omega) hr1 hp0_7 (by omega) (by omega) (by omega) _ fun v40 y1_41 y2_42 y3_43 Tc_44 Tt_45 w46 gg47 hC48 hC49 hC50 hp51 hp52 => ?_)))
        have fr53 := wfM_tr fr29 gg47 nX7
        have hC54 := (gg47.2 b nX8).trans hC32
        have hC55 := (gg47.2 (b + 1) nX9).trans hC33
        have hC56 := (gg47.2 (b + 2) nX10).trans hC34
        have hC57 := (gg47.2 (b + 3) nX11).trans hC35
        have hC58 := (gg47.2 (b + 4) nX12).trans hC36
        refine (?_ : R (_, _, .int (Int32.ofInt v40) :: [], w46, 0, 0))
        have hdd := hp52
        refine hR (?_ : R (_, _, _, _, _, _))
        refine hR (t_inc ?_)
        refine hR (?_ : R (_, _, _, _, _, _))
        exact ih7 _ _ _ _ _ _ _ _ _ _ (by rfl) (by rfl) fr53 hC48 hC49 hC50 hC54 hC55 hC56 hC57 hC58 (by omega) (by rw [dwN_s (by omega)]; unfold dwS; rw [← hp1_7, ← hp15.1, ← hp28.1]; first | (rw [if_pos (by omega), if_pos (by omega)]; exact hdd) | (rw [if_neg (by omega), if_pos (by omega)]; exact hdd) | (rw [if_neg (by omega), if_neg (by omega), if_pos (by omega)]; exact hdd) | (rw [if_neg (by omega), if_neg (by omega), if_neg (by omega)]; exact hdd)) (by rw [dwN_s (by omega)]; unfold dwS; rw [← hp1_7, ← hp15.1, ← hp28.1]; first | (rw [if_pos (by omega), if_pos (by omega)]) | (rw [if_neg (by omega), if_pos (by omega)]) | (rw [if_neg (by omega), if_neg (by omega), if_pos (by omega)]) | (rw [if_neg (by omega), if_neg (by omega), if_neg (by omega)])) (by omega) (by omega)
      iterate 4 refine hR (?_ : R (_, _, _, _, _, _))
      refine hR (c_obj hC27 (zcall_i 0 0 (Nat.le_of_ble_eq_true rfl) (Nat.le_of_ble_eq_true rfl) (x_cDeed _ _ _ _ _ _ _ _ _ _ _ _ _ _ _ _ _ _ _ _ _ _ hC27 hC30 hC31 hC32 hC33 hC34 hC35 hC36 (by omega) hr1 hp0_7 (by omega) (by omega) (by omega) _ fun v59 y1_60 y2_61 y3_62 Tc_63 Tt_64 w65 gg66 hC67 hC68 hC69 hp70 hp71 => ?_)))
      have fr72 := wfM_tr fr29 gg66 nX7
      have hC73 := (gg66.2 b nX8).trans hC32
      have hC74 := (gg66.2 (b + 1) nX9).trans hC33
      have hC75 := (gg66.2 (b + 2) nX10).trans hC34
      have hC76 := (gg66.2 (b + 3) nX11).trans hC35
      have hC77 := (gg66.2 (b + 4) nX12).trans hC36
      refine (?_ : R (_, _, .int (Int32.ofInt v59) :: [], w65, 0, 0))
      have hdd := hp71
      refine hR (?_ : R (_, _, _, _, _, _))
      refine hR (t_inc ?_)
      refine hR (?_ : R (_, _, _, _, _, _))
      exact ih7 _ _ _ _ _ _ _ _ _ _ (by rfl) (by rfl) fr72 hC67 hC68 hC69 hC73 hC74 hC75 hC76 hC77 (by omega) (by rw [dwN_s (by omega)]; unfold dwS; rw [← hp1_7, ← hp15.1, ← hp28.1]; first | (rw [if_pos (by omega), if_pos (by omega)]; exact hdd) | (rw [if_neg (by omega), if_pos (by omega)]; exact hdd) | (rw [if_neg (by omega), if_neg (by omega), if_pos (by omega)]; exact hdd) | (rw [if_neg (by omega), if_neg (by omega), if_neg (by omega)]; exact hdd)) (by rw [dwN_s (by omega)]; unfold dwS; rw [← hp1_7, ← hp15.1, ← hp28.1]; first | (rw [if_pos (by omega), if_pos (by omega)]) | (rw [if_neg (by omega), if_pos (by omega)]) | (rw [if_neg (by omega), if_neg (by omega), if_pos (by omega)]) | (rw [if_neg (by omega), if_neg (by omega), if_neg (by omega)])) (by omega) (by omega)
  exact lp7 400000000 _ _ _ _ _ _ _ _ _ _ (by rfl) (by rfl) fr2 hC1 hC3 hC4 hC5 hC6 hC7 hC8 hC9 (by omega) (csr_m hCSR (by omega)) rfl (by omega) (by omega)
