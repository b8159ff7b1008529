/-! THE COURSE: both sides alike. -/
def BKFX (F : Int → Int → Int) : tpB → Prop
  | (_, _, x0, x1, _, g1, g2, g3, g4) => BKF F x0 x1 g1 g2 g3 g4
def drX (F : Int → Int → Int) (a2 a3 a4 : Int) : tpB → Int
  | (_, _, x0, x1, _, _, _, _, _) => csV x0 x1 (dwN F x0 x1 a2 a3.toNat).2 a4
theorem bkf_of {T : Nat → Int32} {k : Int} {w : zW} {b : Nat} (hg : bkOK T) (h0 : 0 ≤ k) (h1 : k ≤ 1) : ∀ {X : tpB}, bkXA w b X → BKX T (51 * k) X → BKFX (rBY T (51 * k)) X
  | (f, c, x0, x1, x2, g1, g2, g3, g4), hb, hX => by
    have e0 := bk_of0 (f := k) (v := tBy T (51 * k)) hg h0 (by omega) (by unfold tBy; exact congrArg (fun j => (T j).toInt) (by omega))
    refine ⟨by rw [hX.1]; exact e0, hX.2.1.2, hb.2.2.2.2.2, fun r t r0 r1 t0 t1 => ⟨cby_eq (by omega) r0 (by omega) hb hX, rBY_r hg h0 h1 r0 r1 t0 t1⟩⟩
theorem dr_eq {T : Nat → Int32} {k : Int} {F : Int → Int → Int} {a2 a3 a4 : Int} : ∀ {X : tpB}, BKX T (51 * k) X → drX F a2 a3 a4 X = csV (tBy T (51 * k + 0)) (tBy T (51 * k + 1)) (dwN F (tBy T (51 * k + 0)) (tBy T (51 * k + 1)) a2 a3.toNat).2 a4
  | (f, c, x0, x1, x2, g1, g2, g3, g4), hX => by
    show csV x0 x1 (dwN F x0 x1 a2 a3.toNat).2 a4 = _
    rw [hX.1, hX.2.1.1, Int.add_zero]
theorem x_drawn {w : zW} (d : Nat) (a1 a2 a3 a4 l f c e1 e2 e3 e4 : Int) (y6 y7 bq : Value) (cn gc gt : Nat → Int32) (bo : Nat → Option Nat) (F : Int → Int → Int → Int) (P : Int → tpB → Prop) (h0 : zix w 0 = some (ob0 y6 y7)) (h1 : zix w 1 = some (td1 l f c)) (h3 : zix w 3 = some (.inl (1, 3, .inl cn))) (hrow : zix w 4 = some (rfa 3 2 bo)) (h9 : zix w 9 = some (.inr (1, [bq, .int (Int32.ofInt e1), .int (Int32.ofInt e2), .int (Int32.ofInt e3), .int (Int32.ofInt e4), .ref 10, .ref 11]))) (h10 : zix w 10 = some (.inl (1, 4, .inl gc))) (h11 : zix w 11 = some (.inl (1, 5, .inl gt))) (hr1 : -2147483648 ≤ a1 ∧ a1 ≤ 2147483647) (hr2 : -2147483648 ≤ a2 ∧ a2 ≤ 2147483647) (hr3 : -2147483648 ≤ a3 ∧ a3 ≤ 2147483647) (hr4 : -2147483648 ≤ a4 ∧ a4 ≤ 2147483647) (hcn : tBy cn 0 ≤ 2) (hE : ∀ k : Int, 0 ≤ k → k < tBy cn 0 → ∃ b X, bo k.toNat = some b ∧ OBB w b X ∧ 45 ≤ b ∧ BKFX (F k) X ∧ P k X) (Q : zQ) (hN : (a1 < 0 ∨ tBy cn 0 ≤ a1 ∨ a3 < 0 ∨ 60 < a3) → Q (some (.int (Int32.ofInt (-2)))) w) (hS : (0 ≤ a1 ∧ a1 < tBy cn 0) → (0 ≤ a3 ∧ a3 ≤ 60) → ∀ X, P a1 X → ∀ w' : zW, Q (some (.int (Int32.ofInt (drX (F a1) a2 a3 a4 X)))) w') : zCl zTab (d + 7) iX11_drawn [.ref 0, .int (Int32.ofInt a1), .int (Int32.ofInt a2), .int (Int32.ofInt a3), .int (Int32.ofInt a4)] w 0 0 Q := by
  refine zCl_i (M := kX11_drawn) rfl (Nat.le_of_ble_eq_true rfl) fun R hR => ?_
  have bad : ∀ L : zL, Q (some (.int (Int32.ofInt (-2)))) w → R (22, L, [], w, 0, 0) := by
    intro L hx
    refine hR (t_c (-2) (by decide) ?_)
    exact hR (zret_i rfl (Nat.le_refl _) trivial hx)
  iterate 2 refine hR (?_ : R (_, _, _, _, _, _))
  refine hR (c_obj h0 (zcall_i 0 0 (Nat.le_refl _) (Nat.le_refl _) (x_bookAt _ a1 l f c y6 y7 cn bo h0 h1 h3 hrow hr1 hcn _ ?_)))
  by_cases hc : 0 ≤ a1 ∧ a1 < tBy cn 0
  · obtain ⟨b, X, hb, hO, h45, hBF, hP⟩ := hE a1 hc.1 hc.2
    have hS' := fun hw => hS hc hw X hP
    rw [if_pos hc, hb]
    refine (?_ : R (_, _, .ref b :: [], w, 0, 0))
    obtain ⟨f', c', x0, x1, x2, g1, g2, g3, g4⟩ := X
    obtain ⟨q0, q1, q2, q3, q4⟩ := hO
    replace hBF : BKF (F a1) x0 x1 g1 g2 g3 g4 := hBF
    iterate 4 refine hR (?_ : R (_, _, _, _, _, _))
    refine hR (k_lt (by omega) (fun hz => bad _ (hN (by omega))) (fun hz => ?_))
    refine hR (?_ : R (_, _, _, _, _, _))
    refine hR (t_c 60 (by decide) ?_)
    refine hR (j_le (by omega) (by omega) (fun hz2 => ?_) (fun hz2 => bad _ (hN (by omega))))
    replace hS' : ∀ w' : zW, Q (some (.int (Int32.ofInt (csV x0 x1 (dwN (F a1) x0 x1 a2 a3.toNat).2 a4)))) w' := hS' (by omega)
    refine hR (?_ : R (_, _, _, _, _, _))
    refine hR (c_get h0 rfl ?_)
    refine hR (?_ : R (_, _, _, _, _, _))
    refine hR (c_obj h9 (zcall_i 0 0 (Nat.le_refl _) (Nat.le_refl _) (x_cBegin w _ b e1 e2 e3 e4 bq gc gt x0 x1 x2 h9 h10 h11 q0 h45 hBF.1 _ fun Tc Tt w1 fr1 k9 k10 k11 hC => ?_)))
    refine (?_ : R (_, _, [], w1, 0, 0))
    have u0 := (fr1.2 b (by omega)).trans q0
    have u1 := (fr1.2 (b + 1) (by omega)).trans q1
    have u2 := (fr1.2 (b + 2) (by omega)).trans q2
    have u3 := (fr1.2 (b + 3) (by omega)).trans q3
    have u4 := (fr1.2 (b + 4) (by omega)).trans q4
    have v0 := (fr1.2 0 (by omega)).trans h0
    refine hR (?_ : R (_, _, _, _, _, _))
    refine hR (c_get v0 rfl ?_)
    iterate 2 refine hR (?_ : R (_, _, _, _, _, _))
    refine hR (c_obj k9 (zcall_i 0 0 (Nat.le_refl _) (Nat.le_refl _) (x_cDraw w1 _ b a2 a3 0 0 0 e4 Tc Tt x0 x1 x2 g1 g2 g3 g4 (F a1) k9 k10 k11 u0 u1 u2 u3 u4 h45 hBF hC (by omega) _ fun z1 z2 z3 z4 Tc2 Tt2 w2 fr2 m9 m10 m11 hC2 => ?_)))
    refine (?_ : R (_, _, [], w2, 0, 0))
    have v1 := (fr2.2 0 (by omega)).trans v0
    have t0 := (fr2.2 b (by omega)).trans u0
    refine hR (?_ : R (_, _, _, _, _, _))
    refine hR (c_get v1 rfl ?_)
    refine hR (?_ : R (_, _, _, _, _, _))
    refine hR (c_obj m9 (zcall_i 0 0 (Nat.le_refl _) (Nat.le_refl _) (x_cTells w2 _ b a4 z1 z2 z3 z4 Tc2 Tt2 x0 x1 x2 _ _ m9 m10 m11 t0 ⟨hBF.1, hBF.2.1⟩ hC2 hr4 _ fun v hv => ?_)))
    refine (?_ : R (_, _, .int (Int32.ofInt v) :: [], w2, 0, 0))
    subst hv
    exact hR (zret_i rfl (Nat.le_refl _) trivial (hS' w2))
  · rw [if_neg hc]
    refine (?_ : R (_, _, .null :: [], w, 0, 0))
    iterate 3 refine hR (?_ : R (_, _, _, _, _, _))
    exact bad _ (hN (by omega))
theorem co_9 {σ : Nat → Nat} {w : zW} (hT : TOP σ w) : ∃ (bq : Value) (e1 e2 e3 e4 : Int) (gc gt : Nat → Int32), zix w 9 = some (.inr (1, [bq, .int (Int32.ofInt e1), .int (Int32.ofInt e2), .int (Int32.ofInt e3), .int (Int32.ofInt e4), .ref 10, .ref 11])) ∧ zix w 10 = some (.inl (1, 4, .inl gc)) ∧ zix w 11 = some (.inl (1, 5, .inl gt)) := by
  obtain ⟨y6, y7, h0, r1, r7, r8, r9, r12, r13, -⟩ := top_o hT
  obtain ⟨y0, x1, x2, x3, x4, hO, -, -, -, -, -, q1, q2⟩ := CI_o10 hT.1 r9
  have e1 : σ 10 = 11 := q1
  have e2 : σ 11 = 12 := q2
  obtain ⟨gc, hc, -⟩ := CI_ar hT.1 (q := 10) (ti := 1) (len := 4) (lo := 0) (hi := 5460) (by rw [e1]; rfl)
  obtain ⟨gt, ht, -⟩ := CI_ar hT.1 (q := 11) (ti := 1) (len := 5) (lo := -2147483648) (hi := 2147483647) (by rw [e2]; rfl)
  exact ⟨va_rf y0, x1, x2, x3, x4, gc, gt, hO, hc, ht⟩
theorem ea_drawn {σ : Nat → Nat} {w w1 w2 : zW} {r r' : Option Value} {mc ms : Nat} {sz kp : Nat → Int32} (hT : TOP σ w) (hX : XT w) (hK : KEEP2 w w1) (a1 a2 a3 a4 : Int) (ha1 : -2147483648 ≤ a1 ∧ a1 ≤ 2147483647) (ha2 : -2147483648 ≤ a2 ∧ a2 ≤ 2147483647) (ha3 : -2147483648 ≤ a3 ∧ a3 ≤ 2147483647) (ha4 : -2147483648 ≤ a4 ∧ a4 ≤ 2147483647) (run1 : ∀ Q : zQ, Q r w1 → zCl zTab 12 iX11_drawn [.ref 0, .int (Int32.ofInt a1), .int (Int32.ofInt a2), .int (Int32.ofInt a3), .int (Int32.ofInt a4)] w mc ms Q) (hM1 : MI w1 sz kp) (run2 : ∀ Q : zQ, Q r' w2 → zCl zTab 12 iX12_drawn [.ref 14, .int (Int32.ofInt a1), .int (Int32.ofInt a2), .int (Int32.ofInt a3), .int (Int32.ofInt a4)] w1 0 0 Q) : rEQ r r' := by
  obtain ⟨g15, g16, g17, g18, g19, g20, g21, g22, kq, gi, hA, h7, hby, ⟨l, f, c, g, cn, bo, ye, si, hL⟩, hk⟩ := id hX
  obtain ⟨y6, y7, h0, -⟩ := top_o hT
  have hA1 : ARS w1 g15 g16 g17 g18 g19 g20 g21 g22 kq := ars_fr hA fun q hq => hK.1 q (by omega) (by omega)
  have h19 : ∀ i : Int, 0 ≤ i → i ≤ 2 → tBy g19 i = tBy cn i ∧ 0 ≤ tBy g19 i ∧ tBy g19 i ≤ 2 := fun i i0 i1 => by
    have := hL.2.2.2.2.2.1 i i0 i1
    rw [show 3 * (0 : Int) + i = i by omega] at this
    omega
  obtain ⟨f0, f9, f10, f11, f12, f13, f15, f16, f17, f20, f21, f22, f23, f26, f28, f31, f32, f33, f38, f41, f44, x14, g23, g24, hf17, c14, c23, c24⟩ := mi_obj hM1
  obtain ⟨g25, g26, g27, g28, g29, g30, g31, g32, g33, g34, g35, g36, g37, g38, g39, g40, g41, g42, g43, c25, c26, c27, c28, c29, c30, c31, c32, c33, c34, c35, c36, c37, c38, c39, c40, c41, c42, c43, -⟩ := mi_arr hM1
  obtain ⟨bq, e1, e2, e3, e4, gc, gt, h9, h10, h11⟩ := co_9 hT
  have hs0 := h19 0 (by omega) (by omega)
  have hok := mi_ok hM1 hA1.2.2.2.2.2.1 hA1.2.2.2.2.2.2.1 hA1.2.2.2.2.2.2.2.1
  have e1 := two_x run1 (x_drawn (w := w) 5 a1 a2 a3 a4 l f c e1 e2 e3 e4 (va_rf y6) (va_rf y7) bq cn gc gt bo (fun k => rBY g20 (51 * k)) (fun k X => BKX g20 (51 * k) X) h0 hL.1.1 hL.1.2.2.1 hL.1.2.2.2.1 h9 h10 h11 ha1 ha2 ha3 ha4 (by omega) (fun k k0 k1 => by
    obtain ⟨b, X, x1, x2, x3⟩ := hL.2.2.2.2.2.2.1 k k0 k1
    rw [show 102 * (0 : Int) + 51 * k = 51 * k by omega] at x3
    have hr := bk_role hT (Or.inl rfl) hL.1.2.2.2.1 x1
    exact ⟨b, X, x1, x2, hi_role hT (by omega), bkf_of hok.1 k0 (by omega) (bkAt_X hT.1 hr x2) x3, x3⟩) (fun r _ => r = some (.int (Int32.ofInt (if (0 ≤ a1 ∧ a1 < tBy g19 0) ∧ (0 ≤ a3 ∧ a3 ≤ 60) then csV (tBy g20 (51 * a1 + 0)) (tBy g20 (51 * a1 + 1)) (dwN (rBY g20 (51 * a1)) (tBy g20 (51 * a1 + 0)) (tBy g20 (51 * a1 + 1)) a2 a3.toNat).2 a4 else -2)))) (fun h => by rw [if_neg (by omega)]) (fun h h2 X x3 w' => by
    rw [dr_eq x3, if_pos ⟨by omega, h2⟩]))
  have e2 := two_x run2 (x_drawnR w1 5 a1 a2 a3 a4 f0 f9 f10 f11 f12 f13 f15 f16 f17 f20 f21 f22 f23 f26 f28 f31 f32 f33 f38 f41 f44 x14 g19 g20 g25 g26 g27 g28 g29 c14 hA1.2.2.2.2.1 hA1.2.2.2.2.2.1 c25 c26 c27 c28 c29 ⟨ha1, ha2, ha3, ha4⟩ (fun i i0 i1 => (h19 i i0 i1).2) hok.1 (fun r _ => r = some (.int (Int32.ofInt (if (0 ≤ a1 ∧ a1 < tBy g19 0) ∧ (0 ≤ a3 ∧ a3 ≤ 60) then csV (tBy g20 (51 * a1 + 0)) (tBy g20 (51 * a1 + 1)) (dwN (rBY g20 (51 * a1)) (tBy g20 (51 * a1 + 0)) (tBy g20 (51 * a1 + 1)) a2 a3.toNat).2 a4 else -2)))) (fun v y20 y22 y23 y26 y31 y32 y33 y44 T25 T26 T27 T28 T29 w' _ _ _ _ _ _ _ hv => by
    rcases hv with ⟨h, hv⟩ | ⟨h, hv⟩
    · rw [hv, if_neg (by omega)]
    · rw [hv, if_pos h]))
  exact ⟨_, e1, e2⟩
def YKX (K O U : Int → Int) (n : Int) : tpY → Prop
  | (_, _, x0, h1, h2, h3) => x0 = n ∧ (0 ≤ x0 ∧ x0 ≤ 40) ∧ ∀ i : Int, 0 ≤ i → i < x0 → tBy h1 i = K i ∧ tBy h2 i = O i ∧ tBy h3 i = U i ∧ DOK (K i) (O i) (U i)
theorem yrq_of {T cn : Nat → Int32} {g19 : Nat → Int32} (hg : yrOK T) (hc : tBy g19 1 ≤ 2) (hd : ∀ y i : Int, 0 ≤ y → y < tBy g19 1 → 0 ≤ i → i < tBy T (121 * y) → yK T y 0 i = 1 → yK T y 1 i ≠ yK T y 2 i) : YRQ g19 T := fun y y0 y1 => by
  have hb := yr_b1 hg y y0 (by omega)
  refine ⟨hb, fun i i0 i1 => ?_⟩
  have hz := hd y i y0 y1 i0 i1
  have e := yr_d hg (b := y.toNat) (k := i.toNat) (by omega) (by omega)
  unfold yK tBy at *
  unfold DOK
  rw [show (121 * y + 1 + 3 * i + 0).toNat = 121 * y.toNat + (1 + 3 * i.toNat) by omega, show (121 * y + 1 + 3 * i + 1).toNat = 121 * y.toNat + (2 + 3 * i.toNat) by omega, show (121 * y + 1 + 3 * i + 2).toNat = 121 * y.toNat + (3 + 3 * i.toNat) by omega] at *
  exact ⟨e.1, fun h => e.2.1 (by omega), fun h => e.2.2.2 h, fun h => ⟨e.2.2.1 h, hz h⟩⟩
theorem ykx_of {g19 T : Nat → Int32} {y : Int} (hq : YRQ g19 T) (y0 : 0 ≤ y) (y1 : y < tBy g19 1) : ∀ {Y : tpY}, YRX T (121 * y) Y → YKX (yK T y 0) (yK T y 1) (yK T y 2) (tBy T (121 * y)) Y
  | (f, c, x0, h1, h2, h3), hY => by
    refine ⟨hY.1.1, hY.1.2, fun i i0 i1 => ?_⟩
    have e := hY.2 i i0 i1
    have h := (hq y y0 y1).2 i i0 (by rw [← hY.1.1]; exact i1)
    refine ⟨?_, ?_, ?_, h⟩
    · rw [← e.1]
      exact congrArg (tBy T) (by omega)
    · rw [← e.2.1]
      exact congrArg (tBy T) (by omega)
    · rw [← e.2.2.1]
      exact congrArg (tBy T) (by omega)
theorem yr_ne {T : Nat → Int32} {y : Int} : ∀ {Y : tpY}, YRX T (121 * y) Y → ∀ i : Int, 0 ≤ i → i < tBy T (121 * y) → yK T y 0 i = 1 → yK T y 1 i ≠ yK T y 2 i
  | (f, c, x0, h1, h2, h3), hY, i, i0, i1, h => by
    have e := hY.2 i i0 (by rw [hY.1.1]; exact i1)
    have k0 : yK T y 0 i = tBy h1 i := by rw [← e.1]; exact congrArg (tBy T) (by omega)
    have k1 : yK T y 1 i = tBy h2 i := by rw [← e.2.1]; exact congrArg (tBy T) (by omega)
    have k2 : yK T y 2 i = tBy h3 i := by rw [← e.2.2.1]; exact congrArg (tBy T) (by omega)
    rw [k1, k2]
    exact e.2.2.2 (k0.symm.trans h)
def doX (F : Int → Int → Int) (K O U : Int → Int) (n v : Int) : tpB → Prop
  | (_, _, x0, x1, _, _, _, _, _) => DON F x0 x1 K O U n v
def stX (F : Int → Int → Int) (K O U : Int → Int) (n u : Int) : tpB → Int
  | (_, _, x0, x1, _, _, _, _, _) => csV x0 x1 (csN F x0 x1 K O U n.toNat) u
theorem do_eq {T : Nat → Int32} {k : Int} {F : Int → Int → Int} {K O U : Int → Int} {n v : Int} : ∀ {X : tpB}, BKX T (51 * k) X → doX F K O U n v X → DON F (tBy T (51 * k + 0)) (tBy T (51 * k + 1)) K O U n v
  | (f, c, x0, x1, x2, g1, g2, g3, g4), hX, h => by
    rw [Int.add_zero, ← hX.1, ← hX.2.1.1]
    exact h
theorem st_eq {T : Nat → Int32} {k : Int} {F : Int → Int → Int} {K O U : Int → Int} {n u : Int} : ∀ {X : tpB}, BKX T (51 * k) X → stX F K O U n u X = csV (tBy T (51 * k + 0)) (tBy T (51 * k + 1)) (csN F (tBy T (51 * k + 0)) (tBy T (51 * k + 1)) K O U n.toNat) u
  | (f, c, x0, x1, x2, g1, g2, g3, g4), hX => by
    rw [Int.add_zero, ← hX.1, ← hX.2.1.1]
    rfl
theorem x_stop {w : zW} (d : Nat) (a1 a2 l f c e1 e2 e3 e4 : Int) (y6 y7 bq : Value) (cn gc gt : Nat → Int32) (bo ye : Nat → Option Nat) (F : Int → Int → Int → Int) (K O U : Int → Int → Int) (N : Int → Int) (P : Int → tpB → Prop) (h0 : zix w 0 = some (ob0 y6 y7)) (h1 : zix w 1 = some (td1 l f c)) (h3 : zix w 3 = some (.inl (1, 3, .inl cn))) (hrow : zix w 4 = some (rfa 3 2 bo)) (hrowY : zix w 5 = some (rfa 4 2 ye)) (h9 : zix w 9 = some (.inr (1, [bq, .int (Int32.ofInt e1), .int (Int32.ofInt e2), .int (Int32.ofInt e3), .int (Int32.ofInt e4), .ref 10, .ref 11]))) (h10 : zix w 10 = some (.inl (1, 4, .inl gc))) (h11 : zix w 11 = some (.inl (1, 5, .inl gt))) (hr1 : -2147483648 ≤ a1 ∧ a1 ≤ 2147483647) (hr2 : -2147483648 ≤ a2 ∧ a2 ≤ 2147483647) (hcn : tBy cn 0 ≤ 2) (hcy : tBy cn 1 ≤ 2) (hE : ∀ k : Int, 0 ≤ k → k < tBy cn 0 → ∃ b X, bo k.toNat = some b ∧ OBB w b X ∧ 45 ≤ b ∧ BKFX (F k) X ∧ P k X) (hY : ∀ k : Int, 0 ≤ k → k < tBy cn 1 → ∃ y Y, ye k.toNat = some y ∧ OBY w y Y ∧ 45 ≤ y ∧ YKX (K k) (O k) (U k) (N k) Y) (Q : zQ) (hN : (a1 < 0 ∨ tBy cn 0 ≤ a1 ∨ a2 < 0 ∨ tBy cn 1 ≤ a2) → Q (some (.int (Int32.ofInt (-1)))) w) (hS : (0 ≤ a1 ∧ a1 < tBy cn 0) → (0 ≤ a2 ∧ a2 < tBy cn 1) → ∀ X v, P a1 X → doX (F a1) (K a2) (O a2) (U a2) (N a2) v X → ∀ w' : zW, Q (some (.int (Int32.ofInt v))) w') : zCl zTab (d + 7) iX11_stop [.ref 0, .int (Int32.ofInt a1), .int (Int32.ofInt a2)] w 0 0 Q := by
  refine zCl_i (M := kX11_stop) rfl (Nat.le_of_ble_eq_true rfl) fun R hR => ?_
  have bad : ∀ L : zL, Q (some (.int (Int32.ofInt (-1)))) w → R (22, L, [], w, 0, 0) := by
    intro L hx
    refine hR (?_ : R (_, _, _, _, _, _))
    exact hR (zret_i rfl (Nat.le_refl _) trivial hx)
  iterate 2 refine hR (?_ : R (_, _, _, _, _, _))
  refine hR (c_obj h0 (zcall_i 0 0 (Nat.le_refl _) (Nat.le_refl _) (x_bookAt _ a1 l f c y6 y7 cn bo h0 h1 h3 hrow hr1 hcn _ ?_)))
  by_cases hc : 0 ≤ a1 ∧ a1 < tBy cn 0
  rotate_left
  · rw [if_neg hc]
    refine (?_ : R (_, _, .null :: [], w, 0, 0))
    iterate 3 refine hR (?_ : R (_, _, _, _, _, _))
    refine hR (c_obj h0 (zcall_i 0 0 (Nat.le_refl _) (Nat.le_refl _) (x_yearAt _ a2 l f c y6 y7 cn ye h0 h1 h3 hrowY hr2 hcy _ ?_)))
    cases (if 0 ≤ a2 ∧ a2 < tBy cn 1 then ye a2.toNat else none) with
    | none =>
      refine (?_ : R (_, _, .null :: [], w, 0, 0))
      iterate 3 refine hR (?_ : R (_, _, _, _, _, _))
      exact bad _ (hN (by omega))
    | some z =>
      refine (?_ : R (_, _, .ref z :: [], w, 0, 0))
      iterate 3 refine hR (?_ : R (_, _, _, _, _, _))
      exact bad _ (hN (by omega))
  obtain ⟨b, X, hb, hO, h45, hBF, hP⟩ := hE a1 hc.1 hc.2
  rw [if_pos hc, hb]
  refine (?_ : R (_, _, .ref b :: [], w, 0, 0))
  iterate 3 refine hR (?_ : R (_, _, _, _, _, _))
  refine hR (c_obj h0 (zcall_i 0 0 (Nat.le_refl _) (Nat.le_refl _) (x_yearAt _ a2 l f c y6 y7 cn ye h0 h1 h3 hrowY hr2 hcy _ ?_)))
  by_cases hcc : 0 ≤ a2 ∧ a2 < tBy cn 1
  rotate_left
  · rw [if_neg hcc]
    refine (?_ : R (_, _, .null :: [], w, 0, 0))
    iterate 5 refine hR (?_ : R (_, _, _, _, _, _))
    exact bad _ (hN (by omega))
  obtain ⟨y, Y, hy, hOY, hy45, hYK⟩ := hY a2 hcc.1 hcc.2
  rw [if_pos hcc, hy]
  refine (?_ : R (_, _, .ref y :: [], w, 0, 0))
  have hS' := hS hc hcc
  obtain ⟨f', c', x0, x1, x2, g1, g2, g3, g4⟩ := X
  obtain ⟨q0, q1, q2, q3, q4⟩ := hO
  obtain ⟨f'', c'', yd, k1, k2, k3⟩ := Y
  obtain ⟨p0, p1, p2, p3⟩ := hOY
  replace hBF : BKF (F a1) x0 x1 g1 g2 g3 g4 := hBF
  obtain ⟨hYn, hYr, hYK⟩ := hYK
  iterate 6 refine hR (?_ : R (_, _, _, _, _, _))
  refine hR (c_get h0 rfl ?_)
  refine hR (?_ : R (_, _, _, _, _, _))
  refine hR (c_obj h9 (zcall_i 0 0 (Nat.le_refl _) (Nat.le_refl _) (x_cBegin w _ b e1 e2 e3 e4 bq gc gt x0 x1 x2 h9 h10 h11 q0 h45 hBF.1 _ fun Tc Tt w1 fr1 k9 k10 k11 hC => ?_)))
  refine (?_ : R (_, _, [], w1, 0, 0))
  have u0 := (fr1.2 b (by omega)).trans q0
  have u1 := (fr1.2 (b + 1) (by omega)).trans q1
  have u2 := (fr1.2 (b + 2) (by omega)).trans q2
  have u3 := (fr1.2 (b + 3) (by omega)).trans q3
  have u4 := (fr1.2 (b + 4) (by omega)).trans q4
  have s0 := (fr1.2 y (by omega)).trans p0
  have s1 := (fr1.2 (y + 1) (by omega)).trans p1
  have s2 := (fr1.2 (y + 2) (by omega)).trans p2
  have s3 := (fr1.2 (y + 3) (by omega)).trans p3
  have v0 := (fr1.2 0 (by omega)).trans h0
  refine hR (?_ : R (_, _, _, _, _, _))
  refine hR (c_get v0 rfl ?_)
  iterate 2 refine hR (?_ : R (_, _, _, _, _, _))
  refine hR (c_get s0 rfl ?_)
  refine hR (c_obj k9 (zcall_i 0 0 (Nat.le_refl _) (Nat.le_refl _) (x_cFirst w1 _ b y yd 0 0 0 e4 Tc Tt x0 x1 x2 g1 g2 g3 g4 yd k1 k2 k3 (F a1) (K a2) (O a2) (U a2) k9 k10 k11 u0 u1 u2 u3 u4 s0 s1 s2 s3 ⟨h45, hy45⟩ hBF hC (by omega) hYK _ fun v z1 z2 z3 Tc2 Tt2 w2 fr2 m9 m10 m11 hD _ => ?_)))
  refine (?_ : R (_, _, .int (Int32.ofInt v) :: [], w2, 0, 0))
  exact hR (zret_i rfl (Nat.le_refl _) trivial (hS' _ v hP (show DON (F a1) x0 x1 (K a2) (O a2) (U a2) (N a2) v by rw [← hYn]; exact hD) w2))
theorem x_state {w : zW} (d : Nat) (a1 a2 a3 a4 l f c e1 e2 e3 e4 : Int) (y6 y7 bq : Value) (cn gc gt : Nat → Int32) (bo ye : Nat → Option Nat) (F : Int → Int → Int → Int) (K O U : Int → Int → Int) (N : Int → Int) (P : Int → tpB → Prop) (h0 : zix w 0 = some (ob0 y6 y7)) (h1 : zix w 1 = some (td1 l f c)) (h3 : zix w 3 = some (.inl (1, 3, .inl cn))) (hrow : zix w 4 = some (rfa 3 2 bo)) (hrowY : zix w 5 = some (rfa 4 2 ye)) (h9 : zix w 9 = some (.inr (1, [bq, .int (Int32.ofInt e1), .int (Int32.ofInt e2), .int (Int32.ofInt e3), .int (Int32.ofInt e4), .ref 10, .ref 11]))) (h10 : zix w 10 = some (.inl (1, 4, .inl gc))) (h11 : zix w 11 = some (.inl (1, 5, .inl gt))) (hr1 : -2147483648 ≤ a1 ∧ a1 ≤ 2147483647) (hr2 : -2147483648 ≤ a2 ∧ a2 ≤ 2147483647) (hr3 : -2147483648 ≤ a3 ∧ a3 ≤ 2147483647) (hr4 : -2147483648 ≤ a4 ∧ a4 ≤ 2147483647) (hcn : tBy cn 0 ≤ 2) (hcy : tBy cn 1 ≤ 2) (hE : ∀ k : Int, 0 ≤ k → k < tBy cn 0 → ∃ b X, bo k.toNat = some b ∧ OBB w b X ∧ 45 ≤ b ∧ BKFX (F k) X ∧ P k X) (hY : ∀ k : Int, 0 ≤ k → k < tBy cn 1 → ∃ y Y, ye k.toNat = some y ∧ OBY w y Y ∧ 45 ≤ y ∧ YKX (K k) (O k) (U k) (N k) Y) (Q : zQ) (hN : ((a1 < 0 ∨ tBy cn 0 ≤ a1 ∨ a2 < 0 ∨ tBy cn 1 ≤ a2) ∨ ((0 ≤ a2 ∧ a2 < tBy cn 1) ∧ (a3 < 0 ∨ N a2 < a3))) → Q (some (.int (Int32.ofInt (-2)))) w) (hS : (0 ≤ a1 ∧ a1 < tBy cn 0) → (0 ≤ a2 ∧ a2 < tBy cn 1) → (0 ≤ a3 ∧ a3 ≤ N a2) → ∀ X v, P a1 X → doX (F a1) (K a2) (O a2) (U a2) a3 v X → ∀ w' : zW, Q (some (.int (Int32.ofInt (if v = a3 then stX (F a1) (K a2) (O a2) (U a2) a3 a4 X else -2)))) w') : zCl zTab (d + 7) iX11_state [.ref 0, .int (Int32.ofInt a1), .int (Int32.ofInt a2), .int (Int32.ofInt a3), .int (Int32.ofInt a4)] w 0 0 Q := by
  refine zCl_i (M := kX11_state) rfl (Nat.le_of_ble_eq_true rfl) fun R hR => ?_
  have bad : ∀ L : zL, Q (some (.int (Int32.ofInt (-2)))) w → R (37, L, [], w, 0, 0) := by
    intro L hx
    refine hR (t_c (-2) (by decide) ?_)
    exact hR (zret_i rfl (Nat.le_refl _) trivial hx)
  iterate 2 refine hR (?_ : R (_, _, _, _, _, _))
  refine hR (c_obj h0 (zcall_i 0 0 (Nat.le_refl _) (Nat.le_refl _) (x_bookAt _ a1 l f c y6 y7 cn bo h0 h1 h3 hrow hr1 hcn _ ?_)))
  by_cases hc : 0 ≤ a1 ∧ a1 < tBy cn 0
  rotate_left
  · rw [if_neg hc]
    refine (?_ : R (_, _, .null :: [], w, 0, 0))
    iterate 3 refine hR (?_ : R (_, _, _, _, _, _))
    refine hR (c_obj h0 (zcall_i 0 0 (Nat.le_refl _) (Nat.le_refl _) (x_yearAt _ a2 l f c y6 y7 cn ye h0 h1 h3 hrowY hr2 hcy _ ?_)))
    cases (if 0 ≤ a2 ∧ a2 < tBy cn 1 then ye a2.toNat else none) with
    | none =>
      refine (?_ : R (_, _, .null :: [], w, 0, 0))
      iterate 3 refine hR (?_ : R (_, _, _, _, _, _))
      exact bad _ (hN (by omega))
    | some z =>
      refine (?_ : R (_, _, .ref z :: [], w, 0, 0))
      iterate 3 refine hR (?_ : R (_, _, _, _, _, _))
      exact bad _ (hN (by omega))
  obtain ⟨b, X, hb, hO, h45, hBF, hP⟩ := hE a1 hc.1 hc.2
  rw [if_pos hc, hb]
  refine (?_ : R (_, _, .ref b :: [], w, 0, 0))
  iterate 3 refine hR (?_ : R (_, _, _, _, _, _))
  refine hR (c_obj h0 (zcall_i 0 0 (Nat.le_refl _) (Nat.le_refl _) (x_yearAt _ a2 l f c y6 y7 cn ye h0 h1 h3 hrowY hr2 hcy _ ?_)))
  by_cases hcc : 0 ≤ a2 ∧ a2 < tBy cn 1
  rotate_left
  · rw [if_neg hcc]
    refine (?_ : R (_, _, .null :: [], w, 0, 0))
    iterate 5 refine hR (?_ : R (_, _, _, _, _, _))
    exact bad _ (hN (by omega))
  obtain ⟨y, Y, hy, hOY, hy45, hYK⟩ := hY a2 hcc.1 hcc.2
  rw [if_pos hcc, hy]
  refine (?_ : R (_, _, .ref y :: [], w, 0, 0))
  have hS' := hS hc hcc
  obtain ⟨f', c', x0, x1, x2, g1, g2, g3, g4⟩ := X
  obtain ⟨q0, q1, q2, q3, q4⟩ := hO
  obtain ⟨f'', c'', yd, k1, k2, k3⟩ := Y
  obtain ⟨p0, p1, p2, p3⟩ := hOY
  replace hBF : BKF (F a1) x0 x1 g1 g2 g3 g4 := hBF
  obtain ⟨hYn, hYr, hYK⟩ := hYK
  iterate 6 refine hR (?_ : R (_, _, _, _, _, _))
  refine hR (k_lt (by omega) (fun hz => bad _ (hN (by omega))) (fun hz => ?_))
  iterate 2 refine hR (?_ : R (_, _, _, _, _, _))
  refine hR (c_get p0 rfl ?_)
  refine hR (j_le (by omega) (by omega) (fun hz2 => ?_) (fun hz2 => bad _ (hN (by omega))))
  refine hR (?_ : R (_, _, _, _, _, _))
  refine hR (c_get h0 rfl ?_)
  refine hR (?_ : R (_, _, _, _, _, _))
  refine hR (c_obj h9 (zcall_i 0 0 (Nat.le_refl _) (Nat.le_refl _) (x_cBegin w _ b e1 e2 e3 e4 bq gc gt x0 x1 x2 h9 h10 h11 q0 h45 hBF.1 _ fun Tc Tt w1 fr1 k9 k10 k11 hC => ?_)))
  refine (?_ : R (_, _, [], w1, 0, 0))
  have u0 := (fr1.2 b (by omega)).trans q0
  have u1 := (fr1.2 (b + 1) (by omega)).trans q1
  have u2 := (fr1.2 (b + 2) (by omega)).trans q2
  have u3 := (fr1.2 (b + 3) (by omega)).trans q3
  have u4 := (fr1.2 (b + 4) (by omega)).trans q4
  have s0 := (fr1.2 y (by omega)).trans p0
  have s1 := (fr1.2 (y + 1) (by omega)).trans p1
  have s2 := (fr1.2 (y + 2) (by omega)).trans p2
  have s3 := (fr1.2 (y + 3) (by omega)).trans p3
  have v0 := (fr1.2 0 (by omega)).trans h0
  refine hR (?_ : R (_, _, _, _, _, _))
  refine hR (c_get v0 rfl ?_)
  iterate 2 refine hR (?_ : R (_, _, _, _, _, _))
  refine hR (c_obj k9 (zcall_i 0 0 (Nat.le_refl _) (Nat.le_refl _) (x_cFirst w1 _ b y a3 0 0 0 e4 Tc Tt x0 x1 x2 g1 g2 g3 g4 yd k1 k2 k3 (F a1) (K a2) (O a2) (U a2) k9 k10 k11 u0 u1 u2 u3 u4 s0 s1 s2 s3 ⟨h45, hy45⟩ hBF hC (by omega) hYK _ fun v z1 z2 z3 Tc2 Tt2 w2 fr2 m9 m10 m11 hD hCn => ?_)))
  refine (?_ : R (_, _, .int (Int32.ofInt v) :: [], w2, 0, 0))
  have hvr : 0 ≤ v ∧ v ≤ a3 := by
    obtain ⟨d0, -, d1⟩ := hD
    omega
  have hS2 := hS' (by omega) (f', c', x0, x1, x2, g1, g2, g3, g4) v hP (show DON (F a1) x0 x1 (K a2) (O a2) (U a2) a3 v from hD)
  refine hR (?_ : R (_, _, _, _, _, _))
  refine hR (j_ge (by omega) (by omega) (fun hz3 => ?_) (fun hz3 => ?_))
  · have ev : v = a3 := by omega
    rw [if_pos ev] at hS2
    have hC2 := hCn ev
    have t0 := (fr2.2 b (by omega)).trans u0
    have v1 := (fr2.2 0 (by omega)).trans v0
    refine hR (?_ : R (_, _, _, _, _, _))
    refine hR (c_get v1 rfl ?_)
    refine hR (?_ : R (_, _, _, _, _, _))
    refine hR (c_obj m9 (zcall_i 0 0 (Nat.le_refl _) (Nat.le_refl _) (x_cTells w2 _ b a4 z1 z2 z3 e4 Tc2 Tt2 x0 x1 x2 _ _ m9 m10 m11 t0 ⟨hBF.1, hBF.2.1⟩ hC2 hr4 _ fun u hu => ?_)))
    refine (?_ : R (_, _, .int (Int32.ofInt u) :: [], w2, 0, 0))
    subst hu
    exact hR (zret_i rfl (Nat.le_refl _) trivial (hS2 w2))
  · rw [if_neg (by omega)] at hS2
    refine hR (t_c (-2) (by decide) ?_)
    refine hR (?_ : R (_, _, _, _, _, _))
    exact hR (zret_i rfl (Nat.le_refl _) trivial (hS2 w2))
theorem ea_stop {σ : Nat → Nat} {w w1 w2 : zW} {r r' : Option Value} {mc ms : Nat} {sz kp : Nat → Int32} (hT : TOP σ w) (hX : XT w) (hK : KEEP2 w w1) (a1 a2 : Int) (ha1 : -2147483648 ≤ a1 ∧ a1 ≤ 2147483647) (ha2 : -2147483648 ≤ a2 ∧ a2 ≤ 2147483647) (run1 : ∀ Q : zQ, Q r w1 → zCl zTab 12 iX11_stop [.ref 0, .int (Int32.ofInt a1), .int (Int32.ofInt a2)] w mc ms Q) (hM1 : MI w1 sz kp) (run2 : ∀ Q : zQ, Q r' w2 → zCl zTab 12 iX12_stop [.ref 14, .int (Int32.ofInt a1), .int (Int32.ofInt a2)] w1 0 0 Q) : rEQ r r' := by
  obtain ⟨g15, g16, g17, g18, g19, g20, g21, g22, kq, gi, hA, h7, hby, ⟨l, f, c, g, cn, bo, ye, si, hL⟩, hk⟩ := id hX
  obtain ⟨y6, y7, h0, -⟩ := top_o hT
  have hA1 : ARS w1 g15 g16 g17 g18 g19 g20 g21 g22 kq := ars_fr hA fun q hq => hK.1 q (by omega) (by omega)
  have h19 : ∀ i : Int, 0 ≤ i → i ≤ 2 → tBy g19 i = tBy cn i ∧ 0 ≤ tBy g19 i ∧ tBy g19 i ≤ 2 := fun i i0 i1 => by
    have := hL.2.2.2.2.2.1 i i0 i1
    rw [show 3 * (0 : Int) + i = i by omega] at this
    omega
  obtain ⟨f0, f9, f10, f11, f12, f13, f15, f16, f17, f20, f21, f22, f23, f26, f28, f31, f32, f33, f38, f41, f44, x14, g23, g24, hf17, c14, c23, c24⟩ := mi_obj hM1
  obtain ⟨g25, g26, g27, g28, g29, g30, g31, g32, g33, g34, g35, g36, g37, g38, g39, g40, g41, g42, g43, c25, c26, c27, c28, c29, c30, c31, c32, c33, c34, c35, c36, c37, c38, c39, c40, c41, c42, c43, -⟩ := mi_arr hM1
  obtain ⟨bq, e1, e2, e3, e4, gc, gt, h9, h10, h11⟩ := co_9 hT
  have hs0 := h19 0 (by omega) (by omega)
  have hs1 := h19 1 (by omega) (by omega)
  have hok := mi_ok hM1 hA1.2.2.2.2.2.1 hA1.2.2.2.2.2.2.1 hA1.2.2.2.2.2.2.2.1
  have hyq : YRQ g19 g21 := yrq_of (cn := cn) hok.2.1 (by omega) (fun y i y0 y1 i0 i1 => by
    obtain ⟨b, Y, x1, x2, x3⟩ := hL.2.2.2.2.2.2.2.1 y y0 (by omega)
    rw [show 242 * (0 : Int) + 121 * y = 121 * y by omega] at x3
    exact yr_ne x3 i i0 i1)
  have HE : ∀ k : Int, 0 ≤ k → k < tBy cn 0 → ∃ b X, bo k.toNat = some b ∧ OBB w b X ∧ 45 ≤ b ∧ BKFX (rBY g20 (51 * k)) X ∧ BKX g20 (51 * k) X := fun k k0 k1 => by
    obtain ⟨b, X, x1, x2, x3⟩ := hL.2.2.2.2.2.2.1 k k0 k1
    rw [show 102 * (0 : Int) + 51 * k = 51 * k by omega] at x3
    have hr := bk_role hT (Or.inl rfl) hL.1.2.2.2.1 x1
    exact ⟨b, X, x1, x2, hi_role hT (by omega), bkf_of hok.1 k0 (by omega) (bkAt_X hT.1 hr x2) x3, x3⟩
  have HY : ∀ k : Int, 0 ≤ k → k < tBy cn 1 → ∃ y Y, ye k.toNat = some y ∧ OBY w y Y ∧ 45 ≤ y ∧ YKX (yK g21 k 0) (yK g21 k 1) (yK g21 k 2) (tBy g21 (121 * k)) Y := fun k k0 k1 => by
    obtain ⟨y, Y, x1, x2, x3⟩ := hL.2.2.2.2.2.2.2.1 k k0 k1
    rw [show 242 * (0 : Int) + 121 * k = 121 * k by omega] at x3
    exact ⟨y, Y, x1, x2, obj_hi hT (Or.inl rfl) (tcp_y hL.1.2.2.2.2.1 _ y x1 0 (by omega)), ykx_of hyq k0 (by omega) x3⟩
  have e1 := two_x run1 (x_stop (w := w) 5 a1 a2 l f c e1 e2 e3 e4 (va_rf y6) (va_rf y7) bq cn gc gt bo ye (fun k => rBY g20 (51 * k)) (fun k => yK g21 k 0) (fun k => yK g21 k 1) (fun k => yK g21 k 2) (fun k => tBy g21 (121 * k)) (fun k X => BKX g20 (51 * k) X) h0 hL.1.1 hL.1.2.2.1 hL.1.2.2.2.1 hL.1.2.2.2.2.1 h9 h10 h11 ha1 ha2 (by omega) (by omega) HE HY (fun r _ => ∃ v : Int, r = some (.int (Int32.ofInt v)) ∧ ((¬ ((0 ≤ a1 ∧ a1 < tBy g19 0) ∧ (0 ≤ a2 ∧ a2 < tBy g19 1)) ∧ v = -1) ∨ (((0 ≤ a1 ∧ a1 < tBy g19 0) ∧ (0 ≤ a2 ∧ a2 < tBy g19 1)) ∧ DON (rBY g20 (51 * a1)) (tBy g20 (51 * a1 + 0)) (tBy g20 (51 * a1 + 1)) (yK g21 a2 0) (yK g21 a2 1) (yK g21 a2 2) (tBy g21 (121 * a2)) v))) (fun h => ⟨-1, rfl, Or.inl ⟨by omega, rfl⟩⟩) (fun h h2 X v x3 hv w' => ⟨v, rfl, Or.inr ⟨by omega, do_eq x3 hv⟩⟩))
  have e2 := two_x run2 (x_stopR w1 4 a1 a2 f0 f9 f10 f11 f12 f13 f15 f16 f17 f20 f21 f22 f23 f26 f28 f31 f32 f33 f38 f41 f44 x14 g19 g20 g21 g25 g28 g29 c14 hA1.2.2.2.2.1 hA1.2.2.2.2.2.1 hA1.2.2.2.2.2.2.1 c25 c28 c29 ⟨ha1, ha2⟩ (fun i i0 i1 => (h19 i i0 i1).2) hok.1 hyq (fun r _ => ∃ v : Int, r = some (.int (Int32.ofInt v)) ∧ ((¬ ((0 ≤ a1 ∧ a1 < tBy g19 0) ∧ (0 ≤ a2 ∧ a2 < tBy g19 1)) ∧ v = -1) ∨ (((0 ≤ a1 ∧ a1 < tBy g19 0) ∧ (0 ≤ a2 ∧ a2 < tBy g19 1)) ∧ DON (rBY g20 (51 * a1)) (tBy g20 (51 * a1 + 0)) (tBy g20 (51 * a1 + 1)) (yK g21 a2 0) (yK g21 a2 1) (yK g21 a2 2) (tBy g21 (121 * a2)) v))) (fun v y20 y22 y23 y26 y28 y31 y32 y33 T25 T28 T29 w' _ _ _ _ _ hv => by
    rcases hv with ⟨h, hv⟩ | ⟨h, hv⟩
    · exact ⟨v, rfl, Or.inl ⟨by omega, hv⟩⟩
    · exact ⟨v, rfl, Or.inr ⟨h, hv⟩⟩))
  obtain ⟨v, ev, hv⟩ := e1
  obtain ⟨v', ev', hv'⟩ := e2
  have : v = v' := by
    rcases hv with ⟨h, hv⟩ | ⟨h, hv⟩ <;> rcases hv' with ⟨h', hv'⟩ | ⟨h', hv'⟩
    · omega
    · exact absurd h' h
    · exact absurd h h'
    · exact DON_u hv hv'
  exact ⟨_, ev, by rw [this]; exact ev'⟩
theorem ea_state {σ : Nat → Nat} {w w1 w2 : zW} {r r' : Option Value} {mc ms : Nat} {sz kp : Nat → Int32} (hT : TOP σ w) (hX : XT w) (hK : KEEP2 w w1) (a1 a2 a3 a4 : Int) (ha1 : -2147483648 ≤ a1 ∧ a1 ≤ 2147483647) (ha2 : -2147483648 ≤ a2 ∧ a2 ≤ 2147483647) (ha3 : -2147483648 ≤ a3 ∧ a3 ≤ 2147483647) (ha4 : -2147483648 ≤ a4 ∧ a4 ≤ 2147483647) (run1 : ∀ Q : zQ, Q r w1 → zCl zTab 12 iX11_state [.ref 0, .int (Int32.ofInt a1), .int (Int32.ofInt a2), .int (Int32.ofInt a3), .int (Int32.ofInt a4)] w mc ms Q) (hM1 : MI w1 sz kp) (run2 : ∀ Q : zQ, Q r' w2 → zCl zTab 12 iX12_state [.ref 14, .int (Int32.ofInt a1), .int (Int32.ofInt a2), .int (Int32.ofInt a3), .int (Int32.ofInt a4)] w1 0 0 Q) : rEQ r r' := by
  obtain ⟨g15, g16, g17, g18, g19, g20, g21, g22, kq, gi, hA, h7, hby, ⟨l, f, c, g, cn, bo, ye, si, hL⟩, hk⟩ := id hX
  obtain ⟨y6, y7, h0, -⟩ := top_o hT
  have hA1 : ARS w1 g15 g16 g17 g18 g19 g20 g21 g22 kq := ars_fr hA fun q hq => hK.1 q (by omega) (by omega)
  have h19 : ∀ i : Int, 0 ≤ i → i ≤ 2 → tBy g19 i = tBy cn i ∧ 0 ≤ tBy g19 i ∧ tBy g19 i ≤ 2 := fun i i0 i1 => by
    have := hL.2.2.2.2.2.1 i i0 i1
    rw [show 3 * (0 : Int) + i = i by omega] at this
    omega
  obtain ⟨f0, f9, f10, f11, f12, f13, f15, f16, f17, f20, f21, f22, f23, f26, f28, f31, f32, f33, f38, f41, f44, x14, g23, g24, hf17, c14, c23, c24⟩ := mi_obj hM1
  obtain ⟨g25, g26, g27, g28, g29, g30, g31, g32, g33, g34, g35, g36, g37, g38, g39, g40, g41, g42, g43, c25, c26, c27, c28, c29, c30, c31, c32, c33, c34, c35, c36, c37, c38, c39, c40, c41, c42, c43, -⟩ := mi_arr hM1
  obtain ⟨bq, e1, e2, e3, e4, gc, gt, h9, h10, h11⟩ := co_9 hT
  have hs0 := h19 0 (by omega) (by omega)
  have hs1 := h19 1 (by omega) (by omega)
  have hok := mi_ok hM1 hA1.2.2.2.2.2.1 hA1.2.2.2.2.2.2.1 hA1.2.2.2.2.2.2.2.1
  have hyq : YRQ g19 g21 := yrq_of (cn := cn) hok.2.1 (by omega) (fun y i y0 y1 i0 i1 => by
    obtain ⟨b, Y, x1, x2, x3⟩ := hL.2.2.2.2.2.2.2.1 y y0 (by omega)
    rw [show 242 * (0 : Int) + 121 * y = 121 * y by omega] at x3
    exact yr_ne x3 i i0 i1)
  have HE : ∀ k : Int, 0 ≤ k → k < tBy cn 0 → ∃ b X, bo k.toNat = some b ∧ OBB w b X ∧ 45 ≤ b ∧ BKFX (rBY g20 (51 * k)) X ∧ BKX g20 (51 * k) X := fun k k0 k1 => by
    obtain ⟨b, X, x1, x2, x3⟩ := hL.2.2.2.2.2.2.1 k k0 k1
    rw [show 102 * (0 : Int) + 51 * k = 51 * k by omega] at x3
    have hr := bk_role hT (Or.inl rfl) hL.1.2.2.2.1 x1
    exact ⟨b, X, x1, x2, hi_role hT (by omega), bkf_of hok.1 k0 (by omega) (bkAt_X hT.1 hr x2) x3, x3⟩
  have HY : ∀ k : Int, 0 ≤ k → k < tBy cn 1 → ∃ y Y, ye k.toNat = some y ∧ OBY w y Y ∧ 45 ≤ y ∧ YKX (yK g21 k 0) (yK g21 k 1) (yK g21 k 2) (tBy g21 (121 * k)) Y := fun k k0 k1 => by
    obtain ⟨y, Y, x1, x2, x3⟩ := hL.2.2.2.2.2.2.2.1 k k0 k1
    rw [show 242 * (0 : Int) + 121 * k = 121 * k by omega] at x3
    exact ⟨y, Y, x1, x2, obj_hi hT (Or.inl rfl) (tcp_y hL.1.2.2.2.2.1 _ y x1 0 (by omega)), ykx_of hyq k0 (by omega) x3⟩
  have e1 := two_x run1 (x_state (w := w) 5 a1 a2 a3 a4 l f c e1 e2 e3 e4 (va_rf y6) (va_rf y7) bq cn gc gt bo ye (fun k => rBY g20 (51 * k)) (fun k => yK g21 k 0) (fun k => yK g21 k 1) (fun k => yK g21 k 2) (fun k => tBy g21 (121 * k)) (fun k X => BKX g20 (51 * k) X) h0 hL.1.1 hL.1.2.2.1 hL.1.2.2.2.1 hL.1.2.2.2.2.1 h9 h10 h11 ha1 ha2 ha3 ha4 (by omega) (by omega) HE HY (fun r _ => ∃ v : Int, r = some (.int (Int32.ofInt v)) ∧ ((¬ (((0 ≤ a1 ∧ a1 < tBy g19 0) ∧ (0 ≤ a2 ∧ a2 < tBy g19 1)) ∧ (0 ≤ a3 ∧ a3 ≤ tBy g21 (121 * a2))) ∧ v = -2) ∨ ((((0 ≤ a1 ∧ a1 < tBy g19 0) ∧ (0 ≤ a2 ∧ a2 < tBy g19 1)) ∧ (0 ≤ a3 ∧ a3 ≤ tBy g21 (121 * a2))) ∧ ∃ k : Int, DON (rBY g20 (51 * a1)) (tBy g20 (51 * a1 + 0)) (tBy g20 (51 * a1 + 1)) (yK g21 a2 0) (yK g21 a2 1) (yK g21 a2 2) a3 k ∧ v = if k = a3 then csV (tBy g20 (51 * a1 + 0)) (tBy g20 (51 * a1 + 1)) (csN (rBY g20 (51 * a1)) (tBy g20 (51 * a1 + 0)) (tBy g20 (51 * a1 + 1)) (yK g21 a2 0) (yK g21 a2 1) (yK g21 a2 2) a3.toNat) a4 else -2))) (fun h => ⟨-2, rfl, Or.inl ⟨by omega, rfl⟩⟩) (fun h h2 h4 X v x3 hv w' => ⟨_, rfl, Or.inr ⟨by omega, v, do_eq x3 hv, by rw [st_eq x3]⟩⟩))
  have e2 := two_x run2 (x_stateR w1 4 a1 a2 a3 a4 f0 f9 f10 f11 f12 f13 f15 f16 f17 f20 f21 f22 f23 f26 f28 f31 f32 f33 f38 f41 f44 x14 g19 g20 g21 g25 g26 g27 g28 g29 c14 hA1.2.2.2.2.1 hA1.2.2.2.2.2.1 hA1.2.2.2.2.2.2.1 c25 c26 c27 c28 c29 ⟨ha1, ha2, ha3, ha4⟩ (fun i i0 i1 => (h19 i i0 i1).2) hok.1 hyq (fun r _ => ∃ v : Int, r = some (.int (Int32.ofInt v)) ∧ ((¬ (((0 ≤ a1 ∧ a1 < tBy g19 0) ∧ (0 ≤ a2 ∧ a2 < tBy g19 1)) ∧ (0 ≤ a3 ∧ a3 ≤ tBy g21 (121 * a2))) ∧ v = -2) ∨ ((((0 ≤ a1 ∧ a1 < tBy g19 0) ∧ (0 ≤ a2 ∧ a2 < tBy g19 1)) ∧ (0 ≤ a3 ∧ a3 ≤ tBy g21 (121 * a2))) ∧ ∃ k : Int, DON (rBY g20 (51 * a1)) (tBy g20 (51 * a1 + 0)) (tBy g20 (51 * a1 + 1)) (yK g21 a2 0) (yK g21 a2 1) (yK g21 a2 2) a3 k ∧ v = if k = a3 then csV (tBy g20 (51 * a1 + 0)) (tBy g20 (51 * a1 + 1)) (csN (rBY g20 (51 * a1)) (tBy g20 (51 * a1 + 0)) (tBy g20 (51 * a1 + 1)) (yK g21 a2 0) (yK g21 a2 1) (yK g21 a2 2) a3.toNat) a4 else -2))) (fun v y20 y22 y23 y26 y28 y31 y32 y33 T25 T26 T27 T28 T29 w' _ _ _ _ _ _ _ hv => by
    rcases hv with ⟨h, hv⟩ | ⟨h, h2, hv⟩
    · exact ⟨v, rfl, Or.inl ⟨by omega, hv⟩⟩
    · exact ⟨v, rfl, Or.inr ⟨⟨h, h2⟩, hv⟩⟩))
  obtain ⟨v, ev, hv⟩ := e1
  obtain ⟨v', ev', hv'⟩ := e2
  have : v = v' := by
    rcases hv with ⟨h, hv⟩ | ⟨h, k, hk, hv⟩ <;> rcases hv' with ⟨h', hv'⟩ | ⟨h', k', hk', hv'⟩
    · omega
    · exact absurd h' h
    · exact absurd h h'
    · have := DON_u hk hk'
      subst this
      rw [hv, hv']
  exact ⟨_, ev, by rw [this]; exact ev'⟩
