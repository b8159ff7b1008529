/-! READINGS: both sides alike. -/
theorem rf_inj {a b : Option Nat} (h : (some (va_rf a) : Option Value) = some (va_rf b)) : a = b := by
  have h := Option.some.inj h
  cases a with
  | none => cases b with
    | none => rfl
    | some b => cases h
  | some a => cases b with
    | none => cases h
    | some b => cases h; rfl
theorem i32_e {a b : Int} (h : Int32.ofInt a = Int32.ofInt b) (ha : r32 a) (hb : r32 b) : a = b := by
  rw [← zti ha.1 ha.2, ← zti hb.1 hb.2, h]
theorem bk_same {w : zW} {q : Nat} {T : Nat → Int32} {o : Int} (ho : 0 ≤ o) : ∀ {X Y : tpB}, OBB w q X → OBB w q Y → bkXA w q X → bkX1 X → (0 ≤ bkB X ∧ bkB X ≤ 5460) → BKX T o Y → bkB X = tBy T o ∧ bkN X = tBy T (o + 1) ∧ bkF X = rF T o
  | (f, c, x0, x1, x2, g1, g2, g3, g4), (f', c', y0, y1, y2, k1, k2, k3, k4), hX, hY, hA, h1, h0, hB => by
    replace h1 : 0 ≤ x1 ∧ x1 ≤ 5 := h1
    replace h0 : 0 ≤ x0 ∧ x0 ≤ 5460 := h0
    replace hA : bkAt w q g1 g2 g3 g4 := hA
    obtain ⟨b0, b1, -⟩ := id hB
    have e := Option.some.inj (hX.1.symm.trans hY.1)
    have e0 : Int32.ofInt x0 = Int32.ofInt y0 ∧ Int32.ofInt x1 = Int32.ofInt y1 := by
      injection e with e
      injection e with _ e
      injection e with ea e
      injection e with eb _
      injection ea with ea
      injection eb with eb
      exact ⟨ea, eb⟩
    have q1 := arEq (hX.2.1.symm.trans hY.2.1)
    have q2 := arEq (hX.2.2.1.symm.trans hY.2.2.1)
    have q3 := arEq (hX.2.2.2.1.symm.trans hY.2.2.2.1)
    have q4 := arEq (hX.2.2.2.2.symm.trans hY.2.2.2.2)
    subst q1 q2 q3 q4
    have y0r : r32 y0 := b0 ▸ tBy_r T o
    refine ⟨?_, ?_, ?_⟩
    · show x0 = _
      rw [← b0]
      exact i32_e e0.1 ⟨by omega, by omega⟩ y0r
    · show x1 = _
      rw [← b1.1]
      exact i32_e e0.2 ⟨by omega, by omega⟩ ⟨by omega, by omega⟩
    · show rdF g1 g2 g3 g4 = rF T o
      funext r t
      unfold rdF rF
      by_cases hr : 0 ≤ r ∧ r ≤ 4
      · rw [if_pos hr, if_pos hr]
        exact cby_eq ho hr.1 (by omega) hA hB
      · rw [if_neg hr, if_neg hr]
theorem rx_val {σ : Nat → Nat} {w : zW} (hT : TOP σ w) {g15 g16 g17 g18 g19 g20 g21 g22 : Nat → Int32} {l f c : Int} {g cn : Nat → Int32} {bo ye si : Nat → Option Nat} (hL : TLE w 1 0 g15 g16 g17 g18 g19 g20 g21 g22 l f c g cn bo ye si) {dd : Nat} {a dft : Int} {V : Int → Int → (Int → Int → Int) → Int} {r : Option Value} (ha : -2147483648 ≤ a ∧ a ≤ 2147483647) (h : RXP dd w a dft V r) : r = some (.int (Int32.ofInt (if 0 ≤ a ∧ a < tBy g19 0 then V (tBy g20 (51 * a)) (tBy g20 (51 * a + 1)) (rF g20 (51 * a)) else dft))) := by
  obtain ⟨o, wm, hb, hk, h⟩ := h
  obtain ⟨y6, y7, h0, -⟩ := top_o hT
  have h19 := hL.2.2.2.2.2.1 0 (by omega) (by omega)
  rw [show 3 * (0 : Int) + 0 = 0 by omega] at h19
  have eo := rf_inj (two_x hb (x_bookAt (w := w) dd a l f c (va_rf y6) (va_rf y7) cn bo h0 hL.1.1 hL.1.2.2.1 hL.1.2.2.2.1 ha (by omega) (fun r _ => r = some (va_rf (if 0 ≤ a ∧ a < tBy cn 0 then bo a.toNat else none))) rfl))
  by_cases hc : 0 ≤ a ∧ a < tBy g19 0
  · rw [if_pos hc]
    rw [if_pos (by omega)] at eo
    obtain ⟨b, Y, x1, x2, x3⟩ := hL.2.2.2.2.2.2.1 a hc.1 (by omega)
    rw [show 102 * (0 : Int) + 51 * a = 51 * a by omega] at x3
    rw [x1] at eo
    rcases h with ⟨h1, -⟩ | ⟨z, X, h1, hX, hA, hn, hb0, hr⟩
    · rw [h1] at eo
      cases eo
    · rw [h1] at eo
      obtain rfl := Option.some.inj eo
      have hY : OBB wm z Y := OBB_fr x2 fun j hj => hk _ (Or.inr ⟨1, Or.inl rfl, Or.inr (tcp_b hL.1.2.2.2.1 _ _ x1 j hj)⟩)
      obtain ⟨e0, e1, e2⟩ := bk_same (by omega) hX hY hA hn hb0 x3
      rw [hr, e0, e1, e2]
  · rw [if_neg hc]
    rw [if_neg (by omega)] at eo
    rcases h with ⟨-, hr⟩ | ⟨z, X, h1, -⟩
    · exact hr
    · rw [h1] at eo
      cases eo
theorem mi_rd {w : zW} {sz kp : Nat → Int32} (h : MI w sz kp) : ∃ (f0 f9 f10 f11 f12 f13 f15 f16 f17 f20 f21 f22 f23 f26 f28 f31 f32 f33 f38 f41 f44 : Int) (x14 : Int64) (g19 g20 g25 g26 g27 g28 g29 g30 g31 g32 g33 g34 g35 g36 g37 g38 g39 g40 g41 g42 g43 : Nat → Int32), zix w 14 = some (.inr (11, [.int (Int32.ofInt f0), .ref 15, .ref 16, .ref 17, .ref 18, .ref 19, .ref 20, .ref 21, .ref 22, .int (Int32.ofInt f9), .int (Int32.ofInt f10), .int (Int32.ofInt f11), .int (Int32.ofInt f12), .int (Int32.ofInt f13), .long x14, .int (Int32.ofInt f15), .int (Int32.ofInt f16), .int (Int32.ofInt f17), .ref 23, .ref 24, .int (Int32.ofInt f20), .int (Int32.ofInt f21), .int (Int32.ofInt f22), .int (Int32.ofInt f23), .ref 25, .ref 26, .int (Int32.ofInt f26), .ref 27, .int (Int32.ofInt f28), .ref 28, .ref 29, .int (Int32.ofInt f31), .int (Int32.ofInt f32), .int (Int32.ofInt f33), .ref 30, .ref 31, .ref 32, .ref 33, .int (Int32.ofInt f38), .ref 34, .ref 35, .int (Int32.ofInt f41), .ref 36, .ref 37, .int (Int32.ofInt f44), .ref 38, .ref 39, .ref 40, .ref 41, .ref 42, .ref 43, .ref 44])) ∧ zix w 19 = some (.inl (1, 12, .inl g19)) ∧ zix w 20 = some (.inl (1, 408, .inl g20)) ∧ zix w 25 = some (.inl (1, 7, .inl g25)) ∧ zix w 26 = some (.inl (1, 7, .inl g26)) ∧ zix w 27 = some (.inl (1, 49, .inl g27)) ∧ zix w 28 = some (.inl (1, 4, .inl g28)) ∧ zix w 29 = some (.inl (1, 5, .inl g29)) ∧ zix w 30 = some (.inl (1, 27305, .inl g30)) ∧ zix w 31 = some (.inl (1, 5461, .inl g31)) ∧ zix w 32 = some (.inl (1, 5461, .inl g32)) ∧ zix w 33 = some (.inl (1, 5461, .inl g33)) ∧ zix w 34 = some (.inl (1, 5461, .inl g34)) ∧ zix w 35 = some (.inl (1, 54610, .inl g35)) ∧ zix w 36 = some (.inl (1, 54610, .inl g36)) ∧ zix w 37 = some (.inl (1, 54610, .inl g37)) ∧ zix w 38 = some (.inl (1, 5461, .inl g38)) ∧ zix w 39 = some (.inl (1, 5461, .inl g39)) ∧ zix w 40 = some (.inl (1, 5461, .inl g40)) ∧ zix w 41 = some (.inl (1, 5461, .inl g41)) ∧ zix w 42 = some (.inl (1, 5461, .inl g42)) ∧ zix w 43 = some (.inl (1, 27305, .inl g43)) ∧ (-1 ≤ f21 ∧ f21 ≤ 1) ∧ RMD g30 g20 f21 ∧ zB 0 5460 g33 := by
  refine mi_elimR h fun c0 c1 c2 c3 c4 c5 c6 c7 c8 c9 c10 c11 c12 c13 f0 f9 f10 f11 f12 f13 f15 f16 f17 f20 f21 f22 f23 f26 f28 f31 f32 f33 f38 f41 f44 x14 g15 g17 g18 g19 g20 g21 g22 g23 g24 g25 g26 g27 g28 g29 g30 g31 g32 g33 g34 g35 g36 g37 g38 g39 g40 g41 g42 g43 t e b16 b19 b20 b21 b22 b25 b26 b28 b30 b33 b38 bf21 brm => ?_
  subst e
  exact ⟨f0, f9, f10, f11, f12, f13, f15, f16, f17, f20, f21, f22, f23, f26, f28, f31, f32, f33, f38, f41, f44, x14, g19, g20, g25, g26, g27, g28, g29, g30, g31, g32, g33, g34, g35, g36, g37, g38, g39, g40, g41, g42, g43, rfl, rfl, rfl, rfl, rfl, rfl, rfl, rfl, rfl, rfl, rfl, rfl, rfl, rfl, rfl, rfl, rfl, rfl, rfl, rfl, rfl, rfl, bf21, brm, b33⟩

