/-! LEVELS: both sides alike. -/
theorem rx_valL {σ : Nat → Nat} {w : zW} (hT : TOP σ w) {g15 g16 g17 g18 g19 g20 g21 g22 : Nat → Int32} {l f c : Int} {g cn : Nat → Int32} {bo ye si : Nat → Option Nat} (hL : TLE w 1 0 g15 g16 g17 g18 g19 g20 g21 g22 l f c g cn bo ye si) {dd : Nat} {a dft : Int} {V : Int → Int → (Int → Int → Int) → Int} {r : Option Value} (ha : -2147483648 ≤ a ∧ a ≤ 2147483647) (h : RXPL dd w a dft V r) : r = some (.long (Int64.ofInt (if 0 ≤ a ∧ a < tBy g19 0 then V (tBy g20 (51 * a)) (tBy g20 (51 * a + 1)) (rF g20 (51 * a)) else dft))) := by
  obtain ⟨o, wm, hb, hk, h⟩ := h
  obtain ⟨y6, y7, h0, -⟩ := top_o hT
  have h19 := hL.2.2.2.2.2.1 0 (by omega) (by omega)
  rw [show 3 * (0 : Int) + 0 = 0 by omega] at h19
  have eo := rf_inj (two_x hb (x_bookAt (w := w) dd a l f c (va_rf y6) (va_rf y7) cn bo h0 hL.1.1 hL.1.2.2.1 hL.1.2.2.2.1 ha (by omega) (fun r _ => r = some (va_rf (if 0 ≤ a ∧ a < tBy cn 0 then bo a.toNat else none))) rfl))
  by_cases hc : 0 ≤ a ∧ a < tBy g19 0
  · rw [if_pos hc]
    rw [if_pos (by omega)] at eo
    obtain ⟨b, Y, x1, x2, x3⟩ := hL.2.2.2.2.2.2.1 a hc.1 (by omega)
    rw [show 102 * (0 : Int) + 51 * a = 51 * a by omega] at x3
    rw [x1] at eo
    rcases h with ⟨h1, -⟩ | ⟨z, X, h1, hX, hA, hn, hb0, hr⟩
    · rw [h1] at eo
      cases eo
    · rw [h1] at eo
      obtain rfl := Option.some.inj eo
      have hY : OBB wm z Y := OBB_fr x2 fun j hj => hk _ (Or.inr ⟨1, Or.inl rfl, Or.inr (tcp_b hL.1.2.2.2.1 _ _ x1 j hj)⟩)
      obtain ⟨e0, e1, e2⟩ := bk_same (by omega) hX hY hA hn hb0 x3
      rw [hr, e0, e1, e2]
  · rw [if_neg hc]
    rw [if_neg (by omega)] at eo
    rcases h with ⟨-, hr⟩ | ⟨z, X, h1, -⟩
    · exact hr
    · rw [h1] at eo
      cases eo
noncomputable def rEL (r r' : Option Value) : Prop := ∃ v, r = some (.long v) ∧ r' = some (.long v)
theorem ea_mean {σ : Nat → Nat} {w w1 w2 : zW} {r r' : Option Value} {mc ms : Nat} {sz kp : Nat → Int32} (hT : TOP σ w) (hX : XT w) (hK : KEEP2 w w1) (a1 a2 a3 : Int) (ha1 : (-2147483648 ≤ a1 ∧ a1 ≤ 2147483647)) (ha2 : (-2147483648 ≤ a2 ∧ a2 ≤ 2147483647)) (ha3 : (-2147483648 ≤ a3 ∧ a3 ≤ 2147483647)) (run1 : ∀ Q : zQ, Q r w1 → zCl zTab 12 iX11_mean [.ref 0, .int (Int32.ofInt a1), .int (Int32.ofInt a2), .int (Int32.ofInt a3)] w mc ms Q) (hM1 : MI w1 sz kp) (run2 : ∀ Q : zQ, Q r' w2 → zCl zTab 12 iX12_mean [.ref 14, .int (Int32.ofInt a1), .int (Int32.ofInt a2), .int (Int32.ofInt a3)] w1 0 0 Q) : rEL r r' := by
  obtain ⟨g15, g16, g17, g18, g19, g20, g21, g22, kq, gi, hA, h7, hby, ⟨l, f, c, g, cn, bo, ye, si, hL⟩, hk⟩ := id hX
  have hA1 : ARS w1 g15 g16 g17 g18 g19 g20 g21 g22 kq := ars_fr hA fun q hq => hK.1 q (by omega) (by omega)
  have h19 : ∀ i : Int, 0 ≤ i → i ≤ 2 → tBy g19 i = tBy cn i ∧ 0 ≤ tBy g19 i ∧ tBy g19 i ≤ 2 := fun i i0 i1 => by
    have := hL.2.2.2.2.2.1 i i0 i1
    rw [show 3 * (0 : Int) + i = i by omega] at this
    omega
  obtain ⟨mc', ms', r0, w0, hP, run'⟩ := kx_mean hT 5 a1 a2 a3 ha1 ha2 ha3
  have e1 := rx_valL hT hL ha1 (two_x run1 (run' (fun r _ => RXPL 9 w a1 (-1) (fun x0 nn F => meaV F x0 nn a2 a3) r) hP))
  obtain ⟨f0, f9, f10, f11, f12, f13, f15, f16, f17, f20, f21, f22, f23, f26, f28, f31, f32, f33, f38, f41, f44, x14, q19, q20, g25, g26, g27, g28, g29, g30, g31, g32, g33, g34, g35, g36, g37, g38, g39, g40, g41, g42, g43, c14, c19, c20, c25, c26, c27, c28, c29, c30, c31, c32, c33, c34, c35, c36, c37, c38, c39, c40, c41, c42, c43, hf21, hRM, hb33⟩ := mi_rd hM1
  obtain rfl := arEq (c19.symm.trans hA1.2.2.2.2.1)
  obtain rfl := arEq (c20.symm.trans hA1.2.2.2.2.2.1)
  have hok := mi_ok hM1 hA1.2.2.2.2.2.1 hA1.2.2.2.2.2.2.1 hA1.2.2.2.2.2.2.2.1
  have e2 := two_x run2 (x_meanR w1 6 a1 a2 a3 f0 f9 f10 f11 f12 f13 f15 f16 f17 f20 f21 f22 f23 f26 f28 f31 f32 f33 f38 f41 f44 x14 _ _ g25 g30 g26 g27 g35 c14 c19 c20 c25 c30 c26 c27 c35 ⟨ha1, ha2, ha3⟩ (fun i i0 i1 => (h19 i i0 i1).2) hok.1 ⟨hf21, hRM⟩ (fun r _ => r = some (.long (Int64.ofInt (if 0 ≤ a1 ∧ a1 < tBy q19 0 then meaV (rF q20 (51 * a1)) (tBy q20 (51 * a1)) (tBy q20 (51 * a1 + 1)) a2 a3 else -1)))) (fun v z0 z1 z2 z3 z4 z5 z6 z7 z8 z9 w' _ _ _ _ _ _ _ hv => by
    rcases hv with ⟨h, hv⟩ | ⟨h, hv⟩
    · rw [hv, if_neg (by omega)]
    · rw [hv, if_pos h]))
  exact ⟨_, e1, e2⟩
