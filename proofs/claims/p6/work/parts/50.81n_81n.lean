/-! READING: both sides alike. -/
theorem mi_arr {w : zW} {sz kp : Nat → Int32} (h : MI w sz kp) : ∃ (g25 g26 g27 g28 g29 g30 g31 g32 g33 g34 g35 g36 g37 g38 g39 g40 g41 g42 g43 : Nat → Int32), zix w 25 = some (.inl (1, 7, .inl g25)) ∧ zix w 26 = some (.inl (1, 7, .inl g26)) ∧ zix w 27 = some (.inl (1, 49, .inl g27)) ∧ zix w 28 = some (.inl (1, 4, .inl g28)) ∧ zix w 29 = some (.inl (1, 5, .inl g29)) ∧ zix w 30 = some (.inl (1, 27305, .inl g30)) ∧ zix w 31 = some (.inl (1, 5461, .inl g31)) ∧ zix w 32 = some (.inl (1, 5461, .inl g32)) ∧ zix w 33 = some (.inl (1, 5461, .inl g33)) ∧ zix w 34 = some (.inl (1, 5461, .inl g34)) ∧ zix w 35 = some (.inl (1, 54610, .inl g35)) ∧ zix w 36 = some (.inl (1, 54610, .inl g36)) ∧ zix w 37 = some (.inl (1, 54610, .inl g37)) ∧ zix w 38 = some (.inl (1, 5461, .inl g38)) ∧ zix w 39 = some (.inl (1, 5461, .inl g39)) ∧ zix w 40 = some (.inl (1, 5461, .inl g40)) ∧ zix w 41 = some (.inl (1, 5461, .inl g41)) ∧ zix w 42 = some (.inl (1, 5461, .inl g42)) ∧ zix w 43 = some (.inl (1, 27305, .inl g43)) ∧ zB 0 3 g25 ∧ zB 0 3 g26 ∧ zB 0 5460 g28 ∧ zB 0 5460 g30 ∧ zB 0 5460 g33 ∧ zB 0 5460 g38 := by
  refine mi_elim h fun c0 c1 c2 c3 c4 c5 c6 c7 c8 c9 c10 c11 c12 c13 f0 f9 f10 f11 f12 f13 f15 f16 f17 f20 f21 f22 f23 f26 f28 f31 f32 f33 f38 f41 f44 x14 g15 g17 g18 g19 g20 g21 g22 g23 g24 g25 g26 g27 g28 g29 g30 g31 g32 g33 g34 g35 g36 g37 g38 g39 g40 g41 g42 g43 t e b16 b19 b20 b21 b22 b25 b26 b28 b30 b33 b38 => ?_
  subst e
  exact ⟨g25, g26, g27, g28, g29, g30, g31, g32, g33, g34, g35, g36, g37, g38, g39, g40, g41, g42, g43, rfl, rfl, rfl, rfl, rfl, rfl, rfl, rfl, rfl, rfl, rfl, rfl, rfl, rfl, rfl, rfl, rfl, rfl, rfl, b25, b26, b28, b30, b33, b38⟩
theorem ea_read {σ : Nat → Nat} {w w1 w2 : zW} {r r' : Option Value} {mc ms : Nat} {sz kp : Nat → Int32} (hT : TOP σ w) (hX : XT w) (hK : KEEP2 w w1) (a1 a2 a3 : Int) (ha1 : -2147483648 ≤ a1 ∧ a1 ≤ 2147483647) (ha2 : -2147483648 ≤ a2 ∧ a2 ≤ 2147483647) (ha3 : -2147483648 ≤ a3 ∧ a3 ≤ 2147483647) (run1 : ∀ Q : zQ, Q r w1 → zCl zTab 12 iX11_read [.ref 0, .int (Int32.ofInt a1), .int (Int32.ofInt a2), .int (Int32.ofInt a3)] w mc ms Q) (hM1 : MI w1 sz kp) (run2 : ∀ Q : zQ, Q r' w2 → zCl zTab 12 iX12_read [.ref 14, .int (Int32.ofInt a1), .int (Int32.ofInt a2), .int (Int32.ofInt a3)] w1 0 0 Q) : rEQ r r' := by
  obtain ⟨g15, g16, g17, g18, g19, g20, g21, g22, kq, gi, hA, h7, hby, ⟨l, f, c, g, cn, bo, ye, si, hL⟩, hk⟩ := id hX
  obtain ⟨y6, y7, h0, -⟩ := top_o hT
  have hA1 : ARS w1 g15 g16 g17 g18 g19 g20 g21 g22 kq := ars_fr hA fun q hq => hK.1 q (by omega) (by omega)
  have h19 : ∀ i : Int, 0 ≤ i → i ≤ 2 → tBy g19 i = tBy cn i ∧ 0 ≤ tBy g19 i ∧ tBy g19 i ≤ 2 := fun i i0 i1 => by
    have := hL.2.2.2.2.2.1 i i0 i1
    rw [show 3 * (0 : Int) + i = i by omega] at this
    omega
  obtain ⟨f0, f9, f10, f11, f12, f13, f15, f16, f17, f20, f21, f22, f23, f26, f28, f31, f32, f33, f38, f41, f44, x14, g23, g24, hf17, c14, c23, c24⟩ := mi_obj hM1
  obtain ⟨g25, g26, g27, g28, g29, g30, g31, g32, g33, g34, g35, g36, g37, g38, g39, g40, g41, g42, g43, c25, c26, c27, c28, c29, c30, c31, c32, c33, c34, c35, c36, c37, c38, c39, c40, c41, c42, c43, -⟩ := mi_arr hM1
  have hs0 := h19 0 (by omega) (by omega)
  have hok := mi_ok hM1 hA1.2.2.2.2.2.1 hA1.2.2.2.2.2.2.1 hA1.2.2.2.2.2.2.2.1
  have e1 := two_x run1 (x_read (w := w) 8 a1 a2 a3 l f c (va_rf y6) (va_rf y7) cn bo (fun k X => BKX g20 (51 * k) X) h0 hL.1.1 hL.1.2.2.1 hL.1.2.2.2.1 ha1 ha2 ha3 (by omega) (fun k k0 k1 => by
    obtain ⟨b, X, x1, x2, x3⟩ := hL.2.2.2.2.2.2.1 k k0 k1
    rw [show 102 * (0 : Int) + 51 * k = 51 * k by omega] at x3
    exact ⟨b, X, x1, x2, bkX_1 x3, bkAt_X hT.1 (bk_role hT (Or.inl rfl) hL.1.2.2.2.1 x1) x2, x3⟩) (fun r _ => r = some (.int (Int32.ofInt (if (0 ≤ a1 ∧ a1 < tBy g19 0) ∧ (0 ≤ a2 ∧ a2 ≤ 5460) ∧ (0 ≤ a3 ∧ a3 < tBy g20 (51 * a1 + 1)) then rBY g20 (51 * a1) a3 a2 else -1)))) (fun h => by rw [if_neg (by omega)]) (fun h b X hb hO hA' x3 => by
    have hq := rd_eq (r := a3) (t := a2) (by omega) hA' x3
    rw [hq]
    by_cases hz : (0 ≤ a2 ∧ a2 ≤ 5460) ∧ (0 ≤ a3 ∧ a3 < tBy g20 (51 * a1 + 1))
    · rw [if_pos hz, if_pos ⟨by omega, hz⟩]
    · rw [if_neg hz, if_neg (fun y => hz y.2)]))
  have e2 := two_x run2 (x_readR w1 7 a1 a2 a3 f0 f9 f10 f11 f12 f13 f15 f16 f17 f20 f21 f22 f23 f26 f28 f31 f32 f33 f38 f41 f44 x14 g19 g20 g25 c14 hA1.2.2.2.2.1 hA1.2.2.2.2.2.1 c25 ⟨ha1, ha2, ha3⟩ (fun i i0 i1 => (h19 i i0 i1).2) hok.1 (bk_b1 hok.1) (fun r _ => r = some (.int (Int32.ofInt (if (0 ≤ a1 ∧ a1 < tBy g19 0) ∧ (0 ≤ a2 ∧ a2 ≤ 5460) ∧ (0 ≤ a3 ∧ a3 < tBy g20 (51 * a1 + 1)) then rBY g20 (51 * a1) a3 a2 else -1)))) (fun v y20 y22 y23 y26 T' w' _ _ _ hv => by
    rcases hv with ⟨h, hv⟩ | ⟨h, hv⟩
    · rw [hv, if_neg (by omega)]
    · rw [hv, if_pos h]))
  exact ⟨_, e1, e2⟩
