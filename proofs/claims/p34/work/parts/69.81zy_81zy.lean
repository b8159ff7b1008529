/-! CIRCLES: both sides alike. -/
theorem ea_circles {σ : Nat → Nat} {w w1 w2 : zW} {r r' : Option Value} {mc ms : Nat} {sz kp : Nat → Int32} (hT : TOP σ w) (hX : XT w) (hK : KEEP2 w w1) (a1 a2 : Int) (ha1 : (-2147483648 ≤ a1 ∧ a1 ≤ 2147483647)) (ha2 : (-2147483648 ≤ a2 ∧ a2 ≤ 2147483647)) (run1 : ∀ Q : zQ, Q r w1 → zCl zTab 12 iX11_circles [.ref 0, .int (Int32.ofInt a1), .int (Int32.ofInt a2)] w mc ms Q) (hM1 : MI w1 sz kp) (run2 : ∀ Q : zQ, Q r' w2 → zCl zTab 12 iX12_circles [.ref 14, .int (Int32.ofInt a1), .int (Int32.ofInt a2)] w1 0 0 Q) : rEQ r r' := by
  obtain ⟨g15, g16, g17, g18, g19, g20, g21, g22, kq, gi, hA, h7, hby, ⟨l, f, c, g, cn, bo, ye, si, hL⟩, hk⟩ := id hX
  have hA1 : ARS w1 g15 g16 g17 g18 g19 g20 g21 g22 kq := ars_fr hA fun q hq => hK.1 q (by omega) (by omega)
  have h19 : ∀ i : Int, 0 ≤ i → i ≤ 2 → tBy g19 i = tBy cn i ∧ 0 ≤ tBy g19 i ∧ tBy g19 i ≤ 2 := fun i i0 i1 => by
    have := hL.2.2.2.2.2.1 i i0 i1
    rw [show 3 * (0 : Int) + i = i by omega] at this
    omega
  obtain ⟨mc', ms', r0, w0, hP, run'⟩ := kx_circles hT 4 a1 a2 ha1 ha2
  have e1 := rx_val hT hL ha1 (two_x run1 (run' (fun r _ => RXP 9 w a1 (-1) (fun x0 nn F => cirV F nn a2) r) hP))
  obtain ⟨f0, f9, f10, f11, f12, f13, f15, f16, f17, f20, f21, f22, f23, f26, f28, f31, f32, f33, f38, f41, f44, x14, q19, q20, g25, g26, g27, g28, g29, g30, g31, g32, g33, g34, g35, g36, g37, g38, g39, g40, g41, g42, g43, c14, c19, c20, c25, c26, c27, c28, c29, c30, c31, c32, c33, c34, c35, c36, c37, c38, c39, c40, c41, c42, c43, hf21, hRM, hb33⟩ := mi_rd hM1
  obtain rfl := arEq (c19.symm.trans hA1.2.2.2.2.1)
  obtain rfl := arEq (c20.symm.trans hA1.2.2.2.2.2.1)
  have hok := mi_ok hM1 hA1.2.2.2.2.2.1 hA1.2.2.2.2.2.2.1 hA1.2.2.2.2.2.2.2.1
  have e2 := two_x run2 (x_circlesR w1 5 a1 a2 f0 f9 f10 f11 f12 f13 f15 f16 f17 f20 f21 f22 f23 f26 f28 f31 f32 f33 f38 f41 f44 x14 _ _ g25 g30 g33 g38 g39 g40 g41 g42 g43 c14 c19 c20 c25 c30 c33 c38 c39 c40 c41 c42 c43 ⟨ha1, ha2⟩ (fun i i0 i1 => (h19 i i0 i1).2) hok.1 ⟨hf21, hRM⟩ (fun r _ => r = some (.int (Int32.ofInt (if 0 ≤ a1 ∧ a1 < tBy q19 0 then cirV (rF q20 (51 * a1)) (tBy q20 (51 * a1 + 1)) a2 else -1)))) (fun v z0 z1 z2 z3 z4 z5 z6 z7 z8 z9 z10 z11 z12 z13 w' _ _ _ _ _ _ _ _ _ _ _ hv => by
    rcases hv with ⟨h, hv⟩ | ⟨h, hv⟩
    · rw [hv, if_neg (by omega)]
    · rw [hv, if_pos h]))
  exact ⟨_, e1, e2⟩
