/-! ANSWERS OF WHAT IS TOLD: both sides alike. -/
theorem si_eq {T : Nat → Int32} {o k u : Int} : ∀ {X : tpS}, SIX T o X → siX k u X = rkS T o k u
  | (_, _, x0, g1, g2), ⟨⟨h0, h0a, h0b⟩, hn⟩ => by
    show siV x0 g1 g2 k u = rkS T o k u
    unfold siV rkS
    by_cases c0 : k = -1
    · rw [if_pos c0]
      by_cases c1 : u = 0
      · rw [if_pos ⟨c0, c1⟩, if_pos c1, h0]
      · rw [if_neg (fun h => c1 h.2), if_pos (show k < 0 ∨ x0 ≤ k by omega), if_neg c1]
    · rw [if_neg (fun h => c0 h.1), if_neg c0]
      by_cases c2 : k < 0 ∨ x0 ≤ k
      · rw [if_pos c2, if_neg (by omega)]
      · rw [if_neg c2]
        have hq := hn k (by omega) (by omega)
        by_cases d0 : u = 0
        · rw [if_pos d0, if_pos (by omega), ← hq.1]
          exact congrArg (tBy T) (by omega)
        · rw [if_neg d0]
          by_cases d1 : u = 1
          · rw [if_pos d1, if_pos (by omega), ← hq.2]
            exact congrArg (tBy T) (by omega)
          · rw [if_neg d1, if_neg (by omega)]
theorem siX_k {T : Nat → Int32} {o : Int} : ∀ {X : tpS}, SIX T o X → siXOK X
  | (_, _, x0, g1, g2), ⟨h0, _⟩ => h0.2
theorem mi_ok {w : zW} {sz kp g20 g21 g22 : Nat → Int32} (h : MI w sz kp) (h20 : zix w 20 = some (.inl (1, 408, .inl g20))) (h21 : zix w 21 = some (.inl (1, 968, .inl g21))) (h22 : zix w 22 = some (.inl (1, 104, .inl g22))) : bkOK g20 ∧ yrOK g21 ∧ siOK g22 := by
  refine mi_elim h fun c0 c1 c2 c3 c4 c5 c6 c7 c8 c9 c10 c11 c12 c13 f0 f9 f10 f11 f12 f13 f15 f16 f17 f20 f21 f22 f23 f26 f28 f31 f32 f33 f38 f41 f44 x14 g15 g17 g18 g19 g20_ g21_ g22_ g23 g24 g25 g26 g27 g28 g29 g30 g31 g32 g33 g34 g35 g36 g37 g38 g39 g40 g41 g42 g43 t e b16 b19 b20 b21 b22 b25 b26 b28 b30 b33 b38 => ?_
  subst e
  have e1 := arEq h20
  have e2 := arEq h21
  have e3 := arEq h22
  subst e1 e2 e3
  exact ⟨b20, b21, b22⟩
theorem si_b1 {g : Nat → Int32} (h : siOK g) : ∀ b : Int, 0 ≤ b → b ≤ 1 → 0 ≤ tBy g (13 * b) ∧ tBy g (13 * b) ≤ 6 := fun b b0 b1 => by
  have := h b.toNat (by omega)
  unfold tBy
  rw [show (13 * b).toNat = 13 * b.toNat by omega]
  exact this
theorem ea_fact {σ : Nat → Nat} {w w1 w2 : zW} {r r' : Option Value} {mc ms : Nat} {sz kp : Nat → Int32} (hT : TOP σ w) (hX : XT w) (hK : KEEP2 w w1) (a1 a2 a3 : Int) (ha1 : -2147483648 ≤ a1 ∧ a1 ≤ 2147483647) (ha2 : -2147483648 ≤ a2 ∧ a2 ≤ 2147483647) (ha3 : -2147483648 ≤ a3 ∧ a3 ≤ 2147483647) (run1 : ∀ Q : zQ, Q r w1 → zCl zTab 12 iX11_fact [.ref 0, .int (Int32.ofInt a1), .int (Int32.ofInt a2), .int (Int32.ofInt a3)] w mc ms Q) (hM1 : MI w1 sz kp) (run2 : ∀ Q : zQ, Q r' w2 → zCl zTab 12 iX12_fact [.ref 14, .int (Int32.ofInt a1), .int (Int32.ofInt a2), .int (Int32.ofInt a3)] w1 0 0 Q) : rEQ r r' := by
  obtain ⟨g15, g16, g17, g18, g19, g20, g21, g22, kq, gi, hA, h7, hby, ⟨l, f, c, g, cn, bo, ye, si, hL⟩, hk⟩ := id hX
  obtain ⟨y6, y7, h0, -⟩ := top_o hT
  have hA1 : ARS w1 g15 g16 g17 g18 g19 g20 g21 g22 kq := ars_fr hA fun q hq => hK.1 q (by omega) (by omega)
  have h19 : ∀ i : Int, 0 ≤ i → i ≤ 2 → tBy g19 i = tBy cn i ∧ 0 ≤ tBy g19 i ∧ tBy g19 i ≤ 2 := fun i i0 i1 => by
    have := hL.2.2.2.2.2.1 i i0 i1
    rw [show 3 * (0 : Int) + i = i by omega] at this
    omega
  obtain ⟨f0, f9, f10, f11, f12, f13, f15, f16, f17, f20, f21, f22, f23, f26, f28, f31, f32, f33, f38, f41, f44, x14, g23, g24, hf17, c14, c23, c24⟩ := mi_obj hM1
  have hs0 := h19 2 (by omega) (by omega)
  have hok := mi_ok hM1 hA1.2.2.2.2.2.1 hA1.2.2.2.2.2.2.1 hA1.2.2.2.2.2.2.2.1
  have e1 := two_x run1 (x_fact (w := w) 8 a1 a2 a3 l f c (va_rf y6) (va_rf y7) cn si h0 hL.1.1 hL.1.2.2.1 hL.1.2.2.2.2.2 ha1 ha2 ha3 (by omega) (fun r _ => r = some (.int (Int32.ofInt (if 0 ≤ a1 ∧ a1 < tBy g19 2 then rkS g22 (13 * a1) a2 a3 else -2)))) (fun h => by rw [if_neg (by omega)]) (fun h => by
    obtain ⟨b, X, x1, x2, x3⟩ := hL.2.2.2.2.2.2.2.2 a1 h.1 h.2
    rw [show 26 * (0 : Int) + 13 * a1 = 13 * a1 by omega] at x3
    refine ⟨b, X, x1, x2, siX_k x3, ?_⟩
    rw [if_pos (by omega), si_eq x3]))
  have e2 := two_x run2 (x_factR w1 8 a1 a2 a3 f0 f9 f10 f11 f12 f13 f15 f16 f17 f20 f21 f22 f23 f26 f28 f31 f32 f33 f38 f41 f44 x14 g19 g22 c14 hA1.2.2.2.2.1 hA1.2.2.2.2.2.2.2.1 ⟨ha1, ha2, ha3⟩ (fun i i0 i1 => (h19 i i0 i1).2) (si_b1 hok.2.2) (fun r _ => r = some (.int (Int32.ofInt (if 0 ≤ a1 ∧ a1 < tBy g19 2 then rkS g22 (13 * a1) a2 a3 else -2)))) (fun v y41 w' _ _ hv => by
    rcases hv with ⟨h, hv⟩ | ⟨h, hv⟩
    · rw [hv, if_neg (by omega)]
    · rw [hv, if_pos h]))
  exact ⟨_, e1, e2⟩
