/-! ANSWERS OF WHAT IS TOLD: both sides alike. -/
theorem bk_eq {T : Nat → Int32} {o u : Int} : ∀ {X : tpB}, BKX T o X → bkX u X = rkB T o u
  | (_, _, x0, x1, _, g1, g2, g3, g4), ⟨h0, ⟨h1, h1a, h1b⟩, hk, hs, hn⟩ => by
    show bkV x0 x1 g1 g2 g3 g4 u = rkB T o u
    unfold bkV rkB
    by_cases c0 : u = 0
    · rw [if_pos c0, if_neg (by omega), if_neg (by omega), if_neg (by omega), if_pos c0, h0, Int.add_zero]
    · rw [if_neg c0]
      by_cases c1 : u = 1
      · rw [if_pos c1, if_neg (by omega), if_neg (by omega), if_neg (by omega), if_neg c0, if_pos c1, h1]
      · rw [if_neg c1]
        by_cases c2 : 10 ≤ u ∧ u < 14
        · rw [if_pos c2, if_pos (by omega), ← hk (u - 10) (by omega) (by omega)]
          exact congrArg (tBy T) (by omega)
        · rw [if_neg c2, if_neg (show ¬ (10 ≤ u ∧ u ≤ 13) by omega)]
          by_cases c3 : 20 ≤ u ∧ u < 20 + x1
          · rw [if_pos c3, if_pos (by omega), ← (hs (u - 20) (by omega) (by omega)).1]
            exact congrArg (tBy T) (by omega)
          · rw [if_neg c3, if_neg (show ¬ (20 ≤ u ∧ u ≤ 19 + tBy T (o + 1)) by omega)]
            by_cases c4 : u < 30
            · rw [if_pos c4, if_neg (by omega), if_neg c0, if_neg c1]
            · rw [if_neg c4]
              unfold bsV
              by_cases c5 : u ≤ 29 + 10 * tBy T (o + 1)
              · have hr := hs ((u - 30) / 10) (by omega) (by omega)
                have e6 : tBy T (o + (6 + (u - 30) / 10)) = tBy g2 ((u - 30) / 10) := hr.1
                rw [if_pos (show 30 ≤ u ∧ u ≤ 29 + 10 * tBy T (o + 1) by omega)]
                by_cases c6 : tBy g2 ((u - 30) / 10) ≤ (u - 30) % 10 / 2
                · rw [if_pos (Or.inr c6), if_neg (by omega)]
                · have hq := hn ((u - 30) / 10) ((u - 30) % 10 / 2) (by omega) (by omega) (by omega) (by omega)
                  rw [if_neg (by omega), if_pos (show u % 10 < 2 * tBy T (o + (6 + (u - 30) / 10)) by omega)]
                  by_cases c7 : (u - 30) % 10 % 2 = 0
                  · rw [if_pos c7]
                    refine Eq.trans ?_ (hq.1.symm.trans ?_)
                    · exact congrArg (tBy g3) (by omega)
                    · exact congrArg (tBy T) (by omega)
                  · rw [if_neg c7]
                    refine Eq.trans ?_ (hq.2.symm.trans ?_)
                    · exact congrArg (tBy g4) (by omega)
                    · exact congrArg (tBy T) (by omega)
              · rw [if_pos (Or.inl (by omega)), if_neg (show ¬ (30 ≤ u ∧ u ≤ 29 + 10 * tBy T (o + 1)) by omega), if_neg c0, if_neg c1]
theorem yr_eq {T : Nat → Int32} {o k u : Int} : ∀ {X : tpY}, YRX T o X → yrX k u X = rkY T o k u
  | (_, _, x0, g1, g2, g3), ⟨⟨h0, h0a, h0b⟩, hn⟩ => by
    show yrV x0 g1 g2 g3 k u = rkY T o k u
    unfold yrV rkY
    by_cases c0 : k = -1
    · rw [if_pos c0]
      by_cases c1 : u = 0
      · rw [if_pos ⟨c0, c1⟩, if_pos c1, h0]
      · rw [if_neg (fun h => c1 h.2), if_pos (show k < 0 ∨ x0 ≤ k by omega), if_neg c1]
    · rw [if_neg (fun h => c0 h.1), if_neg c0]
      by_cases c2 : k < 0 ∨ x0 ≤ k
      · rw [if_pos c2, if_neg (by omega)]
      · rw [if_neg c2]
        have hq := hn k (by omega) (by omega)
        by_cases d0 : u = 0
        · rw [if_pos d0, if_pos (by omega), ← hq.1]
          exact congrArg (tBy T) (by omega)
        · rw [if_neg d0]
          by_cases d1 : u = 1
          · rw [if_pos d1, if_pos (by omega), ← hq.2.1]
            exact congrArg (tBy T) (by omega)
          · rw [if_neg d1]
            by_cases d2 : u = 2
            · rw [if_pos d2, if_pos (by omega), ← hq.2.2.1]
              exact congrArg (tBy T) (by omega)
            · rw [if_neg d2, if_neg (by omega)]
theorem si_eq {T : Nat → Int32} {o k u : Int} : ∀ {X : tpS}, SIX T o X → siX k u X = rkS T o k u
  | (_, _, x0, g1, g2), ⟨⟨h0, h0a, h0b⟩, hn⟩ => by
    show siV x0 g1 g2 k u = rkS T o k u
    unfold siV rkS
    by_cases c0 : k = -1
    · rw [if_pos c0]
      by_cases c1 : u = 0
      · rw [if_pos ⟨c0, c1⟩, if_pos c1, h0]
      · rw [if_neg (fun h => c1 h.2), if_pos (show k < 0 ∨ x0 ≤ k by omega), if_neg c1]
    · rw [if_neg (fun h => c0 h.1), if_neg c0]
      by_cases c2 : k < 0 ∨ x0 ≤ k
      · rw [if_pos c2, if_neg (by omega)]
      · rw [if_neg c2]
        have hq := hn k (by omega) (by omega)
        by_cases d0 : u = 0
        · rw [if_pos d0, if_pos (by omega), ← hq.1]
          exact congrArg (tBy T) (by omega)
        · rw [if_neg d0]
          by_cases d1 : u = 1
          · rw [if_pos d1, if_pos (by omega), ← hq.2]
            exact congrArg (tBy T) (by omega)
          · rw [if_neg d1, if_neg (by omega)]
theorem bkX_k {T : Nat → Int32} {o : Int} : ∀ {X : tpB}, BKX T o X → bkXOK X
  | (_, _, x0, x1, _, g1, g2, g3, g4), ⟨h0, h1, _, hs, _⟩ => ⟨h1.2, by rw [h0]; exact tBy_r T o, fun i i0 i1 => (hs i i0 i1).2⟩
theorem yrX_k {T : Nat → Int32} {o : Int} : ∀ {X : tpY}, YRX T o X → yrXOK X
  | (_, _, x0, g1, g2, g3), ⟨h0, _⟩ => h0.2
theorem siX_k {T : Nat → Int32} {o : Int} : ∀ {X : tpS}, SIX T o X → siXOK X
  | (_, _, x0, g1, g2), ⟨h0, _⟩ => h0.2
theorem mi_ok {w : zW} {sz kp g20 g21 g22 : Nat → Int32} (h : MI w sz kp) (h20 : zix w 20 = some (.inl (1, 408, .inl g20))) (h21 : zix w 21 = some (.inl (1, 968, .inl g21))) (h22 : zix w 22 = some (.inl (1, 104, .inl g22))) : bkOK g20 ∧ yrOK g21 ∧ siOK g22 := by
  refine mi_elim h fun c0 c1 c2 c3 c4 c5 c6 c7 c8 c9 c10 c11 c12 c13 f0 f9 f10 f11 f12 f13 f15 f16 f17 f20 f21 f22 f23 f26 f28 f31 f32 f33 f38 f41 f44 x14 g15 g17 g18 g19 g20_ g21_ g22_ g23 g24 g25 g26 g27 g28 g29 g30 g31 g32 g33 g34 g35 g36 g37 g38 g39 g40 g41 g42 g43 t e b16 b19 b20 b21 b22 b25 b26 b28 b30 b33 b38 => ?_
  subst e
  have e1 := arEq h20
  have e2 := arEq h21
  have e3 := arEq h22
  subst e1 e2 e3
  exact ⟨b20, b21, b22⟩
theorem bk_b1 {g : Nat → Int32} (h : bkOK g) : ∀ b : Int, 0 ≤ b → b ≤ 1 → 0 ≤ tBy g (51 * b + 1) ∧ tBy g (51 * b + 1) ≤ 5 := fun b b0 b1 => by
  have := (h b.toNat (by omega)).2.1
  unfold tBy
  rw [show (51 * b + 1).toNat = 51 * b.toNat + 1 by omega]
  exact this
theorem bk_b2 {g : Nat → Int32} (h : bkOK g) : ∀ b i : Int, 0 ≤ b → b ≤ 1 → 0 ≤ i → i < 5 → 0 ≤ tBy g (51 * b + (6 + i)) ∧ tBy g (51 * b + (6 + i)) ≤ 4 := fun b i b0 b1 i0 i1 => by
  have := (h b.toNat (by omega)).2.2.2.1 (6 + i.toNat) (by omega) (by omega)
  unfold tBy
  rw [show (51 * b + (6 + i)).toNat = 51 * b.toNat + (6 + i.toNat) by omega]
  exact this
theorem yr_b1 {g : Nat → Int32} (h : yrOK g) : ∀ b : Int, 0 ≤ b → b ≤ 1 → 0 ≤ tBy g (121 * b) ∧ tBy g (121 * b) ≤ 40 := fun b b0 b1 => by
  have := (h b.toNat (by omega)).1
  unfold tBy
  rw [show (121 * b).toNat = 121 * b.toNat + 0 by omega]
  exact this
theorem si_b1 {g : Nat → Int32} (h : siOK g) : ∀ b : Int, 0 ≤ b → b ≤ 1 → 0 ≤ tBy g (13 * b) ∧ tBy g (13 * b) ≤ 6 := fun b b0 b1 => by
  have := h b.toNat (by omega)
  unfold tBy
  rw [show (13 * b).toNat = 13 * b.toNat by omega]
  exact this
theorem ea_fault {σ : Nat → Nat} {w w1 w2 : zW} {r r' : Option Value} {mc ms : Nat} {sz kp : Nat → Int32} (hT : TOP σ w) (hX : XT w) (hK : KEEP2 w w1) (a1 : Int) (ha1 : -2147483648 ≤ a1 ∧ a1 ≤ 2147483647) (run1 : ∀ Q : zQ, Q r w1 → zCl zTab 12 iX11_fault [.ref 0, .int (Int32.ofInt a1)] w mc ms Q) (hM1 : MI w1 sz kp) (run2 : ∀ Q : zQ, Q r' w2 → zCl zTab 12 iX12_fault [.ref 14, .int (Int32.ofInt a1)] w1 0 0 Q) : rEQ r r' := by
  obtain ⟨g15, g16, g17, g18, g19, g20, g21, g22, kq, gi, hA, h7, hby, ⟨l, f, c, g, cn, bo, ye, si, hL⟩, hk⟩ := id hX
  obtain ⟨y6, y7, h0, -⟩ := top_o hT
  have hA1 : ARS w1 g15 g16 g17 g18 g19 g20 g21 g22 kq := ars_fr hA fun q hq => hK.1 q (by omega) (by omega)
  have h19 : ∀ i : Int, 0 ≤ i → i ≤ 2 → tBy g19 i = tBy cn i ∧ 0 ≤ tBy g19 i ∧ tBy g19 i ≤ 2 := fun i i0 i1 => by
    have := hL.2.2.2.2.2.1 i i0 i1
    rw [show 3 * (0 : Int) + i = i by omega] at this
    omega
  obtain ⟨f0, f9, f10, f11, f12, f13, f15, f16, f17, f20, f21, f22, f23, f26, f28, f31, f32, f33, f38, f41, f44, x14, g23, g24, hf17, c14, c23, c24⟩ := mi_obj hM1
  have e1 := two_x run1 (x_fault (w := w) 11 a1 l f c (va_rf y6) (va_rf y7) h0 hL.1.1 ha1 (fun r _ => r = some (.int (Int32.ofInt (if a1 = 0 then tBy g17 0 else if a1 = 1 then tBy g18 0 else -1)))) (by rw [hL.2.2.1, hL.2.2.2.1]))
  have e2 := two_x run2 (x_faultR w1 11 a1 f0 f9 f10 f11 f12 f13 f15 f16 f17 f20 f21 f22 f23 f26 f28 f31 f32 f33 f38 f41 f44 x14 g17 g18 c14 hA1.2.2.1 hA1.2.2.2.1 ha1 (fun r _ => r = some (.int (Int32.ofInt (if a1 = 0 then tBy g17 0 else if a1 = 1 then tBy g18 0 else -1)))) (fun v w' _ _ hv => by rw [hv]))
  exact ⟨_, e1, e2⟩
theorem ea_count {σ : Nat → Nat} {w w1 w2 : zW} {r r' : Option Value} {mc ms : Nat} {sz kp : Nat → Int32} (hT : TOP σ w) (hX : XT w) (hK : KEEP2 w w1) (a1 : Int) (ha1 : -2147483648 ≤ a1 ∧ a1 ≤ 2147483647) (run1 : ∀ Q : zQ, Q r w1 → zCl zTab 12 iX11_count [.ref 0, .int (Int32.ofInt a1)] w mc ms Q) (hM1 : MI w1 sz kp) (run2 : ∀ Q : zQ, Q r' w2 → zCl zTab 12 iX12_count [.ref 14, .int (Int32.ofInt a1)] w1 0 0 Q) : rEQ r r' := by
  obtain ⟨g15, g16, g17, g18, g19, g20, g21, g22, kq, gi, hA, h7, hby, ⟨l, f, c, g, cn, bo, ye, si, hL⟩, hk⟩ := id hX
  obtain ⟨y6, y7, h0, -⟩ := top_o hT
  have hA1 : ARS w1 g15 g16 g17 g18 g19 g20 g21 g22 kq := ars_fr hA fun q hq => hK.1 q (by omega) (by omega)
  have h19 : ∀ i : Int, 0 ≤ i → i ≤ 2 → tBy g19 i = tBy cn i ∧ 0 ≤ tBy g19 i ∧ tBy g19 i ≤ 2 := fun i i0 i1 => by
    have := hL.2.2.2.2.2.1 i i0 i1
    rw [show 3 * (0 : Int) + i = i by omega] at this
    omega
  obtain ⟨f0, f9, f10, f11, f12, f13, f15, f16, f17, f20, f21, f22, f23, f26, f28, f31, f32, f33, f38, f41, f44, x14, g23, g24, hf17, c14, c23, c24⟩ := mi_obj hM1
  have e1 := two_x run1 (x_count (w := w) 11 a1 l f c (va_rf y6) (va_rf y7) cn h0 hL.1.1 hL.1.2.2.1 ha1 (fun r _ => r = some (.int (Int32.ofInt (if 0 ≤ a1 ∧ a1 ≤ 2 then tBy g19 a1 else -2)))) (by
    by_cases e : 0 ≤ a1 ∧ a1 ≤ 2
    · rw [if_pos e, if_pos e, (h19 a1 e.1 e.2).1]
    · rw [if_neg e, if_neg e]))
  have e2 := two_x run2 (x_countR w1 10 a1 f0 f9 f10 f11 f12 f13 f15 f16 f17 f20 f21 f22 f23 f26 f28 f31 f32 f33 f38 f41 f44 x14 g19 c14 hA1.2.2.2.2.1 ha1 (fun i i0 i1 => (h19 i i0 i1).2) (fun r _ => r = some (.int (Int32.ofInt (if 0 ≤ a1 ∧ a1 ≤ 2 then tBy g19 a1 else -2)))) (fun v w' _ _ hv => by rw [hv]))
  exact ⟨_, e1, e2⟩
theorem ea_book {σ : Nat → Nat} {w w1 w2 : zW} {r r' : Option Value} {mc ms : Nat} {sz kp : Nat → Int32} (hT : TOP σ w) (hX : XT w) (hK : KEEP2 w w1) (a1 a2 : Int) (ha1 : -2147483648 ≤ a1 ∧ a1 ≤ 2147483647) (ha2 : -2147483648 ≤ a2 ∧ a2 ≤ 2147483647) (run1 : ∀ Q : zQ, Q r w1 → zCl zTab 12 iX11_book [.ref 0, .int (Int32.ofInt a1), .int (Int32.ofInt a2)] w mc ms Q) (hM1 : MI w1 sz kp) (run2 : ∀ Q : zQ, Q r' w2 → zCl zTab 12 iX12_book [.ref 14, .int (Int32.ofInt a1), .int (Int32.ofInt a2)] w1 0 0 Q) : rEQ r r' := by
  obtain ⟨g15, g16, g17, g18, g19, g20, g21, g22, kq, gi, hA, h7, hby, ⟨l, f, c, g, cn, bo, ye, si, hL⟩, hk⟩ := id hX
  obtain ⟨y6, y7, h0, -⟩ := top_o hT
  have hA1 : ARS w1 g15 g16 g17 g18 g19 g20 g21 g22 kq := ars_fr hA fun q hq => hK.1 q (by omega) (by omega)
  have h19 : ∀ i : Int, 0 ≤ i → i ≤ 2 → tBy g19 i = tBy cn i ∧ 0 ≤ tBy g19 i ∧ tBy g19 i ≤ 2 := fun i i0 i1 => by
    have := hL.2.2.2.2.2.1 i i0 i1
    rw [show 3 * (0 : Int) + i = i by omega] at this
    omega
  obtain ⟨f0, f9, f10, f11, f12, f13, f15, f16, f17, f20, f21, f22, f23, f26, f28, f31, f32, f33, f38, f41, f44, x14, g23, g24, hf17, c14, c23, c24⟩ := mi_obj hM1
  have hs0 := h19 0 (by omega) (by omega)
  have hok := mi_ok hM1 hA1.2.2.2.2.2.1 hA1.2.2.2.2.2.2.1 hA1.2.2.2.2.2.2.2.1
  have e1 := two_x run1 (x_book (w := w) 8 a1 a2 l f c (va_rf y6) (va_rf y7) cn bo h0 hL.1.1 hL.1.2.2.1 hL.1.2.2.2.1 ha1 ha2 (by omega) (fun r _ => r = some (.int (Int32.ofInt (if 0 ≤ a1 ∧ a1 < tBy g19 0 then rkB g20 (51 * a1) a2 else -1)))) (fun h => by rw [if_neg (by omega)]) (fun h => by
    obtain ⟨b, X, x1, x2, x3⟩ := hL.2.2.2.2.2.2.1 a1 h.1 h.2
    rw [show 102 * (0 : Int) + 51 * a1 = 51 * a1 by omega] at x3
    refine ⟨b, X, x1, x2, bkX_k x3, ?_⟩
    rw [if_pos (by omega), bk_eq x3]))
  have e2 := two_x run2 (x_bookR w1 8 a1 a2 f0 f9 f10 f11 f12 f13 f15 f16 f17 f20 f21 f22 f23 f26 f28 f31 f32 f33 f38 f41 f44 x14 g19 g20 c14 hA1.2.2.2.2.1 hA1.2.2.2.2.2.1 ⟨ha1, ha2⟩ (fun i i0 i1 => (h19 i i0 i1).2) (bk_b1 hok.1) (bk_b2 hok.1) (fun r _ => r = some (.int (Int32.ofInt (if 0 ≤ a1 ∧ a1 < tBy g19 0 then rkB g20 (51 * a1) a2 else -1)))) (fun v y20 y22 y23 w' _ _ hv => by
    rcases hv with ⟨h, hv⟩ | ⟨h, hv⟩
    · rw [hv, if_neg (by omega)]
    · rw [hv, if_pos h]))
  exact ⟨_, e1, e2⟩
theorem ea_deed {σ : Nat → Nat} {w w1 w2 : zW} {r r' : Option Value} {mc ms : Nat} {sz kp : Nat → Int32} (hT : TOP σ w) (hX : XT w) (hK : KEEP2 w w1) (a1 a2 a3 : Int) (ha1 : -2147483648 ≤ a1 ∧ a1 ≤ 2147483647) (ha2 : -2147483648 ≤ a2 ∧ a2 ≤ 2147483647) (ha3 : -2147483648 ≤ a3 ∧ a3 ≤ 2147483647) (run1 : ∀ Q : zQ, Q r w1 → zCl zTab 12 iX11_deed [.ref 0, .int (Int32.ofInt a1), .int (Int32.ofInt a2), .int (Int32.ofInt a3)] w mc ms Q) (hM1 : MI w1 sz kp) (run2 : ∀ Q : zQ, Q r' w2 → zCl zTab 12 iX12_deed [.ref 14, .int (Int32.ofInt a1), .int (Int32.ofInt a2), .int (Int32.ofInt a3)] w1 0 0 Q) : rEQ r r' := by
  obtain ⟨g15, g16, g17, g18, g19, g20, g21, g22, kq, gi, hA, h7, hby, ⟨l, f, c, g, cn, bo, ye, si, hL⟩, hk⟩ := id hX
  obtain ⟨y6, y7, h0, -⟩ := top_o hT
  have hA1 : ARS w1 g15 g16 g17 g18 g19 g20 g21 g22 kq := ars_fr hA fun q hq => hK.1 q (by omega) (by omega)
  have h19 : ∀ i : Int, 0 ≤ i → i ≤ 2 → tBy g19 i = tBy cn i ∧ 0 ≤ tBy g19 i ∧ tBy g19 i ≤ 2 := fun i i0 i1 => by
    have := hL.2.2.2.2.2.1 i i0 i1
    rw [show 3 * (0 : Int) + i = i by omega] at this
    omega
  obtain ⟨f0, f9, f10, f11, f12, f13, f15, f16, f17, f20, f21, f22, f23, f26, f28, f31, f32, f33, f38, f41, f44, x14, g23, g24, hf17, c14, c23, c24⟩ := mi_obj hM1
  have hs0 := h19 1 (by omega) (by omega)
  have hok := mi_ok hM1 hA1.2.2.2.2.2.1 hA1.2.2.2.2.2.2.1 hA1.2.2.2.2.2.2.2.1
  have e1 := two_x run1 (x_deed (w := w) 8 a1 a2 a3 l f c (va_rf y6) (va_rf y7) cn ye h0 hL.1.1 hL.1.2.2.1 hL.1.2.2.2.2.1 ha1 ha2 ha3 (by omega) (fun r _ => r = some (.int (Int32.ofInt (if 0 ≤ a1 ∧ a1 < tBy g19 1 then rkY g21 (121 * a1) a2 a3 else -2)))) (fun h => by rw [if_neg (by omega)]) (fun h => by
    obtain ⟨b, X, x1, x2, x3⟩ := hL.2.2.2.2.2.2.2.1 a1 h.1 h.2
    rw [show 242 * (0 : Int) + 121 * a1 = 121 * a1 by omega] at x3
    refine ⟨b, X, x1, x2, yrX_k x3, ?_⟩
    rw [if_pos (by omega), yr_eq x3]))
  have e2 := two_x run2 (x_deedR w1 8 a1 a2 a3 f0 f9 f10 f11 f12 f13 f15 f16 f17 f20 f21 f22 f23 f26 f28 f31 f32 f33 f38 f41 f44 x14 g19 g21 c14 hA1.2.2.2.2.1 hA1.2.2.2.2.2.2.1 ⟨ha1, ha2, ha3⟩ (fun i i0 i1 => (h19 i i0 i1).2) (yr_b1 hok.2.1) (fun r _ => r = some (.int (Int32.ofInt (if 0 ≤ a1 ∧ a1 < tBy g19 1 then rkY g21 (121 * a1) a2 a3 else -2)))) (fun v y28 w' _ _ hv => by
    rcases hv with ⟨h, hv⟩ | ⟨h, hv⟩
    · rw [hv, if_neg (by omega)]
    · rw [hv, if_pos h]))
  exact ⟨_, e1, e2⟩
theorem ea_fact {σ : Nat → Nat} {w w1 w2 : zW} {r r' : Option Value} {mc ms : Nat} {sz kp : Nat → Int32} (hT : TOP σ w) (hX : XT w) (hK : KEEP2 w w1) (a1 a2 a3 : Int) (ha1 : -2147483648 ≤ a1 ∧ a1 ≤ 2147483647) (ha2 : -2147483648 ≤ a2 ∧ a2 ≤ 2147483647) (ha3 : -2147483648 ≤ a3 ∧ a3 ≤ 2147483647) (run1 : ∀ Q : zQ, Q r w1 → zCl zTab 12 iX11_fact [.ref 0, .int (Int32.ofInt a1), .int (Int32.ofInt a2), .int (Int32.ofInt a3)] w mc ms Q) (hM1 : MI w1 sz kp) (run2 : ∀ Q : zQ, Q r' w2 → zCl zTab 12 iX12_fact [.ref 14, .int (Int32.ofInt a1), .int (Int32.ofInt a2), .int (Int32.ofInt a3)] w1 0 0 Q) : rEQ r r' := by
  obtain ⟨g15, g16, g17, g18, g19, g20, g21, g22, kq, gi, hA, h7, hby, ⟨l, f, c, g, cn, bo, ye, si, hL⟩, hk⟩ := id hX
  obtain ⟨y6, y7, h0, -⟩ := top_o hT
  have hA1 : ARS w1 g15 g16 g17 g18 g19 g20 g21 g22 kq := ars_fr hA fun q hq => hK.1 q (by omega) (by omega)
  have h19 : ∀ i : Int, 0 ≤ i → i ≤ 2 → tBy g19 i = tBy cn i ∧ 0 ≤ tBy g19 i ∧ tBy g19 i ≤ 2 := fun i i0 i1 => by
    have := hL.2.2.2.2.2.1 i i0 i1
    rw [show 3 * (0 : Int) + i = i by omega] at this
    omega
  obtain ⟨f0, f9, f10, f11, f12, f13, f15, f16, f17, f20, f21, f22, f23, f26, f28, f31, f32, f33, f38, f41, f44, x14, g23, g24, hf17, c14, c23, c24⟩ := mi_obj hM1
  have hs0 := h19 2 (by omega) (by omega)
  have hok := mi_ok hM1 hA1.2.2.2.2.2.1 hA1.2.2.2.2.2.2.1 hA1.2.2.2.2.2.2.2.1
  have e1 := two_x run1 (x_fact (w := w) 8 a1 a2 a3 l f c (va_rf y6) (va_rf y7) cn si h0 hL.1.1 hL.1.2.2.1 hL.1.2.2.2.2.2 ha1 ha2 ha3 (by omega) (fun r _ => r = some (.int (Int32.ofInt (if 0 ≤ a1 ∧ a1 < tBy g19 2 then rkS g22 (13 * a1) a2 a3 else -2)))) (fun h => by rw [if_neg (by omega)]) (fun h => by
    obtain ⟨b, X, x1, x2, x3⟩ := hL.2.2.2.2.2.2.2.2 a1 h.1 h.2
    rw [show 26 * (0 : Int) + 13 * a1 = 13 * a1 by omega] at x3
    refine ⟨b, X, x1, x2, siX_k x3, ?_⟩
    rw [if_pos (by omega), si_eq x3]))
  have e2 := two_x run2 (x_factR w1 8 a1 a2 a3 f0 f9 f10 f11 f12 f13 f15 f16 f17 f20 f21 f22 f23 f26 f28 f31 f32 f33 f38 f41 f44 x14 g19 g22 c14 hA1.2.2.2.2.1 hA1.2.2.2.2.2.2.2.1 ⟨ha1, ha2, ha3⟩ (fun i i0 i1 => (h19 i i0 i1).2) (si_b1 hok.2.2) (fun r _ => r = some (.int (Int32.ofInt (if 0 ≤ a1 ∧ a1 < tBy g19 2 then rkS g22 (13 * a1) a2 a3 else -2)))) (fun v y41 w' _ _ hv => by
    rcases hv with ⟨h, hv⟩ | ⟨h, hv⟩
    · rw [hv, if_neg (by omega)]
    · rw [hv, if_pos h]))
  exact ⟨_, e1, e2⟩
