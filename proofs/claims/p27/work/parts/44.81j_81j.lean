/-! KINSHIP: both sides alike. -/
theorem bk_b3 {g : Nat → Int32} (h : bkOK g) : ∀ b i : Int, 0 ≤ b → b ≤ 1 → 0 ≤ i → i ≤ 3 → 0 ≤ tBy g (51 * b + (2 + i)) ∧ tBy g (51 * b + (2 + i)) ≤ 3 := fun b i b0 b1 i0 i1 => by
  have := (h b.toNat (by omega)).2.2.1 (2 + i.toNat) (by omega) (by omega)
  unfold tBy
  rw [show (51 * b + (2 + i)).toNat = 51 * b.toNat + (2 + i.toNat) by omega]
  exact this
theorem kb_k {T : Nat → Int32} {o : Int} (hT : ∀ i : Int, 0 ≤ i → i ≤ 3 → 0 ≤ tBy T (o + (2 + i)) ∧ tBy T (o + (2 + i)) ≤ 3) : ∀ {X : tpB}, BKX T o X → kbX X
  | (_, _, x0, x1, _, g1, g2, g3, g4), ⟨_, _, hk, _, _⟩ => fun i i0 i1 => by
    rw [← hk i i0 (by omega)]
    exact hT i i0 i1
theorem ks_eq {T : Nat → Int32} {o u r : Int} (hT : ∀ i : Int, 0 ≤ i → i ≤ 3 → 0 ≤ tBy T (o + (2 + i)) ∧ tBy T (o + (2 + i)) ≤ 3) (h0 : 0 ≤ u) (h1 : u ≤ 3) : ∀ {X : tpB}, BKX T o X → ksX u r X = if r = 0 then kuQ (fun x => tBy T (o + (2 + x))) u else krZ (fun x => tBy T (o + (2 + x))) u
  | (_, _, x0, x1, _, g1, g2, g3, g4), ⟨_, _, hk, _, _⟩ => by
    have hG : ∀ x : Int, 0 ≤ x → x ≤ 3 → tBy g1 x = (fun x => tBy T (o + (2 + x))) x ∧ 0 ≤ (fun x => tBy T (o + (2 + x))) x ∧ (fun x => tBy T (o + (2 + x))) x ≤ 3 := fun x a b => ⟨(hk x a (by omega)).symm, hT x a b⟩
    have e := kin_eq (F := fun x => tBy T (o + (2 + x))) hT h0 h1
    show (if r = 0 then kuP (tBy g1) u else krP (tBy g1) u) = _
    rw [kuP_c hG h0 h1, krP_c hG h0 h1, e.1, e.2.1]
/-- an object's cells tell what it is -/
theorem ob_ks {w : zW} {b : Nat} {u r : Int} : ∀ {X Y : tpB}, OBB w b X → OBB w b Y → ksX u r X = ksX u r Y
  | (_, _, _, _, _, g1, _, _, _), (_, _, _, _, _, g1', _, _, _), ⟨_, a, _⟩, ⟨_, a', _⟩ => by
    have e := arEq (a.symm.trans a')
    show (if r = 0 then kuP (tBy g1) u else krP (tBy g1) u) = (if r = 0 then kuP (tBy g1') u else krP (tBy g1') u)
    rw [e]
theorem ea_kinship {σ : Nat → Nat} {w w1 w2 : zW} {r r' : Option Value} {mc ms : Nat} {sz kp : Nat → Int32} (hT : TOP σ w) (hX : XT w) (hK : KEEP2 w w1) (a1 a2 a3 : Int) (ha1 : -2147483648 ≤ a1 ∧ a1 ≤ 2147483647) (ha2 : -2147483648 ≤ a2 ∧ a2 ≤ 2147483647) (ha3 : -2147483648 ≤ a3 ∧ a3 ≤ 2147483647) (run1 : ∀ Q : zQ, Q r w1 → zCl zTab 12 iX11_kinship [.ref 0, .int (Int32.ofInt a1), .int (Int32.ofInt a2), .int (Int32.ofInt a3)] w mc ms Q) (hM1 : MI w1 sz kp) (run2 : ∀ Q : zQ, Q r' w2 → zCl zTab 12 iX12_kinship [.ref 14, .int (Int32.ofInt a1), .int (Int32.ofInt a2), .int (Int32.ofInt a3)] w1 0 0 Q) : rEQ r r' := by
  obtain ⟨g15, g16, g17, g18, g19, g20, g21, g22, kq, gi, hA, h7, hby, ⟨l, f, c, g, cn, bo, ye, si, hL⟩, hk⟩ := id hX
  obtain ⟨y6, y7, h0, -⟩ := top_o hT
  have hA1 : ARS w1 g15 g16 g17 g18 g19 g20 g21 g22 kq := ars_fr hA fun q hq => hK.1 q (by omega) (by omega)
  have h19 : ∀ i : Int, 0 ≤ i → i ≤ 2 → tBy g19 i = tBy cn i ∧ 0 ≤ tBy g19 i ∧ tBy g19 i ≤ 2 := fun i i0 i1 => by
    have := hL.2.2.2.2.2.1 i i0 i1
    rw [show 3 * (0 : Int) + i = i by omega] at this
    omega
  obtain ⟨f0, f9, f10, f11, f12, f13, f15, f16, f17, f20, f21, f22, f23, f26, f28, f31, f32, f33, f38, f41, f44, x14, g23, g24, hf17, c14, c23, c24⟩ := mi_obj hM1
  have hs0 := h19 0 (by omega) (by omega)
  have hok := mi_ok hM1 hA1.2.2.2.2.2.1 hA1.2.2.2.2.2.2.1 hA1.2.2.2.2.2.2.2.1
  have hb3 := bk_b3 hok.1
  have e1 := two_x run1 (x_kinship (w := w) 8 a1 a2 a3 l f c (va_rf y6) (va_rf y7) cn bo h0 hL.1.1 hL.1.2.2.1 hL.1.2.2.2.1 ha1 ha2 ha3 (by omega) (fun k k0 k1 => by
    obtain ⟨b, X, x1, x2, x3⟩ := hL.2.2.2.2.2.2.1 k k0 k1
    rw [show 102 * (0 : Int) + 51 * k = 51 * k by omega] at x3
    exact ⟨b, X, x1, x2, kb_k (fun i i0 i1 => hb3 k i k0 (by omega) i0 i1) x3⟩) (fun r _ => r = some (.int (Int32.ofInt (if 0 ≤ a1 ∧ a1 < tBy g19 0 ∧ 0 ≤ a2 ∧ a2 ≤ 3 then (if a3 = 0 then kuQ (fun x => tBy g20 (51 * a1 + (2 + x))) a2 else krZ (fun x => tBy g20 (51 * a1 + (2 + x))) a2) else -1)))) (fun h => by rw [if_neg (by omega)]) (fun h hw b X hb hO => by
    obtain ⟨b', X', x1, x2, x3⟩ := hL.2.2.2.2.2.2.1 a1 h.1 h.2
    rw [show 102 * (0 : Int) + 51 * a1 = 51 * a1 by omega] at x3
    rw [hb] at x1
    cases x1
    rw [if_pos (by omega), ob_ks hO x2, ks_eq (fun i i0 i1 => hb3 a1 i h.1 (by omega) i0 i1) hw.1 hw.2 x3]))
  have e2 := two_x run2 (x_kinshipR w1 8 a1 a2 a3 f0 f9 f10 f11 f12 f13 f15 f16 f17 f20 f21 f22 f23 f26 f28 f31 f32 f33 f38 f41 f44 x14 g19 g20 c14 hA1.2.2.2.2.1 hA1.2.2.2.2.2.1 ⟨ha1, ha2, ha3⟩ (fun i i0 i1 => (h19 i i0 i1).2) hb3 (fun r _ => r = some (.int (Int32.ofInt (if 0 ≤ a1 ∧ a1 < tBy g19 0 ∧ 0 ≤ a2 ∧ a2 ≤ 3 then (if a3 = 0 then kuQ (fun x => tBy g20 (51 * a1 + (2 + x))) a2 else krZ (fun x => tBy g20 (51 * a1 + (2 + x))) a2) else -1)))) (fun v y20 y22 y23 w' _ _ hv => by
    rcases hv with ⟨h, hv⟩ | ⟨h, hv⟩
    · rw [hv, if_neg (by omega)]
    · rw [hv, if_pos h]))
  exact ⟨_, e1, e2⟩
