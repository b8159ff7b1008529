/-! TEXT: both sides. -/
theorem TXF_u {α : Type} {fo co : α → Int} {g : Nat → Int32} {l : Int} {E : Bool × Int × α} {f c f' c' : Int} (h : TXF fo co g l E f c) (h' : TXF fo co g l E f' c') : f = f' ∧ c = c' := by
  rcases h with ⟨a, X, e1, e2, e3, e4⟩ | ⟨a, X, e1, e2, e3⟩ <;> rcases h' with ⟨b, Y, d1, d2, d3, d4⟩ | ⟨b, Y, d1, d2, d3⟩
  · rw [e1] at d1
    cases d1
    exact ⟨e3.trans d3.symm, e4.trans d4.symm⟩
  · rw [e1] at d1
    cases d1
  · rw [e1] at d1
    cases d1
  · rw [e1] at d1
    cases d1
    exact ⟨e2.trans d2.symm, e3.trans d3.symm⟩
theorem kp_i {g T : Nat → Int32} {c n : Nat} {x j : Int} (hx : x.toNat = c + j.toNat) (h0 : 0 ≤ j) (h1 : j < n) : tBy (kpR g c T n) x = tBy T j := by
  unfold tBy kpR
  rw [hx, if_pos (by omega)]
  congr 2
  omega
theorem kp_o {g T : Nat → Int32} {c n : Nat} {x : Int} (hx : x.toNat < c ∨ c + n ≤ x.toNat) : tBy (kpR g c T n) x = tBy g x := by
  unfold tBy kpR
  rw [if_neg (by omega)]
theorem relB_x {f' c' : Int} {T : Nat → Int32} : ∀ {X : tpB}, RELB X f' c' T → X.1 = 0 → BKX T 0 X
  | (f, c, x0, x1, x2, g1, g2, g3, g4), ⟨_, a, b, d⟩, h0 => by
    obtain ⟨d1, d2, d3⟩ := d h0
    refine ⟨d1, a, fun i i0 i1 => ?_, fun i i0 i1 => ?_, fun i k i0 i1 k0 k1 => ?_⟩
    · rw [Int.zero_add]; exact d2 i i0 i1
    · rw [Int.zero_add]; exact b i i0 i1
    · rw [Int.zero_add, Int.zero_add]; exact ⟨(d3 i k i0 i1 k0 k1).1, (d3 i k i0 i1 k0 k1).2.1⟩
theorem relY_x {f' c' : Int} {T : Nat → Int32} : ∀ {X : tpY}, RELY X f' c' T → X.1 = 0 → YRX T 0 X
  | (f, c, x0, g1, g2, g3), ⟨_, a, d⟩, h0 => by
    refine ⟨a, fun i i0 i1 => ?_⟩
    rw [Int.zero_add, Int.zero_add, Int.zero_add]
    exact d h0 i i0 i1
theorem relS_x {f' c' : Int} {T : Nat → Int32} : ∀ {X : tpS}, RELS X f' c' T → X.1 = 0 → SIX T 0 X
  | (f, c, x0, g1, g2), ⟨_, a, d⟩, h0 => by
    refine ⟨a, fun i i0 i1 => ?_⟩
    rw [Int.zero_add, Int.zero_add]
    exact d h0 i i0 i1
theorem bI_0 : bIni (0, -1, 0, 0, -1, knF, zrF, zrF, zrF) := by
  refine ⟨rfl, rfl, rfl, fun i i0 i1 => ?_, fun i => ⟨rfl, rfl, rfl⟩⟩
  have h : i = 0 ∨ i = 1 ∨ i = 2 ∨ i = 3 := by omega
  rcases h with rfl | rfl | rfl | rfl <;> decide
theorem yI_0 : yIni (0, -1, 0, zrF, zrF, zrF) := ⟨rfl, rfl⟩
theorem sI_0 : sIni (0, -1, 0, zrF, zrF) := ⟨rfl, rfl⟩
theorem xs_text0 {σ : Nat → Nat} {w w1 w2 : zW} {r r' : Option Value} {mc ms : Nat} {sz kp : Nat → Int32} (hT : TOP σ w) (hX : XT w) (a1 a2 : Int) (ha1 : -2147483648 ≤ a1 ∧ a1 ≤ 2147483647) (ha2 : -2147483648 ≤ a2 ∧ a2 ≤ 2147483647) (hx : (a1 < 0 ∨ 2 < a1) ∨ (a2 = -1 ∧ (∀ g15 g16 g17 g18 g19 g20 g21 g22 kq gi, XX w g15 g16 g17 g18 g19 g20 g21 g22 kq gi → tBy g19 a1 = 2)) ∨ (a2 ≠ -1 ∧ (a2 < 0 ∨ ∀ g15 g16 g17 g18 g19 g20 g21 g22 kq gi, XX w g15 g16 g17 g18 g19 g20 g21 g22 kq gi → tBy g19 a1 ≤ a2))) (run1 : ∀ Q : zQ, Q r w1 → zCl zTab 12 iX11_text [.ref 0, .int (Int32.ofInt a1), .int (Int32.ofInt a2)] w mc ms Q) (hM1 : MI w1 sz kp) (run2 : ∀ Q : zQ, Q r' w2 → zCl zTab 12 iX12_text [.ref 14, .int (Int32.ofInt a1), .int (Int32.ofInt a2)] w1 0 0 Q) : XT w2 ∧ ∃ v, r = some (.int v) ∧ r' = some (.int v) := by
  obtain ⟨g15, g16, g17, g18, g19, g20, g21, g22, kq, gi, hA, h7, hby, ⟨l, f, c, g, cn, bo, ye, si, hL⟩, hk⟩ := id hX
  obtain ⟨y6, y7, h0, -⟩ := top_o hT
  obtain ⟨hl0, hl1⟩ := hL.2.1
  have ob : ∀ j b, bo j = some b → ∀ x, x < 5 → 45 ≤ b + x := fun j b hb x hx => obj_hi hT (Or.inl rfl) (tcp_b hL.1.2.2.2.1 j b hb x hx)
  have oy : ∀ j b, ye j = some b → ∀ x, x < 4 → 45 ≤ b + x := fun j b hb x hx => obj_hi hT (Or.inl rfl) (tcp_y hL.1.2.2.2.2.1 j b hb x hx)
  have os : ∀ j b, si j = some b → ∀ x, x < 3 → 45 ≤ b + x := fun j b hb x hx => obj_hi hT (Or.inl rfl) (tcp_s hL.1.2.2.2.2.2 j b hb x hx)
  have oi : ∀ k q, gi k = some q → 45 ≤ q → ∀ x, TCp w q x → 45 ≤ x := by
    intro k q e1 e4 x hx
    rcases hx with hx | hx
    · omega
    · exact obj_hi hT (Or.inr ⟨gi, k, h7, e1⟩) hx
  obtain ⟨f0, f9, f10, f11, f12, f13, f15, f16, f17, f20, f21, f22, f23, f26, f28, f31, f32, f33, f38, f41, f44, x14, g23, g24, hf17, c14, c23, c24⟩ := mi_obj hM1
  have h19 : ∀ i : Int, 0 ≤ i → i ≤ 2 → tBy g19 i = tBy cn i ∧ 0 ≤ tBy g19 i ∧ tBy g19 i ≤ 2 := fun i i0 i1 => by
    have := hL.2.2.2.2.2.1 i i0 i1
    rw [show 3 * (0 : Int) + i = i by omega] at this
    omega
  have hgq : ∀ i : Int, 0 ≤ i → i < tBy g16 0 → tBy g15 i = tBy g i ∧ -128 ≤ tBy g i ∧ tBy g i ≤ 127 := fun i i0 i1 => by
    have := hL.2.2.2.2.1 i i0 (by omega)
    rw [show 600 * (0 : Int) + i = i by omega] at this
    exact this
  have h45 : 45 ≤ w.length := hT.2.2.2.2
  obtain ⟨y6', y7', -, -, -, r8, -⟩ := top_o hT
  obtain ⟨t0, t1, t2, t3, t4, t5, t6, t7, hU, -⟩ := CI_o9 hT.1 r8
  have hXX : XX w g15 g16 g17 g18 g19 g20 g21 g22 kq gi := ⟨hA, h7, hby, ⟨l, f, c, g, cn, bo, ye, si, hL⟩, hk⟩
  have hx2 : (a1 < 0 ∨ 2 < a1) ∨ (a2 = -1 ∧ tBy g19 a1 = 2) ∨ (a2 ≠ -1 ∧ (a2 < 0 ∨ tBy g19 a1 ≤ a2)) := by
    rcases hx with h | ⟨h1, h2⟩ | ⟨h1, h2 | h2⟩
    · exact Or.inl h
    · exact Or.inr (Or.inl ⟨h1, h2 _ _ _ _ _ _ _ _ _ _ hXX⟩)
    · exact Or.inr (Or.inr ⟨h1, Or.inl h2⟩)
    · exact Or.inr (Or.inr ⟨h1, Or.inr (h2 _ _ _ _ _ _ _ _ _ _ hXX)⟩)
  have hx3 : (a1 < 0 ∨ 2 < a1) ∨ (a2 = -1 ∧ 2 ≤ tBy cn a1) ∨ (a2 ≠ -1 ∧ (a2 < 0 ∨ tBy cn a1 ≤ a2)) := by
    by_cases hr : a1 < 0 ∨ 2 < a1
    · exact Or.inl hr
    · have := h19 a1 (by omega) (by omega)
      omega
  obtain ⟨e1, fr1, o1⟩ := two_x run1 (x_text0 (w := w) 2 a1 a2 l f c (va_rf y6) (va_rf y7) cn h0 hL.1.1 hL.1.2.2.1 ha1 ha2 hx3 (fun r w' => r = some (.int (Int32.ofInt (-2))) ∧ wfM (fun j => j ≠ 1) w w' ∧ zix w' 1 = some (td1 0 0 (-1))) (fun w' a b => ⟨rfl, a, b⟩))
  have hA1 : ARS w1 g15 g16 g17 g18 g19 g20 g21 g22 kq := ars_fr hA fun q hq => fr1.2 q (by omega)
  obtain ⟨e2, k16, k17, k18, fr2, d16, d17, d18, p0, p1, p2, p3, p4, p5⟩ := two_x run2 (x_text0R w1 2 a1 a2 f0 f9 f10 f11 f12 f13 f15 f16 f17 f20 f21 f22 f23 f26 f28 f31 f32 f33 f38 f41 f44 x14 g16 g17 g18 g19 c14 hA1.2.1 hA1.2.2.1 hA1.2.2.2.1 hA1.2.2.2.2.1 ⟨ha1, ha2⟩ (fun i i0 i1 => (h19 i i0 i1).2) hx2 (fun r w' => r = some (.int (Int32.ofInt (-2))) ∧ ∃ (k16 k17 k18 : Nat → Int32), wfM (fun j => j ≠ 14 ∧ j ≠ 16 ∧ j ≠ 17 ∧ j ≠ 18) w1 w' ∧ zix w' 16 = some (.inl (1, 4, .inl k16)) ∧ zix w' 17 = some (.inl (1, 4, .inl k17)) ∧ zix w' 18 = some (.inl (1, 4, .inl k18)) ∧ tBy k16 0 = 0 ∧ (∀ j : Nat, j ≠ 0 → k16 j = g16 j) ∧ tBy k17 0 = 0 ∧ tBy k18 0 = -1 ∧ (∀ j : Nat, j ≠ 0 → k17 j = g17 j) ∧ (∀ j : Nat, j ≠ 0 → k18 j = g18 j)) (fun v k16 k17 k18 w' fr d16 d17 d18 p0 p1 p2 p3 p4 p5 p6 => ⟨by rw [p6], k16, k17, k18, fr, d16, d17, d18, p0, p1, p2, p3, p4, p5⟩))
  have up : ∀ q, q ≠ 1 → q ≠ 14 → q ≠ 16 → q ≠ 17 → q ≠ 18 → zix w2 q = zix w q := fun q a b c d e => (fr2.2 q ⟨b, c, d, e⟩).trans (fr1.2 q a)
  have u1 : ∀ q, 45 ≤ q ∨ (q < 14 ∧ q ≠ 1) ∨ q = 15 ∨ (18 < q) → zix w2 q = zix w q := fun q hq => up q (by omega) (by omega) (by omega) (by omega) (by omega)
  refine ⟨⟨g15, k16, k17, k18, g19, g20, g21, g22, kq, gi, ⟨(u1 15 (by omega)).trans hA.1, d16, d17, d18, (u1 19 (by omega)).trans hA.2.2.2.2.1, (u1 20 (by omega)).trans hA.2.2.2.2.2.1, (u1 21 (by omega)).trans hA.2.2.2.2.2.2.1, (u1 22 (by omega)).trans hA.2.2.2.2.2.2.2.1, (u1 44 (by omega)).trans hA.2.2.2.2.2.2.2.2⟩, (u1 7 (by omega)).trans h7, hby, ⟨0, 0, -1, g, cn, bo, ye, si, ?_⟩, fun k hk3 => ?_⟩, _, e1, e2⟩
  · exact TLE_gen hL ⟨(fr2.2 1 (by omega)).trans o1, (u1 2 (by omega)).trans hL.1.2.1, (u1 3 (by omega)).trans hL.1.2.2.1, (u1 4 (by omega)).trans hL.1.2.2.2.1, (u1 5 (by omega)).trans hL.1.2.2.2.2.1, (u1 6 (by omega)).trans hL.1.2.2.2.2.2⟩ ⟨p0.symm, by omega, by omega⟩ p2.symm p3.symm hL.2.2.2.2.1 (fun _ _ => rfl) (fun _ _ => rfl) (fun _ _ => rfl) (fun _ _ => rfl) (fun j b hb x hx => u1 _ (Or.inl (ob j b hb x hx))) (fun j b hb x hx => u1 _ (Or.inl (oy j b hb x hx))) (fun j b hb x hx => u1 _ (Or.inl (os j b hb x hx))) (fun _ _ _ => rfl) (fun _ _ _ => rfl) (fun _ _ _ => rfl) (fun _ _ _ => rfl)
  · rcases hk k hk3 with e | ⟨q, v1, v2, v4, v3⟩
    · exact Or.inl e
    · exact Or.inr ⟨q, v1, v2, v4, TLD_fr v3 (fun x hx => u1 x (Or.inl (oi k q v1 v4 x hx))) ⟨fun _ _ _ => rfl, congrArg Int32.toInt (p1 _ (by omega)), congrArg Int32.toInt (p4 _ (by omega)), congrArg Int32.toInt (p5 _ (by omega)), fun _ _ _ => rfl, fun _ _ _ => rfl, fun _ _ _ => rfl, fun _ _ _ => rfl⟩⟩
theorem xs_textB {σ : Nat → Nat} {w w1 w2 : zW} {r r' : Option Value} {mc ms : Nat} {sz kp : Nat → Int32} (hT : TOP σ w) (hX : XT w) (a2 nu : Int) (ha2 : -2147483648 ≤ a2 ∧ a2 ≤ 2147483647) (hn : ∀ g15 g16 g17 g18 g19 g20 g21 g22 kq gi, XX w g15 g16 g17 g18 g19 g20 g21 g22 kq gi → (a2 = -1 ∧ tBy g19 0 < 2 ∧ nu = tBy g19 0) ∨ (0 ≤ a2 ∧ a2 < tBy g19 0 ∧ nu = a2)) (run1 : ∀ Q : zQ, Q r w1 → zCl zTab 12 iX11_text [.ref 0, .int (Int32.ofInt 0), .int (Int32.ofInt a2)] w mc ms Q) (hM1 : MI w1 sz kp) (run2 : ∀ Q : zQ, Q r' w2 → zCl zTab 12 iX12_text [.ref 14, .int (Int32.ofInt 0), .int (Int32.ofInt a2)] w1 0 0 Q) : XT w2 ∧ ∃ v, r = some (.int v) ∧ r' = some (.int v) := by
  obtain ⟨g15, g16, g17, g18, g19, g20, g21, g22, kq, gi, hA, h7, hby, ⟨l, f, c, g, cn, bo, ye, si, hL⟩, hk⟩ := id hX
  obtain ⟨y6, y7, h0, -⟩ := top_o hT
  obtain ⟨hl0, hl1⟩ := hL.2.1
  have ob : ∀ j b, bo j = some b → ∀ x, x < 5 → 45 ≤ b + x := fun j b hb x hx => obj_hi hT (Or.inl rfl) (tcp_b hL.1.2.2.2.1 j b hb x hx)
  have oy : ∀ j b, ye j = some b → ∀ x, x < 4 → 45 ≤ b + x := fun j b hb x hx => obj_hi hT (Or.inl rfl) (tcp_y hL.1.2.2.2.2.1 j b hb x hx)
  have os : ∀ j b, si j = some b → ∀ x, x < 3 → 45 ≤ b + x := fun j b hb x hx => obj_hi hT (Or.inl rfl) (tcp_s hL.1.2.2.2.2.2 j b hb x hx)
  have oi : ∀ k q, gi k = some q → 45 ≤ q → ∀ x, TCp w q x → 45 ≤ x := by
    intro k q e1 e4 x hx
    rcases hx with hx | hx
    · omega
    · exact obj_hi hT (Or.inr ⟨gi, k, h7, e1⟩) hx
  obtain ⟨f0, f9, f10, f11, f12, f13, f15, f16, f17, f20, f21, f22, f23, f26, f28, f31, f32, f33, f38, f41, f44, x14, g23, g24, hf17, c14, c23, c24⟩ := mi_obj hM1
  have h19 : ∀ i : Int, 0 ≤ i → i ≤ 2 → tBy g19 i = tBy cn i ∧ 0 ≤ tBy g19 i ∧ tBy g19 i ≤ 2 := fun i i0 i1 => by
    have := hL.2.2.2.2.2.1 i i0 i1
    rw [show 3 * (0 : Int) + i = i by omega] at this
    omega
  have hgq : ∀ i : Int, 0 ≤ i → i < tBy g16 0 → tBy g15 i = tBy g i ∧ -128 ≤ tBy g i ∧ tBy g i ≤ 127 := fun i i0 i1 => by
    have := hL.2.2.2.2.1 i i0 (by omega)
    rw [show 600 * (0 : Int) + i = i by omega] at this
    exact this
  have h45 : 45 ≤ w.length := hT.2.2.2.2
  obtain ⟨y6', y7', -, -, -, r8, -⟩ := top_o hT
  obtain ⟨t0, t1, t2, t3, t4, t5, t6, t7, hU, -⟩ := CI_o9 hT.1 r8
  subst hl0
  have hXX : XX w g15 g16 g17 g18 g19 g20 g21 g22 kq gi := ⟨hA, h7, hby, ⟨_, f, c, g, cn, bo, ye, si, hL⟩, hk⟩
  have hn0 := hn _ _ _ _ _ _ _ _ _ _ hXX
  have hs0 := h19 0 (by omega) (by omega)
  have hn1 : (a2 = -1 ∧ tBy cn 0 < 2 ∧ nu = tBy cn 0) ∨ (0 ≤ a2 ∧ a2 < tBy cn 0 ∧ nu = a2) := by omega
  have H1 := two_x run1 (x_textB (w := w) 2 a2 nu (tBy g16 0) f c (va_rf y6) (va_rf y7) (va_rf t0) t1 t2 t3 t4 t5 t6 t7 g cn bo h0 hL.1.1 hL.1.2.1 hL.1.2.2.1 hU hL.1.2.2.2.1 (by omega) ha2 hn1 hl1
    (fun r w' => w.length ≤ w'.length ∧ (∀ q, q < w.length → q ≠ 1 → q ≠ 3 → q ≠ 8 → q ≠ 4 → zix w' q = zix w q) ∧ ((r = some (.int (Int32.ofInt (-1))) ∧ zix w' 3 = zix w 3 ∧ zix w' 4 = zix w 4 ∧ ∃ f' c', zix w' 1 = some (td1 0 f' c') ∧ TXF (fun X : tpB => X.1) (fun X : tpB => X.2.1) g (tBy g16 0) (teF g (tBy g16 0) (tlB g (tBy g16 0)) 601 0 (0, -1, 0, 0, -1, knF, zrF, zrF, zrF)) f' c') ∨ (r = some (.int (Int32.ofInt nu)) ∧ zix w' 1 = some (td1 0 0 (-1)) ∧ zix w' 3 = some (.inl (1, 3, .inl (upd cn 0 (Int32.ofInt (if tBy cn 0 < nu + 1 then nu + 1 else tBy cn 0))))) ∧ zix w' 4 = some (rfa 3 2 (va_up bo nu.toNat (some w.length))) ∧ ∃ a X, teF g (tBy g16 0) (tlB g (tBy g16 0)) 601 0 (0, -1, 0, 0, -1, knF, zrF, zrF, zrF) = (true, a, X) ∧ X.1 = 0 ∧ OBB w' w.length X)))
    (fun w' _ _ _ _ _ f' c' b1 b2 b3 b4 => ⟨b1, fun q hq q1 _ q8 _ => b2 q hq q1 q8, Or.inl ⟨rfl, b2 3 (by omega) (by decide) (by decide), b2 4 (by omega) (by decide) (by decide), f', c', b3, b4⟩⟩)
    (fun w' a X b1 b2 b3 b4 b5 b6 b7 b8 => ⟨b1, b2, Or.inr ⟨rfl, b3, b4, b5, a, X, b6, b7, b8⟩⟩))
  obtain ⟨len1, fr1, H1⟩ := H1
  have hA1 : ARS w1 g15 g16 g17 g18 g19 g20 g21 g22 kq := ars_fr hA fun q hq => fr1 q (by omega) (by omega) (by omega) (by omega) (by omega)
  obtain ⟨v, k16, k17, k18, k19, kr, er', fr2, d16, d17, d18, d19, d20, p0, p1, p2, hp⟩ := two_x run2 (x_textBR w1 2 a2 f0 f9 f10 f11 f12 f13 f15 f16 f17 f20 f21 f22 f23 f26 f28 f31 f32 f33 f38 f41 f44 x14 nu g15 g g16 g17 g18 g19 g20 g23 g24 c14 hA1.1 hA1.2.1 hA1.2.2.1 hA1.2.2.2.1 hA1.2.2.2.2.1 hA1.2.2.2.2.2.1 c23 c24 hl1 hgq (fun i i0 i1 => (h19 i i0 i1).2) ⟨ha2, hf17⟩ hn0 bI_0 (fun r w' => ∃ (v : Int) (k16 k17 k18 k19 kr : Nat → Int32), r = some (.int (Int32.ofInt v)) ∧ wfM (fun j => j ≠ 14 ∧ j ≠ 16 ∧ j ≠ 17 ∧ j ≠ 18 ∧ j ≠ 19 ∧ j ≠ 20 ∧ j ≠ 23 ∧ j ≠ 24) w1 w' ∧ zix w' 16 = some (.inl (1, 4, .inl k16)) ∧ zix w' 17 = some (.inl (1, 4, .inl k17)) ∧ zix w' 18 = some (.inl (1, 4, .inl k18)) ∧ zix w' 19 = some (.inl (1, 12, .inl k19)) ∧ zix w' 20 = some (.inl (1, 408, .inl kr)) ∧ tBy k16 0 = 0 ∧ (∀ j : Nat, j ≠ 0 → k16 j = g16 j) ∧ (∀ i : Int, 1 ≤ i → tBy k17 i = tBy g17 i ∧ tBy k18 i = tBy g18 i) ∧ ((v = -1 ∧ TXF (fun X : tpB => X.1) (fun X : tpB => X.2.1) g (tBy g16 0) (teF g (tBy g16 0) (tlB g (tBy g16 0)) 601 0 (0, -1, 0, 0, -1, knF, zrF, zrF, zrF)) (tBy k17 0) (tBy k18 0) ∧ k19 = g19 ∧ kr = g20) ∨ (v = nu ∧ tBy k17 0 = 0 ∧ tBy k18 0 = -1 ∧ tBy k19 0 = tBy g19 0 + (if a2 = -1 then 1 else 0) ∧ (∀ j : Nat, j ≠ 0 → k19 j = g19 j) ∧ ∃ b X f' c' T, teF g (tBy g16 0) (tlB g (tBy g16 0)) 601 0 (0, -1, 0, 0, -1, knF, zrF, zrF, zrF) = (true, b, X) ∧ X.1 = 0 ∧ RELB X f' c' T ∧ kr = kpR g20 (51 * nu.toNat) T 51))) (fun v k16 k17 k18 k19 kr w' fr d16 d17 d18 d19 dr p0 p1 p2 hp => ⟨v, k16, k17, k18, k19, kr, rfl, fr, d16, d17, d18, d19, dr, p0, p1, p2, hp⟩))
  have up : ∀ q, (q < 14 ∨ q = 15 ∨ q = 20 ∨ q = 21 ∨ q = 22 ∨ 24 < q) → q ≠ 20 → zix w2 q = zix w1 q := fun q hq h => fr2.2 q (by omega)
  have u1 : ∀ q, q < w.length → (45 ≤ q ∨ q = 2 ∨ q = 4 ∨ q = 5 ∨ q = 6 ∨ q = 7 ∨ q = 15 ∨ q = 20 ∨ q = 21 ∨ q = 22 ∨ q = 44) → q ≠ 20 → q ≠ 4 → zix w2 q = zix w q := fun q hq h a b => (up q (by omega) a).trans (fr1 q hq (by omega) (by omega) (by omega) b)
  have hlb : ∀ j b, bo j = some b → ∀ x, x < 5 → b + x < w.length := fun j b hb x hx => (told_lt hT (Or.inl rfl) (Or.inr (tcp_b hL.1.2.2.2.1 j b hb x hx))).1
  have hly : ∀ j b, ye j = some b → ∀ x, x < 4 → b + x < w.length := fun j b hb x hx => (told_lt hT (Or.inl rfl) (Or.inr (tcp_y hL.1.2.2.2.2.1 j b hb x hx))).1
  have hls : ∀ j b, si j = some b → ∀ x, x < 3 → b + x < w.length := fun j b hb x hx => (told_lt hT (Or.inl rfl) (Or.inr (tcp_s hL.1.2.2.2.2.2 j b hb x hx))).1
  have hfb : ∀ j b, bo j = some b → ∀ x, x < 5 → zix w2 (b + x) = zix w (b + x) := fun j b hb x hx => by have := ob j b hb x hx; exact u1 _ (hlb j b hb x hx) (by omega) (by omega) (by omega)
  have hfy : ∀ j b, ye j = some b → ∀ x, x < 4 → zix w2 (b + x) = zix w (b + x) := fun j b hb x hx => by have := oy j b hb x hx; exact u1 _ (hly j b hb x hx) (by omega) (by omega) (by omega)
  have hfs : ∀ j b, si j = some b → ∀ x, x < 3 → zix w2 (b + x) = zix w (b + x) := fun j b hb x hx => by have := os j b hb x hx; exact u1 _ (hls j b hb x hx) (by omega) (by omega) (by omega)
  have hfi : ∀ k q, gi k = some q → 45 ≤ q → ∀ x, TCp w q x → zix w2 x = zix w x := fun k q e1 e4 x hx => by have := oi k q e1 e4 x hx; exact u1 _ (told_lt hT (Or.inr ⟨gi, k, h7, e1⟩) hx).1 (by omega) (by omega) (by omega)
  rcases H1 with ⟨e1, c3, cr, f', c', o1, hF⟩ | ⟨e1, o1, c3, cr, a, X, hE, hX0, hOB⟩
  · rcases hp with ⟨hv, hF2, k19e, kre⟩ | ⟨-, -, -, -, -, b, X, f2, c2, T, hE, hX0, -⟩
    rotate_left
    · exfalso
      rcases hF with ⟨a, Y, z1, z2, -⟩ | ⟨a, Y, z1, -⟩
      · rw [z1] at hE
        cases hE
        exact z2 hX0
      · rw [z1] at hE
        cases hE
    obtain ⟨ef, ec⟩ := TXF_u hF hF2
    subst k19e kre
    refine ⟨⟨_, _, _, _, _, _, _, _, kq, gi, ⟨(u1 15 (by omega) (by omega) (by omega) (by omega)).trans hA.1, d16, d17, d18, d19, d20, (u1 21 (by omega) (by omega) (by omega) (by omega)).trans hA.2.2.2.2.2.2.1, (u1 22 (by omega) (by omega) (by omega) (by omega)).trans hA.2.2.2.2.2.2.2.1, (u1 44 (by omega) (by omega) (by omega) (by omega)).trans hA.2.2.2.2.2.2.2.2⟩, (u1 7 (by omega) (by omega) (by omega) (by omega)).trans h7, hby, ⟨0, f', c', g, cn, bo, ye, si, ?_⟩, fun k hk3 => ?_⟩, _, e1, by rw [er', hv]⟩
    · exact TLE_gen hL ⟨(up 1 (by omega) (by omega)).trans o1, (u1 2 (by omega) (by omega) (by omega) (by omega)).trans hL.1.2.1, (up 3 (by omega) (by omega)).trans (c3.trans hL.1.2.2.1), (up 4 (by omega) (by omega)).trans (cr.trans hL.1.2.2.2.1), (u1 5 (by omega) (by omega) (by omega) (by omega)).trans hL.1.2.2.2.2.1, (u1 6 (by omega) (by omega) (by omega) (by omega)).trans hL.1.2.2.2.2.2⟩ ⟨p0.symm, by omega, by omega⟩ ef ec hL.2.2.2.2.1 (fun _ _ => rfl) (fun _ _ => rfl) (fun _ _ => rfl) (fun _ _ => rfl) hfb hfy hfs (fun _ _ _ => rfl) (fun _ _ _ => rfl) (fun _ _ _ => rfl) (fun _ _ _ => rfl)
    · rcases hk k hk3 with e | ⟨q, v1, v2, v4, v3⟩
      · exact Or.inl e
      · exact Or.inr ⟨q, v1, v2, v4, TLD_fr v3 (hfi k q v1 v4) ⟨fun _ _ _ => rfl, congrArg Int32.toInt (p1 _ (by omega)), (p2 _ (by omega)).1, (p2 _ (by omega)).2, fun _ _ _ => rfl, fun _ _ _ => rfl, fun _ _ _ => rfl, fun _ _ _ => rfl⟩⟩
  · rcases hp with ⟨-, hF2, -⟩ | ⟨hv, q17, q18, q19, n19, b, X2, f2, c2, T, hE2, hX2, hRL, kre⟩
    · exfalso
      rcases hF2 with ⟨a, Y, z1, z2, -⟩ | ⟨a, Y, z1, -⟩
      · rw [z1] at hE
        cases hE
        exact z2 hX0
      · rw [z1] at hE
        cases hE
    rw [hE] at hE2
    cases hE2
    subst kre
    have cnS : tBy (upd cn 0 (Int32.ofInt (if tBy cn 0 < nu + 1 then nu + 1 else tBy cn 0))) 0 = if tBy cn 0 < nu + 1 then nu + 1 else tBy cn 0 := by
      have := zup (g := cn) (i := 0) (e := if tBy cn 0 < nu + 1 then nu + 1 else tBy cn 0) (by split <;> omega) 0
      exact this.trans (if_pos rfl)
    have cnN : ∀ s : Int, 0 ≤ s → s ≠ 0 → tBy (upd cn 0 (Int32.ofInt (if tBy cn 0 < nu + 1 then nu + 1 else tBy cn 0))) s = tBy cn s := fun s s0 s1 => congrArg Int32.toInt (pk_un (by omega))
    have n19' : ∀ s : Int, 0 ≤ s → s ≠ 0 → tBy k19 s = tBy g19 s := fun s s0 s1 => congrArg Int32.toInt (n19 _ (by omega))
    refine ⟨⟨g15, k16, k17, k18, k19, _, g21, g22, kq, gi, ⟨(u1 15 (by omega) (by omega) (by omega) (by omega)).trans hA.1, d16, d17, d18, d19, d20, (u1 21 (by omega) (by omega) (by omega) (by omega)).trans hA.2.2.2.2.2.2.1, (u1 22 (by omega) (by omega) (by omega) (by omega)).trans hA.2.2.2.2.2.2.2.1, (u1 44 (by omega) (by omega) (by omega) (by omega)).trans hA.2.2.2.2.2.2.2.2⟩, (u1 7 (by omega) (by omega) (by omega) (by omega)).trans h7, hby, ⟨0, 0, -1, g, _, _, ye, si, ⟨(up 1 (by omega) (by omega)).trans o1, (u1 2 (by omega) (by omega) (by omega) (by omega)).trans hL.1.2.1, (up 3 (by omega) (by omega)).trans c3, (up 4 (by omega) (by omega)).trans cr, (u1 5 (by omega) (by omega) (by omega) (by omega)).trans hL.1.2.2.2.2.1, (u1 6 (by omega) (by omega) (by omega) (by omega)).trans hL.1.2.2.2.2.2⟩, ⟨p0.symm, by omega, by omega⟩, q17.symm, q18.symm, hL.2.2.2.2.1, fun s s0 s1 => ?_, fun k k0 k1 => ?_, fun k k0 k1 => ?_, fun k k0 k1 => ?_⟩, fun k hk3 => ?_⟩, _, e1, by rw [er', hv]⟩
    · by_cases e : s = 0
      · subst e
        rw [show 3 * (0 : Int) + 0 = 0 by omega, cnS, q19]
        split <;> split <;> omega
      · rw [show 3 * (0 : Int) + s = s by omega, cnN s s0 e, n19' s s0 e]
        have := h19 s s0 s1
        omega
    · rw [cnS] at k1
      by_cases e : k = nu
      · subst e
        refine ⟨w.length, X, up_s, OBB_fr hOB (fun j hj => up _ (by omega) (by omega)), BKX_e (T := T) (o := 0) (fun j j0 j1 => ?_) (relB_x hRL hX0)⟩
        rw [Int.zero_add]
        exact kp_i (by omega) j0 (by omega)
      · have k2 : k < tBy cn 0 := by
          split at k1 <;> omega
        obtain ⟨b', X', x1, x2, x3⟩ := hL.2.2.2.2.2.2.1 k k0 k2
        refine ⟨b', X', (up_n (by omega)).trans x1, OBB_fr x2 (hfb _ b' x1), BKX_e (fun j j0 j1 => kp_o (by omega)) x3⟩
    · rw [cnN 1 (by omega) (by omega)] at k1
      obtain ⟨b', X', x1, x2, x3⟩ := hL.2.2.2.2.2.2.2.1 k k0 k1
      exact ⟨b', X', x1, OBY_fr x2 (hfy _ b' x1), x3⟩
    · rw [cnN 2 (by omega) (by omega)] at k1
      obtain ⟨b', X', x1, x2, x3⟩ := hL.2.2.2.2.2.2.2.2 k k0 k1
      exact ⟨b', X', x1, OBS_fr x2 (hfs _ b' x1), x3⟩
    · rcases hk k hk3 with e | ⟨q, v1, v2, v4, v3⟩
      · exact Or.inl e
      · exact Or.inr ⟨q, v1, v2, v4, TLD_fr v3 (hfi k q v1 v4) ⟨fun _ _ _ => rfl, congrArg Int32.toInt (p1 _ (by omega)), (p2 _ (by omega)).1, (p2 _ (by omega)).2, fun j j0 j1 => n19' _ (by omega) (by omega), fun j j0 j1 => kp_o (by omega), fun _ _ _ => rfl, fun _ _ _ => rfl⟩⟩
theorem xs_textY {σ : Nat → Nat} {w w1 w2 : zW} {r r' : Option Value} {mc ms : Nat} {sz kp : Nat → Int32} (hT : TOP σ w) (hX : XT w) (a2 nu : Int) (ha2 : -2147483648 ≤ a2 ∧ a2 ≤ 2147483647) (hn : ∀ g15 g16 g17 g18 g19 g20 g21 g22 kq gi, XX w g15 g16 g17 g18 g19 g20 g21 g22 kq gi → (a2 = -1 ∧ tBy g19 1 < 2 ∧ nu = tBy g19 1) ∨ (0 ≤ a2 ∧ a2 < tBy g19 1 ∧ nu = a2)) (run1 : ∀ Q : zQ, Q r w1 → zCl zTab 12 iX11_text [.ref 0, .int (Int32.ofInt 1), .int (Int32.ofInt a2)] w mc ms Q) (hM1 : MI w1 sz kp) (run2 : ∀ Q : zQ, Q r' w2 → zCl zTab 12 iX12_text [.ref 14, .int (Int32.ofInt 1), .int (Int32.ofInt a2)] w1 0 0 Q) : XT w2 ∧ ∃ v, r = some (.int v) ∧ r' = some (.int v) := by
  obtain ⟨g15, g16, g17, g18, g19, g20, g21, g22, kq, gi, hA, h7, hby, ⟨l, f, c, g, cn, bo, ye, si, hL⟩, hk⟩ := id hX
  obtain ⟨y6, y7, h0, -⟩ := top_o hT
  obtain ⟨hl0, hl1⟩ := hL.2.1
  have ob : ∀ j b, bo j = some b → ∀ x, x < 5 → 45 ≤ b + x := fun j b hb x hx => obj_hi hT (Or.inl rfl) (tcp_b hL.1.2.2.2.1 j b hb x hx)
  have oy : ∀ j b, ye j = some b → ∀ x, x < 4 → 45 ≤ b + x := fun j b hb x hx => obj_hi hT (Or.inl rfl) (tcp_y hL.1.2.2.2.2.1 j b hb x hx)
  have os : ∀ j b, si j = some b → ∀ x, x < 3 → 45 ≤ b + x := fun j b hb x hx => obj_hi hT (Or.inl rfl) (tcp_s hL.1.2.2.2.2.2 j b hb x hx)
  have oi : ∀ k q, gi k = some q → 45 ≤ q → ∀ x, TCp w q x → 45 ≤ x := by
    intro k q e1 e4 x hx
    rcases hx with hx | hx
    · omega
    · exact obj_hi hT (Or.inr ⟨gi, k, h7, e1⟩) hx
  obtain ⟨f0, f9, f10, f11, f12, f13, f15, f16, f17, f20, f21, f22, f23, f26, f28, f31, f32, f33, f38, f41, f44, x14, g23, g24, hf17, c14, c23, c24⟩ := mi_obj hM1
  have h19 : ∀ i : Int, 0 ≤ i → i ≤ 2 → tBy g19 i = tBy cn i ∧ 0 ≤ tBy g19 i ∧ tBy g19 i ≤ 2 := fun i i0 i1 => by
    have := hL.2.2.2.2.2.1 i i0 i1
    rw [show 3 * (0 : Int) + i = i by omega] at this
    omega
  have hgq : ∀ i : Int, 0 ≤ i → i < tBy g16 0 → tBy g15 i = tBy g i ∧ -128 ≤ tBy g i ∧ tBy g i ≤ 127 := fun i i0 i1 => by
    have := hL.2.2.2.2.1 i i0 (by omega)
    rw [show 600 * (0 : Int) + i = i by omega] at this
    exact this
  have h45 : 45 ≤ w.length := hT.2.2.2.2
  obtain ⟨y6', y7', -, -, -, r8, -⟩ := top_o hT
  obtain ⟨t0, t1, t2, t3, t4, t5, t6, t7, hU, -⟩ := CI_o9 hT.1 r8
  subst hl0
  have hXX : XX w g15 g16 g17 g18 g19 g20 g21 g22 kq gi := ⟨hA, h7, hby, ⟨_, f, c, g, cn, bo, ye, si, hL⟩, hk⟩
  have hn0 := hn _ _ _ _ _ _ _ _ _ _ hXX
  have hs0 := h19 1 (by omega) (by omega)
  have hn1 : (a2 = -1 ∧ tBy cn 1 < 2 ∧ nu = tBy cn 1) ∨ (0 ≤ a2 ∧ a2 < tBy cn 1 ∧ nu = a2) := by omega
  have H1 := two_x run1 (x_textY (w := w) 2 a2 nu (tBy g16 0) f c (va_rf y6) (va_rf y7) (va_rf t0) t1 t2 t3 t4 t5 t6 t7 g cn ye h0 hL.1.1 hL.1.2.1 hL.1.2.2.1 hU hL.1.2.2.2.2.1 (by omega) ha2 hn1 hl1
    (fun r w' => w.length ≤ w'.length ∧ (∀ q, q < w.length → q ≠ 1 → q ≠ 3 → q ≠ 8 → q ≠ 5 → zix w' q = zix w q) ∧ ((r = some (.int (Int32.ofInt (-1))) ∧ zix w' 3 = zix w 3 ∧ zix w' 5 = zix w 5 ∧ ∃ f' c', zix w' 1 = some (td1 0 f' c') ∧ TXF (fun X : tpY => X.1) (fun X : tpY => X.2.1) g (tBy g16 0) (teF g (tBy g16 0) (tlY g (tBy g16 0)) 601 0 (0, -1, 0, zrF, zrF, zrF)) f' c') ∨ (r = some (.int (Int32.ofInt nu)) ∧ zix w' 1 = some (td1 0 0 (-1)) ∧ zix w' 3 = some (.inl (1, 3, .inl (upd cn 1 (Int32.ofInt (if tBy cn 1 < nu + 1 then nu + 1 else tBy cn 1))))) ∧ zix w' 5 = some (rfa 4 2 (va_up ye nu.toNat (some w.length))) ∧ ∃ a X, teF g (tBy g16 0) (tlY g (tBy g16 0)) 601 0 (0, -1, 0, zrF, zrF, zrF) = (true, a, X) ∧ X.1 = 0 ∧ OBY w' w.length X)))
    (fun w' _ _ _ _ _ f' c' b1 b2 b3 b4 => ⟨b1, fun q hq q1 _ q8 _ => b2 q hq q1 q8, Or.inl ⟨rfl, b2 3 (by omega) (by decide) (by decide), b2 5 (by omega) (by decide) (by decide), f', c', b3, b4⟩⟩)
    (fun w' a X b1 b2 b3 b4 b5 b6 b7 b8 => ⟨b1, b2, Or.inr ⟨rfl, b3, b4, b5, a, X, b6, b7, b8⟩⟩))
  obtain ⟨len1, fr1, H1⟩ := H1
  have hA1 : ARS w1 g15 g16 g17 g18 g19 g20 g21 g22 kq := ars_fr hA fun q hq => fr1 q (by omega) (by omega) (by omega) (by omega) (by omega)
  obtain ⟨v, k16, k17, k18, k19, kr, er', fr2, d16, d17, d18, d19, d21, p0, p1, p2, hp⟩ := two_x run2 (x_textYR w1 3 a2 f0 f9 f10 f11 f12 f13 f15 f16 f17 f20 f21 f22 f23 f26 f28 f31 f32 f33 f38 f41 f44 x14 nu g15 g g16 g17 g18 g19 g21 g23 g24 c14 hA1.1 hA1.2.1 hA1.2.2.1 hA1.2.2.2.1 hA1.2.2.2.2.1 hA1.2.2.2.2.2.2.1 c23 c24 hl1 hgq (fun i i0 i1 => (h19 i i0 i1).2) ⟨ha2, hf17⟩ hn0 yI_0 (fun r w' => ∃ (v : Int) (k16 k17 k18 k19 kr : Nat → Int32), r = some (.int (Int32.ofInt v)) ∧ wfM (fun j => j ≠ 14 ∧ j ≠ 16 ∧ j ≠ 17 ∧ j ≠ 18 ∧ j ≠ 19 ∧ j ≠ 21 ∧ j ≠ 23 ∧ j ≠ 24) w1 w' ∧ zix w' 16 = some (.inl (1, 4, .inl k16)) ∧ zix w' 17 = some (.inl (1, 4, .inl k17)) ∧ zix w' 18 = some (.inl (1, 4, .inl k18)) ∧ zix w' 19 = some (.inl (1, 12, .inl k19)) ∧ zix w' 21 = some (.inl (1, 968, .inl kr)) ∧ tBy k16 0 = 0 ∧ (∀ j : Nat, j ≠ 0 → k16 j = g16 j) ∧ (∀ i : Int, 1 ≤ i → tBy k17 i = tBy g17 i ∧ tBy k18 i = tBy g18 i) ∧ ((v = -1 ∧ TXF (fun X : tpY => X.1) (fun X : tpY => X.2.1) g (tBy g16 0) (teF g (tBy g16 0) (tlY g (tBy g16 0)) 601 0 (0, -1, 0, zrF, zrF, zrF)) (tBy k17 0) (tBy k18 0) ∧ k19 = g19 ∧ kr = g21) ∨ (v = nu ∧ tBy k17 0 = 0 ∧ tBy k18 0 = -1 ∧ tBy k19 1 = tBy g19 1 + (if a2 = -1 then 1 else 0) ∧ (∀ j : Nat, j ≠ 1 → k19 j = g19 j) ∧ ∃ b X f' c' T, teF g (tBy g16 0) (tlY g (tBy g16 0)) 601 0 (0, -1, 0, zrF, zrF, zrF) = (true, b, X) ∧ X.1 = 0 ∧ RELY X f' c' T ∧ kr = kpR g21 (121 * nu.toNat) T 121))) (fun v k16 k17 k18 k19 kr w' fr d16 d17 d18 d19 dr p0 p1 p2 hp => ⟨v, k16, k17, k18, k19, kr, rfl, fr, d16, d17, d18, d19, dr, p0, p1, p2, hp⟩))
  have up : ∀ q, (q < 14 ∨ q = 15 ∨ q = 20 ∨ q = 21 ∨ q = 22 ∨ 24 < q) → q ≠ 21 → zix w2 q = zix w1 q := fun q hq h => fr2.2 q (by omega)
  have u1 : ∀ q, q < w.length → (45 ≤ q ∨ q = 2 ∨ q = 4 ∨ q = 5 ∨ q = 6 ∨ q = 7 ∨ q = 15 ∨ q = 20 ∨ q = 21 ∨ q = 22 ∨ q = 44) → q ≠ 21 → q ≠ 5 → zix w2 q = zix w q := fun q hq h a b => (up q (by omega) a).trans (fr1 q hq (by omega) (by omega) (by omega) b)
  have hlb : ∀ j b, bo j = some b → ∀ x, x < 5 → b + x < w.length := fun j b hb x hx => (told_lt hT (Or.inl rfl) (Or.inr (tcp_b hL.1.2.2.2.1 j b hb x hx))).1
  have hly : ∀ j b, ye j = some b → ∀ x, x < 4 → b + x < w.length := fun j b hb x hx => (told_lt hT (Or.inl rfl) (Or.inr (tcp_y hL.1.2.2.2.2.1 j b hb x hx))).1
  have hls : ∀ j b, si j = some b → ∀ x, x < 3 → b + x < w.length := fun j b hb x hx => (told_lt hT (Or.inl rfl) (Or.inr (tcp_s hL.1.2.2.2.2.2 j b hb x hx))).1
  have hfb : ∀ j b, bo j = some b → ∀ x, x < 5 → zix w2 (b + x) = zix w (b + x) := fun j b hb x hx => by have := ob j b hb x hx; exact u1 _ (hlb j b hb x hx) (by omega) (by omega) (by omega)
  have hfy : ∀ j b, ye j = some b → ∀ x, x < 4 → zix w2 (b + x) = zix w (b + x) := fun j b hb x hx => by have := oy j b hb x hx; exact u1 _ (hly j b hb x hx) (by omega) (by omega) (by omega)
  have hfs : ∀ j b, si j = some b → ∀ x, x < 3 → zix w2 (b + x) = zix w (b + x) := fun j b hb x hx => by have := os j b hb x hx; exact u1 _ (hls j b hb x hx) (by omega) (by omega) (by omega)
  have hfi : ∀ k q, gi k = some q → 45 ≤ q → ∀ x, TCp w q x → zix w2 x = zix w x := fun k q e1 e4 x hx => by have := oi k q e1 e4 x hx; exact u1 _ (told_lt hT (Or.inr ⟨gi, k, h7, e1⟩) hx).1 (by omega) (by omega) (by omega)
  rcases H1 with ⟨e1, c3, cr, f', c', o1, hF⟩ | ⟨e1, o1, c3, cr, a, X, hE, hX0, hOB⟩
  · rcases hp with ⟨hv, hF2, k19e, kre⟩ | ⟨-, -, -, -, -, b, X, f2, c2, T, hE, hX0, -⟩
    rotate_left
    · exfalso
      rcases hF with ⟨a, Y, z1, z2, -⟩ | ⟨a, Y, z1, -⟩
      · rw [z1] at hE
        cases hE
        exact z2 hX0
      · rw [z1] at hE
        cases hE
    obtain ⟨ef, ec⟩ := TXF_u hF hF2
    subst k19e kre
    refine ⟨⟨_, _, _, _, _, _, _, _, kq, gi, ⟨(u1 15 (by omega) (by omega) (by omega) (by omega)).trans hA.1, d16, d17, d18, d19, (u1 20 (by omega) (by omega) (by omega) (by omega)).trans hA.2.2.2.2.2.1, d21, (u1 22 (by omega) (by omega) (by omega) (by omega)).trans hA.2.2.2.2.2.2.2.1, (u1 44 (by omega) (by omega) (by omega) (by omega)).trans hA.2.2.2.2.2.2.2.2⟩, (u1 7 (by omega) (by omega) (by omega) (by omega)).trans h7, hby, ⟨0, f', c', g, cn, bo, ye, si, ?_⟩, fun k hk3 => ?_⟩, _, e1, by rw [er', hv]⟩
    · exact TLE_gen hL ⟨(up 1 (by omega) (by omega)).trans o1, (u1 2 (by omega) (by omega) (by omega) (by omega)).trans hL.1.2.1, (up 3 (by omega) (by omega)).trans (c3.trans hL.1.2.2.1), (u1 4 (by omega) (by omega) (by omega) (by omega)).trans hL.1.2.2.2.1, (up 5 (by omega) (by omega)).trans (cr.trans hL.1.2.2.2.2.1), (u1 6 (by omega) (by omega) (by omega) (by omega)).trans hL.1.2.2.2.2.2⟩ ⟨p0.symm, by omega, by omega⟩ ef ec hL.2.2.2.2.1 (fun _ _ => rfl) (fun _ _ => rfl) (fun _ _ => rfl) (fun _ _ => rfl) hfb hfy hfs (fun _ _ _ => rfl) (fun _ _ _ => rfl) (fun _ _ _ => rfl) (fun _ _ _ => rfl)
    · rcases hk k hk3 with e | ⟨q, v1, v2, v4, v3⟩
      · exact Or.inl e
      · exact Or.inr ⟨q, v1, v2, v4, TLD_fr v3 (hfi k q v1 v4) ⟨fun _ _ _ => rfl, congrArg Int32.toInt (p1 _ (by omega)), (p2 _ (by omega)).1, (p2 _ (by omega)).2, fun _ _ _ => rfl, fun _ _ _ => rfl, fun _ _ _ => rfl, fun _ _ _ => rfl⟩⟩
  · rcases hp with ⟨-, hF2, -⟩ | ⟨hv, q17, q18, q19, n19, b, X2, f2, c2, T, hE2, hX2, hRL, kre⟩
    · exfalso
      rcases hF2 with ⟨a, Y, z1, z2, -⟩ | ⟨a, Y, z1, -⟩
      · rw [z1] at hE
        cases hE
        exact z2 hX0
      · rw [z1] at hE
        cases hE
    rw [hE] at hE2
    cases hE2
    subst kre
    have cnS : tBy (upd cn 1 (Int32.ofInt (if tBy cn 1 < nu + 1 then nu + 1 else tBy cn 1))) 1 = if tBy cn 1 < nu + 1 then nu + 1 else tBy cn 1 := by
      have := zup (g := cn) (i := 1) (e := if tBy cn 1 < nu + 1 then nu + 1 else tBy cn 1) (by split <;> omega) 1
      exact this.trans (if_pos rfl)
    have cnN : ∀ s : Int, 0 ≤ s → s ≠ 1 → tBy (upd cn 1 (Int32.ofInt (if tBy cn 1 < nu + 1 then nu + 1 else tBy cn 1))) s = tBy cn s := fun s s0 s1 => congrArg Int32.toInt (pk_un (by omega))
    have n19' : ∀ s : Int, 0 ≤ s → s ≠ 1 → tBy k19 s = tBy g19 s := fun s s0 s1 => congrArg Int32.toInt (n19 _ (by omega))
    refine ⟨⟨g15, k16, k17, k18, k19, g20, _, g22, kq, gi, ⟨(u1 15 (by omega) (by omega) (by omega) (by omega)).trans hA.1, d16, d17, d18, d19, (u1 20 (by omega) (by omega) (by omega) (by omega)).trans hA.2.2.2.2.2.1, d21, (u1 22 (by omega) (by omega) (by omega) (by omega)).trans hA.2.2.2.2.2.2.2.1, (u1 44 (by omega) (by omega) (by omega) (by omega)).trans hA.2.2.2.2.2.2.2.2⟩, (u1 7 (by omega) (by omega) (by omega) (by omega)).trans h7, hby, ⟨0, 0, -1, g, _, bo, _, si, ⟨(up 1 (by omega) (by omega)).trans o1, (u1 2 (by omega) (by omega) (by omega) (by omega)).trans hL.1.2.1, (up 3 (by omega) (by omega)).trans c3, (u1 4 (by omega) (by omega) (by omega) (by omega)).trans hL.1.2.2.2.1, (up 5 (by omega) (by omega)).trans cr, (u1 6 (by omega) (by omega) (by omega) (by omega)).trans hL.1.2.2.2.2.2⟩, ⟨p0.symm, by omega, by omega⟩, q17.symm, q18.symm, hL.2.2.2.2.1, fun s s0 s1 => ?_, fun k k0 k1 => ?_, fun k k0 k1 => ?_, fun k k0 k1 => ?_⟩, fun k hk3 => ?_⟩, _, e1, by rw [er', hv]⟩
    · by_cases e : s = 1
      · subst e
        rw [show 3 * (0 : Int) + 1 = 1 by omega, cnS, q19]
        split <;> split <;> omega
      · rw [show 3 * (0 : Int) + s = s by omega, cnN s s0 e, n19' s s0 e]
        have := h19 s s0 s1
        omega
    · rw [cnN 0 (by omega) (by omega)] at k1
      obtain ⟨b', X', x1, x2, x3⟩ := hL.2.2.2.2.2.2.1 k k0 k1
      exact ⟨b', X', x1, OBB_fr x2 (hfb _ b' x1), x3⟩
    · rw [cnS] at k1
      by_cases e : k = nu
      · subst e
        refine ⟨w.length, X, up_s, OBY_fr hOB (fun j hj => up _ (by omega) (by omega)), YRX_e (T := T) (o := 0) (fun j j0 j1 => ?_) (relY_x hRL hX0)⟩
        rw [Int.zero_add]
        exact kp_i (by omega) j0 (by omega)
      · have k2 : k < tBy cn 1 := by
          split at k1 <;> omega
        obtain ⟨b', X', x1, x2, x3⟩ := hL.2.2.2.2.2.2.2.1 k k0 k2
        refine ⟨b', X', (up_n (by omega)).trans x1, OBY_fr x2 (hfy _ b' x1), YRX_e (fun j j0 j1 => kp_o (by omega)) x3⟩
    · rw [cnN 2 (by omega) (by omega)] at k1
      obtain ⟨b', X', x1, x2, x3⟩ := hL.2.2.2.2.2.2.2.2 k k0 k1
      exact ⟨b', X', x1, OBS_fr x2 (hfs _ b' x1), x3⟩
    · rcases hk k hk3 with e | ⟨q, v1, v2, v4, v3⟩
      · exact Or.inl e
      · exact Or.inr ⟨q, v1, v2, v4, TLD_fr v3 (hfi k q v1 v4) ⟨fun _ _ _ => rfl, congrArg Int32.toInt (p1 _ (by omega)), (p2 _ (by omega)).1, (p2 _ (by omega)).2, fun j j0 j1 => n19' _ (by omega) (by omega), fun _ _ _ => rfl, fun j j0 j1 => kp_o (by omega), fun _ _ _ => rfl⟩⟩
theorem xs_textS {σ : Nat → Nat} {w w1 w2 : zW} {r r' : Option Value} {mc ms : Nat} {sz kp : Nat → Int32} (hT : TOP σ w) (hX : XT w) (a2 nu : Int) (ha2 : -2147483648 ≤ a2 ∧ a2 ≤ 2147483647) (hn : ∀ g15 g16 g17 g18 g19 g20 g21 g22 kq gi, XX w g15 g16 g17 g18 g19 g20 g21 g22 kq gi → (a2 = -1 ∧ tBy g19 2 < 2 ∧ nu = tBy g19 2) ∨ (0 ≤ a2 ∧ a2 < tBy g19 2 ∧ nu = a2)) (run1 : ∀ Q : zQ, Q r w1 → zCl zTab 12 iX11_text [.ref 0, .int (Int32.ofInt 2), .int (Int32.ofInt a2)] w mc ms Q) (hM1 : MI w1 sz kp) (run2 : ∀ Q : zQ, Q r' w2 → zCl zTab 12 iX12_text [.ref 14, .int (Int32.ofInt 2), .int (Int32.ofInt a2)] w1 0 0 Q) : XT w2 ∧ ∃ v, r = some (.int v) ∧ r' = some (.int v) := by
  obtain ⟨g15, g16, g17, g18, g19, g20, g21, g22, kq, gi, hA, h7, hby, ⟨l, f, c, g, cn, bo, ye, si, hL⟩, hk⟩ := id hX
  obtain ⟨y6, y7, h0, -⟩ := top_o hT
  obtain ⟨hl0, hl1⟩ := hL.2.1
  have ob : ∀ j b, bo j = some b → ∀ x, x < 5 → 45 ≤ b + x := fun j b hb x hx => obj_hi hT (Or.inl rfl) (tcp_b hL.1.2.2.2.1 j b hb x hx)
  have oy : ∀ j b, ye j = some b → ∀ x, x < 4 → 45 ≤ b + x := fun j b hb x hx => obj_hi hT (Or.inl rfl) (tcp_y hL.1.2.2.2.2.1 j b hb x hx)
  have os : ∀ j b, si j = some b → ∀ x, x < 3 → 45 ≤ b + x := fun j b hb x hx => obj_hi hT (Or.inl rfl) (tcp_s hL.1.2.2.2.2.2 j b hb x hx)
  have oi : ∀ k q, gi k = some q → 45 ≤ q → ∀ x, TCp w q x → 45 ≤ x := by
    intro k q e1 e4 x hx
    rcases hx with hx | hx
    · omega
    · exact obj_hi hT (Or.inr ⟨gi, k, h7, e1⟩) hx
  obtain ⟨f0, f9, f10, f11, f12, f13, f15, f16, f17, f20, f21, f22, f23, f26, f28, f31, f32, f33, f38, f41, f44, x14, g23, g24, hf17, c14, c23, c24⟩ := mi_obj hM1
  have h19 : ∀ i : Int, 0 ≤ i → i ≤ 2 → tBy g19 i = tBy cn i ∧ 0 ≤ tBy g19 i ∧ tBy g19 i ≤ 2 := fun i i0 i1 => by
    have := hL.2.2.2.2.2.1 i i0 i1
    rw [show 3 * (0 : Int) + i = i by omega] at this
    omega
  have hgq : ∀ i : Int, 0 ≤ i → i < tBy g16 0 → tBy g15 i = tBy g i ∧ -128 ≤ tBy g i ∧ tBy g i ≤ 127 := fun i i0 i1 => by
    have := hL.2.2.2.2.1 i i0 (by omega)
    rw [show 600 * (0 : Int) + i = i by omega] at this
    exact this
  have h45 : 45 ≤ w.length := hT.2.2.2.2
  obtain ⟨y6', y7', -, -, -, r8, -⟩ := top_o hT
  obtain ⟨t0, t1, t2, t3, t4, t5, t6, t7, hU, -⟩ := CI_o9 hT.1 r8
  subst hl0
  have hXX : XX w g15 g16 g17 g18 g19 g20 g21 g22 kq gi := ⟨hA, h7, hby, ⟨_, f, c, g, cn, bo, ye, si, hL⟩, hk⟩
  have hn0 := hn _ _ _ _ _ _ _ _ _ _ hXX
  have hs0 := h19 2 (by omega) (by omega)
  have hn1 : (a2 = -1 ∧ tBy cn 2 < 2 ∧ nu = tBy cn 2) ∨ (0 ≤ a2 ∧ a2 < tBy cn 2 ∧ nu = a2) := by omega
  have H1 := two_x run1 (x_textS (w := w) 2 a2 nu (tBy g16 0) f c (va_rf y6) (va_rf y7) (va_rf t0) t1 t2 t3 t4 t5 t6 t7 g cn si h0 hL.1.1 hL.1.2.1 hL.1.2.2.1 hU hL.1.2.2.2.2.2 (by omega) ha2 hn1 hl1
    (fun r w' => w.length ≤ w'.length ∧ (∀ q, q < w.length → q ≠ 1 → q ≠ 3 → q ≠ 8 → q ≠ 6 → zix w' q = zix w q) ∧ ((r = some (.int (Int32.ofInt (-1))) ∧ zix w' 3 = zix w 3 ∧ zix w' 6 = zix w 6 ∧ ∃ f' c', zix w' 1 = some (td1 0 f' c') ∧ TXF (fun X : tpS => X.1) (fun X : tpS => X.2.1) g (tBy g16 0) (teF g (tBy g16 0) (tlS g (tBy g16 0)) 601 0 (0, -1, 0, zrF, zrF)) f' c') ∨ (r = some (.int (Int32.ofInt nu)) ∧ zix w' 1 = some (td1 0 0 (-1)) ∧ zix w' 3 = some (.inl (1, 3, .inl (upd cn 2 (Int32.ofInt (if tBy cn 2 < nu + 1 then nu + 1 else tBy cn 2))))) ∧ zix w' 6 = some (rfa 5 2 (va_up si nu.toNat (some w.length))) ∧ ∃ a X, teF g (tBy g16 0) (tlS g (tBy g16 0)) 601 0 (0, -1, 0, zrF, zrF) = (true, a, X) ∧ X.1 = 0 ∧ OBS w' w.length X)))
    (fun w' _ _ _ _ _ f' c' b1 b2 b3 b4 => ⟨b1, fun q hq q1 _ q8 _ => b2 q hq q1 q8, Or.inl ⟨rfl, b2 3 (by omega) (by decide) (by decide), b2 6 (by omega) (by decide) (by decide), f', c', b3, b4⟩⟩)
    (fun w' a X b1 b2 b3 b4 b5 b6 b7 b8 => ⟨b1, b2, Or.inr ⟨rfl, b3, b4, b5, a, X, b6, b7, b8⟩⟩))
  obtain ⟨len1, fr1, H1⟩ := H1
  have hA1 : ARS w1 g15 g16 g17 g18 g19 g20 g21 g22 kq := ars_fr hA fun q hq => fr1 q (by omega) (by omega) (by omega) (by omega) (by omega)
  obtain ⟨v, k16, k17, k18, k19, kr, er', fr2, d16, d17, d18, d19, d22, p0, p1, p2, hp⟩ := two_x run2 (x_textSR w1 2 a2 f0 f9 f10 f11 f12 f13 f15 f16 f17 f20 f21 f22 f23 f26 f28 f31 f32 f33 f38 f41 f44 x14 nu g15 g g16 g17 g18 g19 g22 g23 g24 c14 hA1.1 hA1.2.1 hA1.2.2.1 hA1.2.2.2.1 hA1.2.2.2.2.1 hA1.2.2.2.2.2.2.2.1 c23 c24 hl1 hgq (fun i i0 i1 => (h19 i i0 i1).2) ⟨ha2, hf17⟩ hn0 sI_0 (fun r w' => ∃ (v : Int) (k16 k17 k18 k19 kr : Nat → Int32), r = some (.int (Int32.ofInt v)) ∧ wfM (fun j => j ≠ 14 ∧ j ≠ 16 ∧ j ≠ 17 ∧ j ≠ 18 ∧ j ≠ 19 ∧ j ≠ 22 ∧ j ≠ 23 ∧ j ≠ 24) w1 w' ∧ zix w' 16 = some (.inl (1, 4, .inl k16)) ∧ zix w' 17 = some (.inl (1, 4, .inl k17)) ∧ zix w' 18 = some (.inl (1, 4, .inl k18)) ∧ zix w' 19 = some (.inl (1, 12, .inl k19)) ∧ zix w' 22 = some (.inl (1, 104, .inl kr)) ∧ tBy k16 0 = 0 ∧ (∀ j : Nat, j ≠ 0 → k16 j = g16 j) ∧ (∀ i : Int, 1 ≤ i → tBy k17 i = tBy g17 i ∧ tBy k18 i = tBy g18 i) ∧ ((v = -1 ∧ TXF (fun X : tpS => X.1) (fun X : tpS => X.2.1) g (tBy g16 0) (teF g (tBy g16 0) (tlS g (tBy g16 0)) 601 0 (0, -1, 0, zrF, zrF)) (tBy k17 0) (tBy k18 0) ∧ k19 = g19 ∧ kr = g22) ∨ (v = nu ∧ tBy k17 0 = 0 ∧ tBy k18 0 = -1 ∧ tBy k19 2 = tBy g19 2 + (if a2 = -1 then 1 else 0) ∧ (∀ j : Nat, j ≠ 2 → k19 j = g19 j) ∧ ∃ b X f' c' T, teF g (tBy g16 0) (tlS g (tBy g16 0)) 601 0 (0, -1, 0, zrF, zrF) = (true, b, X) ∧ X.1 = 0 ∧ RELS X f' c' T ∧ kr = kpR g22 (13 * nu.toNat) T 13))) (fun v k16 k17 k18 k19 kr w' fr d16 d17 d18 d19 dr p0 p1 p2 hp => ⟨v, k16, k17, k18, k19, kr, rfl, fr, d16, d17, d18, d19, dr, p0, p1, p2, hp⟩))
  have up : ∀ q, (q < 14 ∨ q = 15 ∨ q = 20 ∨ q = 21 ∨ q = 22 ∨ 24 < q) → q ≠ 22 → zix w2 q = zix w1 q := fun q hq h => fr2.2 q (by omega)
  have u1 : ∀ q, q < w.length → (45 ≤ q ∨ q = 2 ∨ q = 4 ∨ q = 5 ∨ q = 6 ∨ q = 7 ∨ q = 15 ∨ q = 20 ∨ q = 21 ∨ q = 22 ∨ q = 44) → q ≠ 22 → q ≠ 6 → zix w2 q = zix w q := fun q hq h a b => (up q (by omega) a).trans (fr1 q hq (by omega) (by omega) (by omega) b)
  have hlb : ∀ j b, bo j = some b → ∀ x, x < 5 → b + x < w.length := fun j b hb x hx => (told_lt hT (Or.inl rfl) (Or.inr (tcp_b hL.1.2.2.2.1 j b hb x hx))).1
  have hly : ∀ j b, ye j = some b → ∀ x, x < 4 → b + x < w.length := fun j b hb x hx => (told_lt hT (Or.inl rfl) (Or.inr (tcp_y hL.1.2.2.2.2.1 j b hb x hx))).1
  have hls : ∀ j b, si j = some b → ∀ x, x < 3 → b + x < w.length := fun j b hb x hx => (told_lt hT (Or.inl rfl) (Or.inr (tcp_s hL.1.2.2.2.2.2 j b hb x hx))).1
  have hfb : ∀ j b, bo j = some b → ∀ x, x < 5 → zix w2 (b + x) = zix w (b + x) := fun j b hb x hx => by have := ob j b hb x hx; exact u1 _ (hlb j b hb x hx) (by omega) (by omega) (by omega)
  have hfy : ∀ j b, ye j = some b → ∀ x, x < 4 → zix w2 (b + x) = zix w (b + x) := fun j b hb x hx => by have := oy j b hb x hx; exact u1 _ (hly j b hb x hx) (by omega) (by omega) (by omega)
  have hfs : ∀ j b, si j = some b → ∀ x, x < 3 → zix w2 (b + x) = zix w (b + x) := fun j b hb x hx => by have := os j b hb x hx; exact u1 _ (hls j b hb x hx) (by omega) (by omega) (by omega)
  have hfi : ∀ k q, gi k = some q → 45 ≤ q → ∀ x, TCp w q x → zix w2 x = zix w x := fun k q e1 e4 x hx => by have := oi k q e1 e4 x hx; exact u1 _ (told_lt hT (Or.inr ⟨gi, k, h7, e1⟩) hx).1 (by omega) (by omega) (by omega)
  rcases H1 with ⟨e1, c3, cr, f', c', o1, hF⟩ | ⟨e1, o1, c3, cr, a, X, hE, hX0, hOB⟩
  · rcases hp with ⟨hv, hF2, k19e, kre⟩ | ⟨-, -, -, -, -, b, X, f2, c2, T, hE, hX0, -⟩
    rotate_left
    · exfalso
      rcases hF with ⟨a, Y, z1, z2, -⟩ | ⟨a, Y, z1, -⟩
      · rw [z1] at hE
        cases hE
        exact z2 hX0
      · rw [z1] at hE
        cases hE
    obtain ⟨ef, ec⟩ := TXF_u hF hF2
    subst k19e kre
    refine ⟨⟨_, _, _, _, _, _, _, _, kq, gi, ⟨(u1 15 (by omega) (by omega) (by omega) (by omega)).trans hA.1, d16, d17, d18, d19, (u1 20 (by omega) (by omega) (by omega) (by omega)).trans hA.2.2.2.2.2.1, (u1 21 (by omega) (by omega) (by omega) (by omega)).trans hA.2.2.2.2.2.2.1, d22, (u1 44 (by omega) (by omega) (by omega) (by omega)).trans hA.2.2.2.2.2.2.2.2⟩, (u1 7 (by omega) (by omega) (by omega) (by omega)).trans h7, hby, ⟨0, f', c', g, cn, bo, ye, si, ?_⟩, fun k hk3 => ?_⟩, _, e1, by rw [er', hv]⟩
    · exact TLE_gen hL ⟨(up 1 (by omega) (by omega)).trans o1, (u1 2 (by omega) (by omega) (by omega) (by omega)).trans hL.1.2.1, (up 3 (by omega) (by omega)).trans (c3.trans hL.1.2.2.1), (u1 4 (by omega) (by omega) (by omega) (by omega)).trans hL.1.2.2.2.1, (u1 5 (by omega) (by omega) (by omega) (by omega)).trans hL.1.2.2.2.2.1, (up 6 (by omega) (by omega)).trans (cr.trans hL.1.2.2.2.2.2)⟩ ⟨p0.symm, by omega, by omega⟩ ef ec hL.2.2.2.2.1 (fun _ _ => rfl) (fun _ _ => rfl) (fun _ _ => rfl) (fun _ _ => rfl) hfb hfy hfs (fun _ _ _ => rfl) (fun _ _ _ => rfl) (fun _ _ _ => rfl) (fun _ _ _ => rfl)
    · rcases hk k hk3 with e | ⟨q, v1, v2, v4, v3⟩
      · exact Or.inl e
      · exact Or.inr ⟨q, v1, v2, v4, TLD_fr v3 (hfi k q v1 v4) ⟨fun _ _ _ => rfl, congrArg Int32.toInt (p1 _ (by omega)), (p2 _ (by omega)).1, (p2 _ (by omega)).2, fun _ _ _ => rfl, fun _ _ _ => rfl, fun _ _ _ => rfl, fun _ _ _ => rfl⟩⟩
  · rcases hp with ⟨-, hF2, -⟩ | ⟨hv, q17, q18, q19, n19, b, X2, f2, c2, T, hE2, hX2, hRL, kre⟩
    · exfalso
      rcases hF2 with ⟨a, Y, z1, z2, -⟩ | ⟨a, Y, z1, -⟩
      · rw [z1] at hE
        cases hE
        exact z2 hX0
      · rw [z1] at hE
        cases hE
    rw [hE] at hE2
    cases hE2
    subst kre
    have cnS : tBy (upd cn 2 (Int32.ofInt (if tBy cn 2 < nu + 1 then nu + 1 else tBy cn 2))) 2 = if tBy cn 2 < nu + 1 then nu + 1 else tBy cn 2 := by
      have := zup (g := cn) (i := 2) (e := if tBy cn 2 < nu + 1 then nu + 1 else tBy cn 2) (by split <;> omega) 2
      exact this.trans (if_pos rfl)
    have cnN : ∀ s : Int, 0 ≤ s → s ≠ 2 → tBy (upd cn 2 (Int32.ofInt (if tBy cn 2 < nu + 1 then nu + 1 else tBy cn 2))) s = tBy cn s := fun s s0 s1 => congrArg Int32.toInt (pk_un (by omega))
    have n19' : ∀ s : Int, 0 ≤ s → s ≠ 2 → tBy k19 s = tBy g19 s := fun s s0 s1 => congrArg Int32.toInt (n19 _ (by omega))
    refine ⟨⟨g15, k16, k17, k18, k19, g20, g21, _, kq, gi, ⟨(u1 15 (by omega) (by omega) (by omega) (by omega)).trans hA.1, d16, d17, d18, d19, (u1 20 (by omega) (by omega) (by omega) (by omega)).trans hA.2.2.2.2.2.1, (u1 21 (by omega) (by omega) (by omega) (by omega)).trans hA.2.2.2.2.2.2.1, d22, (u1 44 (by omega) (by omega) (by omega) (by omega)).trans hA.2.2.2.2.2.2.2.2⟩, (u1 7 (by omega) (by omega) (by omega) (by omega)).trans h7, hby, ⟨0, 0, -1, g, _, bo, ye, _, ⟨(up 1 (by omega) (by omega)).trans o1, (u1 2 (by omega) (by omega) (by omega) (by omega)).trans hL.1.2.1, (up 3 (by omega) (by omega)).trans c3, (u1 4 (by omega) (by omega) (by omega) (by omega)).trans hL.1.2.2.2.1, (u1 5 (by omega) (by omega) (by omega) (by omega)).trans hL.1.2.2.2.2.1, (up 6 (by omega) (by omega)).trans cr⟩, ⟨p0.symm, by omega, by omega⟩, q17.symm, q18.symm, hL.2.2.2.2.1, fun s s0 s1 => ?_, fun k k0 k1 => ?_, fun k k0 k1 => ?_, fun k k0 k1 => ?_⟩, fun k hk3 => ?_⟩, _, e1, by rw [er', hv]⟩
    · by_cases e : s = 2
      · subst e
        rw [show 3 * (0 : Int) + 2 = 2 by omega, cnS, q19]
        split <;> split <;> omega
      · rw [show 3 * (0 : Int) + s = s by omega, cnN s s0 e, n19' s s0 e]
        have := h19 s s0 s1
        omega
    · rw [cnN 0 (by omega) (by omega)] at k1
      obtain ⟨b', X', x1, x2, x3⟩ := hL.2.2.2.2.2.2.1 k k0 k1
      exact ⟨b', X', x1, OBB_fr x2 (hfb _ b' x1), x3⟩
    · rw [cnN 1 (by omega) (by omega)] at k1
      obtain ⟨b', X', x1, x2, x3⟩ := hL.2.2.2.2.2.2.2.1 k k0 k1
      exact ⟨b', X', x1, OBY_fr x2 (hfy _ b' x1), x3⟩
    · rw [cnS] at k1
      by_cases e : k = nu
      · subst e
        refine ⟨w.length, X, up_s, OBS_fr hOB (fun j hj => up _ (by omega) (by omega)), SIX_e (T := T) (o := 0) (fun j j0 j1 => ?_) (relS_x hRL hX0)⟩
        rw [Int.zero_add]
        exact kp_i (by omega) j0 (by omega)
      · have k2 : k < tBy cn 2 := by
          split at k1 <;> omega
        obtain ⟨b', X', x1, x2, x3⟩ := hL.2.2.2.2.2.2.2.2 k k0 k2
        refine ⟨b', X', (up_n (by omega)).trans x1, OBS_fr x2 (hfs _ b' x1), SIX_e (fun j j0 j1 => kp_o (by omega)) x3⟩
    · rcases hk k hk3 with e | ⟨q, v1, v2, v4, v3⟩
      · exact Or.inl e
      · exact Or.inr ⟨q, v1, v2, v4, TLD_fr v3 (hfi k q v1 v4) ⟨fun _ _ _ => rfl, congrArg Int32.toInt (p1 _ (by omega)), (p2 _ (by omega)).1, (p2 _ (by omega)).2, fun j j0 j1 => n19' _ (by omega) (by omega), fun _ _ _ => rfl, fun _ _ _ => rfl, fun j j0 j1 => kp_o (by omega)⟩⟩
theorem xx_19 {w : zW} {g15 g16 g17 g18 g19 g20 g21 g22 kq g15' g16' g17' g18' g19' g20' g21' g22' kq' : Nat → Int32} {gi gi' : Nat → Option Nat} (h : XX w g15 g16 g17 g18 g19 g20 g21 g22 kq gi) (h' : XX w g15' g16' g17' g18' g19' g20' g21' g22' kq' gi') : g19' = g19 := arEq (h'.1.2.2.2.2.1.symm.trans h.1.2.2.2.2.1)
theorem xs_text {σ : Nat → Nat} {w w1 w2 : zW} {r r' : Option Value} {mc ms : Nat} {sz kp : Nat → Int32} (hT : TOP σ w) (hX : XT w) (a1 a2 : Int) (ha1 : -2147483648 ≤ a1 ∧ a1 ≤ 2147483647) (ha2 : -2147483648 ≤ a2 ∧ a2 ≤ 2147483647) (run1 : ∀ Q : zQ, Q r w1 → zCl zTab 12 iX11_text [.ref 0, .int (Int32.ofInt a1), .int (Int32.ofInt a2)] w mc ms Q) (hM1 : MI w1 sz kp) (run2 : ∀ Q : zQ, Q r' w2 → zCl zTab 12 iX12_text [.ref 14, .int (Int32.ofInt a1), .int (Int32.ofInt a2)] w1 0 0 Q) : XT w2 ∧ ∃ v, r = some (.int v) ∧ r' = some (.int v) := by
  obtain ⟨g15, g16, g17, g18, g19, g20, g21, g22, kq, gi, hXX⟩ := id hX
  obtain ⟨-, -, -, ⟨l, f, c, g, cn, bo, ye, si, hL⟩, -⟩ := id hXX
  have go : (0 ≤ a1 ∧ a1 ≤ 2) → ∀ nu : Int, ((a2 = -1 ∧ tBy g19 a1 < 2 ∧ nu = tBy g19 a1) ∨ (0 ≤ a2 ∧ a2 < tBy g19 a1 ∧ nu = a2)) → XT w2 ∧ ∃ v, r = some (.int v) ∧ r' = some (.int v) := by
    intro h1 nu hn
    have hc : a1 = 0 ∨ a1 = 1 ∨ a1 = 2 := by omega
    rcases hc with rfl | rfl | rfl
    · exact xs_textB hT hX a2 nu ha2 (fun _ _ _ _ _ _ _ _ _ _ h => by rw [xx_19 hXX h]; exact hn) run1 hM1 run2
    · exact xs_textY hT hX a2 nu ha2 (fun _ _ _ _ _ _ _ _ _ _ h => by rw [xx_19 hXX h]; exact hn) run1 hM1 run2
    · exact xs_textS hT hX a2 nu ha2 (fun _ _ _ _ _ _ _ _ _ _ h => by rw [xx_19 hXX h]; exact hn) run1 hM1 run2
  by_cases h1 : a1 < 0 ∨ 2 < a1
  · exact xs_text0 hT hX a1 a2 ha1 ha2 (Or.inl h1) run1 hM1 run2
  · have h19 := hL.2.2.2.2.2.1 a1 (by omega) (by omega)
    rw [show 3 * (0 : Int) + a1 = a1 by omega] at h19
    by_cases h2 : a2 = -1
    · by_cases h3 : tBy g19 a1 = 2
      · exact xs_text0 hT hX a1 a2 ha1 ha2 (Or.inr (Or.inl ⟨h2, fun _ _ _ _ _ _ _ _ _ _ h => by rw [xx_19 hXX h]; exact h3⟩)) run1 hM1 run2
      · exact go (by omega) (tBy g19 a1) (Or.inl ⟨h2, by omega, rfl⟩)
    · by_cases h3 : a2 < 0
      · exact xs_text0 hT hX a1 a2 ha1 ha2 (Or.inr (Or.inr ⟨h2, Or.inl h3⟩)) run1 hM1 run2
      · by_cases h4 : tBy g19 a1 ≤ a2
        · exact xs_text0 hT hX a1 a2 ha1 ha2 (Or.inr (Or.inr ⟨h2, Or.inr fun _ _ _ _ _ _ _ _ _ _ h => by rw [xx_19 hXX h]; exact h4⟩)) run1 hM1 run2
        · exact go (by omega) a2 (Or.inr ⟨by omega, by omega, rfl⟩)
