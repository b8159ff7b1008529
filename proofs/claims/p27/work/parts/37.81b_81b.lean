/-! CALLS THAT TELL, on both sides: what is told stays the same. -/
theorem mi_obj {w : zW} {sz kp : Nat → Int32} (h : MI w sz kp) : ∃ (f0 f9 f10 f11 f12 f13 f15 f16 f17 f20 f21 f22 f23 f26 f28 f31 f32 f33 f38 f41 f44 : Int) (x14 : Int64) (g23 g24 : Nat → Int32), r32 f17 ∧ zix w 14 = some (.inr (11, [.int (Int32.ofInt f0), .ref 15, .ref 16, .ref 17, .ref 18, .ref 19, .ref 20, .ref 21, .ref 22, .int (Int32.ofInt f9), .int (Int32.ofInt f10), .int (Int32.ofInt f11), .int (Int32.ofInt f12), .int (Int32.ofInt f13), .long x14, .int (Int32.ofInt f15), .int (Int32.ofInt f16), .int (Int32.ofInt f17), .ref 23, .ref 24, .int (Int32.ofInt f20), .int (Int32.ofInt f21), .int (Int32.ofInt f22), .int (Int32.ofInt f23), .ref 25, .ref 26, .int (Int32.ofInt f26), .ref 27, .int (Int32.ofInt f28), .ref 28, .ref 29, .int (Int32.ofInt f31), .int (Int32.ofInt f32), .int (Int32.ofInt f33), .ref 30, .ref 31, .ref 32, .ref 33, .int (Int32.ofInt f38), .ref 34, .ref 35, .int (Int32.ofInt f41), .ref 36, .ref 37, .int (Int32.ofInt f44), .ref 38, .ref 39, .ref 40, .ref 41, .ref 42, .ref 43, .ref 44])) ∧ zix w 23 = some (.inl (1, 121, .inl g23)) ∧ zix w 24 = some (.inl (1, 3, .inl g24)) := mi_elim h fun c0 c1 c2 c3 c4 c5 c6 c7 c8 c9 c10 c11 c12 c13 f0 f9 f10 f11 f12 f13 f15 f16 f17 f20 f21 f22 f23 f26 f28 f31 f32 f33 f38 f41 f44 x14 g15 g17 g18 g19 g20 g21 g22 g23 g24 g25 g26 g27 g28 g29 g30 g31 g32 g33 g34 g35 g36 g37 g38 g39 g40 g41 g42 g43 t e b16 b19 b20 b21 b22 b25 b26 b28 b30 b33 b38 => by
  subst e
  refine ⟨f0, f9, f10, f11, f12, f13, f15, f16, (Int32.ofInt f17).toInt, f20, f21, f22, f23, f26, f28, f31, f32, f33, f38, f41, f44, x14, g23, g24, zrg _, ?_, rfl, rfl⟩
  rw [zoi]
  rfl
theorem ars_fr {w w' : zW} {g15 g16 g17 g18 g19 g20 g21 g22 kp : Nat → Int32} (h : ARS w g15 g16 g17 g18 g19 g20 g21 g22 kp) (ha : ∀ q, (15 ≤ q ∧ q ≤ 22) ∨ q = 44 → zix w' q = zix w q) : ARS w' g15 g16 g17 g18 g19 g20 g21 g22 kp := by
  obtain ⟨a1, a2, a3, a4, a5, a6, a7, a8, a9⟩ := h
  exact ⟨(ha 15 (by omega)).trans a1, (ha 16 (by omega)).trans a2, (ha 17 (by omega)).trans a3, (ha 18 (by omega)).trans a4, (ha 19 (by omega)).trans a5, (ha 20 (by omega)).trans a6, (ha 21 (by omega)).trans a7, (ha 22 (by omega)).trans a8, (ha 44 (by omega)).trans a9⟩
theorem pbF_e {g g' : Nat → Int32} {l a : Int} : ∀ (m j : Nat), g' j = g j → pbF g' l a m j = pbF g l a m j
  | 0, _, h => h
  | m + 1, j, h => by
    show upd _ _ _ j = upd _ _ _ j
    by_cases e : j = (l + (m : Int)).toNat
    · rw [e, pk_us, pk_us]
    · rw [pk_un e, pk_un e]
      exact pbF_e m j h
theorem pbF_n {g : Nat → Int32} {l a : Int} (h0 : 0 ≤ l) : ∀ (m j : Nat), ((j : Int) < l ∨ l + (m : Int) ≤ j) → pbF g l a m j = g j
  | 0, _, _ => rfl
  | m + 1, j, h => by
    show upd _ _ _ j = _
    rw [pk_un (by omega)]
    exact pbF_n h0 m j (by omega)
theorem pbF_b {g : Nat → Int32} {l a : Int} : ∀ (m j : Nat), (-128 ≤ (g j).toInt ∧ (g j).toInt ≤ 127) → -128 ≤ (pbF g l a m j).toInt ∧ (pbF g l a m j).toInt ≤ 127
  | 0, _, h => h
  | m + 1, j, h => by
    show -128 ≤ (upd _ _ _ j).toInt ∧ (upd _ _ _ j).toInt ≤ 127
    by_cases e : j = (l + (m : Int)).toNat
    · rw [e, pk_us]
      have := byt8_r (shr8 a (24 - 8 * (m : Int)))
      unfold pbB
      rw [zti (by omega) (by omega)]
      exact this
    · rw [pk_un e]
      exact pbF_b m j h
theorem fdF_e {g g' : Nat → Int32} {l a1 a2 a3 a4 a5 : Int} {j : Nat} (h : g' j = g j) : fdF g' l a1 a2 a3 a4 a5 j = fdF g l a1 a2 a3 a4 a5 j := pbF_e 4 j (pbF_e 4 j (pbF_e 4 j (pbF_e 4 j (pbF_e 4 j h))))
theorem fdF_b {g : Nat → Int32} {l a1 a2 a3 a4 a5 : Int} {j : Nat} (h : -128 ≤ (g j).toInt ∧ (g j).toInt ≤ 127) : -128 ≤ (fdF g l a1 a2 a3 a4 a5 j).toInt ∧ (fdF g l a1 a2 a3 a4 a5 j).toInt ≤ 127 := pbF_b 4 j (pbF_b 4 j (pbF_b 4 j (pbF_b 4 j (pbF_b 4 j h))))
theorem fdF_n {g : Nat → Int32} {l a1 a2 a3 a4 a5 : Int} (h0 : 0 ≤ l) {j : Nat} (h : l + 20 ≤ (j : Int)) : fdF g l a1 a2 a3 a4 a5 j = g j := (pbF_n (by omega) 4 j (by omega)).trans ((pbF_n (by omega) 4 j (by omega)).trans ((pbF_n (by omega) 4 j (by omega)).trans ((pbF_n (by omega) 4 j (by omega)).trans (pbF_n (by omega) 4 j (by omega)))))
theorem tBy_i {g g' : Nat → Int32} {i i' : Int} (h : tBy g i = tBy g' i') : g i.toNat = g' i'.toNat := Int32.toInt_inj.mp h
theorem xs_feed {σ : Nat → Nat} {w w1 w2 : zW} {r r' : Option Value} {mc ms : Nat} {sz kp : Nat → Int32} (hT : TOP σ w) (hX : XT w) (a1 a2 a3 a4 a5 : Int) (ha1 : -2147483648 ≤ a1 ∧ a1 ≤ 2147483647) (ha2 : -2147483648 ≤ a2 ∧ a2 ≤ 2147483647) (ha3 : -2147483648 ≤ a3 ∧ a3 ≤ 2147483647) (ha4 : -2147483648 ≤ a4 ∧ a4 ≤ 2147483647) (ha5 : -2147483648 ≤ a5 ∧ a5 ≤ 2147483647) (run1 : ∀ Q : zQ, Q r w1 → zCl zTab 12 iX11_feed [.ref 0, .int (Int32.ofInt a1), .int (Int32.ofInt a2), .int (Int32.ofInt a3), .int (Int32.ofInt a4), .int (Int32.ofInt a5)] w mc ms Q) (hM1 : MI w1 sz kp) (run2 : ∀ Q : zQ, Q r' w2 → zCl zTab 12 iX12_feed [.ref 14, .int (Int32.ofInt a1), .int (Int32.ofInt a2), .int (Int32.ofInt a3), .int (Int32.ofInt a4), .int (Int32.ofInt a5)] w1 0 0 Q) : XT w2 := by
  obtain ⟨g15, g16, g17, g18, g19, g20, g21, g22, kq, gi, hA, h7, hby, ⟨l, f, c, g, cn, bo, ye, si, hL⟩, hk⟩ := id hX
  obtain ⟨y6, y7, h0, -⟩ := top_o hT
  obtain ⟨hl0, hl1⟩ := hL.2.1
  have ob : ∀ j b, bo j = some b → ∀ x, x < 5 → 45 ≤ b + x := fun j b hb x hx => obj_hi hT (Or.inl rfl) (tcp_b hL.1.2.2.2.1 j b hb x hx)
  have oy : ∀ j b, ye j = some b → ∀ x, x < 4 → 45 ≤ b + x := fun j b hb x hx => obj_hi hT (Or.inl rfl) (tcp_y hL.1.2.2.2.2.1 j b hb x hx)
  have os : ∀ j b, si j = some b → ∀ x, x < 3 → 45 ≤ b + x := fun j b hb x hx => obj_hi hT (Or.inl rfl) (tcp_s hL.1.2.2.2.2.2 j b hb x hx)
  have oi : ∀ k q, gi k = some q → 45 ≤ q → ∀ x, TCp w q x → 45 ≤ x := by
    intro k q e1 e4 x hx
    rcases hx with hx | hx
    · omega
    · exact obj_hi hT (Or.inr ⟨gi, k, h7, e1⟩) hx
  obtain ⟨f0, f9, f10, f11, f12, f13, f15, f16, f17, f20, f21, f22, f23, f26, f28, f31, f32, f33, f38, f41, f44, x14, g23, g24, hf17, c14, c23, c24⟩ := mi_obj hM1
  have H1 := two_x run1 (x_feed (w := w) 10 a1 a2 a3 a4 a5 l f c (va_rf y6) (va_rf y7) g h0 hL.1.1 hL.1.2.1 hl1 (fun _ w' => (580 < l ∧ w' = w) ∨ (l ≤ 580 ∧ wfM (fun j => j ≠ 1 ∧ j ≠ 2) w w' ∧ zix w' 1 = some (td1 (l + 20) f c) ∧ zix w' 2 = some (.inl (0, 600, .inl (fdF g l a1 a2 a3 a4 a5))))) (fun h => Or.inl ⟨h, rfl⟩) (fun h w' a b c => Or.inr ⟨h, a, b, c⟩))
  have f1 : ∀ q, q ≠ 1 → q ≠ 2 → zix w1 q = zix w q := by
    rcases H1 with ⟨-, e⟩ | ⟨-, fr, -⟩
    · intro q _ _; rw [e]
    · exact fun q a b => fr.2 q ⟨a, b⟩
  have hA1 : ARS w1 g15 g16 g17 g18 g19 g20 g21 g22 kq := ars_fr hA fun q hq => f1 q (by omega) (by omega)
  have H2 := two_x run2 (x_feedR w1 10 a1 a2 a3 a4 a5 f0 f9 f10 f11 f12 f13 f15 f16 f17 f20 f21 f22 f23 f26 f28 f31 f32 f33 f38 f41 f44 x14 g15 g16 c14 hA1.1 hA1.2.1 (by omega) (by omega) (fun _ w' => ∃ (v : Int) (k15 k16 : Nat → Int32), wfM (fun j => j ≠ 14 ∧ j ≠ 15 ∧ j ≠ 16) w1 w' ∧ zix w' 15 = some (.inl (0, 2400, .inl k15)) ∧ zix w' 16 = some (.inl (1, 4, .inl k16)) ∧ ((v = -1 ∧ 580 < tBy g16 0 ∧ k15 = g15 ∧ k16 = g16) ∨ (v = tBy g16 0 + 20 ∧ tBy g16 0 ≤ 580 ∧ k15 = fdF g15 (tBy g16 0) a1 a2 a3 a4 a5 ∧ tBy k16 0 = v ∧ ∀ j : Nat, j ≠ 0 → k16 j = g16 j))) (fun v k15 k16 w' fr _ d15 d16 hp => ⟨v, k15, k16, fr, d15, d16, hp⟩))
  obtain ⟨v, k15, k16, fr2, d15, d16, hp⟩ := H2
  have f2 : ∀ q, q ≠ 14 → q ≠ 15 → q ≠ 16 → zix w2 q = zix w1 q := fun q a b c => fr2.2 q ⟨a, b, c⟩
  rcases hp with ⟨-, hp1, hp2, hp3⟩ | ⟨hp0, hp1, hp2, hp3, hp4⟩
  · have e1 : w1 = w := by
      rcases H1 with ⟨-, e⟩ | ⟨h, -⟩
      · exact e
      · omega
    rw [e1] at f2
    rw [hp2] at d15
    rw [hp3] at d16
    refine XT_fr hX (fun q hq => by have := tc_out hT hq; exact f2 q (by omega) (by omega) (by omega)) fun q hq => ?_
    by_cases e15 : q = 15
    · rw [e15]; exact d15.trans hA.1.symm
    · by_cases e16 : q = 16
      · rw [e16]; exact d16.trans hA.2.1.symm
      · exact f2 q (by omega) e15 e16
  · obtain ⟨-, fr1, o1, t1⟩ := H1.resolve_left (by omega)
    have up : ∀ q, q ≠ 1 → q ≠ 2 → q ≠ 14 → q ≠ 15 → q ≠ 16 → zix w2 q = zix w q := fun q a b c d e => (f2 q c d e).trans (f1 q a b)
    rw [hp2] at d15
    rw [← hl0] at d15
    refine ⟨_, k16, g17, g18, g19, g20, g21, g22, kq, gi, ⟨d15, d16, (up 17 (by omega) (by omega) (by omega) (by omega) (by omega)).trans hA.2.2.1, (up 18 (by omega) (by omega) (by omega) (by omega) (by omega)).trans hA.2.2.2.1, (up 19 (by omega) (by omega) (by omega) (by omega) (by omega)).trans hA.2.2.2.2.1, (up 20 (by omega) (by omega) (by omega) (by omega) (by omega)).trans hA.2.2.2.2.2.1, (up 21 (by omega) (by omega) (by omega) (by omega) (by omega)).trans hA.2.2.2.2.2.2.1, (up 22 (by omega) (by omega) (by omega) (by omega) (by omega)).trans hA.2.2.2.2.2.2.2.1, (up 44 (by omega) (by omega) (by omega) (by omega) (by omega)).trans hA.2.2.2.2.2.2.2.2⟩, (up 7 (by omega) (by omega) (by omega) (by omega) (by omega)).trans h7, fun j j0 j1 => fdF_b (hby j j0 j1), ⟨l + 20, f, c, fdF g l a1 a2 a3 a4 a5, cn, bo, ye, si, ?_⟩, fun k hk3 => ?_⟩
    · refine TLE_gen hL ⟨(f2 1 (by omega) (by omega) (by omega)).trans o1, (f2 2 (by omega) (by omega) (by omega)).trans t1, (up 3 (by omega) (by omega) (by omega) (by omega) (by omega)).trans hL.1.2.2.1, (up 4 (by omega) (by omega) (by omega) (by omega) (by omega)).trans hL.1.2.2.2.1, (up 5 (by omega) (by omega) (by omega) (by omega) (by omega)).trans hL.1.2.2.2.2.1, (up 6 (by omega) (by omega) (by omega) (by omega) (by omega)).trans hL.1.2.2.2.2.2⟩ ⟨by omega, by omega, by omega⟩ hL.2.2.1 hL.2.2.2.1 (fun j j0 j1 => ?_) (fun _ _ => rfl) (fun _ _ => rfl) (fun _ _ => rfl) (fun _ _ => rfl) (fun j b hb x hx => by have := ob j b hb x hx; exact up _ (by omega) (by omega) (by omega) (by omega) (by omega)) (fun j b hb x hx => by have := oy j b hb x hx; exact up _ (by omega) (by omega) (by omega) (by omega) (by omega)) (fun j b hb x hx => by have := os j b hb x hx; exact up _ (by omega) (by omega) (by omega) (by omega) (by omega)) (fun _ _ _ => rfl) (fun _ _ _ => rfl) (fun _ _ _ => rfl) (fun _ _ _ => rfl)
      have e := hL.2.2.2.2.1 j j0 j1
      have ei : (600 * (0 : Int) + j).toNat = j.toNat := by omega
      refine ⟨?_, fdF_b e.2⟩
      have e2 := tBy_i e.1
      rw [ei] at e2
      show (fdF g15 l a1 a2 a3 a4 a5 (600 * (0 : Int) + j).toNat).toInt = (fdF g l a1 a2 a3 a4 a5 j.toNat).toInt
      rw [ei, fdF_e e2]
    · rcases hk k hk3 with e | ⟨q, e1, e2, e4, e3⟩
      · exact Or.inl e
      · refine Or.inr ⟨q, e1, e2, e4, TLD_fr e3 (fun x hx => by have := oi k q e1 e4 x hx; exact up x (by omega) (by omega) (by omega) (by omega) (by omega)) ⟨fun j j0 j1 => ?_, ?_, rfl, rfl, fun _ _ _ => rfl, fun _ _ _ => rfl, fun _ _ _ => rfl, fun _ _ _ => rfl⟩⟩
        · exact congrArg Int32.toInt (fdF_n (by omega) (by omega))
        · exact congrArg Int32.toInt (hp4 _ (by omega))
theorem xs_end {σ : Nat → Nat} {w w1 w2 : zW} {r r' : Option Value} {mc ms : Nat} {sz kp : Nat → Int32} (hT : TOP σ w) (hX : XT w) (a1 : Int) (ha1 : -2147483648 ≤ a1 ∧ a1 ≤ 2147483647) (run1 : ∀ Q : zQ, Q r w1 → zCl zTab 12 iX11_end [.ref 0, .int (Int32.ofInt a1)] w mc ms Q) (hM1 : MI w1 sz kp) (run2 : ∀ Q : zQ, Q r' w2 → zCl zTab 12 iX12_end [.ref 14, .int (Int32.ofInt a1)] w1 0 0 Q) : XT w2 := by
  obtain ⟨g15, g16, g17, g18, g19, g20, g21, g22, kq, gi, hA, h7, hby, ⟨l, f, c, g, cn, bo, ye, si, hL⟩, hk⟩ := id hX
  obtain ⟨y6, y7, h0, -⟩ := top_o hT
  obtain ⟨hl0, hl1⟩ := hL.2.1
  have ob : ∀ j b, bo j = some b → ∀ x, x < 5 → 45 ≤ b + x := fun j b hb x hx => obj_hi hT (Or.inl rfl) (tcp_b hL.1.2.2.2.1 j b hb x hx)
  have oy : ∀ j b, ye j = some b → ∀ x, x < 4 → 45 ≤ b + x := fun j b hb x hx => obj_hi hT (Or.inl rfl) (tcp_y hL.1.2.2.2.2.1 j b hb x hx)
  have os : ∀ j b, si j = some b → ∀ x, x < 3 → 45 ≤ b + x := fun j b hb x hx => obj_hi hT (Or.inl rfl) (tcp_s hL.1.2.2.2.2.2 j b hb x hx)
  have oi : ∀ k q, gi k = some q → 45 ≤ q → ∀ x, TCp w q x → 45 ≤ x := by
    intro k q e1 e4 x hx
    rcases hx with hx | hx
    · omega
    · exact obj_hi hT (Or.inr ⟨gi, k, h7, e1⟩) hx
  obtain ⟨f0, f9, f10, f11, f12, f13, f15, f16, f17, f20, f21, f22, f23, f26, f28, f31, f32, f33, f38, f41, f44, x14, g23, g24, hf17, c14, c23, c24⟩ := mi_obj hM1
  have H1 := two_x run1 (x_end (w := w) 11 a1 l f c (va_rf y6) (va_rf y7) h0 hL.1.1 hl1 ha1 (fun _ w' => ((a1 < 0 ∨ l < a1) ∧ w' = w) ∨ ((0 ≤ a1 ∧ a1 ≤ l) ∧ wfM (fun j => j ≠ 1) w w' ∧ zix w' 1 = some (td1 a1 f c))) (fun h => Or.inl ⟨h, rfl⟩) (fun h w' a b => Or.inr ⟨h, a, b⟩))
  have f1 : ∀ q, q ≠ 1 → zix w1 q = zix w q := by
    rcases H1 with ⟨-, e⟩ | ⟨-, fr, -⟩
    · intro q _; rw [e]
    · exact fun q a => fr.2 q a
  have hA1 : ARS w1 g15 g16 g17 g18 g19 g20 g21 g22 kq := ars_fr hA fun q hq => f1 q (by omega)
  have H2 := two_x run2 (x_endR w1 10 a1 f0 f9 f10 f11 f12 f13 f15 f16 f17 f20 f21 f22 f23 f26 f28 f31 f32 f33 f38 f41 f44 x14 g16 c14 hA1.2.1 (by omega) (by omega) (fun _ w' => ∃ (v : Int) (k16 : Nat → Int32), wfM (fun j => j ≠ 14 ∧ j ≠ 16) w1 w' ∧ zix w' 16 = some (.inl (1, 4, .inl k16)) ∧ ((v = -1 ∧ (a1 < 0 ∨ tBy g16 0 < a1) ∧ k16 = g16) ∨ (v = a1 ∧ 0 ≤ a1 ∧ a1 ≤ tBy g16 0 ∧ tBy k16 0 = a1 ∧ ∀ j : Nat, j ≠ 0 → k16 j = g16 j))) (fun v k16 w' fr _ d16 hp => ⟨v, k16, fr, d16, hp⟩))
  obtain ⟨v, k16, fr2, d16, hp⟩ := H2
  have f2 : ∀ q, q ≠ 14 → q ≠ 16 → zix w2 q = zix w1 q := fun q a b => fr2.2 q ⟨a, b⟩
  rcases hp with ⟨-, hp1, hp3⟩ | ⟨hp0, hp1, hp2, hp3, hp4⟩
  · have e1 : w1 = w := by
      rcases H1 with ⟨-, e⟩ | ⟨h, -⟩
      · exact e
      · omega
    rw [e1] at f2
    rw [hp3] at d16
    refine XT_fr hX (fun q hq => by have := tc_out hT hq; exact f2 q (by omega) (by omega)) fun q hq => ?_
    by_cases e16 : q = 16
    · rw [e16]; exact d16.trans hA.2.1.symm
    · exact f2 q (by omega) e16
  · obtain ⟨-, fr1, o1⟩ := H1.resolve_left (by omega)
    have up : ∀ q, q ≠ 1 → q ≠ 14 → q ≠ 16 → zix w2 q = zix w q := fun q a c e => (f2 q c e).trans (f1 q a)
    refine ⟨g15, k16, g17, g18, g19, g20, g21, g22, kq, gi, ⟨(up 15 (by omega) (by omega) (by omega)).trans hA.1, d16, (up 17 (by omega) (by omega) (by omega)).trans hA.2.2.1, (up 18 (by omega) (by omega) (by omega)).trans hA.2.2.2.1, (up 19 (by omega) (by omega) (by omega)).trans hA.2.2.2.2.1, (up 20 (by omega) (by omega) (by omega)).trans hA.2.2.2.2.2.1, (up 21 (by omega) (by omega) (by omega)).trans hA.2.2.2.2.2.2.1, (up 22 (by omega) (by omega) (by omega)).trans hA.2.2.2.2.2.2.2.1, (up 44 (by omega) (by omega) (by omega)).trans hA.2.2.2.2.2.2.2.2⟩, (up 7 (by omega) (by omega) (by omega)).trans h7, hby, ⟨a1, f, c, g, cn, bo, ye, si, ?_⟩, fun k hk3 => ?_⟩
    · exact TLE_gen hL ⟨(f2 1 (by omega) (by omega)).trans o1, (up 2 (by omega) (by omega) (by omega)).trans hL.1.2.1, (up 3 (by omega) (by omega) (by omega)).trans hL.1.2.2.1, (up 4 (by omega) (by omega) (by omega)).trans hL.1.2.2.2.1, (up 5 (by omega) (by omega) (by omega)).trans hL.1.2.2.2.2.1, (up 6 (by omega) (by omega) (by omega)).trans hL.1.2.2.2.2.2⟩ ⟨by omega, by omega, by omega⟩ hL.2.2.1 hL.2.2.2.1 hL.2.2.2.2.1 (fun _ _ => rfl) (fun _ _ => rfl) (fun _ _ => rfl) (fun _ _ => rfl) (fun j b hb x hx => by have := ob j b hb x hx; exact up _ (by omega) (by omega) (by omega)) (fun j b hb x hx => by have := oy j b hb x hx; exact up _ (by omega) (by omega) (by omega)) (fun j b hb x hx => by have := os j b hb x hx; exact up _ (by omega) (by omega) (by omega)) (fun _ _ _ => rfl) (fun _ _ _ => rfl) (fun _ _ _ => rfl) (fun _ _ _ => rfl)
    · rcases hk k hk3 with e | ⟨q, e1, e2, e4, e3⟩
      · exact Or.inl e
      · exact Or.inr ⟨q, e1, e2, e4, TLD_fr e3 (fun x hx => by have := oi k q e1 e4 x hx; exact up x (by omega) (by omega) (by omega)) ⟨fun _ _ _ => rfl, congrArg Int32.toInt (hp4 _ (by omega)), rfl, rfl, fun _ _ _ => rfl, fun _ _ _ => rfl, fun _ _ _ => rfl, fun _ _ _ => rfl⟩⟩
