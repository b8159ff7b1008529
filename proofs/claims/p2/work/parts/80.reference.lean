/-! THE REFERENCE BETWEEN ITS CALLS. -/
def MI (w : zW) (sz kp : Nat → Int32) : Prop := ∃ (c0 c1 c2 c3 c4 c5 c6 c7 c8 c9 c10 c11 c12 c13 : va_E) (f0 f9 f10 f11 f12 f13 f15 f16 f17 f20 f21 f22 f23 f26 f28 f31 f32 f33 f38 f41 f44 : Int) (x14 : Int64) (g15 g17 g18 g19 g20 g21 g22 g23 g24 g25 g26 g27 g28 g29 g30 g31 g32 g33 g34 g35 g36 g37 g38 g39 g40 g41 g42 g43 : Nat → Int32) (t : zW), w = zMi c0 c1 c2 c3 c4 c5 c6 c7 c8 c9 c10 c11 c12 c13 f0 f9 f10 f11 f12 f13 f15 f16 f17 f20 f21 f22 f23 f26 f28 f31 f32 f33 f38 f41 f44 x14 g15 sz g17 g18 g19 g20 g21 g22 g23 g24 g25 g26 g27 g28 g29 g30 g31 g32 g33 g34 g35 g36 g37 g38 g39 g40 g41 g42 g43 kp t ∧ zB 0 600 sz ∧ zB 0 2 g19 ∧ bkOK g20 ∧ yrOK g21 ∧ siOK g22 ∧ zB 0 3 g25 ∧ zB 0 3 g26 ∧ zB 0 5460 g28 ∧ zB 0 5460 g30 ∧ zB 0 5460 g33 ∧ zB 0 5460 g38
def SAME (w w' : zW) : Prop := w'.length = w.length ∧ ∀ q, (q < 14 ∨ 44 < q) → zix w' q = zix w q
theorem same_M {c0 c1 c2 c3 c4 c5 c6 c7 c8 c9 c10 c11 c12 c13 : va_E} {f0 f9 f10 f11 f12 f13 f15 f16 f17 f20 f21 f22 f23 f26 f28 f31 f32 f33 f38 f41 f44 f0' f9' f10' f11' f12' f13' f15' f16' f17' f20' f21' f22' f23' f26' f28' f31' f32' f33' f38' f41' f44' : Int} {x14 x14' : Int64} {g15 g16 g17 g18 g19 g20 g21 g22 g23 g24 g25 g26 g27 g28 g29 g30 g31 g32 g33 g34 g35 g36 g37 g38 g39 g40 g41 g42 g43 g44 g15' g16' g17' g18' g19' g20' g21' g22' g23' g24' g25' g26' g27' g28' g29' g30' g31' g32' g33' g34' g35' g36' g37' g38' g39' g40' g41' g42' g43' g44' : Nat → Int32} {t : zW} : SAME (zMi c0 c1 c2 c3 c4 c5 c6 c7 c8 c9 c10 c11 c12 c13 f0 f9 f10 f11 f12 f13 f15 f16 f17 f20 f21 f22 f23 f26 f28 f31 f32 f33 f38 f41 f44 x14 g15 g16 g17 g18 g19 g20 g21 g22 g23 g24 g25 g26 g27 g28 g29 g30 g31 g32 g33 g34 g35 g36 g37 g38 g39 g40 g41 g42 g43 g44 t) (zMi c0 c1 c2 c3 c4 c5 c6 c7 c8 c9 c10 c11 c12 c13 f0' f9' f10' f11' f12' f13' f15' f16' f17' f20' f21' f22' f23' f26' f28' f31' f32' f33' f38' f41' f44' x14' g15' g16' g17' g18' g19' g20' g21' g22' g23' g24' g25' g26' g27' g28' g29' g30' g31' g32' g33' g34' g35' g36' g37' g38' g39' g40' g41' g42' g43' g44' t) := ⟨rfl, fun q h => by
  match q, h with
  | 0, _ => rfl
  | 1, _ => rfl
  | 2, _ => rfl
  | 3, _ => rfl
  | 4, _ => rfl
  | 5, _ => rfl
  | 6, _ => rfl
  | 7, _ => rfl
  | 8, _ => rfl
  | 9, _ => rfl
  | 10, _ => rfl
  | 11, _ => rfl
  | 12, _ => rfl
  | 13, _ => rfl
  | 14, h => exact absurd h (by decide)
  | 15, h => exact absurd h (by decide)
  | 16, h => exact absurd h (by decide)
  | 17, h => exact absurd h (by decide)
  | 18, h => exact absurd h (by decide)
  | 19, h => exact absurd h (by decide)
  | 20, h => exact absurd h (by decide)
  | 21, h => exact absurd h (by decide)
  | 22, h => exact absurd h (by decide)
  | 23, h => exact absurd h (by decide)
  | 24, h => exact absurd h (by decide)
  | 25, h => exact absurd h (by decide)
  | 26, h => exact absurd h (by decide)
  | 27, h => exact absurd h (by decide)
  | 28, h => exact absurd h (by decide)
  | 29, h => exact absurd h (by decide)
  | 30, h => exact absurd h (by decide)
  | 31, h => exact absurd h (by decide)
  | 32, h => exact absurd h (by decide)
  | 33, h => exact absurd h (by decide)
  | 34, h => exact absurd h (by decide)
  | 35, h => exact absurd h (by decide)
  | 36, h => exact absurd h (by decide)
  | 37, h => exact absurd h (by decide)
  | 38, h => exact absurd h (by decide)
  | 39, h => exact absurd h (by decide)
  | 40, h => exact absurd h (by decide)
  | 41, h => exact absurd h (by decide)
  | 42, h => exact absurd h (by decide)
  | 43, h => exact absurd h (by decide)
  | 44, h => exact absurd h (by decide)
  | n + 45, _ => rfl⟩
theorem hd1 {w : zW} {n : Nat} (h : n + 1 ≤ w.length) : ∃ c t, w = c :: t ∧ n ≤ t.length := by
  cases w with
  | nil => exact absurd h (by simp)
  | cons c t => exact ⟨c, t, rfl, by rw [List.length_cons] at h; omega⟩
theorem l45 {w : zW} (h0 : 45 ≤ w.length) : ∃ (d0 d1 d2 d3 d4 d5 d6 d7 d8 d9 d10 d11 d12 d13 d14 d15 d16 d17 d18 d19 d20 d21 d22 d23 d24 d25 d26 d27 d28 d29 d30 d31 d32 d33 d34 d35 d36 d37 d38 d39 d40 d41 d42 d43 d44 : va_E) (t : zW), w = d0 :: d1 :: d2 :: d3 :: d4 :: d5 :: d6 :: d7 :: d8 :: d9 :: d10 :: d11 :: d12 :: d13 :: d14 :: d15 :: d16 :: d17 :: d18 :: d19 :: d20 :: d21 :: d22 :: d23 :: d24 :: d25 :: d26 :: d27 :: d28 :: d29 :: d30 :: d31 :: d32 :: d33 :: d34 :: d35 :: d36 :: d37 :: d38 :: d39 :: d40 :: d41 :: d42 :: d43 :: d44 :: t := by
  obtain ⟨d0, w0, rfl, h1⟩ := hd1 (n := 44) h0
  obtain ⟨d1, w1, rfl, h2⟩ := hd1 (n := 43) h1
  obtain ⟨d2, w2, rfl, h3⟩ := hd1 (n := 42) h2
  obtain ⟨d3, w3, rfl, h4⟩ := hd1 (n := 41) h3
  obtain ⟨d4, w4, rfl, h5⟩ := hd1 (n := 40) h4
  obtain ⟨d5, w5, rfl, h6⟩ := hd1 (n := 39) h5
  obtain ⟨d6, w6, rfl, h7⟩ := hd1 (n := 38) h6
  obtain ⟨d7, w7, rfl, h8⟩ := hd1 (n := 37) h7
  obtain ⟨d8, w8, rfl, h9⟩ := hd1 (n := 36) h8
  obtain ⟨d9, w9, rfl, h10⟩ := hd1 (n := 35) h9
  obtain ⟨d10, w10, rfl, h11⟩ := hd1 (n := 34) h10
  obtain ⟨d11, w11, rfl, h12⟩ := hd1 (n := 33) h11
  obtain ⟨d12, w12, rfl, h13⟩ := hd1 (n := 32) h12
  obtain ⟨d13, w13, rfl, h14⟩ := hd1 (n := 31) h13
  obtain ⟨d14, w14, rfl, h15⟩ := hd1 (n := 30) h14
  obtain ⟨d15, w15, rfl, h16⟩ := hd1 (n := 29) h15
  obtain ⟨d16, w16, rfl, h17⟩ := hd1 (n := 28) h16
  obtain ⟨d17, w17, rfl, h18⟩ := hd1 (n := 27) h17
  obtain ⟨d18, w18, rfl, h19⟩ := hd1 (n := 26) h18
  obtain ⟨d19, w19, rfl, h20⟩ := hd1 (n := 25) h19
  obtain ⟨d20, w20, rfl, h21⟩ := hd1 (n := 24) h20
  obtain ⟨d21, w21, rfl, h22⟩ := hd1 (n := 23) h21
  obtain ⟨d22, w22, rfl, h23⟩ := hd1 (n := 22) h22
  obtain ⟨d23, w23, rfl, h24⟩ := hd1 (n := 21) h23
  obtain ⟨d24, w24, rfl, h25⟩ := hd1 (n := 20) h24
  obtain ⟨d25, w25, rfl, h26⟩ := hd1 (n := 19) h25
  obtain ⟨d26, w26, rfl, h27⟩ := hd1 (n := 18) h26
  obtain ⟨d27, w27, rfl, h28⟩ := hd1 (n := 17) h27
  obtain ⟨d28, w28, rfl, h29⟩ := hd1 (n := 16) h28
  obtain ⟨d29, w29, rfl, h30⟩ := hd1 (n := 15) h29
  obtain ⟨d30, w30, rfl, h31⟩ := hd1 (n := 14) h30
  obtain ⟨d31, w31, rfl, h32⟩ := hd1 (n := 13) h31
  obtain ⟨d32, w32, rfl, h33⟩ := hd1 (n := 12) h32
  obtain ⟨d33, w33, rfl, h34⟩ := hd1 (n := 11) h33
  obtain ⟨d34, w34, rfl, h35⟩ := hd1 (n := 10) h34
  obtain ⟨d35, w35, rfl, h36⟩ := hd1 (n := 9) h35
  obtain ⟨d36, w36, rfl, h37⟩ := hd1 (n := 8) h36
  obtain ⟨d37, w37, rfl, h38⟩ := hd1 (n := 7) h37
  obtain ⟨d38, w38, rfl, h39⟩ := hd1 (n := 6) h38
  obtain ⟨d39, w39, rfl, h40⟩ := hd1 (n := 5) h39
  obtain ⟨d40, w40, rfl, h41⟩ := hd1 (n := 4) h40
  obtain ⟨d41, w41, rfl, h42⟩ := hd1 (n := 3) h41
  obtain ⟨d42, w42, rfl, h43⟩ := hd1 (n := 2) h42
  obtain ⟨d43, w43, rfl, h44⟩ := hd1 (n := 1) h43
  obtain ⟨d44, w44, rfl, h45⟩ := hd1 (n := 0) h44
  exact ⟨d0, d1, d2, d3, d4, d5, d6, d7, d8, d9, d10, d11, d12, d13, d14, d15, d16, d17, d18, d19, d20, d21, d22, d23, d24, d25, d26, d27, d28, d29, d30, d31, d32, d33, d34, d35, d36, d37, d38, d39, d40, d41, d42, d43, d44, w44, rfl⟩
theorem mi_keep {w w' : zW} {sz kp : Nat → Int32} (h : MI w sz kp) (hk : KEEP w w') (h45 : 45 ≤ w'.length) : MI w' sz kp := by
  obtain ⟨c0, c1, c2, c3, c4, c5, c6, c7, c8, c9, c10, c11, c12, c13, f0, f9, f10, f11, f12, f13, f15, f16, f17, f20, f21, f22, f23, f26, f28, f31, f32, f33, f38, f41, f44, x14, g15, g17, g18, g19, g20, g21, g22, g23, g24, g25, g26, g27, g28, g29, g30, g31, g32, g33, g34, g35, g36, g37, g38, g39, g40, g41, g42, g43, t, rfl, hb⟩ := h
  obtain ⟨d0, d1, d2, d3, d4, d5, d6, d7, d8, d9, d10, d11, d12, d13, d14, d15, d16, d17, d18, d19, d20, d21, d22, d23, d24, d25, d26, d27, d28, d29, d30, d31, d32, d33, d34, d35, d36, d37, d38, d39, d40, d41, d42, d43, d44, t', rfl⟩ := l45 h45
  have e14 : d14 = _ := Option.some.inj (hk 14 (by decide) (by decide))
  have e15 : d15 = _ := Option.some.inj (hk 15 (by decide) (by decide))
  have e16 : d16 = _ := Option.some.inj (hk 16 (by decide) (by decide))
  have e17 : d17 = _ := Option.some.inj (hk 17 (by decide) (by decide))
  have e18 : d18 = _ := Option.some.inj (hk 18 (by decide) (by decide))
  have e19 : d19 = _ := Option.some.inj (hk 19 (by decide) (by decide))
  have e20 : d20 = _ := Option.some.inj (hk 20 (by decide) (by decide))
  have e21 : d21 = _ := Option.some.inj (hk 21 (by decide) (by decide))
  have e22 : d22 = _ := Option.some.inj (hk 22 (by decide) (by decide))
  have e23 : d23 = _ := Option.some.inj (hk 23 (by decide) (by decide))
  have e24 : d24 = _ := Option.some.inj (hk 24 (by decide) (by decide))
  have e25 : d25 = _ := Option.some.inj (hk 25 (by decide) (by decide))
  have e26 : d26 = _ := Option.some.inj (hk 26 (by decide) (by decide))
  have e27 : d27 = _ := Option.some.inj (hk 27 (by decide) (by decide))
  have e28 : d28 = _ := Option.some.inj (hk 28 (by decide) (by decide))
  have e29 : d29 = _ := Option.some.inj (hk 29 (by decide) (by decide))
  have e30 : d30 = _ := Option.some.inj (hk 30 (by decide) (by decide))
  have e31 : d31 = _ := Option.some.inj (hk 31 (by decide) (by decide))
  have e32 : d32 = _ := Option.some.inj (hk 32 (by decide) (by decide))
  have e33 : d33 = _ := Option.some.inj (hk 33 (by decide) (by decide))
  have e34 : d34 = _ := Option.some.inj (hk 34 (by decide) (by decide))
  have e35 : d35 = _ := Option.some.inj (hk 35 (by decide) (by decide))
  have e36 : d36 = _ := Option.some.inj (hk 36 (by decide) (by decide))
  have e37 : d37 = _ := Option.some.inj (hk 37 (by decide) (by decide))
  have e38 : d38 = _ := Option.some.inj (hk 38 (by decide) (by decide))
  have e39 : d39 = _ := Option.some.inj (hk 39 (by decide) (by decide))
  have e40 : d40 = _ := Option.some.inj (hk 40 (by decide) (by decide))
  have e41 : d41 = _ := Option.some.inj (hk 41 (by decide) (by decide))
  have e42 : d42 = _ := Option.some.inj (hk 42 (by decide) (by decide))
  have e43 : d43 = _ := Option.some.inj (hk 43 (by decide) (by decide))
  have e44 : d44 = _ := Option.some.inj (hk 44 (by decide) (by decide))
  rw [e14, e15, e16, e17, e18, e19, e20, e21, e22, e23, e24, e25, e26, e27, e28, e29, e30, e31, e32, e33, e34, e35, e36, e37, e38, e39, e40, e41, e42, e43, e44]
  exact ⟨d0, d1, d2, d3, d4, d5, d6, d7, d8, d9, d10, d11, d12, d13, f0, f9, f10, f11, f12, f13, f15, f16, f17, f20, f21, f22, f23, f26, f28, f31, f32, f33, f38, f41, f44, x14, g15, g17, g18, g19, g20, g21, g22, g23, g24, g25, g26, g27, g28, g29, g30, g31, g32, g33, g34, g35, g36, g37, g38, g39, g40, g41, g42, g43, t', rfl, hb⟩
theorem zBcp {lo hi : Int} {g : Nat → Int32} {n fr to c : Nat} (h : zB lo hi g) : zB lo hi (cpR g n fr to c) := by
  intro j
  unfold cpR
  split
  · exact h _
  · exact h _
theorem cp_or {v : Int} {k g k' : Nat → Int32} {P : (Nat → Int32) → Prop} (h : (v = 0 ∧ k = g) ∨ (v = 1 ∧ k = k')) (h0 : P g) (h1 : v = 1 → P k') : P k := by
  rcases h with ⟨_, e⟩ | ⟨hv, e⟩
  · rw [e]; exact h0
  · rw [e]; exact h1 hv
theorem zB_0 {lo hi : Int} {g k : Nat → Int32} (h : zB lo hi g) (h0 : lo ≤ (k 0).toInt ∧ (k 0).toInt ≤ hi) (hk : ∀ j, j ≠ 0 → k j = g j) : zB lo hi k := by
  intro j
  by_cases e : j = 0
  · rw [e]; exact h0
  · rw [hk j e]; exact h j
theorem mi_elim {w : zW} {sz kp : Nat → Int32} {P : Prop} (h : MI w sz kp) (k : ∀ (c0 c1 c2 c3 c4 c5 c6 c7 c8 c9 c10 c11 c12 c13 : va_E) (f0 f9 f10 f11 f12 f13 f15 f16 f17 f20 f21 f22 f23 f26 f28 f31 f32 f33 f38 f41 f44 : Int) (x14 : Int64) (g15 g17 g18 g19 g20 g21 g22 g23 g24 g25 g26 g27 g28 g29 g30 g31 g32 g33 g34 g35 g36 g37 g38 g39 g40 g41 g42 g43 : Nat → Int32) (t : zW), w = zMi c0 c1 c2 c3 c4 c5 c6 c7 c8 c9 c10 c11 c12 c13 f0 f9 f10 f11 f12 f13 f15 f16 f17 f20 f21 f22 f23 f26 f28 f31 f32 f33 f38 f41 f44 x14 g15 sz g17 g18 g19 g20 g21 g22 g23 g24 g25 g26 g27 g28 g29 g30 g31 g32 g33 g34 g35 g36 g37 g38 g39 g40 g41 g42 g43 kp t → (zB 0 600 sz) → (zB 0 2 g19) → (bkOK g20) → (yrOK g21) → (siOK g22) → (zB 0 3 g25) → (zB 0 3 g26) → (zB 0 5460 g28) → (zB 0 5460 g30) → (zB 0 5460 g33) → (zB 0 5460 g38) → P) : P := by
  obtain ⟨c0, c1, c2, c3, c4, c5, c6, c7, c8, c9, c10, c11, c12, c13, f0, f9, f10, f11, f12, f13, f15, f16, f17, f20, f21, f22, f23, f26, f28, f31, f32, f33, f38, f41, f44, x14, g15, g17, g18, g19, g20, g21, g22, g23, g24, g25, g26, g27, g28, g29, g30, g31, g32, g33, g34, g35, g36, g37, g38, g39, g40, g41, g42, g43, t, e, b16, b19, b20, b21, b22, b25, b26, b28, b30, b33, b38⟩ := h
  exact k c0 c1 c2 c3 c4 c5 c6 c7 c8 c9 c10 c11 c12 c13 f0 f9 f10 f11 f12 f13 f15 f16 f17 f20 f21 f22 f23 f26 f28 f31 f32 f33 f38 f41 f44 x14 g15 g17 g18 g19 g20 g21 g22 g23 g24 g25 g26 g27 g28 g29 g30 g31 g32 g33 g34 g35 g36 g37 g38 g39 g40 g41 g42 g43 t e b16 b19 b20 b21 b22 b25 b26 b28 b30 b33 b38
