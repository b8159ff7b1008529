/-! IMAGE, AGAIN: both sides. -/
theorem ri_image {w : zW} {sz kp g15' g16' g17' g18' g19' g20' g21' g22' kq : Nat → Int32} (h : MI w sz kp) (hA : ARS w g15' g16' g17' g18' g19' g20' g21' g22' kq) (hby : ∀ j : Nat, j < 2400 → -128 ≤ (g15' j).toInt ∧ (g15' j).toInt ≤ 127) (a1 : Int) (ha1 : -2147483648 ≤ a1 ∧ a1 ≤ 2147483647) : zCl zTab 12 iX12_image [.ref 14, .int (Int32.ofInt a1)] w 0 0 (fun _ w' => ∃ (v : Int) (k15 k16 k17 k18 k19 k20 k21 k22 k44 : Nat → Int32), SAME w w' ∧ ARS w' k15 k16 k17 k18 k19 k20 k21 k22 k44 ∧ ((v = 1 ∧ 0 ≤ a1 ∧ a1 ≤ 2) ∨ (v = 0 ∧ (a1 < 0 ∨ 2 < a1))) ∧ ((v = 0 ∧ k44 = kq) ∨ (v = 1 ∧ k44 = upd kq a1.toNat (Int32.ofInt 1))) ∧ ((v = 0 ∧ k15 = g15') ∨ (v = 1 ∧ k15 = cpR g15' 600 0 (a1 + 1).toNat 600)) ∧ ((v = 0 ∧ k16 = g16') ∨ (v = 1 ∧ k16 = cpR g16' 1 0 (a1 + 1).toNat 1)) ∧ ((v = 0 ∧ k17 = g17') ∨ (v = 1 ∧ k17 = cpR g17' 1 0 (a1 + 1).toNat 1)) ∧ ((v = 0 ∧ k18 = g18') ∨ (v = 1 ∧ k18 = cpR g18' 1 0 (a1 + 1).toNat 1)) ∧ ((v = 0 ∧ k19 = g19') ∨ (v = 1 ∧ k19 = cpR g19' 3 0 (a1 + 1).toNat 3)) ∧ ((v = 0 ∧ k20 = g20') ∨ (v = 1 ∧ k20 = cpR g20' 102 0 (a1 + 1).toNat 102)) ∧ ((v = 0 ∧ k21 = g21') ∨ (v = 1 ∧ k21 = cpR g21' 242 0 (a1 + 1).toNat 242)) ∧ ((v = 0 ∧ k22 = g22') ∨ (v = 1 ∧ k22 = cpR g22' 26 0 (a1 + 1).toNat 26))) := mi_elim h fun c0 c1 c2 c3 c4 c5 c6 c7 c8 c9 c10 c11 c12 c13 f0 f9 f10 f11 f12 f13 f15 f16 f17 f20 f21 f22 f23 f26 f28 f31 f32 f33 f38 f41 f44 x14 g15 g17 g18 g19 g20 g21 g22 g23 g24 g25 g26 g27 g28 g29 g30 g31 g32 g33 g34 g35 g36 g37 g38 g39 g40 g41 g42 g43 t e b16 b19 b20 b21 b22 b25 b26 b28 b30 b33 b38 => by
  subst e
  obtain ⟨b1, b2, b3, b4, b5, b6, b7, b8, b9⟩ := hA
  have e1 := arEq b1
  have e2 := arEq b2
  have e3 := arEq b3
  have e4 := arEq b4
  have e5 := arEq b5
  have e6 := arEq b6
  have e7 := arEq b7
  have e8 := arEq b8
  have e9 := arEq b9
  subst e1 e2 e3 e4 e5 e6 e7 e8 e9
  exact m_imageT 9 a1 hby ha1 _ fun v y0 k15 k16 k17 k18 k19 k20 k21 k22 k44 p0 p1 p2 p3 p4 p5 p6 p7 p8 p9 => ⟨v, k15, k16, k17, k18, k19, k20, k21, k22, k44, same_M, ⟨rfl, rfl, rfl, rfl, rfl, rfl, rfl, rfl, rfl⟩, p0, p1, p2, p3, p4, p5, p6, p7, p8, p9⟩
theorem ri_again {w : zW} {sz kp g15' g16' g17' g18' g19' g20' g21' g22' kq : Nat → Int32} (h : MI w sz kp) (hA : ARS w g15' g16' g17' g18' g19' g20' g21' g22' kq) (hby : ∀ j : Nat, j < 2400 → -128 ≤ (g15' j).toInt ∧ (g15' j).toInt ≤ 127) (a1 : Int) (ha1 : -2147483648 ≤ a1 ∧ a1 ≤ 2147483647) : zCl zTab 12 iX12_again [.ref 14, .int (Int32.ofInt a1)] w 0 0 (fun _ w' => ∃ (v : Int) (k15 k16 k17 k18 k19 k20 k21 k22 k44 : Nat → Int32), SAME w w' ∧ ARS w' k15 k16 k17 k18 k19 k20 k21 k22 k44 ∧ ((v = 1 ∧ 0 ≤ a1 ∧ a1 ≤ 2 ∧ (kq a1.toNat).toInt ≠ 0) ∨ (v = 0 ∧ (a1 < 0 ∨ 2 < a1 ∨ (kq a1.toNat).toInt = 0))) ∧ ((v = 0 ∧ k15 = g15') ∨ (v = 1 ∧ k15 = cpR g15' 600 (a1 + 1).toNat 0 600)) ∧ ((v = 0 ∧ k16 = g16') ∨ (v = 1 ∧ k16 = cpR g16' 1 (a1 + 1).toNat 0 1)) ∧ ((v = 0 ∧ k17 = g17') ∨ (v = 1 ∧ k17 = cpR g17' 1 (a1 + 1).toNat 0 1)) ∧ ((v = 0 ∧ k18 = g18') ∨ (v = 1 ∧ k18 = cpR g18' 1 (a1 + 1).toNat 0 1)) ∧ ((v = 0 ∧ k19 = g19') ∨ (v = 1 ∧ k19 = cpR g19' 3 (a1 + 1).toNat 0 3)) ∧ ((v = 0 ∧ k20 = g20') ∨ (v = 1 ∧ k20 = cpR g20' 102 (a1 + 1).toNat 0 102)) ∧ ((v = 0 ∧ k21 = g21') ∨ (v = 1 ∧ k21 = cpR g21' 242 (a1 + 1).toNat 0 242)) ∧ ((v = 0 ∧ k22 = g22') ∨ (v = 1 ∧ k22 = cpR g22' 26 (a1 + 1).toNat 0 26)) ∧ k44 = kq) := mi_elim h fun c0 c1 c2 c3 c4 c5 c6 c7 c8 c9 c10 c11 c12 c13 f0 f9 f10 f11 f12 f13 f15 f16 f17 f20 f21 f22 f23 f26 f28 f31 f32 f33 f38 f41 f44 x14 g15 g17 g18 g19 g20 g21 g22 g23 g24 g25 g26 g27 g28 g29 g30 g31 g32 g33 g34 g35 g36 g37 g38 g39 g40 g41 g42 g43 t e b16 b19 b20 b21 b22 b25 b26 b28 b30 b33 b38 => by
  subst e
  obtain ⟨b1, b2, b3, b4, b5, b6, b7, b8, b9⟩ := hA
  have e1 := arEq b1
  have e2 := arEq b2
  have e3 := arEq b3
  have e4 := arEq b4
  have e5 := arEq b5
  have e6 := arEq b6
  have e7 := arEq b7
  have e8 := arEq b8
  have e9 := arEq b9
  subst e1 e2 e3 e4 e5 e6 e7 e8 e9
  exact m_againT 9 a1 hby ha1 _ fun v y0 y21 k15 k16 k17 k18 k19 k20 k21 k22 p0 p1 p2 p3 p4 p5 p6 p7 p8 => ⟨v, k15, k16, k17, k18, k19, k20, k21, k22, _, same_M, ⟨rfl, rfl, rfl, rfl, rfl, rfl, rfl, rfl, rfl⟩, p0, p1, p2, p3, p4, p5, p6, p7, p8, rfl⟩
theorem ars_eq {w w' : zW} {g15 g16 g17 g18 g19 g20 g21 g22 kp : Nat → Int32} (h : ARS w g15 g16 g17 g18 g19 g20 g21 g22 kp) (h' : ARS w' g15 g16 g17 g18 g19 g20 g21 g22 kp) : ∀ q, (15 ≤ q ∧ q ≤ 22) ∨ q = 44 → zix w' q = zix w q := by
  intro q hq
  obtain ⟨a1, a2, a3, a4, a5, a6, a7, a8, a9⟩ := h
  obtain ⟨b1, b2, b3, b4, b5, b6, b7, b8, b9⟩ := h'
  have hc : q = 15 ∨ q = 16 ∨ q = 17 ∨ q = 18 ∨ q = 19 ∨ q = 20 ∨ q = 21 ∨ q = 22 ∨ q = 44 := by omega
  rcases hc with rfl | rfl | rfl | rfl | rfl | rfl | rfl | rfl | rfl
  · exact b1.trans a1.symm
  · exact b2.trans a2.symm
  · exact b3.trans a3.symm
  · exact b4.trans a4.symm
  · exact b5.trans a5.symm
  · exact b6.trans a6.symm
  · exact b7.trans a7.symm
  · exact b8.trans a8.symm
  · exact b9.trans a9.symm
theorem cp_i {g : Nat → Int32} {n fr to j : Nat} {x y : Int} (hx : x.toNat = n * to + j) (hy : y.toNat = n * fr + j) (hj : j < n) : tBy (cpR g n fr to n) x = tBy g y := by
  unfold tBy cpR
  rw [hx, hy, if_pos (by omega)]
  congr 2
  omega
theorem cp_o {g : Nat → Int32} {n fr to : Nat} {x : Int} (hx : x.toNat < n * to ∨ n * to + n ≤ x.toNat) : tBy (cpR g n fr to n) x = tBy g x := by
  unfold tBy cpR
  rw [if_neg (by omega)]
/-- a told cell lies below the end, and is not the row of images -/
theorem told_lt {ρ : Nat → Nat} {w : zW} (hT : TOP ρ w) {p x : Nat} (hp : TP1 w p) (hx : TCp w p x) : x < w.length ∧ x ≠ 7 ∧ (x < 14 ∨ 44 < x) := by
  have hc : TC w x := Or.inr ⟨p, hp, hx⟩
  have hr := tc_role hT hc
  refine ⟨CI_lt hT.1 (by unfold TRL at hr; omega), fun e => ?_, tc_out hT hc⟩
  obtain ⟨y6, y7, h0, r1, r7, -⟩ := top_o hT
  rcases hx with hx | hx
  · have := out_blk hT.1 (tp1_role hT hp) (q := x) (by rw [e, r7]; omega)
    omega
  · have := obj_role hT hp hx
    rw [e, r7] at this
    omega
/-- cells of one place that is told are none of another's own -/
theorem told_ne {ρ : Nat → Nat} {w : zW} (hT : TOP ρ w) {p q x : Nat} (hp : TP1 w p) (hq : TP1 w q) (hne : q ≠ p) (hx : TCp w p x) : x < q ∨ q + 5 < x := by
  rcases hx with hx | hx
  · have := blk hT.1 (tp1_role hT hq) (tp1_role hT hp) hne (x - p) (by omega)
    omega
  · exact out_blk hT.1 (tp1_role hT hq) (by have := obj_role hT hp hx; omega)
theorem by_n {g : Nat → Int32} (h : ∀ j : Int, 0 ≤ j → j < 2400 → -128 ≤ tBy g j ∧ tBy g j ≤ 127) : ∀ j : Nat, j < 2400 → -128 ≤ (g j).toInt ∧ (g j).toInt ≤ 127 := fun j hj => by
  have := h (j : Int) (by omega) (by omega)
  unfold tBy at this
  rwa [Int.toNat_natCast] at this
theorem by_i {g : Nat → Int32} (h : ∀ j : Nat, j < 2400 → -128 ≤ (g j).toInt ∧ (g j).toInt ≤ 127) : ∀ j : Int, 0 ≤ j → j < 2400 → -128 ≤ tBy g j ∧ tBy g j ≤ 127 := fun j h0 h1 => h j.toNat (by omega)
theorem img_fin {ρ : Nat → Nat} {w w2 : zW} {g15 g16 g17 g18 g19 g20 g21 g22 kq : Nat → Int32} {gi gi' : Nat → Option Nat} {a1 : Int} (hT : TOP ρ w) (hX : XX w g15 g16 g17 g18 g19 g20 g21 g22 kq gi) (ha : 0 ≤ a1 ∧ a1 < 3) {q0 : Nat} (hq45 : 45 ≤ q0) (h7' : zix w2 7 = some (rfa 6 3 gi')) (hgs : gi' a1.toNat = some q0) (hgn : ∀ k, k ≠ a1.toNat → gi' k = gi k) (hfr : ∀ p x, TP1 w p → p ≠ q0 → TCp w p x → zix w2 x = zix w x) (hob : ∀ x, TCo w 1 x → zix w2 x = zix w x) (hne : ∀ k q, k < 3 → gi k = some q → k ≠ a1.toNat → q ≠ q0) {l f c : Int} {g cn gt ct : Nat → Int32} {bo ye si bt yt it : Nat → Option Nat} (hL : TLE w 1 0 g15 g16 g17 g18 g19 g20 g21 g22 l f c g cn bo ye si) (hTD : TDC w2 q0 l f c gt ct bt yt it) (e1 : ∀ j, j < 600 → gt j = g j) (e2 : ∀ j, j < 3 → ct j = cn j) (e3 : ∀ j, j < 2 → bt j = bo j) (e4 : ∀ j, j < 2 → yt j = ye j) (e5 : ∀ j, j < 2 → it j = si j) (hA2 : ARS w2 (cpR g15 600 0 (a1 + 1).toNat 600) (cpR g16 1 0 (a1 + 1).toNat 1) (cpR g17 1 0 (a1 + 1).toNat 1) (cpR g18 1 0 (a1 + 1).toNat 1) (cpR g19 3 0 (a1 + 1).toNat 3) (cpR g20 102 0 (a1 + 1).toNat 102) (cpR g21 242 0 (a1 + 1).toNat 242) (cpR g22 26 0 (a1 + 1).toNat 26) (upd kq a1.toNat (Int32.ofInt 1))) : XT w2 := by
  obtain ⟨hA, h7, hby, h1, hk⟩ := hX
  refine ⟨_, _, _, _, _, _, _, _, _, gi', hA2, h7', by_i fun j hj => cpR_by (by_n hby) (by omega) (by omega) hj, ?_, fun k hk3 => ?_⟩
  · exact TLD_fr h1 (fun x hx => hfr 1 x (Or.inl rfl) (by omega) hx) ⟨(fun j j0 j1 => cp_o (by omega)), cp_o (by omega), cp_o (by omega), cp_o (by omega), (fun j j0 j1 => cp_o (by omega)), (fun j j0 j1 => cp_o (by omega)), (fun j j0 j1 => cp_o (by omega)), (fun j j0 j1 => cp_o (by omega))⟩
  · by_cases e : k = a1.toNat
    · subst e
      refine Or.inr ⟨q0, hgs, ?_, hq45, l, f, c, gt, ct, bt, yt, it, ?_⟩
      · rw [pk_us]; decide
      · exact TLE_mv hL hTD e1 e2 e3 e4 e5 (fun j b hb x hx => hob _ (tcp_b hL.1.2.2.2.1 j b hb x hx)) (fun j b hb x hx => hob _ (tcp_y hL.1.2.2.2.2.1 j b hb x hx)) (fun j b hb x hx => hob _ (tcp_s hL.1.2.2.2.2.2 j b hb x hx)) ⟨(fun j j0 j1 => cp_i (j := j.toNat) (by omega) (by omega) (by omega)), (cp_i (j := 0) (by omega) (by omega) (by omega)), (cp_i (j := 0) (by omega) (by omega) (by omega)), (cp_i (j := 0) (by omega) (by omega) (by omega)), (fun j j0 j1 => cp_i (j := j.toNat) (by omega) (by omega) (by omega)), (fun j j0 j1 => cp_i (j := j.toNat) (by omega) (by omega) (by omega)), (fun j j0 j1 => cp_i (j := j.toNat) (by omega) (by omega) (by omega)), (fun j j0 j1 => cp_i (j := j.toNat) (by omega) (by omega) (by omega))⟩
    · rw [hgn k e]
      rcases hk k hk3 with ⟨u1, u2⟩ | ⟨q, u1, u2, u4, u3⟩
      · exact Or.inl ⟨u1, by rw [pk_un e]; exact u2⟩
      · exact Or.inr ⟨q, u1, by rw [pk_un e]; exact u2, u4, TLD_fr u3 (fun x hx => hfr q x (Or.inr ⟨gi, k, h7, u1⟩) (hne k q hk3 u1 e) hx) ⟨(fun j j0 j1 => cp_o (by omega)), cp_o (by omega), cp_o (by omega), cp_o (by omega), (fun j j0 j1 => cp_o (by omega)), (fun j j0 j1 => cp_o (by omega)), (fun j j0 j1 => cp_o (by omega)), (fun j j0 j1 => cp_o (by omega))⟩⟩
theorem xs_image {σ : Nat → Nat} {w w1 w2 : zW} {r r' : Option Value} {mc ms : Nat} {sz kp : Nat → Int32} (hT : TOP σ w) (hX : XT w) {lI : Int} {mI : Nat → Option Int} (hI : IM w lI mI) (a1 : Int) (ha1 : -2147483648 ≤ a1 ∧ a1 ≤ 2147483647) (run1 : ∀ Q : zQ, Q r w1 → zCl zTab 12 iX11_image [.ref 0, .int (Int32.ofInt a1)] w mc ms Q) (hM1 : MI w1 sz kp) (run2 : ∀ Q : zQ, Q r' w2 → zCl zTab 12 iX12_image [.ref 14, .int (Int32.ofInt a1)] w1 0 0 Q) : XT w2 := by
  obtain ⟨g15, g16, g17, g18, g19, g20, g21, g22, kq, gi, hA, h7, hby, ⟨l, f, c, g, cn, bo, ye, si, hL⟩, hk⟩ := id hX
  obtain ⟨y6, y7, h0, -⟩ := top_o hT
  obtain ⟨hl0, hl1⟩ := hL.2.1
  have ob : ∀ j b, bo j = some b → ∀ x, x < 5 → 45 ≤ b + x := fun j b hb x hx => obj_hi hT (Or.inl rfl) (tcp_b hL.1.2.2.2.1 j b hb x hx)
  have oy : ∀ j b, ye j = some b → ∀ x, x < 4 → 45 ≤ b + x := fun j b hb x hx => obj_hi hT (Or.inl rfl) (tcp_y hL.1.2.2.2.2.1 j b hb x hx)
  have os : ∀ j b, si j = some b → ∀ x, x < 3 → 45 ≤ b + x := fun j b hb x hx => obj_hi hT (Or.inl rfl) (tcp_s hL.1.2.2.2.2.2 j b hb x hx)
  have oi : ∀ k q, gi k = some q → 45 ≤ q → ∀ x, TCp w q x → 45 ≤ x := by
    intro k q e1 e4 x hx
    rcases hx with hx | hx
    · omega
    · exact obj_hi hT (Or.inr ⟨gi, k, h7, e1⟩) hx
  obtain ⟨f0, f9, f10, f11, f12, f13, f15, f16, f17, f20, f21, f22, f23, f26, f28, f31, f32, f33, f38, f41, f44, x14, g23, g24, hf17, c14, c23, c24⟩ := mi_obj hM1
  obtain ⟨-, gI, i7, -, hinj⟩ := hI
  obtain rfl := rfEq (i7.symm.trans h7)
  have hXX : XX w g15 g16 g17 g18 g19 g20 g21 g22 kq gI := ⟨hA, h7, hby, ⟨l, f, c, g, cn, bo, ye, si, hL⟩, hk⟩
  have hBy : ∀ j, j < 600 → -128 ≤ (g j).toInt ∧ (g j).toInt ≤ 127 := fun j hj => by
    have := (hL.2.2.2.2.1 (j : Int) (by omega) (by omega)).2
    unfold tBy at this
    rwa [Int.toNat_natCast] at this
  obtain ⟨p0, p1, p2, p3, p4, p5⟩ := id hL.1
  obtain ⟨_, _, _, -, s1, -, -, -, s2, s3, s4, s5⟩ := CI_o2 hT.1 (tp1_role hT (Or.inl rfl))
  have cb : ∀ j b, bo j = some b → ∃ fs, zix w b = some (.inr (zec 3, fs)) := fun j b hb => by
    obtain ⟨g', a, c'⟩ := CI_rf hT.1 (q := 1 + 3) (by rw [s3]; rfl) (by rw [s3]; rfl)
    obtain rfl := rfEq (a.symm.trans p3)
    obtain ⟨_, _, _, hO, -⟩ := CI_o20 hT.1 (c' j b hb)
    exact ⟨_, hO⟩
  have cy : ∀ j b, ye j = some b → ∃ fs, zix w b = some (.inr (zec 4, fs)) := fun j b hb => by
    obtain ⟨g', a, c'⟩ := CI_rf hT.1 (q := 1 + 4) (by rw [s4]; rfl) (by rw [s4]; rfl)
    obtain rfl := rfEq (a.symm.trans p4)
    obtain ⟨_, hO, -⟩ := CI_o30 hT.1 (c' j b hb)
    exact ⟨_, hO⟩
  have cs : ∀ j b, si j = some b → ∃ fs, zix w b = some (.inr (zec 5, fs)) := fun j b hb => by
    obtain ⟨g', a, c'⟩ := CI_rf hT.1 (q := 1 + 5) (by rw [s5]; rfl) (by rw [s5]; rfl)
    obtain rfl := rfEq (a.symm.trans p5)
    obtain ⟨_, hO, -⟩ := CI_o40 hT.1 (c' j b hb)
    exact ⟨_, hO⟩
  by_cases hx : a1 < 0 ∨ 3 ≤ a1
  · have H1 := two_x run1 (x_image0 (w := w) 9 a1 ha1 hx (fun _ w' => w' = w) rfl)
    subst H1
    obtain ⟨v, k15, k16, k17, k18, k19, k20, k21, k22, k44, hS, hA2, v0, q44, q15, q16, q17, q18, q19, q20, q21, q22⟩ := two_x run2 (ri_image hM1 hA (by_n hby) a1 ha1)
    obtain rfl : k15 = g15 := by rcases q15 with ⟨h, e⟩ | ⟨h, e⟩ <;> first | exact e | omega
    obtain rfl : k16 = g16 := by rcases q16 with ⟨h, e⟩ | ⟨h, e⟩ <;> first | exact e | omega
    obtain rfl : k17 = g17 := by rcases q17 with ⟨h, e⟩ | ⟨h, e⟩ <;> first | exact e | omega
    obtain rfl : k18 = g18 := by rcases q18 with ⟨h, e⟩ | ⟨h, e⟩ <;> first | exact e | omega
    obtain rfl : k19 = g19 := by rcases q19 with ⟨h, e⟩ | ⟨h, e⟩ <;> first | exact e | omega
    obtain rfl : k20 = g20 := by rcases q20 with ⟨h, e⟩ | ⟨h, e⟩ <;> first | exact e | omega
    obtain rfl : k21 = g21 := by rcases q21 with ⟨h, e⟩ | ⟨h, e⟩ <;> first | exact e | omega
    obtain rfl : k22 = g22 := by rcases q22 with ⟨h, e⟩ | ⟨h, e⟩ <;> first | exact e | omega
    obtain rfl : k44 = kq := by rcases q44 with ⟨h, e⟩ | ⟨h, e⟩ <;> first | exact e | omega
    exact XT_fr hX (fun q hq => hS.2 q (tc_out hT hq)) fun q hq => ars_eq hA hA2 q hq
  · have hk3 : a1.toNat < 3 := by omega
    cases hgq : gI a1.toNat with
    | none =>
      have H1 := two_x run1 (x_imageN (w := w) 9 a1 (by omega) (va_rf y6) (va_rf y7) h0 gI h7 hgq l f c g cn bo ye si hL.1 hBy (fun j x hx => ⟨by have := ob j x hx 0 (by omega); omega, cb j x hx⟩) (fun j x hx => ⟨by have := oy j x hx 0 (by omega); omega, cy j x hx⟩) (fun j x hx => ⟨by have := os j x hx 0 (by omega); omega, cs j x hx⟩) (fun _ w' => ∃ gt ct bt yt it, w'.length = w.length + 6 ∧ (∀ q, q < w.length → q ≠ 7 → zix w' q = zix w q) ∧ zix w' 7 = some (rfa 6 3 (va_up gI a1.toNat (some w.length))) ∧ TDC w' w.length l f c gt ct bt yt it ∧ (∀ j, j < 600 → gt j = g j) ∧ (∀ j, j < 3 → ct j = cn j) ∧ (∀ j, j < 2 → bt j = bo j) ∧ (∀ j, j < 2 → yt j = ye j) ∧ (∀ j, j < 2 → it j = si j)) (fun w' gt ct bt yt it b1 b2 b3 b4 b5 b6 b7 b8 b9 => ⟨gt, ct, bt, yt, it, b1, b2, b3, b4, b5, b6, b7, b8, b9⟩))
      obtain ⟨gt, ct, bt, yt, it, b1, b2, b3, b4, b5, b6, b7, b8, b9⟩ := H1
      have h45 : 45 ≤ w.length := hT.2.2.2.2
      have hA1 : ARS w1 g15 g16 g17 g18 g19 g20 g21 g22 kq := ars_fr hA fun q hq => b2 q (by omega) (by omega)
      obtain ⟨v, k15, k16, k17, k18, k19, k20, k21, k22, k44, hS, hA2, v0, q44, q15, q16, q17, q18, q19, q20, q21, q22⟩ := two_x run2 (ri_image hM1 hA1 (by_n hby) a1 ha1)
      obtain rfl : k15 = cpR g15 600 0 (a1 + 1).toNat 600 := by rcases q15 with ⟨h, e⟩ | ⟨h, e⟩ <;> first | exact e | omega
      obtain rfl : k16 = cpR g16 1 0 (a1 + 1).toNat 1 := by rcases q16 with ⟨h, e⟩ | ⟨h, e⟩ <;> first | exact e | omega
      obtain rfl : k17 = cpR g17 1 0 (a1 + 1).toNat 1 := by rcases q17 with ⟨h, e⟩ | ⟨h, e⟩ <;> first | exact e | omega
      obtain rfl : k18 = cpR g18 1 0 (a1 + 1).toNat 1 := by rcases q18 with ⟨h, e⟩ | ⟨h, e⟩ <;> first | exact e | omega
      obtain rfl : k19 = cpR g19 3 0 (a1 + 1).toNat 3 := by rcases q19 with ⟨h, e⟩ | ⟨h, e⟩ <;> first | exact e | omega
      obtain rfl : k20 = cpR g20 102 0 (a1 + 1).toNat 102 := by rcases q20 with ⟨h, e⟩ | ⟨h, e⟩ <;> first | exact e | omega
      obtain rfl : k21 = cpR g21 242 0 (a1 + 1).toNat 242 := by rcases q21 with ⟨h, e⟩ | ⟨h, e⟩ <;> first | exact e | omega
      obtain rfl : k22 = cpR g22 26 0 (a1 + 1).toNat 26 := by rcases q22 with ⟨h, e⟩ | ⟨h, e⟩ <;> first | exact e | omega
      obtain rfl : k44 = upd kq a1.toNat (Int32.ofInt 1) := by rcases q44 with ⟨h, e⟩ | ⟨h, e⟩ <;> first | exact e | omega
      refine img_fin hT hXX (by omega) h45 ((hS.2 7 (by omega)).trans b3) up_s (fun k hk => up_n hk) (fun p x hp hne hx => ?_) (fun x hx => ?_) (fun k q hk hq _ => ?_) hL (TDC_fr b4 fun j hj => hS.2 _ (by omega)) b5 b6 b7 b8 b9 hA2
      · obtain ⟨x1, x2, x3⟩ := told_lt hT hp hx
        exact (hS.2 x x3).trans (b2 x x1 x2)
      · obtain ⟨x1, x2, x3⟩ := told_lt hT (Or.inl rfl) (Or.inr hx)
        exact (hS.2 x x3).trans (b2 x x1 x2)
      · have : q < w.length := CI_lt hT.1 (by rw [tp1_role hT (Or.inr ⟨gI, k, h7, hq⟩)]; decide)
        omega
    | some q0 =>
      obtain ⟨l2, f2, c2, g2, cn2, bo2, ye2, si2, hq45, hL2⟩ : ∃ l2 f2 c2 g2 cn2 bo2 ye2 si2, 45 ≤ q0 ∧ TLE w q0 ((a1.toNat : Int) + 1) g15 g16 g17 g18 g19 g20 g21 g22 l2 f2 c2 g2 cn2 bo2 ye2 si2 := by
        rcases hk a1.toNat hk3 with ⟨u1, -⟩ | ⟨q, u1, u2, u4, l2, f2, c2, g2, cn2, bo2, ye2, si2, u3⟩
        · rw [hgq] at u1; cases u1
        · rw [hgq] at u1
          cases u1
          exact ⟨l2, f2, c2, g2, cn2, bo2, ye2, si2, u4, u3⟩
      have hq0 : TP1 w q0 := Or.inr ⟨gI, a1.toNat, h7, hgq⟩
      have H1 := two_x run1 (x_imageS (w := w) 9 a1 (by omega) (va_rf y6) (va_rf y7) h0 gI h7 q0 hgq l2 f2 c2 l f c g2 cn2 g cn bo2 ye2 si2 bo ye si hL2.1 hL.1 (fun j hj => by omega) hBy (fun j x hx => ⟨told_ne hT (Or.inl rfl) hq0 (by omega) (Or.inr (by have := tcp_b hL.1.2.2.2.1 j x hx 0 (by omega); exact this)), cb j x hx⟩) (fun j x hx => ⟨told_ne hT (Or.inl rfl) hq0 (by omega) (Or.inr (by have := tcp_y hL.1.2.2.2.2.1 j x hx 0 (by omega); exact this)), cy j x hx⟩) (fun j x hx => ⟨told_ne hT (Or.inl rfl) hq0 (by omega) (Or.inr (by have := tcp_s hL.1.2.2.2.2.2 j x hx 0 (by omega); exact this)), cs j x hx⟩) (fun _ w' => ∃ gt ct bt yt it, FRP q0 w w' ∧ TDC w' q0 l f c gt ct bt yt it ∧ (∀ j, j < 600 → gt j = g j) ∧ (∀ j, j < 3 → ct j = cn j) ∧ (∀ j, j < 2 → bt j = bo j) ∧ (∀ j, j < 2 → yt j = ye j) ∧ (∀ j, j < 2 → it j = si j)) (fun w' gt ct bt yt it b1 b4 b5 b6 b7 b8 b9 => ⟨gt, ct, bt, yt, it, b1, b4, b5, b6, b7, b8, b9⟩))
      obtain ⟨gt, ct, bt, yt, it, b1, b4, b5, b6, b7, b8, b9⟩ := H1
      have hA1 : ARS w1 g15 g16 g17 g18 g19 g20 g21 g22 kq := ars_fr hA fun q hq => b1.2 q (by omega)
      obtain ⟨v, k15, k16, k17, k18, k19, k20, k21, k22, k44, hS, hA2, v0, q44, q15, q16, q17, q18, q19, q20, q21, q22⟩ := two_x run2 (ri_image hM1 hA1 (by_n hby) a1 ha1)
      obtain rfl : k15 = cpR g15 600 0 (a1 + 1).toNat 600 := by rcases q15 with ⟨h, e⟩ | ⟨h, e⟩ <;> first | exact e | omega
      obtain rfl : k16 = cpR g16 1 0 (a1 + 1).toNat 1 := by rcases q16 with ⟨h, e⟩ | ⟨h, e⟩ <;> first | exact e | omega
      obtain rfl : k17 = cpR g17 1 0 (a1 + 1).toNat 1 := by rcases q17 with ⟨h, e⟩ | ⟨h, e⟩ <;> first | exact e | omega
      obtain rfl : k18 = cpR g18 1 0 (a1 + 1).toNat 1 := by rcases q18 with ⟨h, e⟩ | ⟨h, e⟩ <;> first | exact e | omega
      obtain rfl : k19 = cpR g19 3 0 (a1 + 1).toNat 3 := by rcases q19 with ⟨h, e⟩ | ⟨h, e⟩ <;> first | exact e | omega
      obtain rfl : k20 = cpR g20 102 0 (a1 + 1).toNat 102 := by rcases q20 with ⟨h, e⟩ | ⟨h, e⟩ <;> first | exact e | omega
      obtain rfl : k21 = cpR g21 242 0 (a1 + 1).toNat 242 := by rcases q21 with ⟨h, e⟩ | ⟨h, e⟩ <;> first | exact e | omega
      obtain rfl : k22 = cpR g22 26 0 (a1 + 1).toNat 26 := by rcases q22 with ⟨h, e⟩ | ⟨h, e⟩ <;> first | exact e | omega
      obtain rfl : k44 = upd kq a1.toNat (Int32.ofInt 1) := by rcases q44 with ⟨h, e⟩ | ⟨h, e⟩ <;> first | exact e | omega
      refine img_fin hT hXX (by omega) hq45 ((hS.2 7 (by omega)).trans ((b1.2 7 (by omega)).trans h7)) hgq (fun k hk => rfl) (fun p x hp hne hx => ?_) (fun x hx => ?_) (fun k q hk hq hne e => ?_) hL (TDC_fr b4 fun j hj => hS.2 _ (by omega)) b5 b6 b7 b8 b9 hA2
      · obtain ⟨x1, x2, x3⟩ := told_lt hT hp hx
        exact (hS.2 x x3).trans (b1.2 x (told_ne hT hp hq0 (fun e => hne e.symm) hx))
      · obtain ⟨x1, x2, x3⟩ := told_lt hT (Or.inl rfl) (Or.inr hx)
        exact (hS.2 x x3).trans (b1.2 x (told_ne hT (Or.inl rfl) hq0 (by omega) (Or.inr hx)))
      · rw [e] at hq
        exact hne (hinj k a1.toNat q0 hk hk3 hq hgq)
theorem xs_again {σ : Nat → Nat} {w w1 w2 : zW} {r r' : Option Value} {mc ms : Nat} {sz kp : Nat → Int32} (hT : TOP σ w) (hX : XT w) (a1 : Int) (ha1 : -2147483648 ≤ a1 ∧ a1 ≤ 2147483647) (run1 : ∀ Q : zQ, Q r w1 → zCl zTab 12 iX11_again [.ref 0, .int (Int32.ofInt a1)] w mc ms Q) (hM1 : MI w1 sz kp) (run2 : ∀ Q : zQ, Q r' w2 → zCl zTab 12 iX12_again [.ref 14, .int (Int32.ofInt a1)] w1 0 0 Q) : XT w2 := by
  obtain ⟨g15, g16, g17, g18, g19, g20, g21, g22, kq, gi, hA, h7, hby, ⟨l, f, c, g, cn, bo, ye, si, hL⟩, hk⟩ := id hX
  obtain ⟨y6, y7, h0, -⟩ := top_o hT
  obtain ⟨hl0, hl1⟩ := hL.2.1
  have ob : ∀ j b, bo j = some b → ∀ x, x < 5 → 45 ≤ b + x := fun j b hb x hx => obj_hi hT (Or.inl rfl) (tcp_b hL.1.2.2.2.1 j b hb x hx)
  have oy : ∀ j b, ye j = some b → ∀ x, x < 4 → 45 ≤ b + x := fun j b hb x hx => obj_hi hT (Or.inl rfl) (tcp_y hL.1.2.2.2.2.1 j b hb x hx)
  have os : ∀ j b, si j = some b → ∀ x, x < 3 → 45 ≤ b + x := fun j b hb x hx => obj_hi hT (Or.inl rfl) (tcp_s hL.1.2.2.2.2.2 j b hb x hx)
  have oi : ∀ k q, gi k = some q → 45 ≤ q → ∀ x, TCp w q x → 45 ≤ x := by
    intro k q e1 e4 x hx
    rcases hx with hx | hx
    · omega
    · exact obj_hi hT (Or.inr ⟨gi, k, h7, e1⟩) hx
  obtain ⟨f0, f9, f10, f11, f12, f13, f15, f16, f17, f20, f21, f22, f23, f26, f28, f31, f32, f33, f38, f41, f44, x14, g23, g24, hf17, c14, c23, c24⟩ := mi_obj hM1
  have hp1 : TP1 w 1 := Or.inl rfl
  have no : ((a1 < 0 ∨ 3 ≤ a1) ∨ gi a1.toNat = none) → (a1 < 0 ∨ 2 < a1 ∨ (kq a1.toNat).toInt = 0) → XT w2 := by
    intro hx hx2
    have H1 := two_x run1 (x_again0 (w := w) 9 a1 ha1 (va_rf y6) (va_rf y7) h0 gi h7 hx (fun _ w' => w' = w) rfl)
    subst H1
    obtain ⟨v, k15, k16, k17, k18, k19, k20, k21, k22, k44, hS, hA2, v0, q15, q16, q17, q18, q19, q20, q21, q22, rfl⟩ := two_x run2 (ri_again hM1 hA (by_n hby) a1 ha1)
    obtain rfl : k15 = g15 := by rcases q15 with ⟨h, e⟩ | ⟨h, e⟩ <;> first | exact e | omega
    obtain rfl : k16 = g16 := by rcases q16 with ⟨h, e⟩ | ⟨h, e⟩ <;> first | exact e | omega
    obtain rfl : k17 = g17 := by rcases q17 with ⟨h, e⟩ | ⟨h, e⟩ <;> first | exact e | omega
    obtain rfl : k18 = g18 := by rcases q18 with ⟨h, e⟩ | ⟨h, e⟩ <;> first | exact e | omega
    obtain rfl : k19 = g19 := by rcases q19 with ⟨h, e⟩ | ⟨h, e⟩ <;> first | exact e | omega
    obtain rfl : k20 = g20 := by rcases q20 with ⟨h, e⟩ | ⟨h, e⟩ <;> first | exact e | omega
    obtain rfl : k21 = g21 := by rcases q21 with ⟨h, e⟩ | ⟨h, e⟩ <;> first | exact e | omega
    obtain rfl : k22 = g22 := by rcases q22 with ⟨h, e⟩ | ⟨h, e⟩ <;> first | exact e | omega
    exact XT_fr hX (fun q hq => hS.2 q (tc_out hT hq)) fun q hq => ars_eq hA hA2 q hq
  by_cases hx : a1 < 0 ∨ 3 ≤ a1
  · exact no (Or.inl hx) (by omega)
  · have hk3 : a1.toNat < 3 := by omega
    rcases hk a1.toNat hk3 with ⟨u1, u2⟩ | ⟨q, u1, u2, u4, l2, f2, c2, g2, cn2, bo2, ye2, si2, u3⟩
    · exact no (Or.inr u1) (Or.inr (Or.inr u2))
    · have hq0 : TP1 w q := Or.inr ⟨gi, a1.toNat, h7, u1⟩
      have hBy : ∀ j, j < 600 → -128 ≤ (g2 j).toInt ∧ (g2 j).toInt ≤ 127 := fun j hj => by
        have := (u3.2.2.2.2.1 (j : Int) (by omega) (by omega)).2
        unfold tBy at this
        rwa [Int.toNat_natCast] at this
      obtain ⟨p0, p1, p2, p3, p4, p5⟩ := id u3.1
      obtain ⟨_, _, _, -, s1, -, -, -, s2, s3, s4, s5⟩ := CI_o2 hT.1 (tp1_role hT hq0)
      have cb : ∀ j b, bo2 j = some b → ∃ fs, zix w b = some (.inr (zec 3, fs)) := fun j b hb => by
        obtain ⟨g', a, c'⟩ := CI_rf hT.1 (q := q + 3) (by rw [s3]; rfl) (by rw [s3]; rfl)
        obtain rfl := rfEq (a.symm.trans p3)
        obtain ⟨_, _, _, hO, -⟩ := CI_o20 hT.1 (c' j b hb)
        exact ⟨_, hO⟩
      have cy : ∀ j b, ye2 j = some b → ∃ fs, zix w b = some (.inr (zec 4, fs)) := fun j b hb => by
        obtain ⟨g', a, c'⟩ := CI_rf hT.1 (q := q + 4) (by rw [s4]; rfl) (by rw [s4]; rfl)
        obtain rfl := rfEq (a.symm.trans p4)
        obtain ⟨_, hO, -⟩ := CI_o30 hT.1 (c' j b hb)
        exact ⟨_, hO⟩
      have cs : ∀ j b, si2 j = some b → ∃ fs, zix w b = some (.inr (zec 5, fs)) := fun j b hb => by
        obtain ⟨g', a, c'⟩ := CI_rf hT.1 (q := q + 5) (by rw [s5]; rfl) (by rw [s5]; rfl)
        obtain rfl := rfEq (a.symm.trans p5)
        obtain ⟨_, hO, -⟩ := CI_o40 hT.1 (c' j b hb)
        exact ⟨_, hO⟩
      have H1 := two_x run1 (x_again1 (w := w) 9 a1 (by omega) (va_rf y6) (va_rf y7) h0 gi h7 q u1 l f c l2 f2 c2 g cn g2 cn2 bo ye si bo2 ye2 si2 hL.1 u3.1 (fun j hj => by omega) hBy (fun j x hx => ⟨by have := obj_hi hT hq0 (tcp_b u3.1.2.2.2.1 j x hx 0 (by omega)); omega, cb j x hx⟩) (fun j x hx => ⟨by have := obj_hi hT hq0 (tcp_y u3.1.2.2.2.2.1 j x hx 0 (by omega)); omega, cy j x hx⟩) (fun j x hx => ⟨by have := obj_hi hT hq0 (tcp_s u3.1.2.2.2.2.2 j x hx 0 (by omega)); omega, cs j x hx⟩) (fun _ w' => ∃ gt ct bt yt it, FRP 1 w w' ∧ TDC w' 1 l2 f2 c2 gt ct bt yt it ∧ (∀ j, j < 600 → gt j = g2 j) ∧ (∀ j, j < 3 → ct j = cn2 j) ∧ (∀ j, j < 2 → bt j = bo2 j) ∧ (∀ j, j < 2 → yt j = ye2 j) ∧ (∀ j, j < 2 → it j = si2 j)) (fun w' gt ct bt yt it b1 b4 b5 b6 b7 b8 b9 => ⟨gt, ct, bt, yt, it, b1, b4, b5, b6, b7, b8, b9⟩))
      obtain ⟨gt, ct, bt, yt, it, b1, b4, b5, b6, b7, b8, b9⟩ := H1
      have hA1 : ARS w1 g15 g16 g17 g18 g19 g20 g21 g22 kq := ars_fr hA fun q hq => b1.2 q (by omega)
      obtain ⟨v, k15, k16, k17, k18, k19, k20, k21, k22, k44, hS, hA2, v0, q15, q16, q17, q18, q19, q20, q21, q22, rfl⟩ := two_x run2 (ri_again hM1 hA1 (by_n hby) a1 ha1)
      obtain rfl : k15 = cpR g15 600 (a1 + 1).toNat 0 600 := by rcases q15 with ⟨h, e⟩ | ⟨h, e⟩ <;> first | exact e | omega
      obtain rfl : k16 = cpR g16 1 (a1 + 1).toNat 0 1 := by rcases q16 with ⟨h, e⟩ | ⟨h, e⟩ <;> first | exact e | omega
      obtain rfl : k17 = cpR g17 1 (a1 + 1).toNat 0 1 := by rcases q17 with ⟨h, e⟩ | ⟨h, e⟩ <;> first | exact e | omega
      obtain rfl : k18 = cpR g18 1 (a1 + 1).toNat 0 1 := by rcases q18 with ⟨h, e⟩ | ⟨h, e⟩ <;> first | exact e | omega
      obtain rfl : k19 = cpR g19 3 (a1 + 1).toNat 0 3 := by rcases q19 with ⟨h, e⟩ | ⟨h, e⟩ <;> first | exact e | omega
      obtain rfl : k20 = cpR g20 102 (a1 + 1).toNat 0 102 := by rcases q20 with ⟨h, e⟩ | ⟨h, e⟩ <;> first | exact e | omega
      obtain rfl : k21 = cpR g21 242 (a1 + 1).toNat 0 242 := by rcases q21 with ⟨h, e⟩ | ⟨h, e⟩ <;> first | exact e | omega
      obtain rfl : k22 = cpR g22 26 (a1 + 1).toNat 0 26 := by rcases q22 with ⟨h, e⟩ | ⟨h, e⟩ <;> first | exact e | omega
      have up : ∀ x, 45 ≤ x → zix w2 x = zix w x := fun x hx => (hS.2 x (by omega)).trans (b1.2 x (by omega))
      refine ⟨_, _, _, _, _, _, _, _, _, gi, hA2, (hS.2 7 (by omega)).trans ((b1.2 7 (by omega)).trans h7), by_i fun j hj => cpR_by (by_n hby) (by omega) (by omega) hj, ⟨l2, f2, c2, gt, ct, bt, yt, it, ?_⟩, fun k hk3 => ?_⟩
      · exact TLE_mv u3 (TDC_fr b4 fun j hj => hS.2 _ (by omega)) b5 b6 b7 b8 b9 (fun j b hb x hx => up _ (obj_hi hT hq0 (tcp_b u3.1.2.2.2.1 j b hb x hx))) (fun j b hb x hx => up _ (obj_hi hT hq0 (tcp_y u3.1.2.2.2.2.1 j b hb x hx))) (fun j b hb x hx => up _ (obj_hi hT hq0 (tcp_s u3.1.2.2.2.2.2 j b hb x hx))) ⟨(fun j j0 j1 => cp_i (j := j.toNat) (by omega) (by omega) (by omega)), (cp_i (j := 0) (by omega) (by omega) (by omega)), (cp_i (j := 0) (by omega) (by omega) (by omega)), (cp_i (j := 0) (by omega) (by omega) (by omega)), (fun j j0 j1 => cp_i (j := j.toNat) (by omega) (by omega) (by omega)), (fun j j0 j1 => cp_i (j := j.toNat) (by omega) (by omega) (by omega)), (fun j j0 j1 => cp_i (j := j.toNat) (by omega) (by omega) (by omega)), (fun j j0 j1 => cp_i (j := j.toNat) (by omega) (by omega) (by omega))⟩
      · rcases hk k hk3 with e | ⟨q', e1, e2, e4, e3⟩
        · exact Or.inl e
        · exact Or.inr ⟨q', e1, e2, e4, TLD_fr e3 (fun x hx => up x (oi k q' e1 e4 x hx)) ⟨(fun j j0 j1 => cp_o (by omega)), cp_o (by omega), cp_o (by omega), cp_o (by omega), (fun j j0 j1 => cp_o (by omega)), (fun j j0 j1 => cp_o (by omega)), (fun j j0 j1 => cp_o (by omega)), (fun j j0 j1 => cp_o (by omega))⟩⟩
