/-! READINGS OF A BOOK: what the reference's array 30 has, if its field 21 names the book. -/
noncomputable def RML (g30 g20 : Nat → Int32) (b : Int) (n : Nat) : Prop := ∀ r t : Nat, t < 5461 → 5461 * r + t < n → (g30 (5461 * r + t)).toInt = rBY g20 (51 * b) (r : Int) (t : Int)
noncomputable def RMD (g30 g20 : Nat → Int32) (f21 : Int) : Prop := 0 ≤ f21 → RML g30 g20 f21 (5461 * (g20 (51 * f21.toNat + 1)).toInt.toNat)
theorem RML_z {g30 g20 : Nat → Int32} {b : Int} {n : Nat} (h : n = 0) : RML g30 g20 b n := fun r t _ hn => by rw [h] at hn; exact absurd hn (Nat.not_lt_zero _)
theorem RML_n {g30 g20 : Nat → Int32} {b : Int} {n m : Nat} (h : RML g30 g20 b n) (e : n = m) : RML g30 g20 b m := e ▸ h
theorem RML_s {q g20 : Nat → Int32} {b r i v : Int} (h : RML q g20 b (5461 * r.toNat + i.toNat)) (h0 : 0 ≤ r ∧ r ≤ 4) (h1 : 0 ≤ i ∧ i < 5461) (hv : v = rBY g20 (51 * b) r i) (hv0 : 0 ≤ v ∧ v ≤ 5460) : RML (upd q ((5461 * r) + i).toNat (Int32.ofInt v)) g20 b (5461 * r.toNat + (i + 1).toNat) := by
  intro r' t' ht hn
  by_cases e : 5461 * r' + t' = ((5461 * r) + i).toNat
  · have e1 : r' = r.toNat := by omega
    have e2 : t' = i.toNat := by omega
    have e3 : upd q ((5461 * r) + i).toNat (Int32.ofInt v) (5461 * r' + t') = Int32.ofInt v := if_pos e
    rw [e3, zti (e := v) (by omega) (by omega), hv, e1, e2, Int.toNat_of_nonneg h0.1, Int.toNat_of_nonneg h1.1]
  · have e3 : upd q ((5461 * r) + i).toNat (Int32.ofInt v) (5461 * r' + t') = q (5461 * r' + t') := if_neg e
    rw [e3]
    exact h r' t' ht (by omega)
theorem RMD_lay {q g30 g20 : Nat → Int32} {f21 f20 r : Int} (hL : f21 ≠ f20 → RML q g20 f20 (5461 * r.toNat)) (hE : f21 = f20 → q = g30) (hR : RMD g30 g20 f21) (hx : f21 = f20 ∨ (g20 (51 * f20.toNat + 1)).toInt = r) : RMD q g20 f20 := by
  by_cases e : f21 = f20
  · rw [hE e, ← e]
    exact hR
  · intro _
    rw [hx.resolve_left e]
    exact hL e
theorem RMD_no {g30 g20 : Nat → Int32} {f21 : Int} (h : f21 = -1) : RMD g30 g20 f21 := fun h0 => by omega
theorem fOn_c {gk gk' : Nat → Int32} (hk : ∀ i, i < 4 → gk i = gk' i) {B l k : Nat} {κ : Int} (h0 : κ = 0 → k ≤ 3) : fOn gk B l κ k = fOn gk' B l κ k := by
  unfold fOn
  by_cases c : κ = 0
  · rw [if_pos c, if_pos c, hk k (by have := h0 c; omega)]
  · rw [if_neg c, if_neg c]
theorem fRd_c {gk gi gn gk' gi' gn' : Nat → Int32} {r B l : Nat} (hk : ∀ i, i < 4 → gk i = gk' i) (hi : ∀ k, k < 4 → gi (r * 4 + k) = gi' (r * 4 + k)) (hn : ∀ k, k < 4 → gn (r * 4 + k) = gn' (r * 4 + k)) (hb : ∀ k, k < 4 → (gi (r * 4 + k)).toInt = 0 → (gn (r * 4 + k)).toInt.toNat ≤ 3) : ∀ i, i ≤ 4 → fRd gk gi gn r B l i = fRd gk' gi' gn' r B l i
  | 0, _ => rfl
  | i + 1, h => by
    have ih := fRd_c hk hi hn hb (B := B) (l := l) i (by omega)
    show (fOn gk (fRd gk gi gn r B l i).1 (fRd gk gi gn r B l i).2 (gi (r * 4 + i)).toInt (gn (r * 4 + i)).toInt.toNat, fOl (fRd gk gi gn r B l i).2 (gi (r * 4 + i)).toInt (gn (r * 4 + i)).toInt.toNat) = (fOn gk' (fRd gk' gi' gn' r B l i).1 (fRd gk' gi' gn' r B l i).2 (gi' (r * 4 + i)).toInt (gn' (r * 4 + i)).toInt.toNat, fOl (fRd gk' gi' gn' r B l i).2 (gi' (r * 4 + i)).toInt (gn' (r * 4 + i)).toInt.toNat)
    rw [← ih, ← hi i (by omega), ← hn i (by omega), fOn_c hk (hb i (by omega))]
theorem fBy_c {gk gs gi gn gk' gs' gi' gn' : Nat → Int32} {r t : Nat} (hs : gs r = gs' r) (h4 : (gs r).toInt.toNat ≤ 4) (hk : ∀ i, i < 4 → gk i = gk' i) (hi : ∀ k, k < 4 → gi (r * 4 + k) = gi' (r * 4 + k)) (hn : ∀ k, k < 4 → gn (r * 4 + k) = gn' (r * 4 + k)) (hb : ∀ k, k < 4 → (gi (r * 4 + k)).toInt = 0 → (gn (r * 4 + k)).toInt.toNat ≤ 3) : fBy gk gs gi gn r t = fBy gk' gs' gi' gn' r t := by
  unfold fBy
  rw [← hs, fRd_c hk hi hn hb _ h4]
theorem rBY_cg {T T' : Nat → Int32} {f a t : Int} (hg : bkOK T) (h0 : 0 ≤ f) (h1 : f ≤ 1) (a0 : 0 ≤ a) (a1 : a ≤ 4) (he : ∀ j, j < 102 → T' j = T j) : rBY T' (51 * f) a t = rBY T (51 * f) a t := by
  have eo : (51 * f).toNat = 51 * f.toNat := by omega
  obtain ⟨-, -, -, hs, hst⟩ := hg f.toNat (by omega)
  have e1 : rdS T (51 * f.toNat) a.toNat = rdS T' (51 * f.toNat) a.toNat := (he (51 * f.toNat + (6 + a.toNat % 5)) (by omega)).symm
  have e2 : ∀ i, i < 4 → rdK T (51 * f.toNat) i = rdK T' (51 * f.toNat) i := fun i _ => (he (51 * f.toNat + (2 + i % 4)) (by omega)).symm
  have e3 : ∀ k, k < 4 → rdI T (51 * f.toNat) (a.toNat * 4 + k) = rdI T' (51 * f.toNat) (a.toNat * 4 + k) := fun k hk => (he (51 * f.toNat + (11 + 8 * ((a.toNat * 4 + k) / 4) + 2 * ((a.toNat * 4 + k) % 4))) (by omega)).symm
  have e4 : ∀ k, k < 4 → rdN T (51 * f.toNat) (a.toNat * 4 + k) = rdN T' (51 * f.toNat) (a.toNat * 4 + k) := fun k hk => (he (51 * f.toNat + (12 + 8 * ((a.toNat * 4 + k) / 4) + 2 * ((a.toNat * 4 + k) % 4))) (by omega)).symm
  have h4 : (rdS T (51 * f.toNat) a.toNat).toInt.toNat ≤ 4 := by
    have := hs (6 + a.toNat % 5) (by omega) (by omega)
    dsimp only at this
    unfold rdS
    omega
  have hb : ∀ k, k < 4 → (rdI T (51 * f.toNat) (a.toNat * 4 + k)).toInt = 0 → (rdN T (51 * f.toNat) (a.toNat * 4 + k)).toInt.toNat ≤ 3 := fun k hk hz => by
    obtain ⟨-, -, h3, -⟩ := hst (a.toNat * 4 + k) (by omega)
    dsimp only at h3
    unfold rdI at hz
    unfold rdN
    rw [show 11 + 8 * ((a.toNat * 4 + k) / 4) + 2 * ((a.toNat * 4 + k) % 4) = 11 + 2 * (a.toNat * 4 + k) by omega] at hz
    rw [show 12 + 8 * ((a.toNat * 4 + k) / 4) + 2 * ((a.toNat * 4 + k) % 4) = 12 + 2 * (a.toNat * 4 + k) by omega]
    have := h3 hz
    omega
  unfold rBY
  rw [eo, fBy_c e1 h4 e2 e3 e4 hb]
theorem RMD_cg {g30 g20 k20 : Nat → Int32} {f : Int} (h : RMD g30 g20 f) (hg : bkOK g20) (hf : -1 ≤ f ∧ f ≤ 1) (he : ∀ j, j < 102 → k20 j = g20 j) : RMD g30 k20 f := by
  intro h0 r t ht hn
  obtain ⟨-, hr, -⟩ := hg f.toNat (by omega)
  dsimp only at hr
  rw [he (51 * f.toNat + 1) (by omega)] at hn
  rw [h h0 r t ht hn, rBY_cg hg h0 hf.2 (by omega) (by omega) he]
theorem RMD_im {g30 g20 k20 : Nat → Int32} {f v a : Int} (h : (v = 0 ∧ k20 = g20) ∨ (v = 1 ∧ k20 = cpR g20 102 0 (a + 1).toNat 102)) (ha : v = 1 → 0 ≤ a) (hR : RMD g30 g20 f) (hg : bkOK g20) (hf : -1 ≤ f ∧ f ≤ 1) : RMD g30 k20 f := by
  rcases h with ⟨-, e⟩ | ⟨hv, e⟩
  · rw [e]
    exact hR
  · refine RMD_cg hR hg hf fun j hj => ?_
    have := ha hv
    rw [e]
    exact if_neg (by omega)
theorem RMD_ta {g30 g20 k20 : Nat → Int32} {f y : Int} (h : y = -1 ∨ (y = f ∧ k20 = g20)) (hR : RMD g30 g20 f) : RMD g30 k20 y := by
  rcases h with e | ⟨e1, e2⟩
  · exact RMD_no e
  · rw [e1, e2]
    exact hR
theorem two_r {tab : List zM} {d a : Nat} {As : List Value} {w : zW} {mc ms : Nat} {r : Option Value} {w1 : zW} {mc' ms' : Nat} {P : zQ} (run : ∀ Q : zQ, Q r w1 → zCl tab d a As w mc ms Q) (hx : zCl tab d a As w mc' ms' P) : P r w1 := by
  obtain ⟨r', w', ⟨h1, h2⟩, h⟩ := zCl_two d a As w mc ms (fun r' w' => r' = r ∧ w' = w1) mc' ms' P (run _ ⟨rfl, rfl⟩) hx
  rw [h1, h2] at h
  exact h
theorem r32_inj {a b : Int} (h : (some (.int (Int32.ofInt a)) : Option Value) = some (.int (Int32.ofInt b))) (ha : 0 ≤ a ∧ a ≤ 5460) (hb : 0 ≤ b ∧ b ≤ 5460) : a = b := by
  have h1 : Int32.ofInt a = Int32.ofInt b := by
    have h2 := Option.some.inj h
    exact Value.int.inj h2
  rw [← zti (e := a) (by omega) (by omega), ← zti (e := b) (by omega) (by omega), h1]
section MZ
variable {c0 c1 c2 c3 c4 c5 c6 c7 c8 c9 c10 c11 c12 c13 : va_E} {f0 f9 f10 f11 f12 f13 f15 f16 f17 f20 f21 f22 f23 f26 f28 f31 f32 f33 f38 f41 f44 : Int} {x14 : Int64} {g15 g16 g17 g18 g19 g20 g21 g22 g23 g24 g25 g26 g27 g28 g29 g30 g31 g32 g33 g34 g35 g36 g37 g38 g39 g40 g41 g42 g43 g44 : Nat → Int32} {t : zW}
theorem m_readByX (d : Nat) (a1 a2 : Int) (hb25 : zB 0 3 g25) (hr1 : 0 ≤ a1 ∧ a1 ≤ 5460) (hr2 : bkOK g20) (hr3 : 0 ≤ f20 ∧ f20 ≤ 1) (hr4 : 0 ≤ a2 ∧ a2 ≤ 4) (Q : zQ) (h : ∀ (v : Int) (y26 : Int) (k25 : Nat → Int32), zB 0 3 k25 → (0 ≤ v ∧ v ≤ 5460) → (v = rBY g20 (51 * f20) a2 a1) → Q (some (.int (Int32.ofInt v))) (zMi c0 c1 c2 c3 c4 c5 c6 c7 c8 c9 c10 c11 c12 c13 f0 f9 f10 f11 f12 f13 f15 f16 f17 f20 f21 f22 f23 y26 f28 f31 f32 f33 f38 f41 f44 x14 g15 g16 g17 g18 g19 g20 g21 g22 g23 g24 k25 g26 g27 g28 g29 g30 g31 g32 g33 g34 g35 g36 g37 g38 g39 g40 g41 g42 g43 g44 t)) : zCl zTab (d + 4) iX12_readBy [.ref 14, .int (Int32.ofInt a1), .int (Int32.ofInt a2)] (zMi c0 c1 c2 c3 c4 c5 c6 c7 c8 c9 c10 c11 c12 c13 f0 f9 f10 f11 f12 f13 f15 f16 f17 f20 f21 f22 f23 f26 f28 f31 f32 f33 f38 f41 f44 x14 g15 g16 g17 g18 g19 g20 g21 g22 g23 g24 g25 g26 g27 g28 g29 g30 g31 g32 g33 g34 g35 g36 g37 g38 g39 g40 g41 g42 g43 g44 t) 0 0 Q := by
  obtain ⟨mc, ms, r, w', ⟨⟨rfl, rfl⟩, v, y26, k25, h1, h2, rfl, rfl⟩, run⟩ := det_of (mc := 0) (ms := 0) (P := fun mc ms r w' => (mc = 0 ∧ ms = 0) ∧ ∃ (v y26 : Int) (k25 : Nat → Int32), zB 0 3 k25 ∧ (0 ≤ v ∧ v ≤ 5460) ∧ r = some (.int (Int32.ofInt v)) ∧ w' = (zMi c0 c1 c2 c3 c4 c5 c6 c7 c8 c9 c10 c11 c12 c13 f0 f9 f10 f11 f12 f13 f15 f16 f17 f20 f21 f22 f23 y26 f28 f31 f32 f33 f38 f41 f44 x14 g15 g16 g17 g18 g19 g20 g21 g22 g23 g24 k25 g26 g27 g28 g29 g30 g31 g32 g33 g34 g35 g36 g37 g38 g39 g40 g41 g42 g43 g44 t)) (m_readBy d a1 a2 hb25 hr1 hr2 hr3 hr4 _ fun v y26 k25 h1 h2 => ⟨⟨rfl, rfl⟩, v, y26, k25, h1, h2, rfl, rfl⟩)
  have hx := two_r run (x_readByR (zMi c0 c1 c2 c3 c4 c5 c6 c7 c8 c9 c10 c11 c12 c13 f0 f9 f10 f11 f12 f13 f15 f16 f17 f20 f21 f22 f23 f26 f28 f31 f32 f33 f38 f41 f44 x14 g15 g16 g17 g18 g19 g20 g21 g22 g23 g24 g25 g26 g27 g28 g29 g30 g31 g32 g33 g34 g35 g36 g37 g38 g39 g40 g41 g42 g43 g44 t) d a1 a2 f0 f9 f10 f11 f12 f13 f15 f16 f17 f20 f21 f22 f23 f26 f28 f31 f32 f33 f38 f41 f44 x14 g20 g25 rfl rfl rfl hr1 hr2 hr3 hr4 (fun r _ => r = some (.int (Int32.ofInt (rBY g20 (51 * f20) a2 a1)))) (fun v y26 T' w' _ _ _ e => by rw [e]))
  exact run _ (h v y26 k25 h1 h2 (r32_inj hx h2 (rBY_r hr2 (by omega) (by omega) (by omega) (by omega) (by omega) (by omega))))
end MZ
