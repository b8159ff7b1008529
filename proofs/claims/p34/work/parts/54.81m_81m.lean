/-! READING: the class, and the relation of what both sides read. -/
noncomputable def cBY (g1 g2 g3 g4 : Nat → Int32) (r t : Int) : Int := ((fBy g1 g2 g3 g4 r.toNat t.toNat : Nat) : Int)
noncomputable def bkX1 : tpB → Prop
  | (_, _, _, x1, _, _, _, _, _) => 0 ≤ x1 ∧ x1 ≤ 5
noncomputable def bkXA (w : zW) (b : Nat) : tpB → Prop
  | (_, _, _, _, _, g1, g2, g3, g4) => bkAt w b g1 g2 g3 g4
theorem cby_eq {T : Nat → Int32} {o r t : Int} {w : zW} {b : Nat} (ho : 0 ≤ o) (r0 : 0 ≤ r) (r1 : r < 5) : ∀ {g1 g2 g3 g4 : Nat → Int32} {f c x0 x1 x2 : Int}, bkAt w b g1 g2 g3 g4 → BKX T o (f, c, x0, x1, x2, g1, g2, g3, g4) → cBY g1 g2 g3 g4 r t = rBY T o r t := by
  intro g1 g2 g3 g4 f c x0 x1 x2 hb ⟨_, _, hk, hs, hn⟩
  have hbs := hb.bs r.toNat
  have e1 : g2 r.toNat = rdS T o.toNat r.toNat := by
    have := (hs r r0 r1).1
    unfold tBy at this
    unfold rdS
    rw [show o.toNat + (6 + r.toNat % 5) = (o + (6 + r)).toNat by omega]
    exact (Int32.toInt_inj.mp this).symm
  have e2 : ∀ i, i < 4 → g1 i = rdK T o.toNat i := fun i hi => by
    have := hk (i : Int) (by omega) (by omega)
    unfold tBy at this
    unfold rdK
    rw [show o.toNat + (2 + i % 4) = (o + (2 + (i : Int))).toNat by omega]
    exact (Int32.toInt_inj.mp this).symm
  have e3 : ∀ k, k < 4 → g3 (r.toNat * 4 + k) = rdI T o.toNat (r.toNat * 4 + k) := fun k hk4 => by
    have := (hn r (k : Int) r0 r1 (by omega) (by omega)).1
    unfold tBy at this
    unfold rdI
    rw [show o.toNat + (11 + 8 * ((r.toNat * 4 + k) / 4) + 2 * ((r.toNat * 4 + k) % 4)) = (o + (11 + 8 * r + 2 * (k : Int))).toNat by omega, show r.toNat * 4 + k = (4 * r + (k : Int)).toNat by omega]
    exact (Int32.toInt_inj.mp this).symm
  have e4 : ∀ k, k < 4 → g4 (r.toNat * 4 + k) = rdN T o.toNat (r.toNat * 4 + k) := fun k hk4 => by
    have := (hn r (k : Int) r0 r1 (by omega) (by omega)).2
    unfold tBy at this
    unfold rdN
    rw [show o.toNat + (12 + 8 * ((r.toNat * 4 + k) / 4) + 2 * ((r.toNat * 4 + k) % 4)) = (o + (12 + 8 * r + 2 * (k : Int))).toNat by omega, show r.toNat * 4 + k = (4 * r + (k : Int)).toNat by omega]
    exact (Int32.toInt_inj.mp this).symm
  unfold cBY rBY
  rw [fBy_c e1 (by omega) e2 e3 e4 (fun k hk4 z => by have := (hb.rel (r.toNat * 4 + k) (by omega)).1 z; omega)]
