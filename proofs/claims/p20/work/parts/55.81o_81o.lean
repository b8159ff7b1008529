/-! THE COURSE OF A YEAR: one pure function for both sides. -/
noncomputable def bShl (x y : Int) : Int := (Int32.ofInt x <<< (Int32.ofInt y &&& 31)).toInt
noncomputable def bShr (x y : Int) : Int := (Int32.ofInt x >>> (Int32.ofInt y &&& 31)).toInt
noncomputable def bAnd (x y : Int) : Int := (Int32.ofInt x &&& Int32.ofInt y).toInt
noncomputable def bOr (x y : Int) : Int := (Int32.ofInt x ||| Int32.ofInt y).toInt
noncomputable def bXor (x y : Int) : Int := (Int32.ofInt x ^^^ Int32.ofInt y).toInt
noncomputable def hHas (h c : Int) : Int := bAnd (bShr h c) 1
noncomputable abbrev CS := Int × Int × Int × (Int → Int) × (Int → Int)
noncomputable def upI (f : Int → Int) (i v : Int) : Int → Int := fun j => if j = i then v else f j
section CSX
variable {F : Int → Int → Int} {base rd o u m e1 e2 e3 e3' : Int} {s : CS} {gc gt gc' gt' : Nat → Int32}
end CSX
noncomputable def dft (a b : Int) : Int := ((eD (tW a.toNat) (tW b.toNat) (tLen a.toNat) (tLen b.toNat) : Nat) : Int)
theorem dft_r {a b : Int} : 0 ≤ dft a b ∧ dft a b ≤ 12 := by
  have h1 := eD_le (tW a.toNat) (tW b.toNat) (tLen a.toNat) (tLen b.toNat)
  have h2 := tLen_le a.toNat
  have h3 := tLen_le b.toNat
  unfold dft
  omega
theorem x_driftI (w : zW) (d : Nat) (a1 a2 : Int) (hr0 : 0 ≤ a1 ∧ a1 ≤ 5460) (hr1 : 0 ≤ a2 ∧ a2 ≤ 5460) (Q : zQ) (h : ∀ v : Int, v = dft a1 a2 → Q (some (.int (Int32.ofInt v))) w) : zCl zTab (d + 3) iX11_driftOf [.int (Int32.ofInt a1), .int (Int32.ofInt a2)] w 0 0 Q := by
  obtain ⟨t, rfl⟩ := Int.eq_ofNat_of_zero_le hr0.1
  obtain ⟨j, rfl⟩ := Int.eq_ofNat_of_zero_le hr1.1
  refine r_driftOf d _ _ t j rfl (by omega) rfl (by omega) w Q ?_
  rw [ue_eD]
  exact h _ rfl
