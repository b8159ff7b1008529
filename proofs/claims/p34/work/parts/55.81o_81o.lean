/-! THE COURSE OF A YEAR: one pure function for both sides. -/
noncomputable def bShl (x y : Int) : Int := (Int32.ofInt x <<< (Int32.ofInt y &&& 31)).toInt
noncomputable def bShr (x y : Int) : Int := (Int32.ofInt x >>> (Int32.ofInt y &&& 31)).toInt
noncomputable def bAnd (x y : Int) : Int := (Int32.ofInt x &&& Int32.ofInt y).toInt
noncomputable def bOr (x y : Int) : Int := (Int32.ofInt x ||| Int32.ofInt y).toInt
noncomputable def bXor (x y : Int) : Int := (Int32.ofInt x ^^^ Int32.ofInt y).toInt
noncomputable def hHas (h c : Int) : Int := bAnd (bShr h c) 1
noncomputable abbrev CS := Int × Int × Int × (Int → Int) × (Int → Int)
noncomputable def upI (f : Int → Int) (i v : Int) : Int → Int := fun j => if j = i then v else f j
section CSX
variable {F : Int → Int → Int} {base rd o u m e1 e2 e3 e3' : Int} {s : CS} {gc gt gc' gt' : Nat → Int32}
end CSX
noncomputable def dft (a b : Int) : Int := ((eD (tW a.toNat) (tW b.toNat) (tLen a.toNat) (tLen b.toNat) : Nat) : Int)
