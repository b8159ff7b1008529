/-! THE COURSE OF A YEAR: one pure function for both sides. -/
noncomputable abbrev CS := Int × Int × Int × (Int → Int) × (Int → Int)
section CSX
variable {F : Int → Int → Int} {base rd o u m e1 e2 e3 e3' : Int} {s : CS} {gc gt gc' gt' : Nat → Int32}
end CSX
