noncomputable def num (l : List Nat) : Nat := l.foldl (fun t w => 4 * t + 1 + w) 0
