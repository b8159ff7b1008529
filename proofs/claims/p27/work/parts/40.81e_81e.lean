/-! ANSWERS OF WHAT IS TOLD: both sides alike. -/
theorem mi_ok {w : zW} {sz kp g20 g21 g22 : Nat → Int32} (h : MI w sz kp) (h20 : zix w 20 = some (.inl (1, 408, .inl g20))) (h21 : zix w 21 = some (.inl (1, 968, .inl g21))) (h22 : zix w 22 = some (.inl (1, 104, .inl g22))) : bkOK g20 ∧ yrOK g21 ∧ siOK g22 := by
  refine mi_elim h fun c0 c1 c2 c3 c4 c5 c6 c7 c8 c9 c10 c11 c12 c13 f0 f9 f10 f11 f12 f13 f15 f16 f17 f20 f21 f22 f23 f26 f28 f31 f32 f33 f38 f41 f44 x14 g15 g17 g18 g19 g20_ g21_ g22_ g23 g24 g25 g26 g27 g28 g29 g30 g31 g32 g33 g34 g35 g36 g37 g38 g39 g40 g41 g42 g43 t e b16 b19 b20 b21 b22 b25 b26 b28 b30 b33 b38 => ?_
  subst e
  have e1 := arEq h20
  have e2 := arEq h21
  have e3 := arEq h22
  subst e1 e2 e3
  exact ⟨b20, b21, b22⟩
