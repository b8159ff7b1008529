noncomputable def tbA (T : Nat → Int32) : Prop := (0 ≤ (T 1).toInt ∧ (T 1).toInt ≤ 5) ∧ (∀ j, 6 ≤ j → j < 11 → 0 ≤ (T j).toInt ∧ (T j).toInt ≤ 4)
theorem tb_6 {T : Nat → Int32} (h : tbA T) {i v : Int} (e : v = (T i.toNat).toInt) (hi : 6 ≤ i ∧ i ≤ 10) : 0 ≤ v ∧ v ≤ 4 := by
  rw [e]; exact h.2 i.toNat (by omega) (by omega)
theorem tb_uA {T : Nat → Int32} (h : tbA T) {i e : Int} (hi : 0 ≤ i ∧ i ≤ 5) (he : i = 1 → 0 ≤ e ∧ e ≤ 5) : tbA (upd T i.toNat (Int32.ofInt e)) := by
  refine ⟨?_, fun j h1 h2 => ?_⟩
  · by_cases q : 1 = i.toNat
    · rw [← q, pk_us, zti (by omega) (by omega)]; omega
    · rw [pk_un q]; exact h.1
  · rw [pk_un (by omega)]; exact h.2 j h1 h2
theorem bkR_u {T : Nat → Int32} (h : bkR T) {i : Nat} {e : Int} (hi : (i = 0 ∧ 0 ≤ e ∧ e ≤ 5460) ∨ (i = 1 ∧ 0 ≤ e ∧ e ≤ 5) ∨ (2 ≤ i ∧ i < 6 ∧ 0 ≤ e ∧ e ≤ 3) ∨ (6 ≤ i ∧ i < 11 ∧ 0 ≤ e ∧ e ≤ 4)) : bkR (upd T i (Int32.ofInt e)) := by
  obtain ⟨h0, h1, h2, h3, h4⟩ := h
  have ee : (Int32.ofInt e).toInt = e := zti (by omega) (by omega)
  refine ⟨?_, ?_, fun j q1 q2 => ?_, fun j q1 q2 => ?_, fun j q1 => ?_⟩
  · by_cases q : 0 = i
    · rw [← q, pk_us, ee]; omega
    · rw [pk_un q]; exact h0
  · by_cases q : 1 = i
    · rw [← q, pk_us, ee]; omega
    · rw [pk_un q]; exact h1
  · by_cases q : j = i
    · rw [q, pk_us, ee]; omega
    · rw [pk_un q]; exact h2 j q1 q2
  · by_cases q : j = i
    · rw [q, pk_us, ee]; omega
    · rw [pk_un q]; exact h3 j q1 q2
  · rw [pk_un (by omega), pk_un (by omega)]; exact h4 j q1
theorem tb_sA {T : Nat → Int32} (h : tbA T) {r i1 i2 i3 x1 x2 x3 : Int} (hr : 0 ≤ r ∧ r ≤ 4) (h1 : 11 ≤ i1) (h2 : i2 = i1 + 1) (h3 : i3 = 6 + r) (h4 : 0 ≤ x3) (h5 : x3 ≤ 4) : tbA (upd (upd (upd T i1.toNat (Int32.ofInt x1)) i2.toNat (Int32.ofInt x2)) i3.toNat (Int32.ofInt x3)) := by
  refine ⟨?_, fun j q1 q2 => ?_⟩
  · rw [pk_un (by omega), pk_un (by omega), pk_un (by omega)]; exact h.1
  · by_cases q : j = i3.toNat
    · rw [q, pk_us, zti (by omega) (by omega)]; exact ⟨h4, h5⟩
    · rw [pk_un q, pk_un (by omega), pk_un (by omega)]; exact h.2 j q1 q2
theorem tb_sB {T : Nat → Int32} (h : bkR T) {r m i1 i2 i3 x1 x2 x3 : Int} (hr : 0 ≤ r ∧ r ≤ 4) (hm : 0 ≤ m ∧ m ≤ 3) (h1 : i1 = 11 + 8 * r + 2 * m) (h2 : i2 = i1 + 1) (h3 : i3 = 6 + r) (h4 : 0 ≤ x3 ∧ x3 ≤ 4) (hx : 0 ≤ x1 ∧ x1 ≤ 4 ∧ 0 ≤ x2 ∧ x2 ≤ 6 ∧ (x1 = 0 → x2 ≤ 3) ∧ (1 ≤ x1 → x1 ≤ 3 → 1 ≤ x2)) : bkR (upd (upd (upd T i1.toNat (Int32.ofInt x1)) i2.toNat (Int32.ofInt x2)) i3.toNat (Int32.ofInt x3)) := by
  refine bkR_u ?_ (by omega)
  obtain ⟨g0, g1, g2, g3, g4⟩ := h
  have e1 : (Int32.ofInt x1).toInt = x1 := zti (by omega) (by omega)
  have e2 : (Int32.ofInt x2).toInt = x2 := zti (by omega) (by omega)
  refine ⟨?_, ?_, fun j q1 q2 => ?_, fun j q1 q2 => ?_, fun j q1 => ?_⟩
  · rw [pk_un (by omega), pk_un (by omega)]; exact g0
  · rw [pk_un (by omega), pk_un (by omega)]; exact g1
  · rw [pk_un (by omega), pk_un (by omega)]; exact g2 j q1 q2
  · rw [pk_un (by omega), pk_un (by omega)]; exact g3 j q1 q2
  · by_cases q : 11 + 2 * j = i1.toNat
    · have q2 : 12 + 2 * j = i2.toNat := by omega
      rw [q2, pk_us, q, pk_un (by omega), pk_us, e1, e2]
      omega
    · rw [pk_un (by omega), pk_un (by omega), pk_un (by omega), pk_un (by omega)]
      exact g4 j q1
/-! a row put into a row -/
noncomputable def kpR (g : Nat → Int32) (c : Nat) (r : Nat → Int32) (n : Nat) : Nat → Int32 := fun j => if c ≤ j ∧ j < c + n then r (j - c) else g j
theorem kpR_0 (g : Nat → Int32) (c : Nat) (r : Nat → Int32) : g = kpR g c r (0 : Int).toNat := by
  funext j
  unfold kpR
  rw [if_neg (by intro h; have := h.2; have e : (0 : Int).toNat = 0 := rfl; omega)]
theorem kpR_s {g q r : Nat → Int32} {c : Nat} {i a v : Int} (hq : q = kpR g c r i.toNat) (h0 : 0 ≤ i) (ha : a.toNat = c + i.toNat) (_hc : 0 ≤ a) (e : v = (r i.toNat).toInt) : upd q a.toNat (Int32.ofInt v) = kpR g c r (i + 1).toNat := by
  rw [e, zoi, ha, show (i + 1).toNat = i.toNat + 1 by omega]
  funext j
  unfold upd
  by_cases hj : j = c + i.toNat
  · subst hj
    rw [if_pos rfl]
    unfold kpR
    rw [if_pos (by omega), show c + i.toNat - c = i.toNat by omega]
  · rw [if_neg hj, hq]
    unfold kpR
    by_cases hc : c ≤ j ∧ j < c + i.toNat
    · rw [if_pos hc, if_pos (by omega)]
    · rw [if_neg hc, if_neg (by omega)]
theorem kpR_e {g q r : Nat → Int32} {c m : Nat} {i : Int} (hq : q = kpR g c r i.toNat) (hi : i = m) : q = kpR g c r m := by
  rw [hq, hi]; rfl
theorem kp_0 {g q r : Nat → Int32} {c : Nat} {i v m : Int} (hq : q = kpR g (1 + c) r i.toNat) (h0 : 0 ≤ (g 0).toInt) (e : v = (q (0 : Int).toNat).toInt) (hm : (g 0).toInt + 1 ≤ m ∧ m ≤ 100) : 0 ≤ (upd q (0 : Int).toNat (Int32.ofInt (v + 1)) 0).toInt ∧ (upd q (0 : Int).toNat (Int32.ofInt (v + 1)) 0).toInt ≤ m := by
  have e2 : upd q (0 : Int).toNat (Int32.ofInt (v + 1)) 0 = Int32.ofInt (v + 1) := if_pos rfl
  have e3 : q (0 : Int).toNat = g 0 := by
    rw [hq]; unfold kpR
    exact if_neg (by intro h; have := h.1; have e : (0 : Int).toNat = 0 := rfl; omega)
  rw [e3] at e
  rw [e2, zti (by omega) (by omega)]
  omega
noncomputable def rdOK (R : Nat → Int32) : Prop := (0 ≤ (R 0).toInt ∧ (R 0).toInt ≤ 5) ∧ ((R 0).toInt ≤ 4 → 0 ≤ (R 1).toInt ∧ (R 1).toInt ≤ 3) ∧ ((R 0).toInt = 1 → 0 ≤ (R 2).toInt ∧ (R 2).toInt ≤ 3) ∧ ((R 0).toInt = 0 → 0 ≤ (R 2).toInt ∧ (R 2).toInt ≤ 4)
theorem kp_y {g q r : Nat → Int32} {i v : Int} (hq : q = kpR g (1 + 3 * (g 0).toInt.toNat) r i.toNat) (h0 : 0 ≤ (g 0).toInt) (h1 : (g 0).toInt ≤ 39) (hi : i = 3) (e : v = (q (0 : Int).toNat).toInt) (hr : rdOK r) (hy : yrR g) : yrR (upd q (0 : Int).toNat (Int32.ofInt (v + 1))) := by
  have e3 : q (0 : Int).toNat = g 0 := by
    rw [hq]; unfold kpR
    exact if_neg (by intro h; have := h.1; have e : (0 : Int).toNat = 0 := rfl; omega)
  rw [e3] at e
  have hin : ∀ j, j < 3 → q (1 + 3 * (g 0).toInt.toNat + j) = r j := by
    intro j hj
    rw [hq]; unfold kpR
    rw [if_pos (by omega), show 1 + 3 * (g 0).toInt.toNat + j - (1 + 3 * (g 0).toInt.toNat) = j by omega]
  have hout : ∀ j, (j < 1 + 3 * (g 0).toInt.toNat ∨ 4 + 3 * (g 0).toInt.toNat ≤ j) → q j = g j := by
    intro j hj
    rw [hq]; unfold kpR
    rw [if_neg (by omega)]
  have hz : ∀ j, 0 < j → upd q (0 : Int).toNat (Int32.ofInt (v + 1)) j = q j := fun j hj => if_neg (by show ¬ j = 0; omega)
  refine ⟨?_, fun k hk => ?_⟩
  · have e2 : upd q (0 : Int).toNat (Int32.ofInt (v + 1)) 0 = Int32.ofInt (v + 1) := if_pos rfl
    rw [e2, zti (by omega) (by omega)]; omega
  · rw [hz _ (by omega), hz _ (by omega), hz _ (by omega)]
    by_cases q2 : k = (g 0).toInt.toNat
    · have a0 := hin 0 (by omega)
      have a1 := hin 1 (by omega)
      have a2 := hin 2 (by omega)
      rw [show 1 + 3 * (g 0).toInt.toNat + 0 = 1 + 3 * k by omega] at a0
      rw [show 1 + 3 * (g 0).toInt.toNat + 1 = 2 + 3 * k by omega] at a1
      rw [show 1 + 3 * (g 0).toInt.toNat + 2 = 3 + 3 * k by omega] at a2
      rw [a0, a1, a2]
      exact hr
    · rw [hout _ (by omega), hout _ (by omega), hout _ (by omega)]
      exact hy.2 k hk
theorem yl_r {R : Nat → Int32} {d : Int} (h0 : (R 0).toInt = d) (h1 : 0 ≤ d ∧ d ≤ 5) (h2 : d ≤ 4 → 0 ≤ (R 1).toInt ∧ (R 1).toInt ≤ 3) (h3 : d = 1 → 0 ≤ (R 2).toInt ∧ (R 2).toInt ≤ 3) (h4 : d = 0 → 0 ≤ (R 2).toInt ∧ (R 2).toInt ≤ 4) : rdOK R := by
  unfold rdOK; rw [h0]; exact ⟨h1, h2, h3, h4⟩
noncomputable def tI (o : Int) (T : Nat → Int32) (lf : Int) : Prop := (o = 0 → tbA T ∧ (lf = 0 → bkR T)) ∧ (o = 1 → (0 ≤ (T 0).toInt ∧ (T 0).toInt ≤ 40) ∧ (lf = 0 → yrR T)) ∧ (o = 2 → 0 ≤ (T 0).toInt ∧ (T 0).toInt ≤ 6)
noncomputable def tOK (o : Int) (T : Nat → Int32) : Prop := (o = 0 → bkR T) ∧ (o = 1 → yrR T) ∧ (o = 2 → 0 ≤ (T 0).toInt ∧ (T 0).toInt ≤ 6)
theorem tI_b {o lf : Int} {T : Nat → Int32} (ho : o = 0) (h : tbA T ∧ (lf = 0 → bkR T)) : tI o T lf := ⟨fun _ => h, fun q => by omega, fun q => by omega⟩
theorem tI_y {o lf : Int} {T : Nat → Int32} (ho : o = 1) (h : (0 ≤ (T 0).toInt ∧ (T 0).toInt ≤ 40) ∧ (lf = 0 → yrR T)) : tI o T lf := ⟨fun q => by omega, fun _ => h, fun q => by omega⟩
theorem tI_s {o lf : Int} {T : Nat → Int32} (ho : o = 2) (h : 0 ≤ (T 0).toInt ∧ (T 0).toInt ≤ 6) : tI o T lf := ⟨fun q => by omega, fun q => by omega, fun _ => h⟩
theorem tOK_i {o lf : Int} {T : Nat → Int32} (h : tI o T lf) (hl : lf = 0) : tOK o T := ⟨fun q => (h.1 q).2 hl, fun q => (h.2.1 q).2 hl, h.2.2⟩
theorem rt_i {D : Nat → Int32} {o i x : Int} (h : ∀ j : Nat, (j : Int) < i → (D j).toInt = if o = 0 ∧ 2 ≤ j ∧ j ≤ 5 then (j : Int) - 2 else 0) (h0 : 0 ≤ i ∧ i ≤ 120) (hx : (o = 0 ∧ 2 ≤ i ∧ i ≤ 5 ∧ x = i - 2) ∨ (x = 0 ∧ (o ≠ 0 ∨ i < 2 ∨ 5 < i))) : ∀ j : Nat, (j : Int) < i + 1 → (upd D i.toNat (Int32.ofInt x) j).toInt = if o = 0 ∧ 2 ≤ j ∧ j ≤ 5 then (j : Int) - 2 else 0 := by
  intro j hj
  by_cases e : j = i.toNat
  · subst e
    rw [pk_us, zti (by omega) (by omega)]
    split <;> omega
  · rw [pk_un e]; exact h j (by omega)
theorem tI_0 {o lf i : Int} {D : Nat → Int32} (h : ∀ j : Nat, (j : Int) < i → (D j).toInt = if o = 0 ∧ 2 ≤ j ∧ j ≤ 5 then (j : Int) - 2 else 0) (hi : 121 ≤ i) : tI o D lf := by
  have hd : ∀ j : Nat, j < 121 → (D j).toInt = if o = 0 ∧ 2 ≤ j ∧ j ≤ 5 then (j : Int) - 2 else 0 := fun j hj => h j (by omega)
  have hs : ∀ j : Nat, j < 121 → (j < 2 ∨ 5 < j ∨ o ≠ 0) → (D j).toInt = 0 := by
    intro j hj hq
    rw [hd j hj, if_neg (by omega)]
  have h0 := hs 0 (by omega) (by omega)
  have h1 := hs 1 (by omega) (by omega)
  refine ⟨fun ho => ⟨⟨by omega, fun j q1 q2 => ?_⟩, fun _ => ⟨by omega, by omega, fun j q1 q2 => ?_, fun j q1 q2 => ?_, fun j q1 => ?_⟩⟩, fun ho => ⟨by omega, fun _ => ⟨by omega, fun k hk => ?_⟩⟩, fun ho => by omega⟩
  · have := hs j (by omega) (by omega); omega
  · have := hd j (by omega)
    rw [if_pos (by omega)] at this
    omega
  · have := hs j (by omega) (by omega); omega
  · have q2 := hs (11 + 2 * j) (by omega) (by omega)
    have q3 := hs (12 + 2 * j) (by omega) (by omega)
    omega
  · have q2 := hs (1 + 3 * k) (by omega) (by omega)
    have q3 := hs (2 + 3 * k) (by omega) (by omega)
    have q4 := hs (3 + 3 * k) (by omega) (by omega)
    omega
section MZ
variable {c0 c1 c2 c3 c4 c5 c6 c7 c8 c9 c10 c11 c12 c13 : va_E} {f0 f9 f10 f11 f12 f13 f15 f16 f17 f20 f21 f22 f23 f26 f28 f31 f32 f33 f38 f41 f44 : Int} {x14 : Int64} {g15 g16 g17 g18 g19 g20 g21 g22 g23 g24 g25 g26 g27 g28 g29 g30 g31 g32 g33 g34 g35 g36 g37 g38 g39 g40 g41 g42 g43 g44 : Nat → Int32} {t : zW}
theorem m_stepLine (d : Nat) (a1 a2 : Int) (hr0 : 0 ≤ f9 ∧ f9 ≤ f10 ∧ f10 ≤ 600) (hr1 : 0 ≤ f12 ∧ f12 ≤ 4 ∧ (f12 = 3 → 0 ≤ f13 ∧ f13 ≤ 99)) (hr2 : 0 ≤ f16 ∧ f16 ≤ 4) (hr3 : 0 ≤ a1 ∧ a1 ≤ 4) (hr4 : tbA g23) (hr5 : f16 = 0 → bkR g23) (Q : zQ) (h : ∀ (v : Int) (y9 : Int) (y11 : Int) (y12 : Int) (y13 : Int) (y14 : Int64) (y15 : Int) (y16 : Int) (y17 : Int) (k23 : Nat → Int32) (k24 : Nat → Int32), (f9 ≤ y9 ∧ y9 ≤ f10) → (0 ≤ y12 ∧ y12 ≤ 4 ∧ (y12 = 3 → 0 ≤ y13 ∧ y13 ≤ 99)) → (0 ≤ y16 ∧ y16 ≤ 4) → (v = 0 ∨ v = 1) → (v = 1 → y12 = 0 ∨ f9 < y9) → (v = 1 → tbA k23 ∧ (y16 = 0 → bkR k23)) → Q (some (.int (Int32.ofInt v))) (zMi c0 c1 c2 c3 c4 c5 c6 c7 c8 c9 c10 c11 c12 c13 f0 y9 f10 y11 y12 y13 y15 y16 y17 f20 f21 f22 f23 f26 f28 f31 f32 f33 f38 f41 f44 y14 g15 g16 g17 g18 g19 g20 g21 g22 k23 k24 g25 g26 g27 g28 g29 g30 g31 g32 g33 g34 g35 g36 g37 g38 g39 g40 g41 g42 g43 g44 t)) : zCl zTab (d + 5) iX12_stepLine [.ref 14, .int (Int32.ofInt a1), .int (Int32.ofInt a2)] (zMi c0 c1 c2 c3 c4 c5 c6 c7 c8 c9 c10 c11 c12 c13 f0 f9 f10 f11 f12 f13 f15 f16 f17 f20 f21 f22 f23 f26 f28 f31 f32 f33 f38 f41 f44 x14 g15 g16 g17 g18 g19 g20 g21 g22 g23 g24 g25 g26 g27 g28 g29 g30 g31 g32 g33 g34 g35 g36 g37 g38 g39 g40 g41 g42 g43 g44 t) 0 0 Q := by
  refine zCl_i (M := kX12_stepLine) rfl (Nat.le_of_ble_eq_true rfl) fun R hR => ?_
  iterate 3 refine hR (?_ : R (_, _, _, _, _, _))
  refine hR (t_ldE (by omega) (by omega) (Nat.le_of_ble_eq_true rfl) fun v1 ev1 rv1 => ?_)
  have bv1 : v1 = (g23 1).toInt := ev1
  have cv1 := hr4.1
  clear ev1
  refine hR (?_ : R (_, _, _, _, _, _))
  refine hR (t_sub ?_)
  iterate 2 refine hR (?_ : R (_, _, _, _, _, _))
  refine hR (k_ge (by omega) (fun hc2 => ?_) (fun hc2 => ?_))
  rotate_left
  · skip
    iterate 3 refine hR (?_ : R (_, _, _, _, _, _))
    refine hR (zcall_i 0 0 (Nat.le_of_ble_eq_true rfl) (Nat.le_of_ble_eq_true rfl) (m_later _ 4 a2 (by omega) (by omega) _ fun y16_148 y17_149 hp150 => ?_))
    refine (?_ : R (_, _, [], (zMi c0 c1 c2 c3 c4 c5 c6 c7 c8 c9 c10 c11 c12 c13 f0 f9 f10 f11 f12 f13 f15 y16_148 y17_149 f20 f21 f22 f23 f26 f28 f31 f32 f33 f38 f41 f44 x14 g15 g16 g17 g18 g19 g20 g21 g22 g23 g24 g25 g26 g27 g28 g29 g30 g31 g32 g33 g34 g35 g36 g37 g38 g39 g40 g41 g42 g43 g44 t), 0, 0))
    refine hR (?_ : R (_, _, _, _, _, _))
    refine hR (k_lt (by omega) (fun _ => ?_) (fun hc => by omega))
    refine hR (?_ : R (_, _, _, _, _, _))
    refine hR (zcall_i 0 0 (Nat.le_of_ble_eq_true rfl) (Nat.le_of_ble_eq_true rfl) (m_token _ (by omega) _ fun y9_151 y11_152 y12_153 y13_154 y14_155 hp156 hp157 hp158 hp159 => ?_))
    refine (?_ : R (_, _, [], (zMi c0 c1 c2 c3 c4 c5 c6 c7 c8 c9 c10 c11 c12 c13 f0 y9_151 f10 y11_152 y12_153 y13_154 f15 y16_148 y17_149 f20 f21 f22 f23 f26 f28 f31 f32 f33 f38 f41 f44 y14_155 g15 g16 g17 g18 g19 g20 g21 g22 g23 g24 g25 g26 g27 g28 g29 g30 g31 g32 g33 g34 g35 g36 g37 g38 g39 g40 g41 g42 g43 g44 t), 0, 0))
    iterate 4 refine hR (?_ : R (_, _, _, _, _, _))
    refine hR (t_stV 0 rfl (by omega) (by omega) (by omega) (by omega) (Nat.le_of_ble_eq_true rfl) fun k24_160 hvk24_160 hwk24_160 => (?_ : R (_, _, _, (zMi c0 c1 c2 c3 c4 c5 c6 c7 c8 c9 c10 c11 c12 c13 f0 y9_151 f10 y11_152 y12_153 y13_154 f15 y16_148 y17_149 f20 f21 f22 f23 f26 f28 f31 f32 f33 f38 f41 f44 y14_155 g15 g16 g17 g18 g19 g20 g21 g22 g23 k24_160 g25 g26 g27 g28 g29 g30 g31 g32 g33 g34 g35 g36 g37 g38 g39 g40 g41 g42 g43 g44 t), _, _)))
    have hxk24_160_1 : (k24_160 1).toInt = (g24 1).toInt := by rw [hwk24_160 1 (by decide)]
    have hxk24_160_2 : (k24_160 2).toInt = (g24 2).toInt := by rw [hwk24_160 2 (by decide)]
    iterate 2 refine hR (?_ : R (_, _, _, _, _, _))
    refine hR (j_eq (by omega) (by omega) (fun hc161 => ?_) (fun hc161 => ?_))
    · skip
      refine hR (?_ : R (_, _, _, _, _, _))
      refine hR (k_lt (by omega) (fun _ => ?_) (fun hc => by omega))
      refine hR (?_ : R (_, _, _, _, _, _))
      exact hR (zret_i rfl (Nat.le_refl _) (zbo (by omega)) (h _ _ _ _ _ _ _ _ _ _ _ (by omega) (by omega) (by omega) (by omega) (by omega) (fun _ => ⟨hr4, fun hz => hr5 (by omega)⟩)))
    iterate 3 refine hR (?_ : R (_, _, _, _, _, _))
    refine hR (k_ne (by omega) (fun hc162 => ?_) (fun hc162 => ?_))
    · skip
      iterate 2 refine hR (?_ : R (_, _, _, _, _, _))
      refine hR (k_ne (by omega) (fun _ => ?_) (fun hc => by omega))
      refine hR (t_c 6 (by decide) ?_)
      refine hR (zcall_i 0 0 (Nat.le_of_ble_eq_true rfl) (Nat.le_of_ble_eq_true rfl) (m_take0 _ 1 6 (by omega) (by omega) (by omega) (by omega) (by omega) _ fun v163 y9_164 y11_165 y12_166 y13_167 y14_168 y15_169 y16_170 y17_171 k24_172 hp173 hp174 hp175 hp176 hp177 hp178 => ?_))
      refine (?_ : R (_, _, (.int (Int32.ofInt v163)) :: [], (zMi c0 c1 c2 c3 c4 c5 c6 c7 c8 c9 c10 c11 c12 c13 f0 y9_164 f10 y11_165 y12_166 y13_167 y15_169 y16_170 y17_171 f20 f21 f22 f23 f26 f28 f31 f32 f33 f38 f41 f44 y14_168 g15 g16 g17 g18 g19 g20 g21 g22 g23 k24_172 g25 g26 g27 g28 g29 g30 g31 g32 g33 g34 g35 g36 g37 g38 g39 g40 g41 g42 g43 g44 t), 0, 0))
      refine hR (k_ne (by omega) (fun hc179 => ?_) (fun hc179 => ?_))
      rotate_left
      · skip
        refine hR (?_ : R (_, _, _, _, _, _))
        exact hR (zret_i rfl (Nat.le_refl _) (zbo (by omega)) (h _ _ _ _ _ _ _ _ _ _ _ (by omega) (by omega) (by omega) (by omega) (by omega) (fun h => by omega)))
      refine hR (?_ : R (_, _, _, _, _, _))
      refine hR (k_lt (by omega) (fun _ => ?_) (fun hc => by omega))
      refine hR (?_ : R (_, _, _, _, _, _))
      exact hR (zret_i rfl (Nat.le_refl _) (zbo (by omega)) (h _ _ _ _ _ _ _ _ _ _ _ (by omega) (by omega) (by omega) (by omega) (by omega) (fun _ => ⟨hr4, fun hz => hr5 (by omega)⟩)))
    iterate 3 refine hR (?_ : R (_, _, _, _, _, _))
    refine hR (k_ne (by omega) (fun hc => by omega) (fun _ => ?_))
    iterate 2 refine hR (?_ : R (_, _, _, _, _, _))
    refine hR (zcall_i 0 0 (Nat.le_of_ble_eq_true rfl) (Nat.le_of_ble_eq_true rfl) (m_take0 _ 0 3 (by omega) (by omega) (by omega) (by omega) (by omega) _ fun v180 y9_181 y11_182 y12_183 y13_184 y14_185 y15_186 y16_187 y17_188 k24_189 hp190 hp191 hp192 hp193 hp194 hp195 => ?_))
    refine (?_ : R (_, _, (.int (Int32.ofInt v180)) :: [], (zMi c0 c1 c2 c3 c4 c5 c6 c7 c8 c9 c10 c11 c12 c13 f0 y9_181 f10 y11_182 y12_183 y13_184 y15_186 y16_187 y17_188 f20 f21 f22 f23 f26 f28 f31 f32 f33 f38 f41 f44 y14_185 g15 g16 g17 g18 g19 g20 g21 g22 g23 k24_189 g25 g26 g27 g28 g29 g30 g31 g32 g33 g34 g35 g36 g37 g38 g39 g40 g41 g42 g43 g44 t), 0, 0))
    refine hR (k_ne (by omega) (fun hc196 => ?_) (fun hc196 => ?_))
    rotate_left
    · skip
      refine hR (?_ : R (_, _, _, _, _, _))
      exact hR (zret_i rfl (Nat.le_refl _) (zbo (by omega)) (h _ _ _ _ _ _ _ _ _ _ _ (by omega) (by omega) (by omega) (by omega) (by omega) (fun h => by omega)))
    refine hR (?_ : R (_, _, _, _, _, _))
    refine hR (k_lt (by omega) (fun _ => ?_) (fun hc => by omega))
    refine hR (?_ : R (_, _, _, _, _, _))
    exact hR (zret_i rfl (Nat.le_refl _) (zbo (by omega)) (h _ _ _ _ _ _ _ _ _ _ _ (by omega) (by omega) (by omega) (by omega) (by omega) (fun _ => ⟨hr4, fun hz => hr5 (by omega)⟩)))
  refine hR (?_ : R (_, _, _, _, _, _))
  refine hR (k_lt (by omega) (fun hc => by omega) (fun _ => ?_))
  iterate 2 refine hR (?_ : R (_, _, _, _, _, _))
  refine hR (t_c 6 (by decide) ?_)
  refine hR (?_ : R (_, _, _, _, _, _))
  refine hR (t_add ?_)
  refine hR (t_ldE (by omega) (by omega) (Nat.le_of_ble_eq_true rfl) fun v3 ev3 rv3 => ?_)
  have bv3 := tb_6 hr4 ev3 (by omega)
  refine hR (?_ : R (_, _, _, _, _, _))
  refine hR (j_ne (by omega) (by omega) (fun hc4 => ?_) (fun hc4 => ?_))
  · skip
    refine hR (?_ : R (_, _, _, _, _, _))
    refine hR (zcall_i 0 0 (Nat.le_of_ble_eq_true rfl) (Nat.le_of_ble_eq_true rfl) (m_token _ (by omega) _ fun y9_5 y11_6 y12_7 y13_8 y14_9 hp10 hp11 hp12 hp13 => ?_))
    refine (?_ : R (_, _, [], (zMi c0 c1 c2 c3 c4 c5 c6 c7 c8 c9 c10 c11 c12 c13 f0 y9_5 f10 y11_6 y12_7 y13_8 f15 f16 f17 f20 f21 f22 f23 f26 f28 f31 f32 f33 f38 f41 f44 y14_9 g15 g16 g17 g18 g19 g20 g21 g22 g23 g24 g25 g26 g27 g28 g29 g30 g31 g32 g33 g34 g35 g36 g37 g38 g39 g40 g41 g42 g43 g44 t), 0, 0))
    iterate 4 refine hR (?_ : R (_, _, _, _, _, _))
    refine hR (t_stV 0 rfl (by omega) (by omega) (by omega) (by omega) (Nat.le_of_ble_eq_true rfl) fun k24_14 hvk24_14 hwk24_14 => (?_ : R (_, _, _, (zMi c0 c1 c2 c3 c4 c5 c6 c7 c8 c9 c10 c11 c12 c13 f0 y9_5 f10 y11_6 y12_7 y13_8 f15 f16 f17 f20 f21 f22 f23 f26 f28 f31 f32 f33 f38 f41 f44 y14_9 g15 g16 g17 g18 g19 g20 g21 g22 g23 k24_14 g25 g26 g27 g28 g29 g30 g31 g32 g33 g34 g35 g36 g37 g38 g39 g40 g41 g42 g43 g44 t), _, _)))
    have hxk24_14_1 : (k24_14 1).toInt = (g24 1).toInt := by rw [hwk24_14 1 (by decide)]
    have hxk24_14_2 : (k24_14 2).toInt = (g24 2).toInt := by rw [hwk24_14 2 (by decide)]
    iterate 2 refine hR (?_ : R (_, _, _, _, _, _))
    refine hR (j_eq (by omega) (by omega) (fun hc15 => ?_) (fun hc15 => ?_))
    · skip
      refine hR (?_ : R (_, _, _, _, _, _))
      refine hR (k_lt (by omega) (fun hc => by omega) (fun _ => ?_))
      iterate 2 refine hR (?_ : R (_, _, _, _, _, _))
      refine hR (t_c 6 (by decide) ?_)
      refine hR (?_ : R (_, _, _, _, _, _))
      refine hR (t_add ?_)
      refine hR (t_ldE (by omega) (by omega) (Nat.le_of_ble_eq_true rfl) fun v16 ev16 rv16 => ?_)
      have bv16 := tb_6 hr4 ev16 (by omega)
      refine hR (?_ : R (_, _, _, _, _, _))
      refine hR (j_ge (by omega) (by omega) (fun hc17 => ?_) (fun hc17 => ?_))
      · skip
        refine hR (?_ : R (_, _, _, _, _, _))
        exact hR (zret_i rfl (Nat.le_refl _) (zbo (by omega)) (h _ _ _ _ _ _ _ _ _ _ _ (by omega) (by omega) (by omega) (by omega) (by omega) (fun _ => ⟨hr4, fun hz => hr5 (by omega)⟩)))
      refine hR (t_c 11 (by decide) ?_)
      refine hR (t_c 8 (by decide) ?_)
      refine hR (?_ : R (_, _, _, _, _, _))
      refine hR (t_mul ?_)
      refine hR (t_add ?_)
      iterate 3 refine hR (?_ : R (_, _, _, _, _, _))
      refine hR (t_c 6 (by decide) ?_)
      refine hR (?_ : R (_, _, _, _, _, _))
      refine hR (t_add ?_)
      refine hR (t_ldE (by omega) (by omega) (Nat.le_of_ble_eq_true rfl) fun v18 ev18 rv18 => ?_)
      have bv18 := tb_6 hr4 ev18 (by omega)
      refine hR (t_mul ?_)
      refine hR (t_add ?_)
      iterate 5 refine hR (?_ : R (_, _, _, _, _, _))
      refine hR (t_st (by omega) (by omega) (Nat.le_of_ble_eq_true rfl) (?_ : R (_, _, _, (zMi c0 c1 c2 c3 c4 c5 c6 c7 c8 c9 c10 c11 c12 c13 f0 y9_5 f10 y11_6 y12_7 y13_8 f15 f16 f17 f20 f21 f22 f23 f26 f28 f31 f32 f33 f38 f41 f44 y14_9 g15 g16 g17 g18 g19 g20 g21 g22 (upd g23 ((11 + (8 * (v1 - 1))) + (2 * v18)).toNat (Int32.ofInt a1)) k24_14 g25 g26 g27 g28 g29 g30 g31 g32 g33 g34 g35 g36 g37 g38 g39 g40 g41 g42 g43 g44 t), _, _)))
      iterate 4 refine hR (?_ : R (_, _, _, _, _, _))
      refine hR (t_add ?_)
      iterate 3 refine hR (?_ : R (_, _, _, _, _, _))
      refine hR (t_ldE (by omega) (by omega) (Nat.le_of_ble_eq_true rfl) fun v20 ev20 rv20 => ?_)
      have bv20 : v20 = (k24_14 0).toInt := ev20
      clear ev20
      refine hR (t_st (by omega) (by omega) (Nat.le_of_ble_eq_true rfl) (?_ : R (_, _, _, (zMi c0 c1 c2 c3 c4 c5 c6 c7 c8 c9 c10 c11 c12 c13 f0 y9_5 f10 y11_6 y12_7 y13_8 f15 f16 f17 f20 f21 f22 f23 f26 f28 f31 f32 f33 f38 f41 f44 y14_9 g15 g16 g17 g18 g19 g20 g21 g22 (upd (upd g23 ((11 + (8 * (v1 - 1))) + (2 * v18)).toNat (Int32.ofInt a1)) (((11 + (8 * (v1 - 1))) + (2 * v18)) + 1).toNat (Int32.ofInt v20)) k24_14 g25 g26 g27 g28 g29 g30 g31 g32 g33 g34 g35 g36 g37 g38 g39 g40 g41 g42 g43 g44 t), _, _)))
      iterate 2 refine hR (?_ : R (_, _, _, _, _, _))
      refine hR (t_c 6 (by decide) ?_)
      refine hR (?_ : R (_, _, _, _, _, _))
      refine hR (t_add ?_)
      refine hR (?_ : R (_, _, _, _, _, _))
      refine hR (t_ldE (by omega) (by omega) (Nat.le_of_ble_eq_true rfl) fun v22 ev22 rv22 => ?_)
      have cv22 : v22 = (g23 (6 + (v1 - 1)).toNat).toInt := by rw [ev22, pk_un (by omega), pk_un (by omega)]
      clear ev22
      have dv22 : v22 = v18 := by rw [cv22, ev18]
      refine hR (?_ : R (_, _, _, _, _, _))
      refine hR (t_add ?_)
      refine hR (t_st (by omega) (by omega) (Nat.le_of_ble_eq_true rfl) (?_ : R (_, _, _, (zMi c0 c1 c2 c3 c4 c5 c6 c7 c8 c9 c10 c11 c12 c13 f0 y9_5 f10 y11_6 y12_7 y13_8 f15 f16 f17 f20 f21 f22 f23 f26 f28 f31 f32 f33 f38 f41 f44 y14_9 g15 g16 g17 g18 g19 g20 g21 g22 (upd (upd (upd g23 ((11 + (8 * (v1 - 1))) + (2 * v18)).toNat (Int32.ofInt a1)) (((11 + (8 * (v1 - 1))) + (2 * v18)) + 1).toNat (Int32.ofInt v20)) (6 + (v1 - 1)).toNat (Int32.ofInt (v22 + 1))) k24_14 g25 g26 g27 g28 g29 g30 g31 g32 g33 g34 g35 g36 g37 g38 g39 g40 g41 g42 g43 g44 t), _, _)))
      refine hR (?_ : R (_, _, _, _, _, _))
      exact hR (zret_i rfl (Nat.le_refl _) (zbo (by omega)) (h _ _ _ _ _ _ _ _ _ _ _ (by omega) (by omega) (by omega) (by omega) (by omega) (fun _ => ⟨tb_sA hr4 (r := v1 - 1) (by omega) (by omega) (by omega) (by omega) (by omega) (by omega), fun hz => tb_sB (hr5 (by omega)) (r := v1 - 1) (m := v18) (by omega) (by omega) (by omega) (by omega) (by omega) (by omega) (by omega)⟩)))
    iterate 3 refine hR (?_ : R (_, _, _, _, _, _))
    refine hR (k_ne (by omega) (fun hc24 => ?_) (fun hc24 => ?_))
    · skip
      iterate 2 refine hR (?_ : R (_, _, _, _, _, _))
      refine hR (k_ne (by omega) (fun _ => ?_) (fun hc => by omega))
      refine hR (t_c 6 (by decide) ?_)
      refine hR (zcall_i 0 0 (Nat.le_of_ble_eq_true rfl) (Nat.le_of_ble_eq_true rfl) (m_take0 _ 1 6 (by omega) (by omega) (by omega) (by omega) (by omega) _ fun v25 y9_26 y11_27 y12_28 y13_29 y14_30 y15_31 y16_32 y17_33 k24_34 hp35 hp36 hp37 hp38 hp39 hp40 => ?_))
      refine (?_ : R (_, _, (.int (Int32.ofInt v25)) :: [], (zMi c0 c1 c2 c3 c4 c5 c6 c7 c8 c9 c10 c11 c12 c13 f0 y9_26 f10 y11_27 y12_28 y13_29 y15_31 y16_32 y17_33 f20 f21 f22 f23 f26 f28 f31 f32 f33 f38 f41 f44 y14_30 g15 g16 g17 g18 g19 g20 g21 g22 g23 k24_34 g25 g26 g27 g28 g29 g30 g31 g32 g33 g34 g35 g36 g37 g38 g39 g40 g41 g42 g43 g44 t), 0, 0))
      refine hR (k_ne (by omega) (fun hc41 => ?_) (fun hc41 => ?_))
      rotate_left
      · skip
        refine hR (?_ : R (_, _, _, _, _, _))
        exact hR (zret_i rfl (Nat.le_refl _) (zbo (by omega)) (h _ _ _ _ _ _ _ _ _ _ _ (by omega) (by omega) (by omega) (by omega) (by omega) (fun h => by omega)))
      refine hR (?_ : R (_, _, _, _, _, _))
      refine hR (k_lt (by omega) (fun hc => by omega) (fun _ => ?_))
      iterate 2 refine hR (?_ : R (_, _, _, _, _, _))
      refine hR (t_c 6 (by decide) ?_)
      refine hR (?_ : R (_, _, _, _, _, _))
      refine hR (t_add ?_)
      refine hR (t_ldE (by omega) (by omega) (Nat.le_of_ble_eq_true rfl) fun v42 ev42 rv42 => ?_)
      have bv42 := tb_6 hr4 ev42 (by omega)
      refine hR (?_ : R (_, _, _, _, _, _))
      refine hR (j_ge (by omega) (by omega) (fun hc43 => ?_) (fun hc43 => ?_))
      · skip
        refine hR (?_ : R (_, _, _, _, _, _))
        exact hR (zret_i rfl (Nat.le_refl _) (zbo (by omega)) (h _ _ _ _ _ _ _ _ _ _ _ (by omega) (by omega) (by omega) (by omega) (by omega) (fun _ => ⟨hr4, fun hz => hr5 (by omega)⟩)))
      refine hR (t_c 11 (by decide) ?_)
      refine hR (t_c 8 (by decide) ?_)
      refine hR (?_ : R (_, _, _, _, _, _))
      refine hR (t_mul ?_)
      refine hR (t_add ?_)
      iterate 3 refine hR (?_ : R (_, _, _, _, _, _))
      refine hR (t_c 6 (by decide) ?_)
      refine hR (?_ : R (_, _, _, _, _, _))
      refine hR (t_add ?_)
      refine hR (t_ldE (by omega) (by omega) (Nat.le_of_ble_eq_true rfl) fun v44 ev44 rv44 => ?_)
      have bv44 := tb_6 hr4 ev44 (by omega)
      refine hR (t_mul ?_)
      refine hR (t_add ?_)
      iterate 5 refine hR (?_ : R (_, _, _, _, _, _))
      refine hR (t_st (by omega) (by omega) (Nat.le_of_ble_eq_true rfl) (?_ : R (_, _, _, (zMi c0 c1 c2 c3 c4 c5 c6 c7 c8 c9 c10 c11 c12 c13 f0 y9_26 f10 y11_27 y12_28 y13_29 y15_31 y16_32 y17_33 f20 f21 f22 f23 f26 f28 f31 f32 f33 f38 f41 f44 y14_30 g15 g16 g17 g18 g19 g20 g21 g22 (upd g23 ((11 + (8 * (v1 - 1))) + (2 * v44)).toNat (Int32.ofInt a1)) k24_34 g25 g26 g27 g28 g29 g30 g31 g32 g33 g34 g35 g36 g37 g38 g39 g40 g41 g42 g43 g44 t), _, _)))
      iterate 4 refine hR (?_ : R (_, _, _, _, _, _))
      refine hR (t_add ?_)
      iterate 3 refine hR (?_ : R (_, _, _, _, _, _))
      refine hR (t_ldE (by omega) (by omega) (Nat.le_of_ble_eq_true rfl) fun v46 ev46 rv46 => ?_)
      have bv46 : v46 = (k24_34 0).toInt := ev46
      clear ev46
      refine hR (t_st (by omega) (by omega) (Nat.le_of_ble_eq_true rfl) (?_ : R (_, _, _, (zMi c0 c1 c2 c3 c4 c5 c6 c7 c8 c9 c10 c11 c12 c13 f0 y9_26 f10 y11_27 y12_28 y13_29 y15_31 y16_32 y17_33 f20 f21 f22 f23 f26 f28 f31 f32 f33 f38 f41 f44 y14_30 g15 g16 g17 g18 g19 g20 g21 g22 (upd (upd g23 ((11 + (8 * (v1 - 1))) + (2 * v44)).toNat (Int32.ofInt a1)) (((11 + (8 * (v1 - 1))) + (2 * v44)) + 1).toNat (Int32.ofInt v46)) k24_34 g25 g26 g27 g28 g29 g30 g31 g32 g33 g34 g35 g36 g37 g38 g39 g40 g41 g42 g43 g44 t), _, _)))
      iterate 2 refine hR (?_ : R (_, _, _, _, _, _))
      refine hR (t_c 6 (by decide) ?_)
      refine hR (?_ : R (_, _, _, _, _, _))
      refine hR (t_add ?_)
      refine hR (?_ : R (_, _, _, _, _, _))
      refine hR (t_ldE (by omega) (by omega) (Nat.le_of_ble_eq_true rfl) fun v48 ev48 rv48 => ?_)
      have cv48 : v48 = (g23 (6 + (v1 - 1)).toNat).toInt := by rw [ev48, pk_un (by omega), pk_un (by omega)]
      clear ev48
      have dv48 : v48 = v44 := by rw [cv48, ev44]
      refine hR (?_ : R (_, _, _, _, _, _))
      refine hR (t_add ?_)
      refine hR (t_st (by omega) (by omega) (Nat.le_of_ble_eq_true rfl) (?_ : R (_, _, _, (zMi c0 c1 c2 c3 c4 c5 c6 c7 c8 c9 c10 c11 c12 c13 f0 y9_26 f10 y11_27 y12_28 y13_29 y15_31 y16_32 y17_33 f20 f21 f22 f23 f26 f28 f31 f32 f33 f38 f41 f44 y14_30 g15 g16 g17 g18 g19 g20 g21 g22 (upd (upd (upd g23 ((11 + (8 * (v1 - 1))) + (2 * v44)).toNat (Int32.ofInt a1)) (((11 + (8 * (v1 - 1))) + (2 * v44)) + 1).toNat (Int32.ofInt v46)) (6 + (v1 - 1)).toNat (Int32.ofInt (v48 + 1))) k24_34 g25 g26 g27 g28 g29 g30 g31 g32 g33 g34 g35 g36 g37 g38 g39 g40 g41 g42 g43 g44 t), _, _)))
      refine hR (?_ : R (_, _, _, _, _, _))
      exact hR (zret_i rfl (Nat.le_refl _) (zbo (by omega)) (h _ _ _ _ _ _ _ _ _ _ _ (by omega) (by omega) (by omega) (by omega) (by omega) (fun _ => ⟨tb_sA hr4 (r := v1 - 1) (by omega) (by omega) (by omega) (by omega) (by omega) (by omega), fun hz => tb_sB (hr5 (by omega)) (r := v1 - 1) (m := v44) (by omega) (by omega) (by omega) (by omega) (by omega) (by omega) (by omega)⟩)))
    iterate 3 refine hR (?_ : R (_, _, _, _, _, _))
    refine hR (k_ne (by omega) (fun hc => by omega) (fun _ => ?_))
    iterate 2 refine hR (?_ : R (_, _, _, _, _, _))
    refine hR (zcall_i 0 0 (Nat.le_of_ble_eq_true rfl) (Nat.le_of_ble_eq_true rfl) (m_take0 _ 0 3 (by omega) (by omega) (by omega) (by omega) (by omega) _ fun v50 y9_51 y11_52 y12_53 y13_54 y14_55 y15_56 y16_57 y17_58 k24_59 hp60 hp61 hp62 hp63 hp64 hp65 => ?_))
    refine (?_ : R (_, _, (.int (Int32.ofInt v50)) :: [], (zMi c0 c1 c2 c3 c4 c5 c6 c7 c8 c9 c10 c11 c12 c13 f0 y9_51 f10 y11_52 y12_53 y13_54 y15_56 y16_57 y17_58 f20 f21 f22 f23 f26 f28 f31 f32 f33 f38 f41 f44 y14_55 g15 g16 g17 g18 g19 g20 g21 g22 g23 k24_59 g25 g26 g27 g28 g29 g30 g31 g32 g33 g34 g35 g36 g37 g38 g39 g40 g41 g42 g43 g44 t), 0, 0))
    refine hR (k_ne (by omega) (fun hc66 => ?_) (fun hc66 => ?_))
    rotate_left
    · skip
      refine hR (?_ : R (_, _, _, _, _, _))
      exact hR (zret_i rfl (Nat.le_refl _) (zbo (by omega)) (h _ _ _ _ _ _ _ _ _ _ _ (by omega) (by omega) (by omega) (by omega) (by omega) (fun h => by omega)))
    refine hR (?_ : R (_, _, _, _, _, _))
    refine hR (k_lt (by omega) (fun hc => by omega) (fun _ => ?_))
    iterate 2 refine hR (?_ : R (_, _, _, _, _, _))
    refine hR (t_c 6 (by decide) ?_)
    refine hR (?_ : R (_, _, _, _, _, _))
    refine hR (t_add ?_)
    refine hR (t_ldE (by omega) (by omega) (Nat.le_of_ble_eq_true rfl) fun v67 ev67 rv67 => ?_)
    have bv67 := tb_6 hr4 ev67 (by omega)
    refine hR (?_ : R (_, _, _, _, _, _))
    refine hR (j_ge (by omega) (by omega) (fun hc68 => ?_) (fun hc68 => ?_))
    · skip
      refine hR (?_ : R (_, _, _, _, _, _))
      exact hR (zret_i rfl (Nat.le_refl _) (zbo (by omega)) (h _ _ _ _ _ _ _ _ _ _ _ (by omega) (by omega) (by omega) (by omega) (by omega) (fun _ => ⟨hr4, fun hz => hr5 (by omega)⟩)))
    refine hR (t_c 11 (by decide) ?_)
    refine hR (t_c 8 (by decide) ?_)
    refine hR (?_ : R (_, _, _, _, _, _))
    refine hR (t_mul ?_)
    refine hR (t_add ?_)
    iterate 3 refine hR (?_ : R (_, _, _, _, _, _))
    refine hR (t_c 6 (by decide) ?_)
    refine hR (?_ : R (_, _, _, _, _, _))
    refine hR (t_add ?_)
    refine hR (t_ldE (by omega) (by omega) (Nat.le_of_ble_eq_true rfl) fun v69 ev69 rv69 => ?_)
    have bv69 := tb_6 hr4 ev69 (by omega)
    refine hR (t_mul ?_)
    refine hR (t_add ?_)
    iterate 5 refine hR (?_ : R (_, _, _, _, _, _))
    refine hR (t_st (by omega) (by omega) (Nat.le_of_ble_eq_true rfl) (?_ : R (_, _, _, (zMi c0 c1 c2 c3 c4 c5 c6 c7 c8 c9 c10 c11 c12 c13 f0 y9_51 f10 y11_52 y12_53 y13_54 y15_56 y16_57 y17_58 f20 f21 f22 f23 f26 f28 f31 f32 f33 f38 f41 f44 y14_55 g15 g16 g17 g18 g19 g20 g21 g22 (upd g23 ((11 + (8 * (v1 - 1))) + (2 * v69)).toNat (Int32.ofInt a1)) k24_59 g25 g26 g27 g28 g29 g30 g31 g32 g33 g34 g35 g36 g37 g38 g39 g40 g41 g42 g43 g44 t), _, _)))
    iterate 4 refine hR (?_ : R (_, _, _, _, _, _))
    refine hR (t_add ?_)
    iterate 3 refine hR (?_ : R (_, _, _, _, _, _))
    refine hR (t_ldE (by omega) (by omega) (Nat.le_of_ble_eq_true rfl) fun v71 ev71 rv71 => ?_)
    have bv71 : v71 = (k24_59 0).toInt := ev71
    clear ev71
    refine hR (t_st (by omega) (by omega) (Nat.le_of_ble_eq_true rfl) (?_ : R (_, _, _, (zMi c0 c1 c2 c3 c4 c5 c6 c7 c8 c9 c10 c11 c12 c13 f0 y9_51 f10 y11_52 y12_53 y13_54 y15_56 y16_57 y17_58 f20 f21 f22 f23 f26 f28 f31 f32 f33 f38 f41 f44 y14_55 g15 g16 g17 g18 g19 g20 g21 g22 (upd (upd g23 ((11 + (8 * (v1 - 1))) + (2 * v69)).toNat (Int32.ofInt a1)) (((11 + (8 * (v1 - 1))) + (2 * v69)) + 1).toNat (Int32.ofInt v71)) k24_59 g25 g26 g27 g28 g29 g30 g31 g32 g33 g34 g35 g36 g37 g38 g39 g40 g41 g42 g43 g44 t), _, _)))
    iterate 2 refine hR (?_ : R (_, _, _, _, _, _))
    refine hR (t_c 6 (by decide) ?_)
    refine hR (?_ : R (_, _, _, _, _, _))
    refine hR (t_add ?_)
    refine hR (?_ : R (_, _, _, _, _, _))
    refine hR (t_ldE (by omega) (by omega) (Nat.le_of_ble_eq_true rfl) fun v73 ev73 rv73 => ?_)
    have cv73 : v73 = (g23 (6 + (v1 - 1)).toNat).toInt := by rw [ev73, pk_un (by omega), pk_un (by omega)]
    clear ev73
    have dv73 : v73 = v69 := by rw [cv73, ev69]
    refine hR (?_ : R (_, _, _, _, _, _))
    refine hR (t_add ?_)
    refine hR (t_st (by omega) (by omega) (Nat.le_of_ble_eq_true rfl) (?_ : R (_, _, _, (zMi c0 c1 c2 c3 c4 c5 c6 c7 c8 c9 c10 c11 c12 c13 f0 y9_51 f10 y11_52 y12_53 y13_54 y15_56 y16_57 y17_58 f20 f21 f22 f23 f26 f28 f31 f32 f33 f38 f41 f44 y14_55 g15 g16 g17 g18 g19 g20 g21 g22 (upd (upd (upd g23 ((11 + (8 * (v1 - 1))) + (2 * v69)).toNat (Int32.ofInt a1)) (((11 + (8 * (v1 - 1))) + (2 * v69)) + 1).toNat (Int32.ofInt v71)) (6 + (v1 - 1)).toNat (Int32.ofInt (v73 + 1))) k24_59 g25 g26 g27 g28 g29 g30 g31 g32 g33 g34 g35 g36 g37 g38 g39 g40 g41 g42 g43 g44 t), _, _)))
    refine hR (?_ : R (_, _, _, _, _, _))
    exact hR (zret_i rfl (Nat.le_refl _) (zbo (by omega)) (h _ _ _ _ _ _ _ _ _ _ _ (by omega) (by omega) (by omega) (by omega) (by omega) (fun _ => ⟨tb_sA hr4 (r := v1 - 1) (by omega) (by omega) (by omega) (by omega) (by omega) (by omega), fun hz => tb_sB (hr5 (by omega)) (r := v1 - 1) (m := v69) (by omega) (by omega) (by omega) (by omega) (by omega) (by omega) (by omega)⟩)))
  iterate 3 refine hR (?_ : R (_, _, _, _, _, _))
  refine hR (zcall_i 0 0 (Nat.le_of_ble_eq_true rfl) (Nat.le_of_ble_eq_true rfl) (m_later _ 3 a2 (by omega) (by omega) _ fun y16_75 y17_76 hp77 => ?_))
  refine (?_ : R (_, _, [], (zMi c0 c1 c2 c3 c4 c5 c6 c7 c8 c9 c10 c11 c12 c13 f0 f9 f10 f11 f12 f13 f15 y16_75 y17_76 f20 f21 f22 f23 f26 f28 f31 f32 f33 f38 f41 f44 x14 g15 g16 g17 g18 g19 g20 g21 g22 g23 g24 g25 g26 g27 g28 g29 g30 g31 g32 g33 g34 g35 g36 g37 g38 g39 g40 g41 g42 g43 g44 t), 0, 0))
  refine hR (?_ : R (_, _, _, _, _, _))
  refine hR (zcall_i 0 0 (Nat.le_of_ble_eq_true rfl) (Nat.le_of_ble_eq_true rfl) (m_token _ (by omega) _ fun y9_78 y11_79 y12_80 y13_81 y14_82 hp83 hp84 hp85 hp86 => ?_))
  refine (?_ : R (_, _, [], (zMi c0 c1 c2 c3 c4 c5 c6 c7 c8 c9 c10 c11 c12 c13 f0 y9_78 f10 y11_79 y12_80 y13_81 f15 y16_75 y17_76 f20 f21 f22 f23 f26 f28 f31 f32 f33 f38 f41 f44 y14_82 g15 g16 g17 g18 g19 g20 g21 g22 g23 g24 g25 g26 g27 g28 g29 g30 g31 g32 g33 g34 g35 g36 g37 g38 g39 g40 g41 g42 g43 g44 t), 0, 0))
  iterate 4 refine hR (?_ : R (_, _, _, _, _, _))
  refine hR (t_stV 0 rfl (by omega) (by omega) (by omega) (by omega) (Nat.le_of_ble_eq_true rfl) fun k24_87 hvk24_87 hwk24_87 => (?_ : R (_, _, _, (zMi c0 c1 c2 c3 c4 c5 c6 c7 c8 c9 c10 c11 c12 c13 f0 y9_78 f10 y11_79 y12_80 y13_81 f15 y16_75 y17_76 f20 f21 f22 f23 f26 f28 f31 f32 f33 f38 f41 f44 y14_82 g15 g16 g17 g18 g19 g20 g21 g22 g23 k24_87 g25 g26 g27 g28 g29 g30 g31 g32 g33 g34 g35 g36 g37 g38 g39 g40 g41 g42 g43 g44 t), _, _)))
  have hxk24_87_1 : (k24_87 1).toInt = (g24 1).toInt := by rw [hwk24_87 1 (by decide)]
  have hxk24_87_2 : (k24_87 2).toInt = (g24 2).toInt := by rw [hwk24_87 2 (by decide)]
  iterate 2 refine hR (?_ : R (_, _, _, _, _, _))
  refine hR (j_eq (by omega) (by omega) (fun hc88 => ?_) (fun hc88 => ?_))
  · skip
    refine hR (?_ : R (_, _, _, _, _, _))
    refine hR (k_lt (by omega) (fun hc => by omega) (fun _ => ?_))
    iterate 2 refine hR (?_ : R (_, _, _, _, _, _))
    refine hR (t_c 6 (by decide) ?_)
    refine hR (?_ : R (_, _, _, _, _, _))
    refine hR (t_add ?_)
    refine hR (t_ldE (by omega) (by omega) (Nat.le_of_ble_eq_true rfl) fun v89 ev89 rv89 => ?_)
    have bv89 := tb_6 hr4 ev89 (by omega)
    refine hR (?_ : R (_, _, _, _, _, _))
    refine hR (j_ge (by omega) (by omega) (fun hc90 => ?_) (fun hc90 => ?_))
    · skip
      refine hR (?_ : R (_, _, _, _, _, _))
      exact hR (zret_i rfl (Nat.le_refl _) (zbo (by omega)) (h _ _ _ _ _ _ _ _ _ _ _ (by omega) (by omega) (by omega) (by omega) (by omega) (fun _ => ⟨hr4, fun hz => hr5 (by omega)⟩)))
    refine hR (t_c 11 (by decide) ?_)
    refine hR (t_c 8 (by decide) ?_)
    refine hR (?_ : R (_, _, _, _, _, _))
    refine hR (t_mul ?_)
    refine hR (t_add ?_)
    iterate 3 refine hR (?_ : R (_, _, _, _, _, _))
    refine hR (t_c 6 (by decide) ?_)
    refine hR (?_ : R (_, _, _, _, _, _))
    refine hR (t_add ?_)
    refine hR (t_ldE (by omega) (by omega) (Nat.le_of_ble_eq_true rfl) fun v91 ev91 rv91 => ?_)
    have bv91 := tb_6 hr4 ev91 (by omega)
    refine hR (t_mul ?_)
    refine hR (t_add ?_)
    iterate 5 refine hR (?_ : R (_, _, _, _, _, _))
    refine hR (t_st (by omega) (by omega) (Nat.le_of_ble_eq_true rfl) (?_ : R (_, _, _, (zMi c0 c1 c2 c3 c4 c5 c6 c7 c8 c9 c10 c11 c12 c13 f0 y9_78 f10 y11_79 y12_80 y13_81 f15 y16_75 y17_76 f20 f21 f22 f23 f26 f28 f31 f32 f33 f38 f41 f44 y14_82 g15 g16 g17 g18 g19 g20 g21 g22 (upd g23 ((11 + (8 * (v1 - 1))) + (2 * v91)).toNat (Int32.ofInt a1)) k24_87 g25 g26 g27 g28 g29 g30 g31 g32 g33 g34 g35 g36 g37 g38 g39 g40 g41 g42 g43 g44 t), _, _)))
    iterate 4 refine hR (?_ : R (_, _, _, _, _, _))
    refine hR (t_add ?_)
    iterate 3 refine hR (?_ : R (_, _, _, _, _, _))
    refine hR (t_ldE (by omega) (by omega) (Nat.le_of_ble_eq_true rfl) fun v93 ev93 rv93 => ?_)
    have bv93 : v93 = (k24_87 0).toInt := ev93
    clear ev93
    refine hR (t_st (by omega) (by omega) (Nat.le_of_ble_eq_true rfl) (?_ : R (_, _, _, (zMi c0 c1 c2 c3 c4 c5 c6 c7 c8 c9 c10 c11 c12 c13 f0 y9_78 f10 y11_79 y12_80 y13_81 f15 y16_75 y17_76 f20 f21 f22 f23 f26 f28 f31 f32 f33 f38 f41 f44 y14_82 g15 g16 g17 g18 g19 g20 g21 g22 (upd (upd g23 ((11 + (8 * (v1 - 1))) + (2 * v91)).toNat (Int32.ofInt a1)) (((11 + (8 * (v1 - 1))) + (2 * v91)) + 1).toNat (Int32.ofInt v93)) k24_87 g25 g26 g27 g28 g29 g30 g31 g32 g33 g34 g35 g36 g37 g38 g39 g40 g41 g42 g43 g44 t), _, _)))
    iterate 2 refine hR (?_ : R (_, _, _, _, _, _))
    refine hR (t_c 6 (by decide) ?_)
    refine hR (?_ : R (_, _, _, _, _, _))
    refine hR (t_add ?_)
    refine hR (?_ : R (_, _, _, _, _, _))
    refine hR (t_ldE (by omega) (by omega) (Nat.le_of_ble_eq_true rfl) fun v95 ev95 rv95 => ?_)
    have cv95 : v95 = (g23 (6 + (v1 - 1)).toNat).toInt := by rw [ev95, pk_un (by omega), pk_un (by omega)]
    clear ev95
    have dv95 : v95 = v91 := by rw [cv95, ev91]
    refine hR (?_ : R (_, _, _, _, _, _))
    refine hR (t_add ?_)
    refine hR (t_st (by omega) (by omega) (Nat.le_of_ble_eq_true rfl) (?_ : R (_, _, _, (zMi c0 c1 c2 c3 c4 c5 c6 c7 c8 c9 c10 c11 c12 c13 f0 y9_78 f10 y11_79 y12_80 y13_81 f15 y16_75 y17_76 f20 f21 f22 f23 f26 f28 f31 f32 f33 f38 f41 f44 y14_82 g15 g16 g17 g18 g19 g20 g21 g22 (upd (upd (upd g23 ((11 + (8 * (v1 - 1))) + (2 * v91)).toNat (Int32.ofInt a1)) (((11 + (8 * (v1 - 1))) + (2 * v91)) + 1).toNat (Int32.ofInt v93)) (6 + (v1 - 1)).toNat (Int32.ofInt (v95 + 1))) k24_87 g25 g26 g27 g28 g29 g30 g31 g32 g33 g34 g35 g36 g37 g38 g39 g40 g41 g42 g43 g44 t), _, _)))
    refine hR (?_ : R (_, _, _, _, _, _))
    exact hR (zret_i rfl (Nat.le_refl _) (zbo (by omega)) (h _ _ _ _ _ _ _ _ _ _ _ (by omega) (by omega) (by omega) (by omega) (by omega) (fun _ => ⟨tb_sA hr4 (r := v1 - 1) (by omega) (by omega) (by omega) (by omega) (by omega) (by omega), fun hz => tb_sB (hr5 (by omega)) (r := v1 - 1) (m := v91) (by omega) (by omega) (by omega) (by omega) (by omega) (by omega) (by omega)⟩)))
  iterate 3 refine hR (?_ : R (_, _, _, _, _, _))
  refine hR (k_ne (by omega) (fun hc97 => ?_) (fun hc97 => ?_))
  · skip
    iterate 2 refine hR (?_ : R (_, _, _, _, _, _))
    refine hR (k_ne (by omega) (fun _ => ?_) (fun hc => by omega))
    refine hR (t_c 6 (by decide) ?_)
    refine hR (zcall_i 0 0 (Nat.le_of_ble_eq_true rfl) (Nat.le_of_ble_eq_true rfl) (m_take0 _ 1 6 (by omega) (by omega) (by omega) (by omega) (by omega) _ fun v98 y9_99 y11_100 y12_101 y13_102 y14_103 y15_104 y16_105 y17_106 k24_107 hp108 hp109 hp110 hp111 hp112 hp113 => ?_))
    refine (?_ : R (_, _, (.int (Int32.ofInt v98)) :: [], (zMi c0 c1 c2 c3 c4 c5 c6 c7 c8 c9 c10 c11 c12 c13 f0 y9_99 f10 y11_100 y12_101 y13_102 y15_104 y16_105 y17_106 f20 f21 f22 f23 f26 f28 f31 f32 f33 f38 f41 f44 y14_103 g15 g16 g17 g18 g19 g20 g21 g22 g23 k24_107 g25 g26 g27 g28 g29 g30 g31 g32 g33 g34 g35 g36 g37 g38 g39 g40 g41 g42 g43 g44 t), 0, 0))
    refine hR (k_ne (by omega) (fun hc114 => ?_) (fun hc114 => ?_))
    rotate_left
    · skip
      refine hR (?_ : R (_, _, _, _, _, _))
      exact hR (zret_i rfl (Nat.le_refl _) (zbo (by omega)) (h _ _ _ _ _ _ _ _ _ _ _ (by omega) (by omega) (by omega) (by omega) (by omega) (fun h => by omega)))
    refine hR (?_ : R (_, _, _, _, _, _))
    refine hR (k_lt (by omega) (fun hc => by omega) (fun _ => ?_))
    iterate 2 refine hR (?_ : R (_, _, _, _, _, _))
    refine hR (t_c 6 (by decide) ?_)
    refine hR (?_ : R (_, _, _, _, _, _))
    refine hR (t_add ?_)
    refine hR (t_ldE (by omega) (by omega) (Nat.le_of_ble_eq_true rfl) fun v115 ev115 rv115 => ?_)
    have bv115 := tb_6 hr4 ev115 (by omega)
    refine hR (?_ : R (_, _, _, _, _, _))
    refine hR (j_ge (by omega) (by omega) (fun hc116 => ?_) (fun hc116 => ?_))
    · skip
      refine hR (?_ : R (_, _, _, _, _, _))
      exact hR (zret_i rfl (Nat.le_refl _) (zbo (by omega)) (h _ _ _ _ _ _ _ _ _ _ _ (by omega) (by omega) (by omega) (by omega) (by omega) (fun _ => ⟨hr4, fun hz => hr5 (by omega)⟩)))
    refine hR (t_c 11 (by decide) ?_)
    refine hR (t_c 8 (by decide) ?_)
    refine hR (?_ : R (_, _, _, _, _, _))
    refine hR (t_mul ?_)
    refine hR (t_add ?_)
    iterate 3 refine hR (?_ : R (_, _, _, _, _, _))
    refine hR (t_c 6 (by decide) ?_)
    refine hR (?_ : R (_, _, _, _, _, _))
    refine hR (t_add ?_)
    refine hR (t_ldE (by omega) (by omega) (Nat.le_of_ble_eq_true rfl) fun v117 ev117 rv117 => ?_)
    have bv117 := tb_6 hr4 ev117 (by omega)
    refine hR (t_mul ?_)
    refine hR (t_add ?_)
    iterate 5 refine hR (?_ : R (_, _, _, _, _, _))
    refine hR (t_st (by omega) (by omega) (Nat.le_of_ble_eq_true rfl) (?_ : R (_, _, _, (zMi c0 c1 c2 c3 c4 c5 c6 c7 c8 c9 c10 c11 c12 c13 f0 y9_99 f10 y11_100 y12_101 y13_102 y15_104 y16_105 y17_106 f20 f21 f22 f23 f26 f28 f31 f32 f33 f38 f41 f44 y14_103 g15 g16 g17 g18 g19 g20 g21 g22 (upd g23 ((11 + (8 * (v1 - 1))) + (2 * v117)).toNat (Int32.ofInt a1)) k24_107 g25 g26 g27 g28 g29 g30 g31 g32 g33 g34 g35 g36 g37 g38 g39 g40 g41 g42 g43 g44 t), _, _)))
    iterate 4 refine hR (?_ : R (_, _, _, _, _, _))
    refine hR (t_add ?_)
    iterate 3 refine hR (?_ : R (_, _, _, _, _, _))
    refine hR (t_ldE (by omega) (by omega) (Nat.le_of_ble_eq_true rfl) fun v119 ev119 rv119 => ?_)
    have bv119 : v119 = (k24_107 0).toInt := ev119
    clear ev119
    refine hR (t_st (by omega) (by omega) (Nat.le_of_ble_eq_true rfl) (?_ : R (_, _, _, (zMi c0 c1 c2 c3 c4 c5 c6 c7 c8 c9 c10 c11 c12 c13 f0 y9_99 f10 y11_100 y12_101 y13_102 y15_104 y16_105 y17_106 f20 f21 f22 f23 f26 f28 f31 f32 f33 f38 f41 f44 y14_103 g15 g16 g17 g18 g19 g20 g21 g22 (upd (upd g23 ((11 + (8 * (v1 - 1))) + (2 * v117)).toNat (Int32.ofInt a1)) (((11 + (8 * (v1 - 1))) + (2 * v117)) + 1).toNat (Int32.ofInt v119)) k24_107 g25 g26 g27 g28 g29 g30 g31 g32 g33 g34 g35 g36 g37 g38 g39 g40 g41 g42 g43 g44 t), _, _)))
    iterate 2 refine hR (?_ : R (_, _, _, _, _, _))
    refine hR (t_c 6 (by decide) ?_)
    refine hR (?_ : R (_, _, _, _, _, _))
    refine hR (t_add ?_)
    refine hR (?_ : R (_, _, _, _, _, _))
    refine hR (t_ldE (by omega) (by omega) (Nat.le_of_ble_eq_true rfl) fun v121 ev121 rv121 => ?_)
    have cv121 : v121 = (g23 (6 + (v1 - 1)).toNat).toInt := by rw [ev121, pk_un (by omega), pk_un (by omega)]
    clear ev121
    have dv121 : v121 = v117 := by rw [cv121, ev117]
    refine hR (?_ : R (_, _, _, _, _, _))
    refine hR (t_add ?_)
    refine hR (t_st (by omega) (by omega) (Nat.le_of_ble_eq_true rfl) (?_ : R (_, _, _, (zMi c0 c1 c2 c3 c4 c5 c6 c7 c8 c9 c10 c11 c12 c13 f0 y9_99 f10 y11_100 y12_101 y13_102 y15_104 y16_105 y17_106 f20 f21 f22 f23 f26 f28 f31 f32 f33 f38 f41 f44 y14_103 g15 g16 g17 g18 g19 g20 g21 g22 (upd (upd (upd g23 ((11 + (8 * (v1 - 1))) + (2 * v117)).toNat (Int32.ofInt a1)) (((11 + (8 * (v1 - 1))) + (2 * v117)) + 1).toNat (Int32.ofInt v119)) (6 + (v1 - 1)).toNat (Int32.ofInt (v121 + 1))) k24_107 g25 g26 g27 g28 g29 g30 g31 g32 g33 g34 g35 g36 g37 g38 g39 g40 g41 g42 g43 g44 t), _, _)))
    refine hR (?_ : R (_, _, _, _, _, _))
    exact hR (zret_i rfl (Nat.le_refl _) (zbo (by omega)) (h _ _ _ _ _ _ _ _ _ _ _ (by omega) (by omega) (by omega) (by omega) (by omega) (fun _ => ⟨tb_sA hr4 (r := v1 - 1) (by omega) (by omega) (by omega) (by omega) (by omega) (by omega), fun hz => tb_sB (hr5 (by omega)) (r := v1 - 1) (m := v117) (by omega) (by omega) (by omega) (by omega) (by omega) (by omega) (by omega)⟩)))
  iterate 3 refine hR (?_ : R (_, _, _, _, _, _))
  refine hR (k_ne (by omega) (fun hc => by omega) (fun _ => ?_))
  iterate 2 refine hR (?_ : R (_, _, _, _, _, _))
  refine hR (zcall_i 0 0 (Nat.le_of_ble_eq_true rfl) (Nat.le_of_ble_eq_true rfl) (m_take0 _ 0 3 (by omega) (by omega) (by omega) (by omega) (by omega) _ fun v123 y9_124 y11_125 y12_126 y13_127 y14_128 y15_129 y16_130 y17_131 k24_132 hp133 hp134 hp135 hp136 hp137 hp138 => ?_))
  refine (?_ : R (_, _, (.int (Int32.ofInt v123)) :: [], (zMi c0 c1 c2 c3 c4 c5 c6 c7 c8 c9 c10 c11 c12 c13 f0 y9_124 f10 y11_125 y12_126 y13_127 y15_129 y16_130 y17_131 f20 f21 f22 f23 f26 f28 f31 f32 f33 f38 f41 f44 y14_128 g15 g16 g17 g18 g19 g20 g21 g22 g23 k24_132 g25 g26 g27 g28 g29 g30 g31 g32 g33 g34 g35 g36 g37 g38 g39 g40 g41 g42 g43 g44 t), 0, 0))
  refine hR (k_ne (by omega) (fun hc139 => ?_) (fun hc139 => ?_))
  rotate_left
  · skip
    refine hR (?_ : R (_, _, _, _, _, _))
    exact hR (zret_i rfl (Nat.le_refl _) (zbo (by omega)) (h _ _ _ _ _ _ _ _ _ _ _ (by omega) (by omega) (by omega) (by omega) (by omega) (fun h => by omega)))
  refine hR (?_ : R (_, _, _, _, _, _))
  refine hR (k_lt (by omega) (fun hc => by omega) (fun _ => ?_))
  iterate 2 refine hR (?_ : R (_, _, _, _, _, _))
  refine hR (t_c 6 (by decide) ?_)
  refine hR (?_ : R (_, _, _, _, _, _))
  refine hR (t_add ?_)
  refine hR (t_ldE (by omega) (by omega) (Nat.le_of_ble_eq_true rfl) fun v140 ev140 rv140 => ?_)
  have bv140 := tb_6 hr4 ev140 (by omega)
  refine hR (?_ : R (_, _, _, _, _, _))
  refine hR (j_ge (by omega) (by omega) (fun hc141 => ?_) (fun hc141 => ?_))
  · skip
    refine hR (?_ : R (_, _, _, _, _, _))
    exact hR (zret_i rfl (Nat.le_refl _) (zbo (by omega)) (h _ _ _ _ _ _ _ _ _ _ _ (by omega) (by omega) (by omega) (by omega) (by omega) (fun _ => ⟨hr4, fun hz => hr5 (by omega)⟩)))
  refine hR (t_c 11 (by decide) ?_)
  refine hR (t_c 8 (by decide) ?_)
  refine hR (?_ : R (_, _, _, _, _, _))
  refine hR (t_mul ?_)
  refine hR (t_add ?_)
  iterate 3 refine hR (?_ : R (_, _, _, _, _, _))
  refine hR (t_c 6 (by decide) ?_)
  refine hR (?_ : R (_, _, _, _, _, _))
  refine hR (t_add ?_)
  refine hR (t_ldE (by omega) (by omega) (Nat.le_of_ble_eq_true rfl) fun v142 ev142 rv142 => ?_)
  have bv142 := tb_6 hr4 ev142 (by omega)
  refine hR (t_mul ?_)
  refine hR (t_add ?_)
  iterate 5 refine hR (?_ : R (_, _, _, _, _, _))
  refine hR (t_st (by omega) (by omega) (Nat.le_of_ble_eq_true rfl) (?_ : R (_, _, _, (zMi c0 c1 c2 c3 c4 c5 c6 c7 c8 c9 c10 c11 c12 c13 f0 y9_124 f10 y11_125 y12_126 y13_127 y15_129 y16_130 y17_131 f20 f21 f22 f23 f26 f28 f31 f32 f33 f38 f41 f44 y14_128 g15 g16 g17 g18 g19 g20 g21 g22 (upd g23 ((11 + (8 * (v1 - 1))) + (2 * v142)).toNat (Int32.ofInt a1)) k24_132 g25 g26 g27 g28 g29 g30 g31 g32 g33 g34 g35 g36 g37 g38 g39 g40 g41 g42 g43 g44 t), _, _)))
  iterate 4 refine hR (?_ : R (_, _, _, _, _, _))
  refine hR (t_add ?_)
  iterate 3 refine hR (?_ : R (_, _, _, _, _, _))
  refine hR (t_ldE (by omega) (by omega) (Nat.le_of_ble_eq_true rfl) fun v144 ev144 rv144 => ?_)
  have bv144 : v144 = (k24_132 0).toInt := ev144
  clear ev144
  refine hR (t_st (by omega) (by omega) (Nat.le_of_ble_eq_true rfl) (?_ : R (_, _, _, (zMi c0 c1 c2 c3 c4 c5 c6 c7 c8 c9 c10 c11 c12 c13 f0 y9_124 f10 y11_125 y12_126 y13_127 y15_129 y16_130 y17_131 f20 f21 f22 f23 f26 f28 f31 f32 f33 f38 f41 f44 y14_128 g15 g16 g17 g18 g19 g20 g21 g22 (upd (upd g23 ((11 + (8 * (v1 - 1))) + (2 * v142)).toNat (Int32.ofInt a1)) (((11 + (8 * (v1 - 1))) + (2 * v142)) + 1).toNat (Int32.ofInt v144)) k24_132 g25 g26 g27 g28 g29 g30 g31 g32 g33 g34 g35 g36 g37 g38 g39 g40 g41 g42 g43 g44 t), _, _)))
  iterate 2 refine hR (?_ : R (_, _, _, _, _, _))
  refine hR (t_c 6 (by decide) ?_)
  refine hR (?_ : R (_, _, _, _, _, _))
  refine hR (t_add ?_)
  refine hR (?_ : R (_, _, _, _, _, _))
  refine hR (t_ldE (by omega) (by omega) (Nat.le_of_ble_eq_true rfl) fun v146 ev146 rv146 => ?_)
  have cv146 : v146 = (g23 (6 + (v1 - 1)).toNat).toInt := by rw [ev146, pk_un (by omega), pk_un (by omega)]
  clear ev146
  have dv146 : v146 = v142 := by rw [cv146, ev142]
  refine hR (?_ : R (_, _, _, _, _, _))
  refine hR (t_add ?_)
  refine hR (t_st (by omega) (by omega) (Nat.le_of_ble_eq_true rfl) (?_ : R (_, _, _, (zMi c0 c1 c2 c3 c4 c5 c6 c7 c8 c9 c10 c11 c12 c13 f0 y9_124 f10 y11_125 y12_126 y13_127 y15_129 y16_130 y17_131 f20 f21 f22 f23 f26 f28 f31 f32 f33 f38 f41 f44 y14_128 g15 g16 g17 g18 g19 g20 g21 g22 (upd (upd (upd g23 ((11 + (8 * (v1 - 1))) + (2 * v142)).toNat (Int32.ofInt a1)) (((11 + (8 * (v1 - 1))) + (2 * v142)) + 1).toNat (Int32.ofInt v144)) (6 + (v1 - 1)).toNat (Int32.ofInt (v146 + 1))) k24_132 g25 g26 g27 g28 g29 g30 g31 g32 g33 g34 g35 g36 g37 g38 g39 g40 g41 g42 g43 g44 t), _, _)))
  refine hR (?_ : R (_, _, _, _, _, _))
  exact hR (zret_i rfl (Nat.le_refl _) (zbo (by omega)) (h _ _ _ _ _ _ _ _ _ _ _ (by omega) (by omega) (by omega) (by omega) (by omega) (fun _ => ⟨tb_sA hr4 (r := v1 - 1) (by omega) (by omega) (by omega) (by omega) (by omega) (by omega), fun hz => tb_sB (hr5 (by omega)) (r := v1 - 1) (m := v142) (by omega) (by omega) (by omega) (by omega) (by omega) (by omega) (by omega)⟩)))
theorem m_bookLine (d : Nat) (a2 : Int) (lw : Int64) (hr0 : 0 ≤ f9 ∧ f9 ≤ f10 ∧ f10 ≤ 600) (hr1 : 0 ≤ f12 ∧ f12 ≤ 4 ∧ (f12 = 3 → 0 ≤ f13 ∧ f13 ≤ 99)) (hr2 : 0 ≤ f16 ∧ f16 ≤ 4) (hr3 : tbA g23) (hr4 : f16 = 0 → bkR g23) (Q : zQ) (h : ∀ (v : Int) (y9 : Int) (y11 : Int) (y12 : Int) (y13 : Int) (y14 : Int64) (y15 : Int) (y16 : Int) (y17 : Int) (k23 : Nat → Int32) (k24 : Nat → Int32), (f9 ≤ y9 ∧ y9 ≤ f10) → (0 ≤ y12 ∧ y12 ≤ 4 ∧ (y12 = 3 → 0 ≤ y13 ∧ y13 ≤ 99)) → (0 ≤ y16 ∧ y16 ≤ 4) → (v = 0 ∨ v = 1) → (v = 1 → y12 = 0 ∨ f9 < y9) → (v = 1 → tbA k23 ∧ (y16 = 0 → bkR k23)) → Q (some (.int (Int32.ofInt v))) (zMi c0 c1 c2 c3 c4 c5 c6 c7 c8 c9 c10 c11 c12 c13 f0 y9 f10 y11 y12 y13 y15 y16 y17 f20 f21 f22 f23 f26 f28 f31 f32 f33 f38 f41 f44 y14 g15 g16 g17 g18 g19 g20 g21 g22 k23 k24 g25 g26 g27 g28 g29 g30 g31 g32 g33 g34 g35 g36 g37 g38 g39 g40 g41 g42 g43 g44 t)) : zCl zTab (d + 6) iX12_bookLine [.ref 14, .long lw, .int (Int32.ofInt a2)] (zMi c0 c1 c2 c3 c4 c5 c6 c7 c8 c9 c10 c11 c12 c13 f0 f9 f10 f11 f12 f13 f15 f16 f17 f20 f21 f22 f23 f26 f28 f31 f32 f33 f38 f41 f44 x14 g15 g16 g17 g18 g19 g20 g21 g22 g23 g24 g25 g26 g27 g28 g29 g30 g31 g32 g33 g34 g35 g36 g37 g38 g39 g40 g41 g42 g43 g44 t) 0 0 Q := by
  refine zCl_i (M := kX12_bookLine) rfl (Nat.le_of_ble_eq_true rfl) fun R hR => ?_
  refine hR (?_ : R (_, _, _, _, _, _))
  refine hR (zcall_i 0 0 (Nat.le_of_ble_eq_true rfl) (Nat.le_of_ble_eq_true rfl) (m_stepBy _ _ _ _ fun v1 hp2 => ?_))
  refine (?_ : R (_, _, (.int (Int32.ofInt v1)) :: [], (zMi c0 c1 c2 c3 c4 c5 c6 c7 c8 c9 c10 c11 c12 c13 f0 f9 f10 f11 f12 f13 f15 f16 f17 f20 f21 f22 f23 f26 f28 f31 f32 f33 f38 f41 f44 x14 g15 g16 g17 g18 g19 g20 g21 g22 g23 g24 g25 g26 g27 g28 g29 g30 g31 g32 g33 g34 g35 g36 g37 g38 g39 g40 g41 g42 g43 g44 t), 0, 0))
  iterate 3 refine hR (?_ : R (_, _, _, _, _, _))
  refine hR (j_eq (by omega) (by omega) (fun hc3 => ?_) (fun hc3 => ?_))
  rotate_left
  · skip
    iterate 3 refine hR (?_ : R (_, _, _, _, _, _))
    refine hR (zcall_i 0 0 (Nat.le_of_ble_eq_true rfl) (Nat.le_of_ble_eq_true rfl) (m_stepLine _ v1 a2 (by omega) (by omega) (by omega) (by omega) hr3 hr4 _ fun v724 y9_725 y11_726 y12_727 y13_728 y14_729 y15_730 y16_731 y17_732 k23_733 k24_734 hp735 hp736 hp737 hp738 hp739 hp740 => ?_))
    refine (?_ : R (_, _, (.int (Int32.ofInt v724)) :: [], (zMi c0 c1 c2 c3 c4 c5 c6 c7 c8 c9 c10 c11 c12 c13 f0 y9_725 f10 y11_726 y12_727 y13_728 y15_730 y16_731 y17_732 f20 f21 f22 f23 f26 f28 f31 f32 f33 f38 f41 f44 y14_729 g15 g16 g17 g18 g19 g20 g21 g22 k23_733 k24_734 g25 g26 g27 g28 g29 g30 g31 g32 g33 g34 g35 g36 g37 g38 g39 g40 g41 g42 g43 g44 t), 0, 0))
    exact hR (zret_i rfl (Nat.le_refl _) (zbo (by omega)) (h _ _ _ _ _ _ _ _ _ _ _ (by omega) (by omega) (by omega) (by omega) (by omega) hp740))
  iterate 2 refine hR (?_ : R (_, _, _, _, _, _))
  refine hR (t_o fun v4 rv4 => ?_)
  refine hR (j_any ?_ ?_)
  · skip
    iterate 2 refine hR (?_ : R (_, _, _, _, _, _))
    refine hR (t_o fun v5 rv5 => ?_)
    refine hR (j_any ?_ ?_)
    · skip
      refine hR (?_ : R (_, _, _, _, _, _))
      refine hR (zcall_i 0 0 (Nat.le_of_ble_eq_true rfl) (Nat.le_of_ble_eq_true rfl) (m_token _ (by omega) _ fun y9_6 y11_7 y12_8 y13_9 y14_10 hp11 hp12 hp13 hp14 => ?_))
      refine (?_ : R (_, _, [], (zMi c0 c1 c2 c3 c4 c5 c6 c7 c8 c9 c10 c11 c12 c13 f0 y9_6 f10 y11_7 y12_8 y13_9 f15 f16 f17 f20 f21 f22 f23 f26 f28 f31 f32 f33 f38 f41 f44 y14_10 g15 g16 g17 g18 g19 g20 g21 g22 g23 g24 g25 g26 g27 g28 g29 g30 g31 g32 g33 g34 g35 g36 g37 g38 g39 g40 g41 g42 g43 g44 t), 0, 0))
      iterate 2 refine hR (?_ : R (_, _, _, _, _, _))
      refine hR (t_o fun v15 rv15 => ?_)
      refine hR (j_any ?_ ?_)
      · skip
        iterate 2 refine hR (?_ : R (_, _, _, _, _, _))
        refine hR (t_o fun v16 rv16 => ?_)
        refine hR (j_any ?_ ?_)
        rotate_left
        · skip
          refine hR (?_ : R (_, _, _, _, _, _))
          exact hR (zret_i rfl (Nat.le_refl _) (zbo (by omega)) (h _ _ _ _ _ _ _ _ _ _ _ (by omega) (by omega) (by omega) (by omega) (by omega) (fun _ => ⟨hr3, fun hz => hr4 (by omega)⟩)))
        iterate 4 refine hR (?_ : R (_, _, _, _, _, _))
        refine hR (zcall_i 0 0 (Nat.le_of_ble_eq_true rfl) (Nat.le_of_ble_eq_true rfl) (m_take0 _ 0 3 (by omega) (by omega) (by omega) (by omega) (by omega) _ fun v17 y9_18 y11_19 y12_20 y13_21 y14_22 y15_23 y16_24 y17_25 k24_26 hp27 hp28 hp29 hp30 hp31 hp32 => ?_))
        refine (?_ : R (_, _, (.int (Int32.ofInt v17)) :: [], (zMi c0 c1 c2 c3 c4 c5 c6 c7 c8 c9 c10 c11 c12 c13 f0 y9_18 f10 y11_19 y12_20 y13_21 y15_23 y16_24 y17_25 f20 f21 f22 f23 f26 f28 f31 f32 f33 f38 f41 f44 y14_22 g15 g16 g17 g18 g19 g20 g21 g22 g23 k24_26 g25 g26 g27 g28 g29 g30 g31 g32 g33 g34 g35 g36 g37 g38 g39 g40 g41 g42 g43 g44 t), 0, 0))
        refine hR (k_eq (by omega) (fun hc33 => ?_) (fun hc33 => ?_))
        · skip
          refine hR (?_ : R (_, _, _, _, _, _))
          exact hR (zret_i rfl (Nat.le_refl _) (zbo (by omega)) (h _ _ _ _ _ _ _ _ _ _ _ (by omega) (by omega) (by omega) (by omega) (by omega) (fun h => by omega)))
        iterate 4 refine hR (?_ : R (_, _, _, _, _, _))
        refine hR (zcall_i 0 0 (Nat.le_of_ble_eq_true rfl) (Nat.le_of_ble_eq_true rfl) (m_take1 _ 0 3 (by omega) (by omega) (by omega) (by omega) (by omega) _ fun v34 y9_35 y11_36 y12_37 y13_38 y14_39 y15_40 y16_41 y17_42 k24_43 hp44 hp45 hp46 hp47 hp48 hp49 => ?_))
        refine (?_ : R (_, _, (.int (Int32.ofInt v34)) :: [], (zMi c0 c1 c2 c3 c4 c5 c6 c7 c8 c9 c10 c11 c12 c13 f0 y9_35 f10 y11_36 y12_37 y13_38 y15_40 y16_41 y17_42 f20 f21 f22 f23 f26 f28 f31 f32 f33 f38 f41 f44 y14_39 g15 g16 g17 g18 g19 g20 g21 g22 g23 k24_43 g25 g26 g27 g28 g29 g30 g31 g32 g33 g34 g35 g36 g37 g38 g39 g40 g41 g42 g43 g44 t), 0, 0))
        refine hR (k_ne (by omega) (fun hc50 => ?_) (fun hc50 => ?_))
        rotate_left
        · skip
          refine hR (?_ : R (_, _, _, _, _, _))
          exact hR (zret_i rfl (Nat.le_refl _) (zbo (by omega)) (h _ _ _ _ _ _ _ _ _ _ _ (by omega) (by omega) (by omega) (by omega) (by omega) (fun h => by omega)))
        iterate 3 refine hR (?_ : R (_, _, _, _, _, _))
        refine hR (t_ldE (by omega) (by omega) (Nat.le_of_ble_eq_true rfl) fun v51 ev51 rv51 => ?_)
        have bv51 : v51 = (k24_43 0).toInt := ev51
        clear ev51
        iterate 2 refine hR (?_ : R (_, _, _, _, _, _))
        refine hR (zcall_i 0 0 (Nat.le_of_ble_eq_true rfl) (Nat.le_of_ble_eq_true rfl) (m_in _ v51 0 3 _ (by omega) (by omega) (by omega) _ fun v52 hp53 => ?_))
        refine (?_ : R (_, _, (.int (Int32.ofInt v52)) :: [], (zMi c0 c1 c2 c3 c4 c5 c6 c7 c8 c9 c10 c11 c12 c13 f0 y9_35 f10 y11_36 y12_37 y13_38 y15_40 y16_41 y17_42 f20 f21 f22 f23 f26 f28 f31 f32 f33 f38 f41 f44 y14_39 g15 g16 g17 g18 g19 g20 g21 g22 g23 k24_43 g25 g26 g27 g28 g29 g30 g31 g32 g33 g34 g35 g36 g37 g38 g39 g40 g41 g42 g43 g44 t), 0, 0))
        refine hR (k_eq (by omega) (fun hc54 => ?_) (fun hc54 => ?_))
        · skip
          refine hR (?_ : R (_, _, _, _, _, _))
          exact hR (zret_i rfl (Nat.le_refl _) (zbo (by omega)) (h _ _ _ _ _ _ _ _ _ _ _ (by omega) (by omega) (by omega) (by omega) (by omega) (fun _ => ⟨hr3, fun hz => hr4 (by omega)⟩)))
        iterate 6 refine hR (?_ : R (_, _, _, _, _, _))
        refine hR (t_ldE (by omega) (by omega) (Nat.le_of_ble_eq_true rfl) fun v55 ev55 rv55 => ?_)
        have bv55 : v55 = (k24_43 0).toInt := ev55
        clear ev55
        refine hR (t_add ?_)
        iterate 3 refine hR (?_ : R (_, _, _, _, _, _))
        refine hR (t_ldE (by omega) (by omega) (Nat.le_of_ble_eq_true rfl) fun v56 ev56 rv56 => ?_)
        have bv56 : v56 = (k24_43 1).toInt := ev56
        clear ev56
        refine hR (t_st (by omega) (by omega) (Nat.le_of_ble_eq_true rfl) (?_ : R (_, _, _, (zMi c0 c1 c2 c3 c4 c5 c6 c7 c8 c9 c10 c11 c12 c13 f0 y9_35 f10 y11_36 y12_37 y13_38 y15_40 y16_41 y17_42 f20 f21 f22 f23 f26 f28 f31 f32 f33 f38 f41 f44 y14_39 g15 g16 g17 g18 g19 g20 g21 g22 (upd g23 (2 + v55).toNat (Int32.ofInt v56)) k24_43 g25 g26 g27 g28 g29 g30 g31 g32 g33 g34 g35 g36 g37 g38 g39 g40 g41 g42 g43 g44 t), _, _)))
        have hAt58 := tb_uA hr3 (i := 2 + v55) (e := v56) (by omega) (by omega)
        have hBt58 : y16_41 = 0 → bkR (upd g23 (2 + v55).toNat (Int32.ofInt v56)) := fun hz => bkR_u (hr4 (by omega)) (by omega)
        refine hR (?_ : R (_, _, _, _, _, _))
        exact hR (zret_i rfl (Nat.le_refl _) (zbo (by omega)) (h _ _ _ _ _ _ _ _ _ _ _ (by omega) (by omega) (by omega) (by omega) (by omega) (fun _ => ⟨hAt58, fun hz => hBt58 (by omega)⟩)))
      iterate 2 refine hR (?_ : R (_, _, _, _, _, _))
      refine hR (zcall_i 0 0 (Nat.le_of_ble_eq_true rfl) (Nat.le_of_ble_eq_true rfl) (m_takeText0 _ (by omega) (by omega) (by omega) _ fun y9_59 y11_60 y12_61 y13_62 y14_63 y15_64 y16_65 y17_66 k24_67 hp68 hp69 hp70 hp71 hp72 hp73 => ?_))
      refine (?_ : R (_, _, [], (zMi c0 c1 c2 c3 c4 c5 c6 c7 c8 c9 c10 c11 c12 c13 f0 y9_59 f10 y11_60 y12_61 y13_62 y15_64 y16_65 y17_66 f20 f21 f22 f23 f26 f28 f31 f32 f33 f38 f41 f44 y14_63 g15 g16 g17 g18 g19 g20 g21 g22 g23 k24_67 g25 g26 g27 g28 g29 g30 g31 g32 g33 g34 g35 g36 g37 g38 g39 g40 g41 g42 g43 g44 t), 0, 0))
      iterate 6 refine hR (?_ : R (_, _, _, _, _, _))
      refine hR (t_ldE (by omega) (by omega) (Nat.le_of_ble_eq_true rfl) fun v74 ev74 rv74 => ?_)
      have bv74 : v74 = (k24_67 0).toInt := ev74
      clear ev74
      refine hR (t_st (by omega) (by omega) (Nat.le_of_ble_eq_true rfl) (?_ : R (_, _, _, (zMi c0 c1 c2 c3 c4 c5 c6 c7 c8 c9 c10 c11 c12 c13 f0 y9_59 f10 y11_60 y12_61 y13_62 y15_64 y16_65 y17_66 f20 f21 f22 f23 f26 f28 f31 f32 f33 f38 f41 f44 y14_63 g15 g16 g17 g18 g19 g20 g21 g22 (upd g23 (0 : Int).toNat (Int32.ofInt v74)) k24_67 g25 g26 g27 g28 g29 g30 g31 g32 g33 g34 g35 g36 g37 g38 g39 g40 g41 g42 g43 g44 t), _, _)))
      have hAt76 := tb_uA hr3 (i := (0 : Int)) (e := v74) (by omega) (by omega)
      have hBt76 : y16_65 = 0 → bkR (upd g23 (0 : Int).toNat (Int32.ofInt v74)) := fun hz => bkR_u (hr4 (by omega)) (by omega)
      iterate 2 refine hR (?_ : R (_, _, _, _, _, _))
      refine hR (t_o fun v77 rv77 => ?_)
      refine hR (j_any ?_ ?_)
      rotate_left
      · skip
        refine hR (?_ : R (_, _, _, _, _, _))
        exact hR (zret_i rfl (Nat.le_refl _) (zbo (by omega)) (h _ _ _ _ _ _ _ _ _ _ _ (by omega) (by omega) (by omega) (by omega) (by omega) (fun _ => ⟨hAt76, fun hz => hBt76 (by omega)⟩)))
      iterate 4 refine hR (?_ : R (_, _, _, _, _, _))
      refine hR (zcall_i 0 0 (Nat.le_of_ble_eq_true rfl) (Nat.le_of_ble_eq_true rfl) (m_take0 _ 0 3 (by omega) (by omega) (by omega) (by omega) (by omega) _ fun v78 y9_79 y11_80 y12_81 y13_82 y14_83 y15_84 y16_85 y17_86 k24_87 hp88 hp89 hp90 hp91 hp92 hp93 => ?_))
      refine (?_ : R (_, _, (.int (Int32.ofInt v78)) :: [], (zMi c0 c1 c2 c3 c4 c5 c6 c7 c8 c9 c10 c11 c12 c13 f0 y9_79 f10 y11_80 y12_81 y13_82 y15_84 y16_85 y17_86 f20 f21 f22 f23 f26 f28 f31 f32 f33 f38 f41 f44 y14_83 g15 g16 g17 g18 g19 g20 g21 g22 (upd g23 (0 : Int).toNat (Int32.ofInt v74)) k24_87 g25 g26 g27 g28 g29 g30 g31 g32 g33 g34 g35 g36 g37 g38 g39 g40 g41 g42 g43 g44 t), 0, 0))
      refine hR (k_eq (by omega) (fun hc94 => ?_) (fun hc94 => ?_))
      · skip
        refine hR (?_ : R (_, _, _, _, _, _))
        exact hR (zret_i rfl (Nat.le_refl _) (zbo (by omega)) (h _ _ _ _ _ _ _ _ _ _ _ (by omega) (by omega) (by omega) (by omega) (by omega) (fun h => by omega)))
      iterate 4 refine hR (?_ : R (_, _, _, _, _, _))
      refine hR (zcall_i 0 0 (Nat.le_of_ble_eq_true rfl) (Nat.le_of_ble_eq_true rfl) (m_take1 _ 0 3 (by omega) (by omega) (by omega) (by omega) (by omega) _ fun v95 y9_96 y11_97 y12_98 y13_99 y14_100 y15_101 y16_102 y17_103 k24_104 hp105 hp106 hp107 hp108 hp109 hp110 => ?_))
      refine (?_ : R (_, _, (.int (Int32.ofInt v95)) :: [], (zMi c0 c1 c2 c3 c4 c5 c6 c7 c8 c9 c10 c11 c12 c13 f0 y9_96 f10 y11_97 y12_98 y13_99 y15_101 y16_102 y17_103 f20 f21 f22 f23 f26 f28 f31 f32 f33 f38 f41 f44 y14_100 g15 g16 g17 g18 g19 g20 g21 g22 (upd g23 (0 : Int).toNat (Int32.ofInt v74)) k24_104 g25 g26 g27 g28 g29 g30 g31 g32 g33 g34 g35 g36 g37 g38 g39 g40 g41 g42 g43 g44 t), 0, 0))
      refine hR (k_ne (by omega) (fun hc111 => ?_) (fun hc111 => ?_))
      rotate_left
      · skip
        refine hR (?_ : R (_, _, _, _, _, _))
        exact hR (zret_i rfl (Nat.le_refl _) (zbo (by omega)) (h _ _ _ _ _ _ _ _ _ _ _ (by omega) (by omega) (by omega) (by omega) (by omega) (fun h => by omega)))
      iterate 3 refine hR (?_ : R (_, _, _, _, _, _))
      refine hR (t_ldE (by omega) (by omega) (Nat.le_of_ble_eq_true rfl) fun v112 ev112 rv112 => ?_)
      have bv112 : v112 = (k24_104 0).toInt := ev112
      clear ev112
      iterate 2 refine hR (?_ : R (_, _, _, _, _, _))
      refine hR (zcall_i 0 0 (Nat.le_of_ble_eq_true rfl) (Nat.le_of_ble_eq_true rfl) (m_in _ v112 0 3 _ (by omega) (by omega) (by omega) _ fun v113 hp114 => ?_))
      refine (?_ : R (_, _, (.int (Int32.ofInt v113)) :: [], (zMi c0 c1 c2 c3 c4 c5 c6 c7 c8 c9 c10 c11 c12 c13 f0 y9_96 f10 y11_97 y12_98 y13_99 y15_101 y16_102 y17_103 f20 f21 f22 f23 f26 f28 f31 f32 f33 f38 f41 f44 y14_100 g15 g16 g17 g18 g19 g20 g21 g22 (upd g23 (0 : Int).toNat (Int32.ofInt v74)) k24_104 g25 g26 g27 g28 g29 g30 g31 g32 g33 g34 g35 g36 g37 g38 g39 g40 g41 g42 g43 g44 t), 0, 0))
      refine hR (k_eq (by omega) (fun hc115 => ?_) (fun hc115 => ?_))
      · skip
        refine hR (?_ : R (_, _, _, _, _, _))
        exact hR (zret_i rfl (Nat.le_refl _) (zbo (by omega)) (h _ _ _ _ _ _ _ _ _ _ _ (by omega) (by omega) (by omega) (by omega) (by omega) (fun _ => ⟨hAt76, fun hz => hBt76 (by omega)⟩)))
      iterate 6 refine hR (?_ : R (_, _, _, _, _, _))
      refine hR (t_ldE (by omega) (by omega) (Nat.le_of_ble_eq_true rfl) fun v116 ev116 rv116 => ?_)
      have bv116 : v116 = (k24_104 0).toInt := ev116
      clear ev116
      refine hR (t_add ?_)
      iterate 3 refine hR (?_ : R (_, _, _, _, _, _))
      refine hR (t_ldE (by omega) (by omega) (Nat.le_of_ble_eq_true rfl) fun v117 ev117 rv117 => ?_)
      have bv117 : v117 = (k24_104 1).toInt := ev117
      clear ev117
      refine hR (t_st (by omega) (by omega) (Nat.le_of_ble_eq_true rfl) (?_ : R (_, _, _, (zMi c0 c1 c2 c3 c4 c5 c6 c7 c8 c9 c10 c11 c12 c13 f0 y9_96 f10 y11_97 y12_98 y13_99 y15_101 y16_102 y17_103 f20 f21 f22 f23 f26 f28 f31 f32 f33 f38 f41 f44 y14_100 g15 g16 g17 g18 g19 g20 g21 g22 (upd (upd g23 (0 : Int).toNat (Int32.ofInt v74)) (2 + v116).toNat (Int32.ofInt v117)) k24_104 g25 g26 g27 g28 g29 g30 g31 g32 g33 g34 g35 g36 g37 g38 g39 g40 g41 g42 g43 g44 t), _, _)))
      have hAt119 := tb_uA hAt76 (i := 2 + v116) (e := v117) (by omega) (by omega)
      have hBt119 : y16_102 = 0 → bkR (upd (upd g23 (0 : Int).toNat (Int32.ofInt v74)) (2 + v116).toNat (Int32.ofInt v117)) := fun hz => bkR_u (hBt76 (by omega)) (by omega)
      refine hR (?_ : R (_, _, _, _, _, _))
      exact hR (zret_i rfl (Nat.le_refl _) (zbo (by omega)) (h _ _ _ _ _ _ _ _ _ _ _ (by omega) (by omega) (by omega) (by omega) (by omega) (fun _ => ⟨hAt119, fun hz => hBt119 (by omega)⟩)))
    iterate 4 refine hR (?_ : R (_, _, _, _, _, _))
    refine hR (zcall_i 0 0 (Nat.le_of_ble_eq_true rfl) (Nat.le_of_ble_eq_true rfl) (m_full1 _ 5 a2 (by omega) (by omega) _ fun y16_120 y17_121 hp122 hp123 => ?_))
    refine (?_ : R (_, _, [], (zMi c0 c1 c2 c3 c4 c5 c6 c7 c8 c9 c10 c11 c12 c13 f0 f9 f10 f11 f12 f13 f15 y16_120 y17_121 f20 f21 f22 f23 f26 f28 f31 f32 f33 f38 f41 f44 x14 g15 g16 g17 g18 g19 g20 g21 g22 g23 g24 g25 g26 g27 g28 g29 g30 g31 g32 g33 g34 g35 g36 g37 g38 g39 g40 g41 g42 g43 g44 t), 0, 0))
    iterate 7 refine hR (?_ : R (_, _, _, _, _, _))
    refine hR (t_ldE (by omega) (by omega) (Nat.le_of_ble_eq_true rfl) fun v124 ev124 rv124 => ?_)
    have bv124 : v124 = (g23 1).toInt := ev124
    have cv124 := (hr3).1
    clear ev124
    refine hR (?_ : R (_, _, _, _, _, _))
    refine hR (t_add ?_)
    refine hR (zcall_i 0 0 (Nat.le_of_ble_eq_true rfl) (Nat.le_of_ble_eq_true rfl) (m_lesser _ 5 (v124 + 1) _ (by omega) (by omega) _ fun v125 hp126 => ?_))
    refine (?_ : R (_, _, (.int (Int32.ofInt v125)) :: (.int (Int32.ofInt 1)) :: (.ref 23) :: [], (zMi c0 c1 c2 c3 c4 c5 c6 c7 c8 c9 c10 c11 c12 c13 f0 f9 f10 f11 f12 f13 f15 y16_120 y17_121 f20 f21 f22 f23 f26 f28 f31 f32 f33 f38 f41 f44 x14 g15 g16 g17 g18 g19 g20 g21 g22 g23 g24 g25 g26 g27 g28 g29 g30 g31 g32 g33 g34 g35 g36 g37 g38 g39 g40 g41 g42 g43 g44 t), 0, 0))
    refine hR (t_st (by omega) (by omega) (Nat.le_of_ble_eq_true rfl) (?_ : R (_, _, _, (zMi c0 c1 c2 c3 c4 c5 c6 c7 c8 c9 c10 c11 c12 c13 f0 f9 f10 f11 f12 f13 f15 y16_120 y17_121 f20 f21 f22 f23 f26 f28 f31 f32 f33 f38 f41 f44 x14 g15 g16 g17 g18 g19 g20 g21 g22 (upd g23 (1 : Int).toNat (Int32.ofInt v125)) g24 g25 g26 g27 g28 g29 g30 g31 g32 g33 g34 g35 g36 g37 g38 g39 g40 g41 g42 g43 g44 t), _, _)))
    have hAt128 := tb_uA hr3 (i := (1 : Int)) (e := v125) (by omega) (by omega)
    have hBt128 : y16_120 = 0 → bkR (upd g23 (1 : Int).toNat (Int32.ofInt v125)) := fun hz => bkR_u (hr4 (by omega)) (by omega)
    refine hR (?_ : R (_, _, _, _, _, _))
    refine hR (zcall_i 0 0 (Nat.le_of_ble_eq_true rfl) (Nat.le_of_ble_eq_true rfl) (m_token _ (by omega) _ fun y9_129 y11_130 y12_131 y13_132 y14_133 hp134 hp135 hp136 hp137 => ?_))
    refine (?_ : R (_, _, [], (zMi c0 c1 c2 c3 c4 c5 c6 c7 c8 c9 c10 c11 c12 c13 f0 y9_129 f10 y11_130 y12_131 y13_132 f15 y16_120 y17_121 f20 f21 f22 f23 f26 f28 f31 f32 f33 f38 f41 f44 y14_133 g15 g16 g17 g18 g19 g20 g21 g22 (upd g23 (1 : Int).toNat (Int32.ofInt v125)) g24 g25 g26 g27 g28 g29 g30 g31 g32 g33 g34 g35 g36 g37 g38 g39 g40 g41 g42 g43 g44 t), 0, 0))
    iterate 2 refine hR (?_ : R (_, _, _, _, _, _))
    refine hR (t_o fun v138 rv138 => ?_)
    refine hR (j_any ?_ ?_)
    · skip
      iterate 2 refine hR (?_ : R (_, _, _, _, _, _))
      refine hR (t_o fun v139 rv139 => ?_)
      refine hR (j_any ?_ ?_)
      rotate_left
      · skip
        refine hR (?_ : R (_, _, _, _, _, _))
        exact hR (zret_i rfl (Nat.le_refl _) (zbo (by omega)) (h _ _ _ _ _ _ _ _ _ _ _ (by omega) (by omega) (by omega) (by omega) (by omega) (fun _ => ⟨hAt128, fun hz => hBt128 (by omega)⟩)))
      iterate 4 refine hR (?_ : R (_, _, _, _, _, _))
      refine hR (zcall_i 0 0 (Nat.le_of_ble_eq_true rfl) (Nat.le_of_ble_eq_true rfl) (m_take0 _ 0 3 (by omega) (by omega) (by omega) (by omega) (by omega) _ fun v140 y9_141 y11_142 y12_143 y13_144 y14_145 y15_146 y16_147 y17_148 k24_149 hp150 hp151 hp152 hp153 hp154 hp155 => ?_))
      refine (?_ : R (_, _, (.int (Int32.ofInt v140)) :: [], (zMi c0 c1 c2 c3 c4 c5 c6 c7 c8 c9 c10 c11 c12 c13 f0 y9_141 f10 y11_142 y12_143 y13_144 y15_146 y16_147 y17_148 f20 f21 f22 f23 f26 f28 f31 f32 f33 f38 f41 f44 y14_145 g15 g16 g17 g18 g19 g20 g21 g22 (upd g23 (1 : Int).toNat (Int32.ofInt v125)) k24_149 g25 g26 g27 g28 g29 g30 g31 g32 g33 g34 g35 g36 g37 g38 g39 g40 g41 g42 g43 g44 t), 0, 0))
      refine hR (k_eq (by omega) (fun hc156 => ?_) (fun hc156 => ?_))
      · skip
        refine hR (?_ : R (_, _, _, _, _, _))
        exact hR (zret_i rfl (Nat.le_refl _) (zbo (by omega)) (h _ _ _ _ _ _ _ _ _ _ _ (by omega) (by omega) (by omega) (by omega) (by omega) (fun h => by omega)))
      iterate 4 refine hR (?_ : R (_, _, _, _, _, _))
      refine hR (zcall_i 0 0 (Nat.le_of_ble_eq_true rfl) (Nat.le_of_ble_eq_true rfl) (m_take1 _ 0 3 (by omega) (by omega) (by omega) (by omega) (by omega) _ fun v157 y9_158 y11_159 y12_160 y13_161 y14_162 y15_163 y16_164 y17_165 k24_166 hp167 hp168 hp169 hp170 hp171 hp172 => ?_))
      refine (?_ : R (_, _, (.int (Int32.ofInt v157)) :: [], (zMi c0 c1 c2 c3 c4 c5 c6 c7 c8 c9 c10 c11 c12 c13 f0 y9_158 f10 y11_159 y12_160 y13_161 y15_163 y16_164 y17_165 f20 f21 f22 f23 f26 f28 f31 f32 f33 f38 f41 f44 y14_162 g15 g16 g17 g18 g19 g20 g21 g22 (upd g23 (1 : Int).toNat (Int32.ofInt v125)) k24_166 g25 g26 g27 g28 g29 g30 g31 g32 g33 g34 g35 g36 g37 g38 g39 g40 g41 g42 g43 g44 t), 0, 0))
      refine hR (k_ne (by omega) (fun hc173 => ?_) (fun hc173 => ?_))
      rotate_left
      · skip
        refine hR (?_ : R (_, _, _, _, _, _))
        exact hR (zret_i rfl (Nat.le_refl _) (zbo (by omega)) (h _ _ _ _ _ _ _ _ _ _ _ (by omega) (by omega) (by omega) (by omega) (by omega) (fun h => by omega)))
      iterate 3 refine hR (?_ : R (_, _, _, _, _, _))
      refine hR (t_ldE (by omega) (by omega) (Nat.le_of_ble_eq_true rfl) fun v174 ev174 rv174 => ?_)
      have bv174 : v174 = (k24_166 0).toInt := ev174
      clear ev174
      iterate 2 refine hR (?_ : R (_, _, _, _, _, _))
      refine hR (zcall_i 0 0 (Nat.le_of_ble_eq_true rfl) (Nat.le_of_ble_eq_true rfl) (m_in _ v174 0 3 _ (by omega) (by omega) (by omega) _ fun v175 hp176 => ?_))
      refine (?_ : R (_, _, (.int (Int32.ofInt v175)) :: [], (zMi c0 c1 c2 c3 c4 c5 c6 c7 c8 c9 c10 c11 c12 c13 f0 y9_158 f10 y11_159 y12_160 y13_161 y15_163 y16_164 y17_165 f20 f21 f22 f23 f26 f28 f31 f32 f33 f38 f41 f44 y14_162 g15 g16 g17 g18 g19 g20 g21 g22 (upd g23 (1 : Int).toNat (Int32.ofInt v125)) k24_166 g25 g26 g27 g28 g29 g30 g31 g32 g33 g34 g35 g36 g37 g38 g39 g40 g41 g42 g43 g44 t), 0, 0))
      refine hR (k_eq (by omega) (fun hc177 => ?_) (fun hc177 => ?_))
      · skip
        refine hR (?_ : R (_, _, _, _, _, _))
        exact hR (zret_i rfl (Nat.le_refl _) (zbo (by omega)) (h _ _ _ _ _ _ _ _ _ _ _ (by omega) (by omega) (by omega) (by omega) (by omega) (fun _ => ⟨hAt128, fun hz => hBt128 (by omega)⟩)))
      iterate 6 refine hR (?_ : R (_, _, _, _, _, _))
      refine hR (t_ldE (by omega) (by omega) (Nat.le_of_ble_eq_true rfl) fun v178 ev178 rv178 => ?_)
      have bv178 : v178 = (k24_166 0).toInt := ev178
      clear ev178
      refine hR (t_add ?_)
      iterate 3 refine hR (?_ : R (_, _, _, _, _, _))
      refine hR (t_ldE (by omega) (by omega) (Nat.le_of_ble_eq_true rfl) fun v179 ev179 rv179 => ?_)
      have bv179 : v179 = (k24_166 1).toInt := ev179
      clear ev179
      refine hR (t_st (by omega) (by omega) (Nat.le_of_ble_eq_true rfl) (?_ : R (_, _, _, (zMi c0 c1 c2 c3 c4 c5 c6 c7 c8 c9 c10 c11 c12 c13 f0 y9_158 f10 y11_159 y12_160 y13_161 y15_163 y16_164 y17_165 f20 f21 f22 f23 f26 f28 f31 f32 f33 f38 f41 f44 y14_162 g15 g16 g17 g18 g19 g20 g21 g22 (upd (upd g23 (1 : Int).toNat (Int32.ofInt v125)) (2 + v178).toNat (Int32.ofInt v179)) k24_166 g25 g26 g27 g28 g29 g30 g31 g32 g33 g34 g35 g36 g37 g38 g39 g40 g41 g42 g43 g44 t), _, _)))
      have hAt181 := tb_uA hAt128 (i := 2 + v178) (e := v179) (by omega) (by omega)
      have hBt181 : y16_164 = 0 → bkR (upd (upd g23 (1 : Int).toNat (Int32.ofInt v125)) (2 + v178).toNat (Int32.ofInt v179)) := fun hz => bkR_u (hBt128 (by omega)) (by omega)
      refine hR (?_ : R (_, _, _, _, _, _))
      exact hR (zret_i rfl (Nat.le_refl _) (zbo (by omega)) (h _ _ _ _ _ _ _ _ _ _ _ (by omega) (by omega) (by omega) (by omega) (by omega) (fun _ => ⟨hAt181, fun hz => hBt181 (by omega)⟩)))
    iterate 2 refine hR (?_ : R (_, _, _, _, _, _))
    refine hR (zcall_i 0 0 (Nat.le_of_ble_eq_true rfl) (Nat.le_of_ble_eq_true rfl) (m_takeText0 _ (by omega) (by omega) (by omega) _ fun y9_182 y11_183 y12_184 y13_185 y14_186 y15_187 y16_188 y17_189 k24_190 hp191 hp192 hp193 hp194 hp195 hp196 => ?_))
    refine (?_ : R (_, _, [], (zMi c0 c1 c2 c3 c4 c5 c6 c7 c8 c9 c10 c11 c12 c13 f0 y9_182 f10 y11_183 y12_184 y13_185 y15_187 y16_188 y17_189 f20 f21 f22 f23 f26 f28 f31 f32 f33 f38 f41 f44 y14_186 g15 g16 g17 g18 g19 g20 g21 g22 (upd g23 (1 : Int).toNat (Int32.ofInt v125)) k24_190 g25 g26 g27 g28 g29 g30 g31 g32 g33 g34 g35 g36 g37 g38 g39 g40 g41 g42 g43 g44 t), 0, 0))
    iterate 6 refine hR (?_ : R (_, _, _, _, _, _))
    refine hR (t_ldE (by omega) (by omega) (Nat.le_of_ble_eq_true rfl) fun v197 ev197 rv197 => ?_)
    have bv197 : v197 = (k24_190 0).toInt := ev197
    clear ev197
    refine hR (t_st (by omega) (by omega) (Nat.le_of_ble_eq_true rfl) (?_ : R (_, _, _, (zMi c0 c1 c2 c3 c4 c5 c6 c7 c8 c9 c10 c11 c12 c13 f0 y9_182 f10 y11_183 y12_184 y13_185 y15_187 y16_188 y17_189 f20 f21 f22 f23 f26 f28 f31 f32 f33 f38 f41 f44 y14_186 g15 g16 g17 g18 g19 g20 g21 g22 (upd (upd g23 (1 : Int).toNat (Int32.ofInt v125)) (0 : Int).toNat (Int32.ofInt v197)) k24_190 g25 g26 g27 g28 g29 g30 g31 g32 g33 g34 g35 g36 g37 g38 g39 g40 g41 g42 g43 g44 t), _, _)))
    have hAt199 := tb_uA hAt128 (i := (0 : Int)) (e := v197) (by omega) (by omega)
    have hBt199 : y16_188 = 0 → bkR (upd (upd g23 (1 : Int).toNat (Int32.ofInt v125)) (0 : Int).toNat (Int32.ofInt v197)) := fun hz => bkR_u (hBt128 (by omega)) (by omega)
    iterate 2 refine hR (?_ : R (_, _, _, _, _, _))
    refine hR (t_o fun v200 rv200 => ?_)
    refine hR (j_any ?_ ?_)
    rotate_left
    · skip
      refine hR (?_ : R (_, _, _, _, _, _))
      exact hR (zret_i rfl (Nat.le_refl _) (zbo (by omega)) (h _ _ _ _ _ _ _ _ _ _ _ (by omega) (by omega) (by omega) (by omega) (by omega) (fun _ => ⟨hAt199, fun hz => hBt199 (by omega)⟩)))
    iterate 4 refine hR (?_ : R (_, _, _, _, _, _))
    refine hR (zcall_i 0 0 (Nat.le_of_ble_eq_true rfl) (Nat.le_of_ble_eq_true rfl) (m_take0 _ 0 3 (by omega) (by omega) (by omega) (by omega) (by omega) _ fun v201 y9_202 y11_203 y12_204 y13_205 y14_206 y15_207 y16_208 y17_209 k24_210 hp211 hp212 hp213 hp214 hp215 hp216 => ?_))
    refine (?_ : R (_, _, (.int (Int32.ofInt v201)) :: [], (zMi c0 c1 c2 c3 c4 c5 c6 c7 c8 c9 c10 c11 c12 c13 f0 y9_202 f10 y11_203 y12_204 y13_205 y15_207 y16_208 y17_209 f20 f21 f22 f23 f26 f28 f31 f32 f33 f38 f41 f44 y14_206 g15 g16 g17 g18 g19 g20 g21 g22 (upd (upd g23 (1 : Int).toNat (Int32.ofInt v125)) (0 : Int).toNat (Int32.ofInt v197)) k24_210 g25 g26 g27 g28 g29 g30 g31 g32 g33 g34 g35 g36 g37 g38 g39 g40 g41 g42 g43 g44 t), 0, 0))
    refine hR (k_eq (by omega) (fun hc217 => ?_) (fun hc217 => ?_))
    · skip
      refine hR (?_ : R (_, _, _, _, _, _))
      exact hR (zret_i rfl (Nat.le_refl _) (zbo (by omega)) (h _ _ _ _ _ _ _ _ _ _ _ (by omega) (by omega) (by omega) (by omega) (by omega) (fun h => by omega)))
    iterate 4 refine hR (?_ : R (_, _, _, _, _, _))
    refine hR (zcall_i 0 0 (Nat.le_of_ble_eq_true rfl) (Nat.le_of_ble_eq_true rfl) (m_take1 _ 0 3 (by omega) (by omega) (by omega) (by omega) (by omega) _ fun v218 y9_219 y11_220 y12_221 y13_222 y14_223 y15_224 y16_225 y17_226 k24_227 hp228 hp229 hp230 hp231 hp232 hp233 => ?_))
    refine (?_ : R (_, _, (.int (Int32.ofInt v218)) :: [], (zMi c0 c1 c2 c3 c4 c5 c6 c7 c8 c9 c10 c11 c12 c13 f0 y9_219 f10 y11_220 y12_221 y13_222 y15_224 y16_225 y17_226 f20 f21 f22 f23 f26 f28 f31 f32 f33 f38 f41 f44 y14_223 g15 g16 g17 g18 g19 g20 g21 g22 (upd (upd g23 (1 : Int).toNat (Int32.ofInt v125)) (0 : Int).toNat (Int32.ofInt v197)) k24_227 g25 g26 g27 g28 g29 g30 g31 g32 g33 g34 g35 g36 g37 g38 g39 g40 g41 g42 g43 g44 t), 0, 0))
    refine hR (k_ne (by omega) (fun hc234 => ?_) (fun hc234 => ?_))
    rotate_left
    · skip
      refine hR (?_ : R (_, _, _, _, _, _))
      exact hR (zret_i rfl (Nat.le_refl _) (zbo (by omega)) (h _ _ _ _ _ _ _ _ _ _ _ (by omega) (by omega) (by omega) (by omega) (by omega) (fun h => by omega)))
    iterate 3 refine hR (?_ : R (_, _, _, _, _, _))
    refine hR (t_ldE (by omega) (by omega) (Nat.le_of_ble_eq_true rfl) fun v235 ev235 rv235 => ?_)
    have bv235 : v235 = (k24_227 0).toInt := ev235
    clear ev235
    iterate 2 refine hR (?_ : R (_, _, _, _, _, _))
    refine hR (zcall_i 0 0 (Nat.le_of_ble_eq_true rfl) (Nat.le_of_ble_eq_true rfl) (m_in _ v235 0 3 _ (by omega) (by omega) (by omega) _ fun v236 hp237 => ?_))
    refine (?_ : R (_, _, (.int (Int32.ofInt v236)) :: [], (zMi c0 c1 c2 c3 c4 c5 c6 c7 c8 c9 c10 c11 c12 c13 f0 y9_219 f10 y11_220 y12_221 y13_222 y15_224 y16_225 y17_226 f20 f21 f22 f23 f26 f28 f31 f32 f33 f38 f41 f44 y14_223 g15 g16 g17 g18 g19 g20 g21 g22 (upd (upd g23 (1 : Int).toNat (Int32.ofInt v125)) (0 : Int).toNat (Int32.ofInt v197)) k24_227 g25 g26 g27 g28 g29 g30 g31 g32 g33 g34 g35 g36 g37 g38 g39 g40 g41 g42 g43 g44 t), 0, 0))
    refine hR (k_eq (by omega) (fun hc238 => ?_) (fun hc238 => ?_))
    · skip
      refine hR (?_ : R (_, _, _, _, _, _))
      exact hR (zret_i rfl (Nat.le_refl _) (zbo (by omega)) (h _ _ _ _ _ _ _ _ _ _ _ (by omega) (by omega) (by omega) (by omega) (by omega) (fun _ => ⟨hAt199, fun hz => hBt199 (by omega)⟩)))
    iterate 6 refine hR (?_ : R (_, _, _, _, _, _))
    refine hR (t_ldE (by omega) (by omega) (Nat.le_of_ble_eq_true rfl) fun v239 ev239 rv239 => ?_)
    have bv239 : v239 = (k24_227 0).toInt := ev239
    clear ev239
    refine hR (t_add ?_)
    iterate 3 refine hR (?_ : R (_, _, _, _, _, _))
    refine hR (t_ldE (by omega) (by omega) (Nat.le_of_ble_eq_true rfl) fun v240 ev240 rv240 => ?_)
    have bv240 : v240 = (k24_227 1).toInt := ev240
    clear ev240
    refine hR (t_st (by omega) (by omega) (Nat.le_of_ble_eq_true rfl) (?_ : R (_, _, _, (zMi c0 c1 c2 c3 c4 c5 c6 c7 c8 c9 c10 c11 c12 c13 f0 y9_219 f10 y11_220 y12_221 y13_222 y15_224 y16_225 y17_226 f20 f21 f22 f23 f26 f28 f31 f32 f33 f38 f41 f44 y14_223 g15 g16 g17 g18 g19 g20 g21 g22 (upd (upd (upd g23 (1 : Int).toNat (Int32.ofInt v125)) (0 : Int).toNat (Int32.ofInt v197)) (2 + v239).toNat (Int32.ofInt v240)) k24_227 g25 g26 g27 g28 g29 g30 g31 g32 g33 g34 g35 g36 g37 g38 g39 g40 g41 g42 g43 g44 t), _, _)))
    have hAt242 := tb_uA hAt199 (i := 2 + v239) (e := v240) (by omega) (by omega)
    have hBt242 : y16_225 = 0 → bkR (upd (upd (upd g23 (1 : Int).toNat (Int32.ofInt v125)) (0 : Int).toNat (Int32.ofInt v197)) (2 + v239).toNat (Int32.ofInt v240)) := fun hz => bkR_u (hBt199 (by omega)) (by omega)
    refine hR (?_ : R (_, _, _, _, _, _))
    exact hR (zret_i rfl (Nat.le_refl _) (zbo (by omega)) (h _ _ _ _ _ _ _ _ _ _ _ (by omega) (by omega) (by omega) (by omega) (by omega) (fun _ => ⟨hAt242, fun hz => hBt242 (by omega)⟩)))
  iterate 2 refine hR (?_ : R (_, _, _, _, _, _))
  refine hR (t_o fun v243 rv243 => ?_)
  refine hR (j_any ?_ ?_)
  · skip
    iterate 2 refine hR (?_ : R (_, _, _, _, _, _))
    refine hR (t_o fun v244 rv244 => ?_)
    refine hR (j_any ?_ ?_)
    · skip
      refine hR (?_ : R (_, _, _, _, _, _))
      refine hR (zcall_i 0 0 (Nat.le_of_ble_eq_true rfl) (Nat.le_of_ble_eq_true rfl) (m_token _ (by omega) _ fun y9_245 y11_246 y12_247 y13_248 y14_249 hp250 hp251 hp252 hp253 => ?_))
      refine (?_ : R (_, _, [], (zMi c0 c1 c2 c3 c4 c5 c6 c7 c8 c9 c10 c11 c12 c13 f0 y9_245 f10 y11_246 y12_247 y13_248 f15 f16 f17 f20 f21 f22 f23 f26 f28 f31 f32 f33 f38 f41 f44 y14_249 g15 g16 g17 g18 g19 g20 g21 g22 g23 g24 g25 g26 g27 g28 g29 g30 g31 g32 g33 g34 g35 g36 g37 g38 g39 g40 g41 g42 g43 g44 t), 0, 0))
      iterate 2 refine hR (?_ : R (_, _, _, _, _, _))
      refine hR (t_o fun v254 rv254 => ?_)
      refine hR (j_any ?_ ?_)
      · skip
        iterate 2 refine hR (?_ : R (_, _, _, _, _, _))
        refine hR (t_o fun v255 rv255 => ?_)
        refine hR (j_any ?_ ?_)
        rotate_left
        · skip
          refine hR (?_ : R (_, _, _, _, _, _))
          exact hR (zret_i rfl (Nat.le_refl _) (zbo (by omega)) (h _ _ _ _ _ _ _ _ _ _ _ (by omega) (by omega) (by omega) (by omega) (by omega) (fun _ => ⟨hr3, fun hz => hr4 (by omega)⟩)))
        iterate 4 refine hR (?_ : R (_, _, _, _, _, _))
        refine hR (zcall_i 0 0 (Nat.le_of_ble_eq_true rfl) (Nat.le_of_ble_eq_true rfl) (m_take0 _ 0 3 (by omega) (by omega) (by omega) (by omega) (by omega) _ fun v256 y9_257 y11_258 y12_259 y13_260 y14_261 y15_262 y16_263 y17_264 k24_265 hp266 hp267 hp268 hp269 hp270 hp271 => ?_))
        refine (?_ : R (_, _, (.int (Int32.ofInt v256)) :: [], (zMi c0 c1 c2 c3 c4 c5 c6 c7 c8 c9 c10 c11 c12 c13 f0 y9_257 f10 y11_258 y12_259 y13_260 y15_262 y16_263 y17_264 f20 f21 f22 f23 f26 f28 f31 f32 f33 f38 f41 f44 y14_261 g15 g16 g17 g18 g19 g20 g21 g22 g23 k24_265 g25 g26 g27 g28 g29 g30 g31 g32 g33 g34 g35 g36 g37 g38 g39 g40 g41 g42 g43 g44 t), 0, 0))
        refine hR (k_eq (by omega) (fun hc272 => ?_) (fun hc272 => ?_))
        · skip
          refine hR (?_ : R (_, _, _, _, _, _))
          exact hR (zret_i rfl (Nat.le_refl _) (zbo (by omega)) (h _ _ _ _ _ _ _ _ _ _ _ (by omega) (by omega) (by omega) (by omega) (by omega) (fun h => by omega)))
        iterate 4 refine hR (?_ : R (_, _, _, _, _, _))
        refine hR (zcall_i 0 0 (Nat.le_of_ble_eq_true rfl) (Nat.le_of_ble_eq_true rfl) (m_take1 _ 0 3 (by omega) (by omega) (by omega) (by omega) (by omega) _ fun v273 y9_274 y11_275 y12_276 y13_277 y14_278 y15_279 y16_280 y17_281 k24_282 hp283 hp284 hp285 hp286 hp287 hp288 => ?_))
        refine (?_ : R (_, _, (.int (Int32.ofInt v273)) :: [], (zMi c0 c1 c2 c3 c4 c5 c6 c7 c8 c9 c10 c11 c12 c13 f0 y9_274 f10 y11_275 y12_276 y13_277 y15_279 y16_280 y17_281 f20 f21 f22 f23 f26 f28 f31 f32 f33 f38 f41 f44 y14_278 g15 g16 g17 g18 g19 g20 g21 g22 g23 k24_282 g25 g26 g27 g28 g29 g30 g31 g32 g33 g34 g35 g36 g37 g38 g39 g40 g41 g42 g43 g44 t), 0, 0))
        refine hR (k_ne (by omega) (fun hc289 => ?_) (fun hc289 => ?_))
        rotate_left
        · skip
          refine hR (?_ : R (_, _, _, _, _, _))
          exact hR (zret_i rfl (Nat.le_refl _) (zbo (by omega)) (h _ _ _ _ _ _ _ _ _ _ _ (by omega) (by omega) (by omega) (by omega) (by omega) (fun h => by omega)))
        iterate 3 refine hR (?_ : R (_, _, _, _, _, _))
        refine hR (t_ldE (by omega) (by omega) (Nat.le_of_ble_eq_true rfl) fun v290 ev290 rv290 => ?_)
        have bv290 : v290 = (k24_282 0).toInt := ev290
        clear ev290
        iterate 2 refine hR (?_ : R (_, _, _, _, _, _))
        refine hR (zcall_i 0 0 (Nat.le_of_ble_eq_true rfl) (Nat.le_of_ble_eq_true rfl) (m_in _ v290 0 3 _ (by omega) (by omega) (by omega) _ fun v291 hp292 => ?_))
        refine (?_ : R (_, _, (.int (Int32.ofInt v291)) :: [], (zMi c0 c1 c2 c3 c4 c5 c6 c7 c8 c9 c10 c11 c12 c13 f0 y9_274 f10 y11_275 y12_276 y13_277 y15_279 y16_280 y17_281 f20 f21 f22 f23 f26 f28 f31 f32 f33 f38 f41 f44 y14_278 g15 g16 g17 g18 g19 g20 g21 g22 g23 k24_282 g25 g26 g27 g28 g29 g30 g31 g32 g33 g34 g35 g36 g37 g38 g39 g40 g41 g42 g43 g44 t), 0, 0))
        refine hR (k_eq (by omega) (fun hc293 => ?_) (fun hc293 => ?_))
        · skip
          refine hR (?_ : R (_, _, _, _, _, _))
          exact hR (zret_i rfl (Nat.le_refl _) (zbo (by omega)) (h _ _ _ _ _ _ _ _ _ _ _ (by omega) (by omega) (by omega) (by omega) (by omega) (fun _ => ⟨hr3, fun hz => hr4 (by omega)⟩)))
        iterate 6 refine hR (?_ : R (_, _, _, _, _, _))
        refine hR (t_ldE (by omega) (by omega) (Nat.le_of_ble_eq_true rfl) fun v294 ev294 rv294 => ?_)
        have bv294 : v294 = (k24_282 0).toInt := ev294
        clear ev294
        refine hR (t_add ?_)
        iterate 3 refine hR (?_ : R (_, _, _, _, _, _))
        refine hR (t_ldE (by omega) (by omega) (Nat.le_of_ble_eq_true rfl) fun v295 ev295 rv295 => ?_)
        have bv295 : v295 = (k24_282 1).toInt := ev295
        clear ev295
        refine hR (t_st (by omega) (by omega) (Nat.le_of_ble_eq_true rfl) (?_ : R (_, _, _, (zMi c0 c1 c2 c3 c4 c5 c6 c7 c8 c9 c10 c11 c12 c13 f0 y9_274 f10 y11_275 y12_276 y13_277 y15_279 y16_280 y17_281 f20 f21 f22 f23 f26 f28 f31 f32 f33 f38 f41 f44 y14_278 g15 g16 g17 g18 g19 g20 g21 g22 (upd g23 (2 + v294).toNat (Int32.ofInt v295)) k24_282 g25 g26 g27 g28 g29 g30 g31 g32 g33 g34 g35 g36 g37 g38 g39 g40 g41 g42 g43 g44 t), _, _)))
        have hAt297 := tb_uA hr3 (i := 2 + v294) (e := v295) (by omega) (by omega)
        have hBt297 : y16_280 = 0 → bkR (upd g23 (2 + v294).toNat (Int32.ofInt v295)) := fun hz => bkR_u (hr4 (by omega)) (by omega)
        refine hR (?_ : R (_, _, _, _, _, _))
        exact hR (zret_i rfl (Nat.le_refl _) (zbo (by omega)) (h _ _ _ _ _ _ _ _ _ _ _ (by omega) (by omega) (by omega) (by omega) (by omega) (fun _ => ⟨hAt297, fun hz => hBt297 (by omega)⟩)))
      iterate 2 refine hR (?_ : R (_, _, _, _, _, _))
      refine hR (zcall_i 0 0 (Nat.le_of_ble_eq_true rfl) (Nat.le_of_ble_eq_true rfl) (m_takeText0 _ (by omega) (by omega) (by omega) _ fun y9_298 y11_299 y12_300 y13_301 y14_302 y15_303 y16_304 y17_305 k24_306 hp307 hp308 hp309 hp310 hp311 hp312 => ?_))
      refine (?_ : R (_, _, [], (zMi c0 c1 c2 c3 c4 c5 c6 c7 c8 c9 c10 c11 c12 c13 f0 y9_298 f10 y11_299 y12_300 y13_301 y15_303 y16_304 y17_305 f20 f21 f22 f23 f26 f28 f31 f32 f33 f38 f41 f44 y14_302 g15 g16 g17 g18 g19 g20 g21 g22 g23 k24_306 g25 g26 g27 g28 g29 g30 g31 g32 g33 g34 g35 g36 g37 g38 g39 g40 g41 g42 g43 g44 t), 0, 0))
      iterate 6 refine hR (?_ : R (_, _, _, _, _, _))
      refine hR (t_ldE (by omega) (by omega) (Nat.le_of_ble_eq_true rfl) fun v313 ev313 rv313 => ?_)
      have bv313 : v313 = (k24_306 0).toInt := ev313
      clear ev313
      refine hR (t_st (by omega) (by omega) (Nat.le_of_ble_eq_true rfl) (?_ : R (_, _, _, (zMi c0 c1 c2 c3 c4 c5 c6 c7 c8 c9 c10 c11 c12 c13 f0 y9_298 f10 y11_299 y12_300 y13_301 y15_303 y16_304 y17_305 f20 f21 f22 f23 f26 f28 f31 f32 f33 f38 f41 f44 y14_302 g15 g16 g17 g18 g19 g20 g21 g22 (upd g23 (0 : Int).toNat (Int32.ofInt v313)) k24_306 g25 g26 g27 g28 g29 g30 g31 g32 g33 g34 g35 g36 g37 g38 g39 g40 g41 g42 g43 g44 t), _, _)))
      have hAt315 := tb_uA hr3 (i := (0 : Int)) (e := v313) (by omega) (by omega)
      have hBt315 : y16_304 = 0 → bkR (upd g23 (0 : Int).toNat (Int32.ofInt v313)) := fun hz => bkR_u (hr4 (by omega)) (by omega)
      iterate 2 refine hR (?_ : R (_, _, _, _, _, _))
      refine hR (t_o fun v316 rv316 => ?_)
      refine hR (j_any ?_ ?_)
      rotate_left
      · skip
        refine hR (?_ : R (_, _, _, _, _, _))
        exact hR (zret_i rfl (Nat.le_refl _) (zbo (by omega)) (h _ _ _ _ _ _ _ _ _ _ _ (by omega) (by omega) (by omega) (by omega) (by omega) (fun _ => ⟨hAt315, fun hz => hBt315 (by omega)⟩)))
      iterate 4 refine hR (?_ : R (_, _, _, _, _, _))
      refine hR (zcall_i 0 0 (Nat.le_of_ble_eq_true rfl) (Nat.le_of_ble_eq_true rfl) (m_take0 _ 0 3 (by omega) (by omega) (by omega) (by omega) (by omega) _ fun v317 y9_318 y11_319 y12_320 y13_321 y14_322 y15_323 y16_324 y17_325 k24_326 hp327 hp328 hp329 hp330 hp331 hp332 => ?_))
      refine (?_ : R (_, _, (.int (Int32.ofInt v317)) :: [], (zMi c0 c1 c2 c3 c4 c5 c6 c7 c8 c9 c10 c11 c12 c13 f0 y9_318 f10 y11_319 y12_320 y13_321 y15_323 y16_324 y17_325 f20 f21 f22 f23 f26 f28 f31 f32 f33 f38 f41 f44 y14_322 g15 g16 g17 g18 g19 g20 g21 g22 (upd g23 (0 : Int).toNat (Int32.ofInt v313)) k24_326 g25 g26 g27 g28 g29 g30 g31 g32 g33 g34 g35 g36 g37 g38 g39 g40 g41 g42 g43 g44 t), 0, 0))
      refine hR (k_eq (by omega) (fun hc333 => ?_) (fun hc333 => ?_))
      · skip
        refine hR (?_ : R (_, _, _, _, _, _))
        exact hR (zret_i rfl (Nat.le_refl _) (zbo (by omega)) (h _ _ _ _ _ _ _ _ _ _ _ (by omega) (by omega) (by omega) (by omega) (by omega) (fun h => by omega)))
      iterate 4 refine hR (?_ : R (_, _, _, _, _, _))
      refine hR (zcall_i 0 0 (Nat.le_of_ble_eq_true rfl) (Nat.le_of_ble_eq_true rfl) (m_take1 _ 0 3 (by omega) (by omega) (by omega) (by omega) (by omega) _ fun v334 y9_335 y11_336 y12_337 y13_338 y14_339 y15_340 y16_341 y17_342 k24_343 hp344 hp345 hp346 hp347 hp348 hp349 => ?_))
      refine (?_ : R (_, _, (.int (Int32.ofInt v334)) :: [], (zMi c0 c1 c2 c3 c4 c5 c6 c7 c8 c9 c10 c11 c12 c13 f0 y9_335 f10 y11_336 y12_337 y13_338 y15_340 y16_341 y17_342 f20 f21 f22 f23 f26 f28 f31 f32 f33 f38 f41 f44 y14_339 g15 g16 g17 g18 g19 g20 g21 g22 (upd g23 (0 : Int).toNat (Int32.ofInt v313)) k24_343 g25 g26 g27 g28 g29 g30 g31 g32 g33 g34 g35 g36 g37 g38 g39 g40 g41 g42 g43 g44 t), 0, 0))
      refine hR (k_ne (by omega) (fun hc350 => ?_) (fun hc350 => ?_))
      rotate_left
      · skip
        refine hR (?_ : R (_, _, _, _, _, _))
        exact hR (zret_i rfl (Nat.le_refl _) (zbo (by omega)) (h _ _ _ _ _ _ _ _ _ _ _ (by omega) (by omega) (by omega) (by omega) (by omega) (fun h => by omega)))
      iterate 3 refine hR (?_ : R (_, _, _, _, _, _))
      refine hR (t_ldE (by omega) (by omega) (Nat.le_of_ble_eq_true rfl) fun v351 ev351 rv351 => ?_)
      have bv351 : v351 = (k24_343 0).toInt := ev351
      clear ev351
      iterate 2 refine hR (?_ : R (_, _, _, _, _, _))
      refine hR (zcall_i 0 0 (Nat.le_of_ble_eq_true rfl) (Nat.le_of_ble_eq_true rfl) (m_in _ v351 0 3 _ (by omega) (by omega) (by omega) _ fun v352 hp353 => ?_))
      refine (?_ : R (_, _, (.int (Int32.ofInt v352)) :: [], (zMi c0 c1 c2 c3 c4 c5 c6 c7 c8 c9 c10 c11 c12 c13 f0 y9_335 f10 y11_336 y12_337 y13_338 y15_340 y16_341 y17_342 f20 f21 f22 f23 f26 f28 f31 f32 f33 f38 f41 f44 y14_339 g15 g16 g17 g18 g19 g20 g21 g22 (upd g23 (0 : Int).toNat (Int32.ofInt v313)) k24_343 g25 g26 g27 g28 g29 g30 g31 g32 g33 g34 g35 g36 g37 g38 g39 g40 g41 g42 g43 g44 t), 0, 0))
      refine hR (k_eq (by omega) (fun hc354 => ?_) (fun hc354 => ?_))
      · skip
        refine hR (?_ : R (_, _, _, _, _, _))
        exact hR (zret_i rfl (Nat.le_refl _) (zbo (by omega)) (h _ _ _ _ _ _ _ _ _ _ _ (by omega) (by omega) (by omega) (by omega) (by omega) (fun _ => ⟨hAt315, fun hz => hBt315 (by omega)⟩)))
      iterate 6 refine hR (?_ : R (_, _, _, _, _, _))
      refine hR (t_ldE (by omega) (by omega) (Nat.le_of_ble_eq_true rfl) fun v355 ev355 rv355 => ?_)
      have bv355 : v355 = (k24_343 0).toInt := ev355
      clear ev355
      refine hR (t_add ?_)
      iterate 3 refine hR (?_ : R (_, _, _, _, _, _))
      refine hR (t_ldE (by omega) (by omega) (Nat.le_of_ble_eq_true rfl) fun v356 ev356 rv356 => ?_)
      have bv356 : v356 = (k24_343 1).toInt := ev356
      clear ev356
      refine hR (t_st (by omega) (by omega) (Nat.le_of_ble_eq_true rfl) (?_ : R (_, _, _, (zMi c0 c1 c2 c3 c4 c5 c6 c7 c8 c9 c10 c11 c12 c13 f0 y9_335 f10 y11_336 y12_337 y13_338 y15_340 y16_341 y17_342 f20 f21 f22 f23 f26 f28 f31 f32 f33 f38 f41 f44 y14_339 g15 g16 g17 g18 g19 g20 g21 g22 (upd (upd g23 (0 : Int).toNat (Int32.ofInt v313)) (2 + v355).toNat (Int32.ofInt v356)) k24_343 g25 g26 g27 g28 g29 g30 g31 g32 g33 g34 g35 g36 g37 g38 g39 g40 g41 g42 g43 g44 t), _, _)))
      have hAt358 := tb_uA hAt315 (i := 2 + v355) (e := v356) (by omega) (by omega)
      have hBt358 : y16_341 = 0 → bkR (upd (upd g23 (0 : Int).toNat (Int32.ofInt v313)) (2 + v355).toNat (Int32.ofInt v356)) := fun hz => bkR_u (hBt315 (by omega)) (by omega)
      refine hR (?_ : R (_, _, _, _, _, _))
      exact hR (zret_i rfl (Nat.le_refl _) (zbo (by omega)) (h _ _ _ _ _ _ _ _ _ _ _ (by omega) (by omega) (by omega) (by omega) (by omega) (fun _ => ⟨hAt358, fun hz => hBt358 (by omega)⟩)))
    iterate 4 refine hR (?_ : R (_, _, _, _, _, _))
    refine hR (zcall_i 0 0 (Nat.le_of_ble_eq_true rfl) (Nat.le_of_ble_eq_true rfl) (m_full1 _ 5 a2 (by omega) (by omega) _ fun y16_359 y17_360 hp361 hp362 => ?_))
    refine (?_ : R (_, _, [], (zMi c0 c1 c2 c3 c4 c5 c6 c7 c8 c9 c10 c11 c12 c13 f0 f9 f10 f11 f12 f13 f15 y16_359 y17_360 f20 f21 f22 f23 f26 f28 f31 f32 f33 f38 f41 f44 x14 g15 g16 g17 g18 g19 g20 g21 g22 g23 g24 g25 g26 g27 g28 g29 g30 g31 g32 g33 g34 g35 g36 g37 g38 g39 g40 g41 g42 g43 g44 t), 0, 0))
    iterate 7 refine hR (?_ : R (_, _, _, _, _, _))
    refine hR (t_ldE (by omega) (by omega) (Nat.le_of_ble_eq_true rfl) fun v363 ev363 rv363 => ?_)
    have bv363 : v363 = (g23 1).toInt := ev363
    have cv363 := (hr3).1
    clear ev363
    refine hR (?_ : R (_, _, _, _, _, _))
    refine hR (t_add ?_)
    refine hR (zcall_i 0 0 (Nat.le_of_ble_eq_true rfl) (Nat.le_of_ble_eq_true rfl) (m_lesser _ 5 (v363 + 1) _ (by omega) (by omega) _ fun v364 hp365 => ?_))
    refine (?_ : R (_, _, (.int (Int32.ofInt v364)) :: (.int (Int32.ofInt 1)) :: (.ref 23) :: [], (zMi c0 c1 c2 c3 c4 c5 c6 c7 c8 c9 c10 c11 c12 c13 f0 f9 f10 f11 f12 f13 f15 y16_359 y17_360 f20 f21 f22 f23 f26 f28 f31 f32 f33 f38 f41 f44 x14 g15 g16 g17 g18 g19 g20 g21 g22 g23 g24 g25 g26 g27 g28 g29 g30 g31 g32 g33 g34 g35 g36 g37 g38 g39 g40 g41 g42 g43 g44 t), 0, 0))
    refine hR (t_st (by omega) (by omega) (Nat.le_of_ble_eq_true rfl) (?_ : R (_, _, _, (zMi c0 c1 c2 c3 c4 c5 c6 c7 c8 c9 c10 c11 c12 c13 f0 f9 f10 f11 f12 f13 f15 y16_359 y17_360 f20 f21 f22 f23 f26 f28 f31 f32 f33 f38 f41 f44 x14 g15 g16 g17 g18 g19 g20 g21 g22 (upd g23 (1 : Int).toNat (Int32.ofInt v364)) g24 g25 g26 g27 g28 g29 g30 g31 g32 g33 g34 g35 g36 g37 g38 g39 g40 g41 g42 g43 g44 t), _, _)))
    have hAt367 := tb_uA hr3 (i := (1 : Int)) (e := v364) (by omega) (by omega)
    have hBt367 : y16_359 = 0 → bkR (upd g23 (1 : Int).toNat (Int32.ofInt v364)) := fun hz => bkR_u (hr4 (by omega)) (by omega)
    refine hR (?_ : R (_, _, _, _, _, _))
    refine hR (zcall_i 0 0 (Nat.le_of_ble_eq_true rfl) (Nat.le_of_ble_eq_true rfl) (m_token _ (by omega) _ fun y9_368 y11_369 y12_370 y13_371 y14_372 hp373 hp374 hp375 hp376 => ?_))
    refine (?_ : R (_, _, [], (zMi c0 c1 c2 c3 c4 c5 c6 c7 c8 c9 c10 c11 c12 c13 f0 y9_368 f10 y11_369 y12_370 y13_371 f15 y16_359 y17_360 f20 f21 f22 f23 f26 f28 f31 f32 f33 f38 f41 f44 y14_372 g15 g16 g17 g18 g19 g20 g21 g22 (upd g23 (1 : Int).toNat (Int32.ofInt v364)) g24 g25 g26 g27 g28 g29 g30 g31 g32 g33 g34 g35 g36 g37 g38 g39 g40 g41 g42 g43 g44 t), 0, 0))
    iterate 2 refine hR (?_ : R (_, _, _, _, _, _))
    refine hR (t_o fun v377 rv377 => ?_)
    refine hR (j_any ?_ ?_)
    · skip
      iterate 2 refine hR (?_ : R (_, _, _, _, _, _))
      refine hR (t_o fun v378 rv378 => ?_)
      refine hR (j_any ?_ ?_)
      rotate_left
      · skip
        refine hR (?_ : R (_, _, _, _, _, _))
        exact hR (zret_i rfl (Nat.le_refl _) (zbo (by omega)) (h _ _ _ _ _ _ _ _ _ _ _ (by omega) (by omega) (by omega) (by omega) (by omega) (fun _ => ⟨hAt367, fun hz => hBt367 (by omega)⟩)))
      iterate 4 refine hR (?_ : R (_, _, _, _, _, _))
      refine hR (zcall_i 0 0 (Nat.le_of_ble_eq_true rfl) (Nat.le_of_ble_eq_true rfl) (m_take0 _ 0 3 (by omega) (by omega) (by omega) (by omega) (by omega) _ fun v379 y9_380 y11_381 y12_382 y13_383 y14_384 y15_385 y16_386 y17_387 k24_388 hp389 hp390 hp391 hp392 hp393 hp394 => ?_))
      refine (?_ : R (_, _, (.int (Int32.ofInt v379)) :: [], (zMi c0 c1 c2 c3 c4 c5 c6 c7 c8 c9 c10 c11 c12 c13 f0 y9_380 f10 y11_381 y12_382 y13_383 y15_385 y16_386 y17_387 f20 f21 f22 f23 f26 f28 f31 f32 f33 f38 f41 f44 y14_384 g15 g16 g17 g18 g19 g20 g21 g22 (upd g23 (1 : Int).toNat (Int32.ofInt v364)) k24_388 g25 g26 g27 g28 g29 g30 g31 g32 g33 g34 g35 g36 g37 g38 g39 g40 g41 g42 g43 g44 t), 0, 0))
      refine hR (k_eq (by omega) (fun hc395 => ?_) (fun hc395 => ?_))
      · skip
        refine hR (?_ : R (_, _, _, _, _, _))
        exact hR (zret_i rfl (Nat.le_refl _) (zbo (by omega)) (h _ _ _ _ _ _ _ _ _ _ _ (by omega) (by omega) (by omega) (by omega) (by omega) (fun h => by omega)))
      iterate 4 refine hR (?_ : R (_, _, _, _, _, _))
      refine hR (zcall_i 0 0 (Nat.le_of_ble_eq_true rfl) (Nat.le_of_ble_eq_true rfl) (m_take1 _ 0 3 (by omega) (by omega) (by omega) (by omega) (by omega) _ fun v396 y9_397 y11_398 y12_399 y13_400 y14_401 y15_402 y16_403 y17_404 k24_405 hp406 hp407 hp408 hp409 hp410 hp411 => ?_))
      refine (?_ : R (_, _, (.int (Int32.ofInt v396)) :: [], (zMi c0 c1 c2 c3 c4 c5 c6 c7 c8 c9 c10 c11 c12 c13 f0 y9_397 f10 y11_398 y12_399 y13_400 y15_402 y16_403 y17_404 f20 f21 f22 f23 f26 f28 f31 f32 f33 f38 f41 f44 y14_401 g15 g16 g17 g18 g19 g20 g21 g22 (upd g23 (1 : Int).toNat (Int32.ofInt v364)) k24_405 g25 g26 g27 g28 g29 g30 g31 g32 g33 g34 g35 g36 g37 g38 g39 g40 g41 g42 g43 g44 t), 0, 0))
      refine hR (k_ne (by omega) (fun hc412 => ?_) (fun hc412 => ?_))
      rotate_left
      · skip
        refine hR (?_ : R (_, _, _, _, _, _))
        exact hR (zret_i rfl (Nat.le_refl _) (zbo (by omega)) (h _ _ _ _ _ _ _ _ _ _ _ (by omega) (by omega) (by omega) (by omega) (by omega) (fun h => by omega)))
      iterate 3 refine hR (?_ : R (_, _, _, _, _, _))
      refine hR (t_ldE (by omega) (by omega) (Nat.le_of_ble_eq_true rfl) fun v413 ev413 rv413 => ?_)
      have bv413 : v413 = (k24_405 0).toInt := ev413
      clear ev413
      iterate 2 refine hR (?_ : R (_, _, _, _, _, _))
      refine hR (zcall_i 0 0 (Nat.le_of_ble_eq_true rfl) (Nat.le_of_ble_eq_true rfl) (m_in _ v413 0 3 _ (by omega) (by omega) (by omega) _ fun v414 hp415 => ?_))
      refine (?_ : R (_, _, (.int (Int32.ofInt v414)) :: [], (zMi c0 c1 c2 c3 c4 c5 c6 c7 c8 c9 c10 c11 c12 c13 f0 y9_397 f10 y11_398 y12_399 y13_400 y15_402 y16_403 y17_404 f20 f21 f22 f23 f26 f28 f31 f32 f33 f38 f41 f44 y14_401 g15 g16 g17 g18 g19 g20 g21 g22 (upd g23 (1 : Int).toNat (Int32.ofInt v364)) k24_405 g25 g26 g27 g28 g29 g30 g31 g32 g33 g34 g35 g36 g37 g38 g39 g40 g41 g42 g43 g44 t), 0, 0))
      refine hR (k_eq (by omega) (fun hc416 => ?_) (fun hc416 => ?_))
      · skip
        refine hR (?_ : R (_, _, _, _, _, _))
        exact hR (zret_i rfl (Nat.le_refl _) (zbo (by omega)) (h _ _ _ _ _ _ _ _ _ _ _ (by omega) (by omega) (by omega) (by omega) (by omega) (fun _ => ⟨hAt367, fun hz => hBt367 (by omega)⟩)))
      iterate 6 refine hR (?_ : R (_, _, _, _, _, _))
      refine hR (t_ldE (by omega) (by omega) (Nat.le_of_ble_eq_true rfl) fun v417 ev417 rv417 => ?_)
      have bv417 : v417 = (k24_405 0).toInt := ev417
      clear ev417
      refine hR (t_add ?_)
      iterate 3 refine hR (?_ : R (_, _, _, _, _, _))
      refine hR (t_ldE (by omega) (by omega) (Nat.le_of_ble_eq_true rfl) fun v418 ev418 rv418 => ?_)
      have bv418 : v418 = (k24_405 1).toInt := ev418
      clear ev418
      refine hR (t_st (by omega) (by omega) (Nat.le_of_ble_eq_true rfl) (?_ : R (_, _, _, (zMi c0 c1 c2 c3 c4 c5 c6 c7 c8 c9 c10 c11 c12 c13 f0 y9_397 f10 y11_398 y12_399 y13_400 y15_402 y16_403 y17_404 f20 f21 f22 f23 f26 f28 f31 f32 f33 f38 f41 f44 y14_401 g15 g16 g17 g18 g19 g20 g21 g22 (upd (upd g23 (1 : Int).toNat (Int32.ofInt v364)) (2 + v417).toNat (Int32.ofInt v418)) k24_405 g25 g26 g27 g28 g29 g30 g31 g32 g33 g34 g35 g36 g37 g38 g39 g40 g41 g42 g43 g44 t), _, _)))
      have hAt420 := tb_uA hAt367 (i := 2 + v417) (e := v418) (by omega) (by omega)
      have hBt420 : y16_403 = 0 → bkR (upd (upd g23 (1 : Int).toNat (Int32.ofInt v364)) (2 + v417).toNat (Int32.ofInt v418)) := fun hz => bkR_u (hBt367 (by omega)) (by omega)
      refine hR (?_ : R (_, _, _, _, _, _))
      exact hR (zret_i rfl (Nat.le_refl _) (zbo (by omega)) (h _ _ _ _ _ _ _ _ _ _ _ (by omega) (by omega) (by omega) (by omega) (by omega) (fun _ => ⟨hAt420, fun hz => hBt420 (by omega)⟩)))
    iterate 2 refine hR (?_ : R (_, _, _, _, _, _))
    refine hR (zcall_i 0 0 (Nat.le_of_ble_eq_true rfl) (Nat.le_of_ble_eq_true rfl) (m_takeText0 _ (by omega) (by omega) (by omega) _ fun y9_421 y11_422 y12_423 y13_424 y14_425 y15_426 y16_427 y17_428 k24_429 hp430 hp431 hp432 hp433 hp434 hp435 => ?_))
    refine (?_ : R (_, _, [], (zMi c0 c1 c2 c3 c4 c5 c6 c7 c8 c9 c10 c11 c12 c13 f0 y9_421 f10 y11_422 y12_423 y13_424 y15_426 y16_427 y17_428 f20 f21 f22 f23 f26 f28 f31 f32 f33 f38 f41 f44 y14_425 g15 g16 g17 g18 g19 g20 g21 g22 (upd g23 (1 : Int).toNat (Int32.ofInt v364)) k24_429 g25 g26 g27 g28 g29 g30 g31 g32 g33 g34 g35 g36 g37 g38 g39 g40 g41 g42 g43 g44 t), 0, 0))
    iterate 6 refine hR (?_ : R (_, _, _, _, _, _))
    refine hR (t_ldE (by omega) (by omega) (Nat.le_of_ble_eq_true rfl) fun v436 ev436 rv436 => ?_)
    have bv436 : v436 = (k24_429 0).toInt := ev436
    clear ev436
    refine hR (t_st (by omega) (by omega) (Nat.le_of_ble_eq_true rfl) (?_ : R (_, _, _, (zMi c0 c1 c2 c3 c4 c5 c6 c7 c8 c9 c10 c11 c12 c13 f0 y9_421 f10 y11_422 y12_423 y13_424 y15_426 y16_427 y17_428 f20 f21 f22 f23 f26 f28 f31 f32 f33 f38 f41 f44 y14_425 g15 g16 g17 g18 g19 g20 g21 g22 (upd (upd g23 (1 : Int).toNat (Int32.ofInt v364)) (0 : Int).toNat (Int32.ofInt v436)) k24_429 g25 g26 g27 g28 g29 g30 g31 g32 g33 g34 g35 g36 g37 g38 g39 g40 g41 g42 g43 g44 t), _, _)))
    have hAt438 := tb_uA hAt367 (i := (0 : Int)) (e := v436) (by omega) (by omega)
    have hBt438 : y16_427 = 0 → bkR (upd (upd g23 (1 : Int).toNat (Int32.ofInt v364)) (0 : Int).toNat (Int32.ofInt v436)) := fun hz => bkR_u (hBt367 (by omega)) (by omega)
    iterate 2 refine hR (?_ : R (_, _, _, _, _, _))
    refine hR (t_o fun v439 rv439 => ?_)
    refine hR (j_any ?_ ?_)
    rotate_left
    · skip
      refine hR (?_ : R (_, _, _, _, _, _))
      exact hR (zret_i rfl (Nat.le_refl _) (zbo (by omega)) (h _ _ _ _ _ _ _ _ _ _ _ (by omega) (by omega) (by omega) (by omega) (by omega) (fun _ => ⟨hAt438, fun hz => hBt438 (by omega)⟩)))
    iterate 4 refine hR (?_ : R (_, _, _, _, _, _))
    refine hR (zcall_i 0 0 (Nat.le_of_ble_eq_true rfl) (Nat.le_of_ble_eq_true rfl) (m_take0 _ 0 3 (by omega) (by omega) (by omega) (by omega) (by omega) _ fun v440 y9_441 y11_442 y12_443 y13_444 y14_445 y15_446 y16_447 y17_448 k24_449 hp450 hp451 hp452 hp453 hp454 hp455 => ?_))
    refine (?_ : R (_, _, (.int (Int32.ofInt v440)) :: [], (zMi c0 c1 c2 c3 c4 c5 c6 c7 c8 c9 c10 c11 c12 c13 f0 y9_441 f10 y11_442 y12_443 y13_444 y15_446 y16_447 y17_448 f20 f21 f22 f23 f26 f28 f31 f32 f33 f38 f41 f44 y14_445 g15 g16 g17 g18 g19 g20 g21 g22 (upd (upd g23 (1 : Int).toNat (Int32.ofInt v364)) (0 : Int).toNat (Int32.ofInt v436)) k24_449 g25 g26 g27 g28 g29 g30 g31 g32 g33 g34 g35 g36 g37 g38 g39 g40 g41 g42 g43 g44 t), 0, 0))
    refine hR (k_eq (by omega) (fun hc456 => ?_) (fun hc456 => ?_))
    · skip
      refine hR (?_ : R (_, _, _, _, _, _))
      exact hR (zret_i rfl (Nat.le_refl _) (zbo (by omega)) (h _ _ _ _ _ _ _ _ _ _ _ (by omega) (by omega) (by omega) (by omega) (by omega) (fun h => by omega)))
    iterate 4 refine hR (?_ : R (_, _, _, _, _, _))
    refine hR (zcall_i 0 0 (Nat.le_of_ble_eq_true rfl) (Nat.le_of_ble_eq_true rfl) (m_take1 _ 0 3 (by omega) (by omega) (by omega) (by omega) (by omega) _ fun v457 y9_458 y11_459 y12_460 y13_461 y14_462 y15_463 y16_464 y17_465 k24_466 hp467 hp468 hp469 hp470 hp471 hp472 => ?_))
    refine (?_ : R (_, _, (.int (Int32.ofInt v457)) :: [], (zMi c0 c1 c2 c3 c4 c5 c6 c7 c8 c9 c10 c11 c12 c13 f0 y9_458 f10 y11_459 y12_460 y13_461 y15_463 y16_464 y17_465 f20 f21 f22 f23 f26 f28 f31 f32 f33 f38 f41 f44 y14_462 g15 g16 g17 g18 g19 g20 g21 g22 (upd (upd g23 (1 : Int).toNat (Int32.ofInt v364)) (0 : Int).toNat (Int32.ofInt v436)) k24_466 g25 g26 g27 g28 g29 g30 g31 g32 g33 g34 g35 g36 g37 g38 g39 g40 g41 g42 g43 g44 t), 0, 0))
    refine hR (k_ne (by omega) (fun hc473 => ?_) (fun hc473 => ?_))
    rotate_left
    · skip
      refine hR (?_ : R (_, _, _, _, _, _))
      exact hR (zret_i rfl (Nat.le_refl _) (zbo (by omega)) (h _ _ _ _ _ _ _ _ _ _ _ (by omega) (by omega) (by omega) (by omega) (by omega) (fun h => by omega)))
    iterate 3 refine hR (?_ : R (_, _, _, _, _, _))
    refine hR (t_ldE (by omega) (by omega) (Nat.le_of_ble_eq_true rfl) fun v474 ev474 rv474 => ?_)
    have bv474 : v474 = (k24_466 0).toInt := ev474
    clear ev474
    iterate 2 refine hR (?_ : R (_, _, _, _, _, _))
    refine hR (zcall_i 0 0 (Nat.le_of_ble_eq_true rfl) (Nat.le_of_ble_eq_true rfl) (m_in _ v474 0 3 _ (by omega) (by omega) (by omega) _ fun v475 hp476 => ?_))
    refine (?_ : R (_, _, (.int (Int32.ofInt v475)) :: [], (zMi c0 c1 c2 c3 c4 c5 c6 c7 c8 c9 c10 c11 c12 c13 f0 y9_458 f10 y11_459 y12_460 y13_461 y15_463 y16_464 y17_465 f20 f21 f22 f23 f26 f28 f31 f32 f33 f38 f41 f44 y14_462 g15 g16 g17 g18 g19 g20 g21 g22 (upd (upd g23 (1 : Int).toNat (Int32.ofInt v364)) (0 : Int).toNat (Int32.ofInt v436)) k24_466 g25 g26 g27 g28 g29 g30 g31 g32 g33 g34 g35 g36 g37 g38 g39 g40 g41 g42 g43 g44 t), 0, 0))
    refine hR (k_eq (by omega) (fun hc477 => ?_) (fun hc477 => ?_))
    · skip
      refine hR (?_ : R (_, _, _, _, _, _))
      exact hR (zret_i rfl (Nat.le_refl _) (zbo (by omega)) (h _ _ _ _ _ _ _ _ _ _ _ (by omega) (by omega) (by omega) (by omega) (by omega) (fun _ => ⟨hAt438, fun hz => hBt438 (by omega)⟩)))
    iterate 6 refine hR (?_ : R (_, _, _, _, _, _))
    refine hR (t_ldE (by omega) (by omega) (Nat.le_of_ble_eq_true rfl) fun v478 ev478 rv478 => ?_)
    have bv478 : v478 = (k24_466 0).toInt := ev478
    clear ev478
    refine hR (t_add ?_)
    iterate 3 refine hR (?_ : R (_, _, _, _, _, _))
    refine hR (t_ldE (by omega) (by omega) (Nat.le_of_ble_eq_true rfl) fun v479 ev479 rv479 => ?_)
    have bv479 : v479 = (k24_466 1).toInt := ev479
    clear ev479
    refine hR (t_st (by omega) (by omega) (Nat.le_of_ble_eq_true rfl) (?_ : R (_, _, _, (zMi c0 c1 c2 c3 c4 c5 c6 c7 c8 c9 c10 c11 c12 c13 f0 y9_458 f10 y11_459 y12_460 y13_461 y15_463 y16_464 y17_465 f20 f21 f22 f23 f26 f28 f31 f32 f33 f38 f41 f44 y14_462 g15 g16 g17 g18 g19 g20 g21 g22 (upd (upd (upd g23 (1 : Int).toNat (Int32.ofInt v364)) (0 : Int).toNat (Int32.ofInt v436)) (2 + v478).toNat (Int32.ofInt v479)) k24_466 g25 g26 g27 g28 g29 g30 g31 g32 g33 g34 g35 g36 g37 g38 g39 g40 g41 g42 g43 g44 t), _, _)))
    have hAt481 := tb_uA hAt438 (i := 2 + v478) (e := v479) (by omega) (by omega)
    have hBt481 : y16_464 = 0 → bkR (upd (upd (upd g23 (1 : Int).toNat (Int32.ofInt v364)) (0 : Int).toNat (Int32.ofInt v436)) (2 + v478).toNat (Int32.ofInt v479)) := fun hz => bkR_u (hBt438 (by omega)) (by omega)
    refine hR (?_ : R (_, _, _, _, _, _))
    exact hR (zret_i rfl (Nat.le_refl _) (zbo (by omega)) (h _ _ _ _ _ _ _ _ _ _ _ (by omega) (by omega) (by omega) (by omega) (by omega) (fun _ => ⟨hAt481, fun hz => hBt481 (by omega)⟩)))
  iterate 2 refine hR (?_ : R (_, _, _, _, _, _))
  refine hR (t_o fun v482 rv482 => ?_)
  refine hR (j_any ?_ ?_)
  rotate_left
  · skip
    refine hR (?_ : R (_, _, _, _, _, _))
    refine hR (zcall_i 0 0 (Nat.le_of_ble_eq_true rfl) (Nat.le_of_ble_eq_true rfl) (m_fails _ _ fun v721 y15_722 hp723 => ?_))
    refine (?_ : R (_, _, (.int (Int32.ofInt v721)) :: [], (zMi c0 c1 c2 c3 c4 c5 c6 c7 c8 c9 c10 c11 c12 c13 f0 f9 f10 f11 f12 f13 y15_722 f16 f17 f20 f21 f22 f23 f26 f28 f31 f32 f33 f38 f41 f44 x14 g15 g16 g17 g18 g19 g20 g21 g22 g23 g24 g25 g26 g27 g28 g29 g30 g31 g32 g33 g34 g35 g36 g37 g38 g39 g40 g41 g42 g43 g44 t), 0, 0))
    exact hR (zret_i rfl (Nat.le_refl _) (zbo (by omega)) (h _ _ _ _ _ _ _ _ _ _ _ (by omega) (by omega) (by omega) (by omega) (by omega) (fun h => by omega)))
  iterate 2 refine hR (?_ : R (_, _, _, _, _, _))
  refine hR (t_o fun v483 rv483 => ?_)
  refine hR (j_any ?_ ?_)
  · skip
    refine hR (?_ : R (_, _, _, _, _, _))
    refine hR (zcall_i 0 0 (Nat.le_of_ble_eq_true rfl) (Nat.le_of_ble_eq_true rfl) (m_token _ (by omega) _ fun y9_484 y11_485 y12_486 y13_487 y14_488 hp489 hp490 hp491 hp492 => ?_))
    refine (?_ : R (_, _, [], (zMi c0 c1 c2 c3 c4 c5 c6 c7 c8 c9 c10 c11 c12 c13 f0 y9_484 f10 y11_485 y12_486 y13_487 f15 f16 f17 f20 f21 f22 f23 f26 f28 f31 f32 f33 f38 f41 f44 y14_488 g15 g16 g17 g18 g19 g20 g21 g22 g23 g24 g25 g26 g27 g28 g29 g30 g31 g32 g33 g34 g35 g36 g37 g38 g39 g40 g41 g42 g43 g44 t), 0, 0))
    iterate 2 refine hR (?_ : R (_, _, _, _, _, _))
    refine hR (t_o fun v493 rv493 => ?_)
    refine hR (j_any ?_ ?_)
    · skip
      iterate 2 refine hR (?_ : R (_, _, _, _, _, _))
      refine hR (t_o fun v494 rv494 => ?_)
      refine hR (j_any ?_ ?_)
      rotate_left
      · skip
        refine hR (?_ : R (_, _, _, _, _, _))
        exact hR (zret_i rfl (Nat.le_refl _) (zbo (by omega)) (h _ _ _ _ _ _ _ _ _ _ _ (by omega) (by omega) (by omega) (by omega) (by omega) (fun _ => ⟨hr3, fun hz => hr4 (by omega)⟩)))
      iterate 4 refine hR (?_ : R (_, _, _, _, _, _))
      refine hR (zcall_i 0 0 (Nat.le_of_ble_eq_true rfl) (Nat.le_of_ble_eq_true rfl) (m_take0 _ 0 3 (by omega) (by omega) (by omega) (by omega) (by omega) _ fun v495 y9_496 y11_497 y12_498 y13_499 y14_500 y15_501 y16_502 y17_503 k24_504 hp505 hp506 hp507 hp508 hp509 hp510 => ?_))
      refine (?_ : R (_, _, (.int (Int32.ofInt v495)) :: [], (zMi c0 c1 c2 c3 c4 c5 c6 c7 c8 c9 c10 c11 c12 c13 f0 y9_496 f10 y11_497 y12_498 y13_499 y15_501 y16_502 y17_503 f20 f21 f22 f23 f26 f28 f31 f32 f33 f38 f41 f44 y14_500 g15 g16 g17 g18 g19 g20 g21 g22 g23 k24_504 g25 g26 g27 g28 g29 g30 g31 g32 g33 g34 g35 g36 g37 g38 g39 g40 g41 g42 g43 g44 t), 0, 0))
      refine hR (k_eq (by omega) (fun hc511 => ?_) (fun hc511 => ?_))
      · skip
        refine hR (?_ : R (_, _, _, _, _, _))
        exact hR (zret_i rfl (Nat.le_refl _) (zbo (by omega)) (h _ _ _ _ _ _ _ _ _ _ _ (by omega) (by omega) (by omega) (by omega) (by omega) (fun h => by omega)))
      iterate 4 refine hR (?_ : R (_, _, _, _, _, _))
      refine hR (zcall_i 0 0 (Nat.le_of_ble_eq_true rfl) (Nat.le_of_ble_eq_true rfl) (m_take1 _ 0 3 (by omega) (by omega) (by omega) (by omega) (by omega) _ fun v512 y9_513 y11_514 y12_515 y13_516 y14_517 y15_518 y16_519 y17_520 k24_521 hp522 hp523 hp524 hp525 hp526 hp527 => ?_))
      refine (?_ : R (_, _, (.int (Int32.ofInt v512)) :: [], (zMi c0 c1 c2 c3 c4 c5 c6 c7 c8 c9 c10 c11 c12 c13 f0 y9_513 f10 y11_514 y12_515 y13_516 y15_518 y16_519 y17_520 f20 f21 f22 f23 f26 f28 f31 f32 f33 f38 f41 f44 y14_517 g15 g16 g17 g18 g19 g20 g21 g22 g23 k24_521 g25 g26 g27 g28 g29 g30 g31 g32 g33 g34 g35 g36 g37 g38 g39 g40 g41 g42 g43 g44 t), 0, 0))
      refine hR (k_ne (by omega) (fun hc528 => ?_) (fun hc528 => ?_))
      rotate_left
      · skip
        refine hR (?_ : R (_, _, _, _, _, _))
        exact hR (zret_i rfl (Nat.le_refl _) (zbo (by omega)) (h _ _ _ _ _ _ _ _ _ _ _ (by omega) (by omega) (by omega) (by omega) (by omega) (fun h => by omega)))
      iterate 3 refine hR (?_ : R (_, _, _, _, _, _))
      refine hR (t_ldE (by omega) (by omega) (Nat.le_of_ble_eq_true rfl) fun v529 ev529 rv529 => ?_)
      have bv529 : v529 = (k24_521 0).toInt := ev529
      clear ev529
      iterate 2 refine hR (?_ : R (_, _, _, _, _, _))
      refine hR (zcall_i 0 0 (Nat.le_of_ble_eq_true rfl) (Nat.le_of_ble_eq_true rfl) (m_in _ v529 0 3 _ (by omega) (by omega) (by omega) _ fun v530 hp531 => ?_))
      refine (?_ : R (_, _, (.int (Int32.ofInt v530)) :: [], (zMi c0 c1 c2 c3 c4 c5 c6 c7 c8 c9 c10 c11 c12 c13 f0 y9_513 f10 y11_514 y12_515 y13_516 y15_518 y16_519 y17_520 f20 f21 f22 f23 f26 f28 f31 f32 f33 f38 f41 f44 y14_517 g15 g16 g17 g18 g19 g20 g21 g22 g23 k24_521 g25 g26 g27 g28 g29 g30 g31 g32 g33 g34 g35 g36 g37 g38 g39 g40 g41 g42 g43 g44 t), 0, 0))
      refine hR (k_eq (by omega) (fun hc532 => ?_) (fun hc532 => ?_))
      · skip
        refine hR (?_ : R (_, _, _, _, _, _))
        exact hR (zret_i rfl (Nat.le_refl _) (zbo (by omega)) (h _ _ _ _ _ _ _ _ _ _ _ (by omega) (by omega) (by omega) (by omega) (by omega) (fun _ => ⟨hr3, fun hz => hr4 (by omega)⟩)))
      iterate 6 refine hR (?_ : R (_, _, _, _, _, _))
      refine hR (t_ldE (by omega) (by omega) (Nat.le_of_ble_eq_true rfl) fun v533 ev533 rv533 => ?_)
      have bv533 : v533 = (k24_521 0).toInt := ev533
      clear ev533
      refine hR (t_add ?_)
      iterate 3 refine hR (?_ : R (_, _, _, _, _, _))
      refine hR (t_ldE (by omega) (by omega) (Nat.le_of_ble_eq_true rfl) fun v534 ev534 rv534 => ?_)
      have bv534 : v534 = (k24_521 1).toInt := ev534
      clear ev534
      refine hR (t_st (by omega) (by omega) (Nat.le_of_ble_eq_true rfl) (?_ : R (_, _, _, (zMi c0 c1 c2 c3 c4 c5 c6 c7 c8 c9 c10 c11 c12 c13 f0 y9_513 f10 y11_514 y12_515 y13_516 y15_518 y16_519 y17_520 f20 f21 f22 f23 f26 f28 f31 f32 f33 f38 f41 f44 y14_517 g15 g16 g17 g18 g19 g20 g21 g22 (upd g23 (2 + v533).toNat (Int32.ofInt v534)) k24_521 g25 g26 g27 g28 g29 g30 g31 g32 g33 g34 g35 g36 g37 g38 g39 g40 g41 g42 g43 g44 t), _, _)))
      have hAt536 := tb_uA hr3 (i := 2 + v533) (e := v534) (by omega) (by omega)
      have hBt536 : y16_519 = 0 → bkR (upd g23 (2 + v533).toNat (Int32.ofInt v534)) := fun hz => bkR_u (hr4 (by omega)) (by omega)
      refine hR (?_ : R (_, _, _, _, _, _))
      exact hR (zret_i rfl (Nat.le_refl _) (zbo (by omega)) (h _ _ _ _ _ _ _ _ _ _ _ (by omega) (by omega) (by omega) (by omega) (by omega) (fun _ => ⟨hAt536, fun hz => hBt536 (by omega)⟩)))
    iterate 2 refine hR (?_ : R (_, _, _, _, _, _))
    refine hR (zcall_i 0 0 (Nat.le_of_ble_eq_true rfl) (Nat.le_of_ble_eq_true rfl) (m_takeText0 _ (by omega) (by omega) (by omega) _ fun y9_537 y11_538 y12_539 y13_540 y14_541 y15_542 y16_543 y17_544 k24_545 hp546 hp547 hp548 hp549 hp550 hp551 => ?_))
    refine (?_ : R (_, _, [], (zMi c0 c1 c2 c3 c4 c5 c6 c7 c8 c9 c10 c11 c12 c13 f0 y9_537 f10 y11_538 y12_539 y13_540 y15_542 y16_543 y17_544 f20 f21 f22 f23 f26 f28 f31 f32 f33 f38 f41 f44 y14_541 g15 g16 g17 g18 g19 g20 g21 g22 g23 k24_545 g25 g26 g27 g28 g29 g30 g31 g32 g33 g34 g35 g36 g37 g38 g39 g40 g41 g42 g43 g44 t), 0, 0))
    iterate 6 refine hR (?_ : R (_, _, _, _, _, _))
    refine hR (t_ldE (by omega) (by omega) (Nat.le_of_ble_eq_true rfl) fun v552 ev552 rv552 => ?_)
    have bv552 : v552 = (k24_545 0).toInt := ev552
    clear ev552
    refine hR (t_st (by omega) (by omega) (Nat.le_of_ble_eq_true rfl) (?_ : R (_, _, _, (zMi c0 c1 c2 c3 c4 c5 c6 c7 c8 c9 c10 c11 c12 c13 f0 y9_537 f10 y11_538 y12_539 y13_540 y15_542 y16_543 y17_544 f20 f21 f22 f23 f26 f28 f31 f32 f33 f38 f41 f44 y14_541 g15 g16 g17 g18 g19 g20 g21 g22 (upd g23 (0 : Int).toNat (Int32.ofInt v552)) k24_545 g25 g26 g27 g28 g29 g30 g31 g32 g33 g34 g35 g36 g37 g38 g39 g40 g41 g42 g43 g44 t), _, _)))
    have hAt554 := tb_uA hr3 (i := (0 : Int)) (e := v552) (by omega) (by omega)
    have hBt554 : y16_543 = 0 → bkR (upd g23 (0 : Int).toNat (Int32.ofInt v552)) := fun hz => bkR_u (hr4 (by omega)) (by omega)
    iterate 2 refine hR (?_ : R (_, _, _, _, _, _))
    refine hR (t_o fun v555 rv555 => ?_)
    refine hR (j_any ?_ ?_)
    rotate_left
    · skip
      refine hR (?_ : R (_, _, _, _, _, _))
      exact hR (zret_i rfl (Nat.le_refl _) (zbo (by omega)) (h _ _ _ _ _ _ _ _ _ _ _ (by omega) (by omega) (by omega) (by omega) (by omega) (fun _ => ⟨hAt554, fun hz => hBt554 (by omega)⟩)))
    iterate 4 refine hR (?_ : R (_, _, _, _, _, _))
    refine hR (zcall_i 0 0 (Nat.le_of_ble_eq_true rfl) (Nat.le_of_ble_eq_true rfl) (m_take0 _ 0 3 (by omega) (by omega) (by omega) (by omega) (by omega) _ fun v556 y9_557 y11_558 y12_559 y13_560 y14_561 y15_562 y16_563 y17_564 k24_565 hp566 hp567 hp568 hp569 hp570 hp571 => ?_))
    refine (?_ : R (_, _, (.int (Int32.ofInt v556)) :: [], (zMi c0 c1 c2 c3 c4 c5 c6 c7 c8 c9 c10 c11 c12 c13 f0 y9_557 f10 y11_558 y12_559 y13_560 y15_562 y16_563 y17_564 f20 f21 f22 f23 f26 f28 f31 f32 f33 f38 f41 f44 y14_561 g15 g16 g17 g18 g19 g20 g21 g22 (upd g23 (0 : Int).toNat (Int32.ofInt v552)) k24_565 g25 g26 g27 g28 g29 g30 g31 g32 g33 g34 g35 g36 g37 g38 g39 g40 g41 g42 g43 g44 t), 0, 0))
    refine hR (k_eq (by omega) (fun hc572 => ?_) (fun hc572 => ?_))
    · skip
      refine hR (?_ : R (_, _, _, _, _, _))
      exact hR (zret_i rfl (Nat.le_refl _) (zbo (by omega)) (h _ _ _ _ _ _ _ _ _ _ _ (by omega) (by omega) (by omega) (by omega) (by omega) (fun h => by omega)))
    iterate 4 refine hR (?_ : R (_, _, _, _, _, _))
    refine hR (zcall_i 0 0 (Nat.le_of_ble_eq_true rfl) (Nat.le_of_ble_eq_true rfl) (m_take1 _ 0 3 (by omega) (by omega) (by omega) (by omega) (by omega) _ fun v573 y9_574 y11_575 y12_576 y13_577 y14_578 y15_579 y16_580 y17_581 k24_582 hp583 hp584 hp585 hp586 hp587 hp588 => ?_))
    refine (?_ : R (_, _, (.int (Int32.ofInt v573)) :: [], (zMi c0 c1 c2 c3 c4 c5 c6 c7 c8 c9 c10 c11 c12 c13 f0 y9_574 f10 y11_575 y12_576 y13_577 y15_579 y16_580 y17_581 f20 f21 f22 f23 f26 f28 f31 f32 f33 f38 f41 f44 y14_578 g15 g16 g17 g18 g19 g20 g21 g22 (upd g23 (0 : Int).toNat (Int32.ofInt v552)) k24_582 g25 g26 g27 g28 g29 g30 g31 g32 g33 g34 g35 g36 g37 g38 g39 g40 g41 g42 g43 g44 t), 0, 0))
    refine hR (k_ne (by omega) (fun hc589 => ?_) (fun hc589 => ?_))
    rotate_left
    · skip
      refine hR (?_ : R (_, _, _, _, _, _))
      exact hR (zret_i rfl (Nat.le_refl _) (zbo (by omega)) (h _ _ _ _ _ _ _ _ _ _ _ (by omega) (by omega) (by omega) (by omega) (by omega) (fun h => by omega)))
    iterate 3 refine hR (?_ : R (_, _, _, _, _, _))
    refine hR (t_ldE (by omega) (by omega) (Nat.le_of_ble_eq_true rfl) fun v590 ev590 rv590 => ?_)
    have bv590 : v590 = (k24_582 0).toInt := ev590
    clear ev590
    iterate 2 refine hR (?_ : R (_, _, _, _, _, _))
    refine hR (zcall_i 0 0 (Nat.le_of_ble_eq_true rfl) (Nat.le_of_ble_eq_true rfl) (m_in _ v590 0 3 _ (by omega) (by omega) (by omega) _ fun v591 hp592 => ?_))
    refine (?_ : R (_, _, (.int (Int32.ofInt v591)) :: [], (zMi c0 c1 c2 c3 c4 c5 c6 c7 c8 c9 c10 c11 c12 c13 f0 y9_574 f10 y11_575 y12_576 y13_577 y15_579 y16_580 y17_581 f20 f21 f22 f23 f26 f28 f31 f32 f33 f38 f41 f44 y14_578 g15 g16 g17 g18 g19 g20 g21 g22 (upd g23 (0 : Int).toNat (Int32.ofInt v552)) k24_582 g25 g26 g27 g28 g29 g30 g31 g32 g33 g34 g35 g36 g37 g38 g39 g40 g41 g42 g43 g44 t), 0, 0))
    refine hR (k_eq (by omega) (fun hc593 => ?_) (fun hc593 => ?_))
    · skip
      refine hR (?_ : R (_, _, _, _, _, _))
      exact hR (zret_i rfl (Nat.le_refl _) (zbo (by omega)) (h _ _ _ _ _ _ _ _ _ _ _ (by omega) (by omega) (by omega) (by omega) (by omega) (fun _ => ⟨hAt554, fun hz => hBt554 (by omega)⟩)))
    iterate 6 refine hR (?_ : R (_, _, _, _, _, _))
    refine hR (t_ldE (by omega) (by omega) (Nat.le_of_ble_eq_true rfl) fun v594 ev594 rv594 => ?_)
    have bv594 : v594 = (k24_582 0).toInt := ev594
    clear ev594
    refine hR (t_add ?_)
    iterate 3 refine hR (?_ : R (_, _, _, _, _, _))
    refine hR (t_ldE (by omega) (by omega) (Nat.le_of_ble_eq_true rfl) fun v595 ev595 rv595 => ?_)
    have bv595 : v595 = (k24_582 1).toInt := ev595
    clear ev595
    refine hR (t_st (by omega) (by omega) (Nat.le_of_ble_eq_true rfl) (?_ : R (_, _, _, (zMi c0 c1 c2 c3 c4 c5 c6 c7 c8 c9 c10 c11 c12 c13 f0 y9_574 f10 y11_575 y12_576 y13_577 y15_579 y16_580 y17_581 f20 f21 f22 f23 f26 f28 f31 f32 f33 f38 f41 f44 y14_578 g15 g16 g17 g18 g19 g20 g21 g22 (upd (upd g23 (0 : Int).toNat (Int32.ofInt v552)) (2 + v594).toNat (Int32.ofInt v595)) k24_582 g25 g26 g27 g28 g29 g30 g31 g32 g33 g34 g35 g36 g37 g38 g39 g40 g41 g42 g43 g44 t), _, _)))
    have hAt597 := tb_uA hAt554 (i := 2 + v594) (e := v595) (by omega) (by omega)
    have hBt597 : y16_580 = 0 → bkR (upd (upd g23 (0 : Int).toNat (Int32.ofInt v552)) (2 + v594).toNat (Int32.ofInt v595)) := fun hz => bkR_u (hBt554 (by omega)) (by omega)
    refine hR (?_ : R (_, _, _, _, _, _))
    exact hR (zret_i rfl (Nat.le_refl _) (zbo (by omega)) (h _ _ _ _ _ _ _ _ _ _ _ (by omega) (by omega) (by omega) (by omega) (by omega) (fun _ => ⟨hAt597, fun hz => hBt597 (by omega)⟩)))
  iterate 4 refine hR (?_ : R (_, _, _, _, _, _))
  refine hR (zcall_i 0 0 (Nat.le_of_ble_eq_true rfl) (Nat.le_of_ble_eq_true rfl) (m_full1 _ 5 a2 (by omega) (by omega) _ fun y16_598 y17_599 hp600 hp601 => ?_))
  refine (?_ : R (_, _, [], (zMi c0 c1 c2 c3 c4 c5 c6 c7 c8 c9 c10 c11 c12 c13 f0 f9 f10 f11 f12 f13 f15 y16_598 y17_599 f20 f21 f22 f23 f26 f28 f31 f32 f33 f38 f41 f44 x14 g15 g16 g17 g18 g19 g20 g21 g22 g23 g24 g25 g26 g27 g28 g29 g30 g31 g32 g33 g34 g35 g36 g37 g38 g39 g40 g41 g42 g43 g44 t), 0, 0))
  iterate 7 refine hR (?_ : R (_, _, _, _, _, _))
  refine hR (t_ldE (by omega) (by omega) (Nat.le_of_ble_eq_true rfl) fun v602 ev602 rv602 => ?_)
  have bv602 : v602 = (g23 1).toInt := ev602
  have cv602 := (hr3).1
  clear ev602
  refine hR (?_ : R (_, _, _, _, _, _))
  refine hR (t_add ?_)
  refine hR (zcall_i 0 0 (Nat.le_of_ble_eq_true rfl) (Nat.le_of_ble_eq_true rfl) (m_lesser _ 5 (v602 + 1) _ (by omega) (by omega) _ fun v603 hp604 => ?_))
  refine (?_ : R (_, _, (.int (Int32.ofInt v603)) :: (.int (Int32.ofInt 1)) :: (.ref 23) :: [], (zMi c0 c1 c2 c3 c4 c5 c6 c7 c8 c9 c10 c11 c12 c13 f0 f9 f10 f11 f12 f13 f15 y16_598 y17_599 f20 f21 f22 f23 f26 f28 f31 f32 f33 f38 f41 f44 x14 g15 g16 g17 g18 g19 g20 g21 g22 g23 g24 g25 g26 g27 g28 g29 g30 g31 g32 g33 g34 g35 g36 g37 g38 g39 g40 g41 g42 g43 g44 t), 0, 0))
  refine hR (t_st (by omega) (by omega) (Nat.le_of_ble_eq_true rfl) (?_ : R (_, _, _, (zMi c0 c1 c2 c3 c4 c5 c6 c7 c8 c9 c10 c11 c12 c13 f0 f9 f10 f11 f12 f13 f15 y16_598 y17_599 f20 f21 f22 f23 f26 f28 f31 f32 f33 f38 f41 f44 x14 g15 g16 g17 g18 g19 g20 g21 g22 (upd g23 (1 : Int).toNat (Int32.ofInt v603)) g24 g25 g26 g27 g28 g29 g30 g31 g32 g33 g34 g35 g36 g37 g38 g39 g40 g41 g42 g43 g44 t), _, _)))
  have hAt606 := tb_uA hr3 (i := (1 : Int)) (e := v603) (by omega) (by omega)
  have hBt606 : y16_598 = 0 → bkR (upd g23 (1 : Int).toNat (Int32.ofInt v603)) := fun hz => bkR_u (hr4 (by omega)) (by omega)
  refine hR (?_ : R (_, _, _, _, _, _))
  refine hR (zcall_i 0 0 (Nat.le_of_ble_eq_true rfl) (Nat.le_of_ble_eq_true rfl) (m_token _ (by omega) _ fun y9_607 y11_608 y12_609 y13_610 y14_611 hp612 hp613 hp614 hp615 => ?_))
  refine (?_ : R (_, _, [], (zMi c0 c1 c2 c3 c4 c5 c6 c7 c8 c9 c10 c11 c12 c13 f0 y9_607 f10 y11_608 y12_609 y13_610 f15 y16_598 y17_599 f20 f21 f22 f23 f26 f28 f31 f32 f33 f38 f41 f44 y14_611 g15 g16 g17 g18 g19 g20 g21 g22 (upd g23 (1 : Int).toNat (Int32.ofInt v603)) g24 g25 g26 g27 g28 g29 g30 g31 g32 g33 g34 g35 g36 g37 g38 g39 g40 g41 g42 g43 g44 t), 0, 0))
  iterate 2 refine hR (?_ : R (_, _, _, _, _, _))
  refine hR (t_o fun v616 rv616 => ?_)
  refine hR (j_any ?_ ?_)
  · skip
    iterate 2 refine hR (?_ : R (_, _, _, _, _, _))
    refine hR (t_o fun v617 rv617 => ?_)
    refine hR (j_any ?_ ?_)
    rotate_left
    · skip
      refine hR (?_ : R (_, _, _, _, _, _))
      exact hR (zret_i rfl (Nat.le_refl _) (zbo (by omega)) (h _ _ _ _ _ _ _ _ _ _ _ (by omega) (by omega) (by omega) (by omega) (by omega) (fun _ => ⟨hAt606, fun hz => hBt606 (by omega)⟩)))
    iterate 4 refine hR (?_ : R (_, _, _, _, _, _))
    refine hR (zcall_i 0 0 (Nat.le_of_ble_eq_true rfl) (Nat.le_of_ble_eq_true rfl) (m_take0 _ 0 3 (by omega) (by omega) (by omega) (by omega) (by omega) _ fun v618 y9_619 y11_620 y12_621 y13_622 y14_623 y15_624 y16_625 y17_626 k24_627 hp628 hp629 hp630 hp631 hp632 hp633 => ?_))
    refine (?_ : R (_, _, (.int (Int32.ofInt v618)) :: [], (zMi c0 c1 c2 c3 c4 c5 c6 c7 c8 c9 c10 c11 c12 c13 f0 y9_619 f10 y11_620 y12_621 y13_622 y15_624 y16_625 y17_626 f20 f21 f22 f23 f26 f28 f31 f32 f33 f38 f41 f44 y14_623 g15 g16 g17 g18 g19 g20 g21 g22 (upd g23 (1 : Int).toNat (Int32.ofInt v603)) k24_627 g25 g26 g27 g28 g29 g30 g31 g32 g33 g34 g35 g36 g37 g38 g39 g40 g41 g42 g43 g44 t), 0, 0))
    refine hR (k_eq (by omega) (fun hc634 => ?_) (fun hc634 => ?_))
    · skip
      refine hR (?_ : R (_, _, _, _, _, _))
      exact hR (zret_i rfl (Nat.le_refl _) (zbo (by omega)) (h _ _ _ _ _ _ _ _ _ _ _ (by omega) (by omega) (by omega) (by omega) (by omega) (fun h => by omega)))
    iterate 4 refine hR (?_ : R (_, _, _, _, _, _))
    refine hR (zcall_i 0 0 (Nat.le_of_ble_eq_true rfl) (Nat.le_of_ble_eq_true rfl) (m_take1 _ 0 3 (by omega) (by omega) (by omega) (by omega) (by omega) _ fun v635 y9_636 y11_637 y12_638 y13_639 y14_640 y15_641 y16_642 y17_643 k24_644 hp645 hp646 hp647 hp648 hp649 hp650 => ?_))
    refine (?_ : R (_, _, (.int (Int32.ofInt v635)) :: [], (zMi c0 c1 c2 c3 c4 c5 c6 c7 c8 c9 c10 c11 c12 c13 f0 y9_636 f10 y11_637 y12_638 y13_639 y15_641 y16_642 y17_643 f20 f21 f22 f23 f26 f28 f31 f32 f33 f38 f41 f44 y14_640 g15 g16 g17 g18 g19 g20 g21 g22 (upd g23 (1 : Int).toNat (Int32.ofInt v603)) k24_644 g25 g26 g27 g28 g29 g30 g31 g32 g33 g34 g35 g36 g37 g38 g39 g40 g41 g42 g43 g44 t), 0, 0))
    refine hR (k_ne (by omega) (fun hc651 => ?_) (fun hc651 => ?_))
    rotate_left
    · skip
      refine hR (?_ : R (_, _, _, _, _, _))
      exact hR (zret_i rfl (Nat.le_refl _) (zbo (by omega)) (h _ _ _ _ _ _ _ _ _ _ _ (by omega) (by omega) (by omega) (by omega) (by omega) (fun h => by omega)))
    iterate 3 refine hR (?_ : R (_, _, _, _, _, _))
    refine hR (t_ldE (by omega) (by omega) (Nat.le_of_ble_eq_true rfl) fun v652 ev652 rv652 => ?_)
    have bv652 : v652 = (k24_644 0).toInt := ev652
    clear ev652
    iterate 2 refine hR (?_ : R (_, _, _, _, _, _))
    refine hR (zcall_i 0 0 (Nat.le_of_ble_eq_true rfl) (Nat.le_of_ble_eq_true rfl) (m_in _ v652 0 3 _ (by omega) (by omega) (by omega) _ fun v653 hp654 => ?_))
    refine (?_ : R (_, _, (.int (Int32.ofInt v653)) :: [], (zMi c0 c1 c2 c3 c4 c5 c6 c7 c8 c9 c10 c11 c12 c13 f0 y9_636 f10 y11_637 y12_638 y13_639 y15_641 y16_642 y17_643 f20 f21 f22 f23 f26 f28 f31 f32 f33 f38 f41 f44 y14_640 g15 g16 g17 g18 g19 g20 g21 g22 (upd g23 (1 : Int).toNat (Int32.ofInt v603)) k24_644 g25 g26 g27 g28 g29 g30 g31 g32 g33 g34 g35 g36 g37 g38 g39 g40 g41 g42 g43 g44 t), 0, 0))
    refine hR (k_eq (by omega) (fun hc655 => ?_) (fun hc655 => ?_))
    · skip
      refine hR (?_ : R (_, _, _, _, _, _))
      exact hR (zret_i rfl (Nat.le_refl _) (zbo (by omega)) (h _ _ _ _ _ _ _ _ _ _ _ (by omega) (by omega) (by omega) (by omega) (by omega) (fun _ => ⟨hAt606, fun hz => hBt606 (by omega)⟩)))
    iterate 6 refine hR (?_ : R (_, _, _, _, _, _))
    refine hR (t_ldE (by omega) (by omega) (Nat.le_of_ble_eq_true rfl) fun v656 ev656 rv656 => ?_)
    have bv656 : v656 = (k24_644 0).toInt := ev656
    clear ev656
    refine hR (t_add ?_)
    iterate 3 refine hR (?_ : R (_, _, _, _, _, _))
    refine hR (t_ldE (by omega) (by omega) (Nat.le_of_ble_eq_true rfl) fun v657 ev657 rv657 => ?_)
    have bv657 : v657 = (k24_644 1).toInt := ev657
    clear ev657
    refine hR (t_st (by omega) (by omega) (Nat.le_of_ble_eq_true rfl) (?_ : R (_, _, _, (zMi c0 c1 c2 c3 c4 c5 c6 c7 c8 c9 c10 c11 c12 c13 f0 y9_636 f10 y11_637 y12_638 y13_639 y15_641 y16_642 y17_643 f20 f21 f22 f23 f26 f28 f31 f32 f33 f38 f41 f44 y14_640 g15 g16 g17 g18 g19 g20 g21 g22 (upd (upd g23 (1 : Int).toNat (Int32.ofInt v603)) (2 + v656).toNat (Int32.ofInt v657)) k24_644 g25 g26 g27 g28 g29 g30 g31 g32 g33 g34 g35 g36 g37 g38 g39 g40 g41 g42 g43 g44 t), _, _)))
    have hAt659 := tb_uA hAt606 (i := 2 + v656) (e := v657) (by omega) (by omega)
    have hBt659 : y16_642 = 0 → bkR (upd (upd g23 (1 : Int).toNat (Int32.ofInt v603)) (2 + v656).toNat (Int32.ofInt v657)) := fun hz => bkR_u (hBt606 (by omega)) (by omega)
    refine hR (?_ : R (_, _, _, _, _, _))
    exact hR (zret_i rfl (Nat.le_refl _) (zbo (by omega)) (h _ _ _ _ _ _ _ _ _ _ _ (by omega) (by omega) (by omega) (by omega) (by omega) (fun _ => ⟨hAt659, fun hz => hBt659 (by omega)⟩)))
  iterate 2 refine hR (?_ : R (_, _, _, _, _, _))
  refine hR (zcall_i 0 0 (Nat.le_of_ble_eq_true rfl) (Nat.le_of_ble_eq_true rfl) (m_takeText0 _ (by omega) (by omega) (by omega) _ fun y9_660 y11_661 y12_662 y13_663 y14_664 y15_665 y16_666 y17_667 k24_668 hp669 hp670 hp671 hp672 hp673 hp674 => ?_))
  refine (?_ : R (_, _, [], (zMi c0 c1 c2 c3 c4 c5 c6 c7 c8 c9 c10 c11 c12 c13 f0 y9_660 f10 y11_661 y12_662 y13_663 y15_665 y16_666 y17_667 f20 f21 f22 f23 f26 f28 f31 f32 f33 f38 f41 f44 y14_664 g15 g16 g17 g18 g19 g20 g21 g22 (upd g23 (1 : Int).toNat (Int32.ofInt v603)) k24_668 g25 g26 g27 g28 g29 g30 g31 g32 g33 g34 g35 g36 g37 g38 g39 g40 g41 g42 g43 g44 t), 0, 0))
  iterate 6 refine hR (?_ : R (_, _, _, _, _, _))
  refine hR (t_ldE (by omega) (by omega) (Nat.le_of_ble_eq_true rfl) fun v675 ev675 rv675 => ?_)
  have bv675 : v675 = (k24_668 0).toInt := ev675
  clear ev675
  refine hR (t_st (by omega) (by omega) (Nat.le_of_ble_eq_true rfl) (?_ : R (_, _, _, (zMi c0 c1 c2 c3 c4 c5 c6 c7 c8 c9 c10 c11 c12 c13 f0 y9_660 f10 y11_661 y12_662 y13_663 y15_665 y16_666 y17_667 f20 f21 f22 f23 f26 f28 f31 f32 f33 f38 f41 f44 y14_664 g15 g16 g17 g18 g19 g20 g21 g22 (upd (upd g23 (1 : Int).toNat (Int32.ofInt v603)) (0 : Int).toNat (Int32.ofInt v675)) k24_668 g25 g26 g27 g28 g29 g30 g31 g32 g33 g34 g35 g36 g37 g38 g39 g40 g41 g42 g43 g44 t), _, _)))
  have hAt677 := tb_uA hAt606 (i := (0 : Int)) (e := v675) (by omega) (by omega)
  have hBt677 : y16_666 = 0 → bkR (upd (upd g23 (1 : Int).toNat (Int32.ofInt v603)) (0 : Int).toNat (Int32.ofInt v675)) := fun hz => bkR_u (hBt606 (by omega)) (by omega)
  iterate 2 refine hR (?_ : R (_, _, _, _, _, _))
  refine hR (t_o fun v678 rv678 => ?_)
  refine hR (j_any ?_ ?_)
  rotate_left
  · skip
    refine hR (?_ : R (_, _, _, _, _, _))
    exact hR (zret_i rfl (Nat.le_refl _) (zbo (by omega)) (h _ _ _ _ _ _ _ _ _ _ _ (by omega) (by omega) (by omega) (by omega) (by omega) (fun _ => ⟨hAt677, fun hz => hBt677 (by omega)⟩)))
  iterate 4 refine hR (?_ : R (_, _, _, _, _, _))
  refine hR (zcall_i 0 0 (Nat.le_of_ble_eq_true rfl) (Nat.le_of_ble_eq_true rfl) (m_take0 _ 0 3 (by omega) (by omega) (by omega) (by omega) (by omega) _ fun v679 y9_680 y11_681 y12_682 y13_683 y14_684 y15_685 y16_686 y17_687 k24_688 hp689 hp690 hp691 hp692 hp693 hp694 => ?_))
  refine (?_ : R (_, _, (.int (Int32.ofInt v679)) :: [], (zMi c0 c1 c2 c3 c4 c5 c6 c7 c8 c9 c10 c11 c12 c13 f0 y9_680 f10 y11_681 y12_682 y13_683 y15_685 y16_686 y17_687 f20 f21 f22 f23 f26 f28 f31 f32 f33 f38 f41 f44 y14_684 g15 g16 g17 g18 g19 g20 g21 g22 (upd (upd g23 (1 : Int).toNat (Int32.ofInt v603)) (0 : Int).toNat (Int32.ofInt v675)) k24_688 g25 g26 g27 g28 g29 g30 g31 g32 g33 g34 g35 g36 g37 g38 g39 g40 g41 g42 g43 g44 t), 0, 0))
  refine hR (k_eq (by omega) (fun hc695 => ?_) (fun hc695 => ?_))
  · skip
    refine hR (?_ : R (_, _, _, _, _, _))
    exact hR (zret_i rfl (Nat.le_refl _) (zbo (by omega)) (h _ _ _ _ _ _ _ _ _ _ _ (by omega) (by omega) (by omega) (by omega) (by omega) (fun h => by omega)))
  iterate 4 refine hR (?_ : R (_, _, _, _, _, _))
  refine hR (zcall_i 0 0 (Nat.le_of_ble_eq_true rfl) (Nat.le_of_ble_eq_true rfl) (m_take1 _ 0 3 (by omega) (by omega) (by omega) (by omega) (by omega) _ fun v696 y9_697 y11_698 y12_699 y13_700 y14_701 y15_702 y16_703 y17_704 k24_705 hp706 hp707 hp708 hp709 hp710 hp711 => ?_))
  refine (?_ : R (_, _, (.int (Int32.ofInt v696)) :: [], (zMi c0 c1 c2 c3 c4 c5 c6 c7 c8 c9 c10 c11 c12 c13 f0 y9_697 f10 y11_698 y12_699 y13_700 y15_702 y16_703 y17_704 f20 f21 f22 f23 f26 f28 f31 f32 f33 f38 f41 f44 y14_701 g15 g16 g17 g18 g19 g20 g21 g22 (upd (upd g23 (1 : Int).toNat (Int32.ofInt v603)) (0 : Int).toNat (Int32.ofInt v675)) k24_705 g25 g26 g27 g28 g29 g30 g31 g32 g33 g34 g35 g36 g37 g38 g39 g40 g41 g42 g43 g44 t), 0, 0))
  refine hR (k_ne (by omega) (fun hc712 => ?_) (fun hc712 => ?_))
  rotate_left
  · skip
    refine hR (?_ : R (_, _, _, _, _, _))
    exact hR (zret_i rfl (Nat.le_refl _) (zbo (by omega)) (h _ _ _ _ _ _ _ _ _ _ _ (by omega) (by omega) (by omega) (by omega) (by omega) (fun h => by omega)))
  iterate 3 refine hR (?_ : R (_, _, _, _, _, _))
  refine hR (t_ldE (by omega) (by omega) (Nat.le_of_ble_eq_true rfl) fun v713 ev713 rv713 => ?_)
  have bv713 : v713 = (k24_705 0).toInt := ev713
  clear ev713
  iterate 2 refine hR (?_ : R (_, _, _, _, _, _))
  refine hR (zcall_i 0 0 (Nat.le_of_ble_eq_true rfl) (Nat.le_of_ble_eq_true rfl) (m_in _ v713 0 3 _ (by omega) (by omega) (by omega) _ fun v714 hp715 => ?_))
  refine (?_ : R (_, _, (.int (Int32.ofInt v714)) :: [], (zMi c0 c1 c2 c3 c4 c5 c6 c7 c8 c9 c10 c11 c12 c13 f0 y9_697 f10 y11_698 y12_699 y13_700 y15_702 y16_703 y17_704 f20 f21 f22 f23 f26 f28 f31 f32 f33 f38 f41 f44 y14_701 g15 g16 g17 g18 g19 g20 g21 g22 (upd (upd g23 (1 : Int).toNat (Int32.ofInt v603)) (0 : Int).toNat (Int32.ofInt v675)) k24_705 g25 g26 g27 g28 g29 g30 g31 g32 g33 g34 g35 g36 g37 g38 g39 g40 g41 g42 g43 g44 t), 0, 0))
  refine hR (k_eq (by omega) (fun hc716 => ?_) (fun hc716 => ?_))
  · skip
    refine hR (?_ : R (_, _, _, _, _, _))
    exact hR (zret_i rfl (Nat.le_refl _) (zbo (by omega)) (h _ _ _ _ _ _ _ _ _ _ _ (by omega) (by omega) (by omega) (by omega) (by omega) (fun _ => ⟨hAt677, fun hz => hBt677 (by omega)⟩)))
  iterate 6 refine hR (?_ : R (_, _, _, _, _, _))
  refine hR (t_ldE (by omega) (by omega) (Nat.le_of_ble_eq_true rfl) fun v717 ev717 rv717 => ?_)
  have bv717 : v717 = (k24_705 0).toInt := ev717
  clear ev717
  refine hR (t_add ?_)
  iterate 3 refine hR (?_ : R (_, _, _, _, _, _))
  refine hR (t_ldE (by omega) (by omega) (Nat.le_of_ble_eq_true rfl) fun v718 ev718 rv718 => ?_)
  have bv718 : v718 = (k24_705 1).toInt := ev718
  clear ev718
  refine hR (t_st (by omega) (by omega) (Nat.le_of_ble_eq_true rfl) (?_ : R (_, _, _, (zMi c0 c1 c2 c3 c4 c5 c6 c7 c8 c9 c10 c11 c12 c13 f0 y9_697 f10 y11_698 y12_699 y13_700 y15_702 y16_703 y17_704 f20 f21 f22 f23 f26 f28 f31 f32 f33 f38 f41 f44 y14_701 g15 g16 g17 g18 g19 g20 g21 g22 (upd (upd (upd g23 (1 : Int).toNat (Int32.ofInt v603)) (0 : Int).toNat (Int32.ofInt v675)) (2 + v717).toNat (Int32.ofInt v718)) k24_705 g25 g26 g27 g28 g29 g30 g31 g32 g33 g34 g35 g36 g37 g38 g39 g40 g41 g42 g43 g44 t), _, _)))
  have hAt720 := tb_uA hAt677 (i := 2 + v717) (e := v718) (by omega) (by omega)
  have hBt720 : y16_703 = 0 → bkR (upd (upd (upd g23 (1 : Int).toNat (Int32.ofInt v603)) (0 : Int).toNat (Int32.ofInt v675)) (2 + v717).toNat (Int32.ofInt v718)) := fun hz => bkR_u (hBt677 (by omega)) (by omega)
  refine hR (?_ : R (_, _, _, _, _, _))
  exact hR (zret_i rfl (Nat.le_refl _) (zbo (by omega)) (h _ _ _ _ _ _ _ _ _ _ _ (by omega) (by omega) (by omega) (by omega) (by omega) (fun _ => ⟨hAt720, fun hz => hBt720 (by omega)⟩)))
end MZ
section MZ
variable {c0 c1 c2 c3 c4 c5 c6 c7 c8 c9 c10 c11 c12 c13 : va_E} {f0 f9 f10 f11 f12 f13 f15 f16 f17 f20 f21 f22 f23 f26 f28 f31 f32 f33 f38 f41 f44 : Int} {x14 : Int64} {g15 g16 g17 g18 g19 g20 g21 g22 g23 g24 g25 g26 g27 g28 g29 g30 g31 g32 g33 g34 g35 g36 g37 g38 g39 g40 g41 g42 g43 g44 : Nat → Int32} {t : zW}
theorem m_keep3 (d : Nat) (hr0 : 0 ≤ (g23 0).toInt ∧ (g23 0).toInt ≤ 40) (Q : zQ) (h : ∀ (k23 : Nat → Int32), (0 ≤ (k23 0).toInt ∧ (k23 0).toInt ≤ 40) → ((g23 0).toInt ≠ 40 → rdOK g24 → yrR g23 → yrR k23) → Q (none) (zMi c0 c1 c2 c3 c4 c5 c6 c7 c8 c9 c10 c11 c12 c13 f0 f9 f10 f11 f12 f13 f15 f16 f17 f20 f21 f22 f23 f26 f28 f31 f32 f33 f38 f41 f44 x14 g15 g16 g17 g18 g19 g20 g21 g22 k23 g24 g25 g26 g27 g28 g29 g30 g31 g32 g33 g34 g35 g36 g37 g38 g39 g40 g41 g42 g43 g44 t)) : zCl zTab (d + 1) iX12_keep [.ref 14, .int (Int32.ofInt 3), .int (Int32.ofInt 40)] (zMi c0 c1 c2 c3 c4 c5 c6 c7 c8 c9 c10 c11 c12 c13 f0 f9 f10 f11 f12 f13 f15 f16 f17 f20 f21 f22 f23 f26 f28 f31 f32 f33 f38 f41 f44 x14 g15 g16 g17 g18 g19 g20 g21 g22 g23 g24 g25 g26 g27 g28 g29 g30 g31 g32 g33 g34 g35 g36 g37 g38 g39 g40 g41 g42 g43 g44 t) 0 0 Q := by
  refine zCl_i (M := kX12_keep) rfl (Nat.le_of_ble_eq_true rfl) fun R hR => ?_
  iterate 3 refine hR (?_ : R (_, _, _, _, _, _))
  refine hR (t_ldE (by omega) (by omega) (Nat.le_of_ble_eq_true rfl) fun v1 ev1 rv1 => ?_)
  have bv1 : v1 = (g23 0).toInt := ev1
  clear ev1
  iterate 3 refine hR (?_ : R (_, _, _, _, _, _))
  refine hR (j_ne (by omega) (by omega) (fun hc2 => ?_) (fun hc2 => ?_))
  rotate_left
  · skip
    exact hR (zret_i rfl (Nat.le_refl _) rfl (h _ (by omega) (fun h => by omega)))
  iterate 2 refine hR (?_ : R (_, _, _, _, _, _))
  have lp16 : ∀ (N : Nat) (i : Int) (q23_16 : Nat → Int32), (0 ≤ i ∧ i ≤ 3) → (q23_16 = kpR g23 (1 + 3 * (g23 0).toInt.toNat) g24 i.toNat) → (3 - i < N) → R (16, [some (.ref 14), some (.int (Int32.ofInt 3)), some (.int (Int32.ofInt 40)), some (.int (Int32.ofInt v1)), some (.int (Int32.ofInt i))], [], (zMi c0 c1 c2 c3 c4 c5 c6 c7 c8 c9 c10 c11 c12 c13 f0 f9 f10 f11 f12 f13 f15 f16 f17 f20 f21 f22 f23 f26 f28 f31 f32 f33 f38 f41 f44 x14 g15 g16 g17 g18 g19 g20 g21 g22 q23_16 g24 g25 g26 g27 g28 g29 g30 g31 g32 g33 g34 g35 g36 g37 g38 g39 g40 g41 g42 g43 g44 t), 0, 0) := by
    intro N
    induction N with
    | zero => intros; omega
    | succ N ih16 =>
      intro i q23_16 hf0_16 hp0_16 hN16
      iterate 2 refine hR (?_ : R (_, _, _, _, _, _))
      refine hR (j_ge (by omega) (by omega) (fun hc3 => ?_) (fun hc3 => ?_))
      · skip
        iterate 4 refine hR (?_ : R (_, _, _, _, _, _))
        refine hR (t_ldE (by omega) (by omega) (Nat.le_of_ble_eq_true rfl) fun v4 ev4 rv4 => ?_)
        refine hR (?_ : R (_, _, _, _, _, _))
        refine hR (t_add ?_)
        refine hR (t_st (by omega) (by omega) (Nat.le_of_ble_eq_true rfl) (?_ : R (_, _, _, (zMi c0 c1 c2 c3 c4 c5 c6 c7 c8 c9 c10 c11 c12 c13 f0 f9 f10 f11 f12 f13 f15 f16 f17 f20 f21 f22 f23 f26 f28 f31 f32 f33 f38 f41 f44 x14 g15 g16 g17 g18 g19 g20 g21 g22 (upd q23_16 (0 : Int).toNat (Int32.ofInt (v4 + 1))) g24 g25 g26 g27 g28 g29 g30 g31 g32 g33 g34 g35 g36 g37 g38 g39 g40 g41 g42 g43 g44 t), _, _)))
        exact hR (zret_i rfl (Nat.le_refl _) rfl (h _ (kp_0 hp0_16 (by omega) ev4 (by omega)) (fun _ h1 h2 => kp_y hp0_16 (by omega) (by omega) (by omega) ev4 h1 h2)))
      iterate 5 refine hR (?_ : R (_, _, _, _, _, _))
      refine hR (t_mul ?_)
      refine hR (t_add ?_)
      refine hR (?_ : R (_, _, _, _, _, _))
      refine hR (t_add ?_)
      iterate 3 refine hR (?_ : R (_, _, _, _, _, _))
      refine hR (t_ldE (by omega) (by omega) (Nat.le_of_ble_eq_true rfl) fun v6 ev6 rv6 => ?_)
      refine hR (t_st (by omega) (by omega) (Nat.le_of_ble_eq_true rfl) (?_ : R (_, _, _, (zMi c0 c1 c2 c3 c4 c5 c6 c7 c8 c9 c10 c11 c12 c13 f0 f9 f10 f11 f12 f13 f15 f16 f17 f20 f21 f22 f23 f26 f28 f31 f32 f33 f38 f41 f44 x14 g15 g16 g17 g18 g19 g20 g21 g22 (upd q23_16 ((1 + (3 * v1)) + i).toNat (Int32.ofInt v6)) g24 g25 g26 g27 g28 g29 g30 g31 g32 g33 g34 g35 g36 g37 g38 g39 g40 g41 g42 g43 g44 t), _, _)))
      refine hR (t_inc ?_)
      refine hR (?_ : R (_, _, _, _, _, _))
      exact ih16 _ _ (by omega) (kpR_s hp0_16 (by omega) (by omega) (by omega) ev6) (by omega)
  exact lp16 400000000 _ _ (by omega) (kpR_0 _ _ _) (by omega)
theorem m_keep2 (d : Nat) (hr0 : 0 ≤ (g23 0).toInt ∧ (g23 0).toInt ≤ 6) (Q : zQ) (h : ∀ (k23 : Nat → Int32), (0 ≤ (k23 0).toInt ∧ (k23 0).toInt ≤ 6) → Q (none) (zMi c0 c1 c2 c3 c4 c5 c6 c7 c8 c9 c10 c11 c12 c13 f0 f9 f10 f11 f12 f13 f15 f16 f17 f20 f21 f22 f23 f26 f28 f31 f32 f33 f38 f41 f44 x14 g15 g16 g17 g18 g19 g20 g21 g22 k23 g24 g25 g26 g27 g28 g29 g30 g31 g32 g33 g34 g35 g36 g37 g38 g39 g40 g41 g42 g43 g44 t)) : zCl zTab (d + 1) iX12_keep [.ref 14, .int (Int32.ofInt 2), .int (Int32.ofInt 6)] (zMi c0 c1 c2 c3 c4 c5 c6 c7 c8 c9 c10 c11 c12 c13 f0 f9 f10 f11 f12 f13 f15 f16 f17 f20 f21 f22 f23 f26 f28 f31 f32 f33 f38 f41 f44 x14 g15 g16 g17 g18 g19 g20 g21 g22 g23 g24 g25 g26 g27 g28 g29 g30 g31 g32 g33 g34 g35 g36 g37 g38 g39 g40 g41 g42 g43 g44 t) 0 0 Q := by
  refine zCl_i (M := kX12_keep) rfl (Nat.le_of_ble_eq_true rfl) fun R hR => ?_
  iterate 3 refine hR (?_ : R (_, _, _, _, _, _))
  refine hR (t_ldE (by omega) (by omega) (Nat.le_of_ble_eq_true rfl) fun v1 ev1 rv1 => ?_)
  have bv1 : v1 = (g23 0).toInt := ev1
  clear ev1
  iterate 3 refine hR (?_ : R (_, _, _, _, _, _))
  refine hR (j_ne (by omega) (by omega) (fun hc2 => ?_) (fun hc2 => ?_))
  rotate_left
  · skip
    exact hR (zret_i rfl (Nat.le_refl _) rfl (h _ (by omega)))
  iterate 2 refine hR (?_ : R (_, _, _, _, _, _))
  have lp16 : ∀ (N : Nat) (i : Int) (q23_16 : Nat → Int32), (0 ≤ i ∧ i ≤ 2) → (q23_16 = kpR g23 (1 + 2 * (g23 0).toInt.toNat) g24 i.toNat) → (2 - i < N) → R (16, [some (.ref 14), some (.int (Int32.ofInt 2)), some (.int (Int32.ofInt 6)), some (.int (Int32.ofInt v1)), some (.int (Int32.ofInt i))], [], (zMi c0 c1 c2 c3 c4 c5 c6 c7 c8 c9 c10 c11 c12 c13 f0 f9 f10 f11 f12 f13 f15 f16 f17 f20 f21 f22 f23 f26 f28 f31 f32 f33 f38 f41 f44 x14 g15 g16 g17 g18 g19 g20 g21 g22 q23_16 g24 g25 g26 g27 g28 g29 g30 g31 g32 g33 g34 g35 g36 g37 g38 g39 g40 g41 g42 g43 g44 t), 0, 0) := by
    intro N
    induction N with
    | zero => intros; omega
    | succ N ih16 =>
      intro i q23_16 hf0_16 hp0_16 hN16
      iterate 2 refine hR (?_ : R (_, _, _, _, _, _))
      refine hR (j_ge (by omega) (by omega) (fun hc3 => ?_) (fun hc3 => ?_))
      · skip
        iterate 4 refine hR (?_ : R (_, _, _, _, _, _))
        refine hR (t_ldE (by omega) (by omega) (Nat.le_of_ble_eq_true rfl) fun v4 ev4 rv4 => ?_)
        refine hR (?_ : R (_, _, _, _, _, _))
        refine hR (t_add ?_)
        refine hR (t_st (by omega) (by omega) (Nat.le_of_ble_eq_true rfl) (?_ : R (_, _, _, (zMi c0 c1 c2 c3 c4 c5 c6 c7 c8 c9 c10 c11 c12 c13 f0 f9 f10 f11 f12 f13 f15 f16 f17 f20 f21 f22 f23 f26 f28 f31 f32 f33 f38 f41 f44 x14 g15 g16 g17 g18 g19 g20 g21 g22 (upd q23_16 (0 : Int).toNat (Int32.ofInt (v4 + 1))) g24 g25 g26 g27 g28 g29 g30 g31 g32 g33 g34 g35 g36 g37 g38 g39 g40 g41 g42 g43 g44 t), _, _)))
        exact hR (zret_i rfl (Nat.le_refl _) rfl (h _ (kp_0 hp0_16 (by omega) ev4 (by omega))))
      iterate 5 refine hR (?_ : R (_, _, _, _, _, _))
      refine hR (t_mul ?_)
      refine hR (t_add ?_)
      refine hR (?_ : R (_, _, _, _, _, _))
      refine hR (t_add ?_)
      iterate 3 refine hR (?_ : R (_, _, _, _, _, _))
      refine hR (t_ldE (by omega) (by omega) (Nat.le_of_ble_eq_true rfl) fun v6 ev6 rv6 => ?_)
      refine hR (t_st (by omega) (by omega) (Nat.le_of_ble_eq_true rfl) (?_ : R (_, _, _, (zMi c0 c1 c2 c3 c4 c5 c6 c7 c8 c9 c10 c11 c12 c13 f0 f9 f10 f11 f12 f13 f15 f16 f17 f20 f21 f22 f23 f26 f28 f31 f32 f33 f38 f41 f44 x14 g15 g16 g17 g18 g19 g20 g21 g22 (upd q23_16 ((1 + (2 * v1)) + i).toNat (Int32.ofInt v6)) g24 g25 g26 g27 g28 g29 g30 g31 g32 g33 g34 g35 g36 g37 g38 g39 g40 g41 g42 g43 g44 t), _, _)))
      refine hR (t_inc ?_)
      refine hR (?_ : R (_, _, _, _, _, _))
      exact ih16 _ _ (by omega) (kpR_s hp0_16 (by omega) (by omega) (by omega) ev6) (by omega)
  exact lp16 400000000 _ _ (by omega) (kpR_0 _ _ _) (by omega)
theorem m_yearLine (d : Nat) (a2 : Int) (lw : Int64) (hr0 : 0 ≤ f9 ∧ f9 ≤ f10 ∧ f10 ≤ 600) (hr1 : 0 ≤ f12 ∧ f12 ≤ 4 ∧ (f12 = 3 → 0 ≤ f13 ∧ f13 ≤ 99)) (hr2 : 0 ≤ f16 ∧ f16 ≤ 4) (hr3 : 0 ≤ (g23 0).toInt ∧ (g23 0).toInt ≤ 40) (hr4 : f16 = 0 → yrR g23) (Q : zQ) (h : ∀ (v : Int) (y9 : Int) (y11 : Int) (y12 : Int) (y13 : Int) (y14 : Int64) (y15 : Int) (y16 : Int) (y17 : Int) (k23 : Nat → Int32) (k24 : Nat → Int32), (f9 ≤ y9 ∧ y9 ≤ f10) → (0 ≤ y12 ∧ y12 ≤ 4 ∧ (y12 = 3 → 0 ≤ y13 ∧ y13 ≤ 99)) → (0 ≤ y16 ∧ y16 ≤ 4) → (v = 0 ∨ v = 1) → (v = 1 → y12 = 0 ∨ f9 < y9) → (v = 1 → (0 ≤ (k23 0).toInt ∧ (k23 0).toInt ≤ 40) ∧ (y16 = 0 → yrR k23)) → Q (some (.int (Int32.ofInt v))) (zMi c0 c1 c2 c3 c4 c5 c6 c7 c8 c9 c10 c11 c12 c13 f0 y9 f10 y11 y12 y13 y15 y16 y17 f20 f21 f22 f23 f26 f28 f31 f32 f33 f38 f41 f44 y14 g15 g16 g17 g18 g19 g20 g21 g22 k23 k24 g25 g26 g27 g28 g29 g30 g31 g32 g33 g34 g35 g36 g37 g38 g39 g40 g41 g42 g43 g44 t)) : zCl zTab (d + 5) iX12_yearLine [.ref 14, .long lw, .int (Int32.ofInt a2)] (zMi c0 c1 c2 c3 c4 c5 c6 c7 c8 c9 c10 c11 c12 c13 f0 f9 f10 f11 f12 f13 f15 f16 f17 f20 f21 f22 f23 f26 f28 f31 f32 f33 f38 f41 f44 x14 g15 g16 g17 g18 g19 g20 g21 g22 g23 g24 g25 g26 g27 g28 g29 g30 g31 g32 g33 g34 g35 g36 g37 g38 g39 g40 g41 g42 g43 g44 t) 0 0 Q := by
  refine zCl_i (M := kX12_yearLine) rfl (Nat.le_of_ble_eq_true rfl) fun R hR => ?_
  refine hR (?_ : R (_, _, _, _, _, _))
  refine hR (zcall_i 0 0 (Nat.le_of_ble_eq_true rfl) (Nat.le_of_ble_eq_true rfl) (m_deedBy _ _ _ _ fun v1 hp2 => ?_))
  refine (?_ : R (_, _, (.int (Int32.ofInt v1)) :: [], (zMi c0 c1 c2 c3 c4 c5 c6 c7 c8 c9 c10 c11 c12 c13 f0 f9 f10 f11 f12 f13 f15 f16 f17 f20 f21 f22 f23 f26 f28 f31 f32 f33 f38 f41 f44 x14 g15 g16 g17 g18 g19 g20 g21 g22 g23 g24 g25 g26 g27 g28 g29 g30 g31 g32 g33 g34 g35 g36 g37 g38 g39 g40 g41 g42 g43 g44 t), 0, 0))
  iterate 3 refine hR (?_ : R (_, _, _, _, _, _))
  refine hR (j_ne (by omega) (by omega) (fun hc3 => ?_) (fun hc3 => ?_))
  rotate_left
  · skip
    refine hR (?_ : R (_, _, _, _, _, _))
    refine hR (zcall_i 0 0 (Nat.le_of_ble_eq_true rfl) (Nat.le_of_ble_eq_true rfl) (m_fails _ _ fun v181 y15_182 hp183 => ?_))
    refine (?_ : R (_, _, (.int (Int32.ofInt v181)) :: [], (zMi c0 c1 c2 c3 c4 c5 c6 c7 c8 c9 c10 c11 c12 c13 f0 f9 f10 f11 f12 f13 y15_182 f16 f17 f20 f21 f22 f23 f26 f28 f31 f32 f33 f38 f41 f44 x14 g15 g16 g17 g18 g19 g20 g21 g22 g23 g24 g25 g26 g27 g28 g29 g30 g31 g32 g33 g34 g35 g36 g37 g38 g39 g40 g41 g42 g43 g44 t), 0, 0))
    exact hR (zret_i rfl (Nat.le_refl _) (zbo (by omega)) (h _ _ _ _ _ _ _ _ _ _ _ (by omega) (by omega) (by omega) (by omega) (by omega) (fun h => by omega)))
  iterate 2 refine hR (?_ : R (_, _, _, _, _, _))
  refine hR (t_c 40 (by decide) ?_)
  refine hR (?_ : R (_, _, _, _, _, _))
  refine hR (zcall_i 0 0 (Nat.le_of_ble_eq_true rfl) (Nat.le_of_ble_eq_true rfl) (m_full0 _ 40 a2 (by omega) (by omega) _ fun y16_4 y17_5 hp6 hp7 => ?_))
  refine (?_ : R (_, _, [], (zMi c0 c1 c2 c3 c4 c5 c6 c7 c8 c9 c10 c11 c12 c13 f0 f9 f10 f11 f12 f13 f15 y16_4 y17_5 f20 f21 f22 f23 f26 f28 f31 f32 f33 f38 f41 f44 x14 g15 g16 g17 g18 g19 g20 g21 g22 g23 g24 g25 g26 g27 g28 g29 g30 g31 g32 g33 g34 g35 g36 g37 g38 g39 g40 g41 g42 g43 g44 t), 0, 0))
  refine hR (?_ : R (_, _, _, _, _, _))
  refine hR (zcall_i 0 0 (Nat.le_of_ble_eq_true rfl) (Nat.le_of_ble_eq_true rfl) (m_token _ (by omega) _ fun y9_8 y11_9 y12_10 y13_11 y14_12 hp13 hp14 hp15 hp16 => ?_))
  refine (?_ : R (_, _, [], (zMi c0 c1 c2 c3 c4 c5 c6 c7 c8 c9 c10 c11 c12 c13 f0 y9_8 f10 y11_9 y12_10 y13_11 f15 y16_4 y17_5 f20 f21 f22 f23 f26 f28 f31 f32 f33 f38 f41 f44 y14_12 g15 g16 g17 g18 g19 g20 g21 g22 g23 g24 g25 g26 g27 g28 g29 g30 g31 g32 g33 g34 g35 g36 g37 g38 g39 g40 g41 g42 g43 g44 t), 0, 0))
  iterate 4 refine hR (?_ : R (_, _, _, _, _, _))
  refine hR (t_stV 1 rfl (by omega) (by omega) (by omega) (by omega) (Nat.le_of_ble_eq_true rfl) fun k24_17 hvk24_17 hwk24_17 => (?_ : R (_, _, _, (zMi c0 c1 c2 c3 c4 c5 c6 c7 c8 c9 c10 c11 c12 c13 f0 y9_8 f10 y11_9 y12_10 y13_11 f15 y16_4 y17_5 f20 f21 f22 f23 f26 f28 f31 f32 f33 f38 f41 f44 y14_12 g15 g16 g17 g18 g19 g20 g21 g22 g23 k24_17 g25 g26 g27 g28 g29 g30 g31 g32 g33 g34 g35 g36 g37 g38 g39 g40 g41 g42 g43 g44 t), _, _)))
  have hxk24_17_0 : (k24_17 0).toInt = (g24 0).toInt := by rw [hwk24_17 0 (by decide)]
  have hxk24_17_2 : (k24_17 2).toInt = (g24 2).toInt := by rw [hwk24_17 2 (by decide)]
  iterate 4 refine hR (?_ : R (_, _, _, _, _, _))
  refine hR (t_stV 2 rfl (by omega) (by omega) (by omega) (by omega) (Nat.le_of_ble_eq_true rfl) fun k24_18 hvk24_18 hwk24_18 => (?_ : R (_, _, _, (zMi c0 c1 c2 c3 c4 c5 c6 c7 c8 c9 c10 c11 c12 c13 f0 y9_8 f10 y11_9 y12_10 y13_11 f15 y16_4 y17_5 f20 f21 f22 f23 f26 f28 f31 f32 f33 f38 f41 f44 y14_12 g15 g16 g17 g18 g19 g20 g21 g22 g23 k24_18 g25 g26 g27 g28 g29 g30 g31 g32 g33 g34 g35 g36 g37 g38 g39 g40 g41 g42 g43 g44 t), _, _)))
  have hxk24_18_0 : (k24_18 0).toInt = (k24_17 0).toInt := by rw [hwk24_18 0 (by decide)]
  have hxk24_18_1 : (k24_18 1).toInt = (k24_17 1).toInt := by rw [hwk24_18 1 (by decide)]
  iterate 2 refine hR (?_ : R (_, _, _, _, _, _))
  refine hR (j_eq (by omega) (by omega) (fun hc19 => ?_) (fun hc19 => ?_))
  · skip
    refine hR (?_ : R (_, _, _, _, _, _))
    refine hR (k_ne (by omega) (fun hc20 => ?_) (fun hc20 => ?_))
    · skip
      iterate 2 refine hR (?_ : R (_, _, _, _, _, _))
      refine hR (j_ne (by omega) (by omega) (fun hc21 => ?_) (fun hc21 => ?_))
      · skip
        iterate 4 refine hR (?_ : R (_, _, _, _, _, _))
        refine hR (t_stV 0 rfl (by omega) (by omega) (by omega) (by omega) (Nat.le_of_ble_eq_true rfl) fun k24_22 hvk24_22 hwk24_22 => (?_ : R (_, _, _, (zMi c0 c1 c2 c3 c4 c5 c6 c7 c8 c9 c10 c11 c12 c13 f0 y9_8 f10 y11_9 y12_10 y13_11 f15 y16_4 y17_5 f20 f21 f22 f23 f26 f28 f31 f32 f33 f38 f41 f44 y14_12 g15 g16 g17 g18 g19 g20 g21 g22 g23 k24_22 g25 g26 g27 g28 g29 g30 g31 g32 g33 g34 g35 g36 g37 g38 g39 g40 g41 g42 g43 g44 t), _, _)))
        have hxk24_22_1 : (k24_22 1).toInt = (k24_18 1).toInt := by rw [hwk24_22 1 (by decide)]
        have hxk24_22_2 : (k24_22 2).toInt = (k24_18 2).toInt := by rw [hwk24_22 2 (by decide)]
        iterate 2 refine hR (?_ : R (_, _, _, _, _, _))
        refine hR (t_c 40 (by decide) ?_)
        refine hR (zcall_i 0 0 (Nat.le_of_ble_eq_true rfl) (Nat.le_of_ble_eq_true rfl) (m_keep3 _ (by omega) _ fun k23_23 hp24 hp25 => ?_))
        refine (?_ : R (_, _, [], (zMi c0 c1 c2 c3 c4 c5 c6 c7 c8 c9 c10 c11 c12 c13 f0 y9_8 f10 y11_9 y12_10 y13_11 f15 y16_4 y17_5 f20 f21 f22 f23 f26 f28 f31 f32 f33 f38 f41 f44 y14_12 g15 g16 g17 g18 g19 g20 g21 g22 k23_23 k24_22 g25 g26 g27 g28 g29 g30 g31 g32 g33 g34 g35 g36 g37 g38 g39 g40 g41 g42 g43 g44 t), 0, 0))
        refine hR (?_ : R (_, _, _, _, _, _))
        exact hR (zret_i rfl (Nat.le_refl _) (zbo (by omega)) (h _ _ _ _ _ _ _ _ _ _ _ (by omega) (by omega) (by omega) (by omega) (by omega) (fun _ => ⟨by omega, fun hz => hp25 (by omega) (yl_r (by omega) (by omega) (by omega) (by omega) (by omega)) (hr4 (by omega))⟩)))
      iterate 7 refine hR (?_ : R (_, _, _, _, _, _))
      refine hR (t_ldE (by omega) (by omega) (Nat.le_of_ble_eq_true rfl) fun v26 ev26 rv26 => ?_)
      have bv26 : v26 = (k24_18 1).toInt := ev26
      clear ev26
      refine hR (zcall_i 0 0 (Nat.le_of_ble_eq_true rfl) (Nat.le_of_ble_eq_true rfl) (m_takeBut2 _ 0 3 v26 (by omega) (by omega) (by omega) (by omega) (by omega) (by omega) _ fun v27 y9_28 y11_29 y12_30 y13_31 y14_32 y15_33 y16_34 y17_35 k24_36 hp37 hp38 hp39 hp40 hp41 hp42 => ?_))
      refine (?_ : R (_, _, (.int (Int32.ofInt v27)) :: [], (zMi c0 c1 c2 c3 c4 c5 c6 c7 c8 c9 c10 c11 c12 c13 f0 y9_28 f10 y11_29 y12_30 y13_31 y15_33 y16_34 y17_35 f20 f21 f22 f23 f26 f28 f31 f32 f33 f38 f41 f44 y14_32 g15 g16 g17 g18 g19 g20 g21 g22 g23 k24_36 g25 g26 g27 g28 g29 g30 g31 g32 g33 g34 g35 g36 g37 g38 g39 g40 g41 g42 g43 g44 t), 0, 0))
      refine hR (k_ne (by omega) (fun hc43 => ?_) (fun hc43 => ?_))
      rotate_left
      · skip
        refine hR (?_ : R (_, _, _, _, _, _))
        exact hR (zret_i rfl (Nat.le_refl _) (zbo (by omega)) (h _ _ _ _ _ _ _ _ _ _ _ (by omega) (by omega) (by omega) (by omega) (by omega) (fun h => by omega)))
      iterate 4 refine hR (?_ : R (_, _, _, _, _, _))
      refine hR (t_stV 0 rfl (by omega) (by omega) (by omega) (by omega) (Nat.le_of_ble_eq_true rfl) fun k24_44 hvk24_44 hwk24_44 => (?_ : R (_, _, _, (zMi c0 c1 c2 c3 c4 c5 c6 c7 c8 c9 c10 c11 c12 c13 f0 y9_28 f10 y11_29 y12_30 y13_31 y15_33 y16_34 y17_35 f20 f21 f22 f23 f26 f28 f31 f32 f33 f38 f41 f44 y14_32 g15 g16 g17 g18 g19 g20 g21 g22 g23 k24_44 g25 g26 g27 g28 g29 g30 g31 g32 g33 g34 g35 g36 g37 g38 g39 g40 g41 g42 g43 g44 t), _, _)))
      have hxk24_44_1 : (k24_44 1).toInt = (k24_36 1).toInt := by rw [hwk24_44 1 (by decide)]
      have hxk24_44_2 : (k24_44 2).toInt = (k24_36 2).toInt := by rw [hwk24_44 2 (by decide)]
      iterate 2 refine hR (?_ : R (_, _, _, _, _, _))
      refine hR (t_c 40 (by decide) ?_)
      refine hR (zcall_i 0 0 (Nat.le_of_ble_eq_true rfl) (Nat.le_of_ble_eq_true rfl) (m_keep3 _ (by omega) _ fun k23_45 hp46 hp47 => ?_))
      refine (?_ : R (_, _, [], (zMi c0 c1 c2 c3 c4 c5 c6 c7 c8 c9 c10 c11 c12 c13 f0 y9_28 f10 y11_29 y12_30 y13_31 y15_33 y16_34 y17_35 f20 f21 f22 f23 f26 f28 f31 f32 f33 f38 f41 f44 y14_32 g15 g16 g17 g18 g19 g20 g21 g22 k23_45 k24_44 g25 g26 g27 g28 g29 g30 g31 g32 g33 g34 g35 g36 g37 g38 g39 g40 g41 g42 g43 g44 t), 0, 0))
      refine hR (?_ : R (_, _, _, _, _, _))
      exact hR (zret_i rfl (Nat.le_refl _) (zbo (by omega)) (h _ _ _ _ _ _ _ _ _ _ _ (by omega) (by omega) (by omega) (by omega) (by omega) (fun _ => ⟨by omega, fun hz => hp47 (by omega) (yl_r (by omega) (by omega) (by omega) (by omega) (by omega)) (hr4 (by omega))⟩)))
    iterate 4 refine hR (?_ : R (_, _, _, _, _, _))
    refine hR (zcall_i 0 0 (Nat.le_of_ble_eq_true rfl) (Nat.le_of_ble_eq_true rfl) (m_take2 _ 0 4 (by omega) (by omega) (by omega) (by omega) (by omega) _ fun v48 y9_49 y11_50 y12_51 y13_52 y14_53 y15_54 y16_55 y17_56 k24_57 hp58 hp59 hp60 hp61 hp62 hp63 => ?_))
    refine (?_ : R (_, _, (.int (Int32.ofInt v48)) :: [], (zMi c0 c1 c2 c3 c4 c5 c6 c7 c8 c9 c10 c11 c12 c13 f0 y9_49 f10 y11_50 y12_51 y13_52 y15_54 y16_55 y17_56 f20 f21 f22 f23 f26 f28 f31 f32 f33 f38 f41 f44 y14_53 g15 g16 g17 g18 g19 g20 g21 g22 g23 k24_57 g25 g26 g27 g28 g29 g30 g31 g32 g33 g34 g35 g36 g37 g38 g39 g40 g41 g42 g43 g44 t), 0, 0))
    refine hR (k_eq (by omega) (fun hc64 => ?_) (fun hc64 => ?_))
    · skip
      refine hR (?_ : R (_, _, _, _, _, _))
      exact hR (zret_i rfl (Nat.le_refl _) (zbo (by omega)) (h _ _ _ _ _ _ _ _ _ _ _ (by omega) (by omega) (by omega) (by omega) (by omega) (fun h => by omega)))
    iterate 2 refine hR (?_ : R (_, _, _, _, _, _))
    refine hR (j_ne (by omega) (by omega) (fun hc65 => ?_) (fun hc65 => ?_))
    · skip
      iterate 4 refine hR (?_ : R (_, _, _, _, _, _))
      refine hR (t_stV 0 rfl (by omega) (by omega) (by omega) (by omega) (Nat.le_of_ble_eq_true rfl) fun k24_66 hvk24_66 hwk24_66 => (?_ : R (_, _, _, (zMi c0 c1 c2 c3 c4 c5 c6 c7 c8 c9 c10 c11 c12 c13 f0 y9_49 f10 y11_50 y12_51 y13_52 y15_54 y16_55 y17_56 f20 f21 f22 f23 f26 f28 f31 f32 f33 f38 f41 f44 y14_53 g15 g16 g17 g18 g19 g20 g21 g22 g23 k24_66 g25 g26 g27 g28 g29 g30 g31 g32 g33 g34 g35 g36 g37 g38 g39 g40 g41 g42 g43 g44 t), _, _)))
      have hxk24_66_1 : (k24_66 1).toInt = (k24_57 1).toInt := by rw [hwk24_66 1 (by decide)]
      have hxk24_66_2 : (k24_66 2).toInt = (k24_57 2).toInt := by rw [hwk24_66 2 (by decide)]
      iterate 2 refine hR (?_ : R (_, _, _, _, _, _))
      refine hR (t_c 40 (by decide) ?_)
      refine hR (zcall_i 0 0 (Nat.le_of_ble_eq_true rfl) (Nat.le_of_ble_eq_true rfl) (m_keep3 _ (by omega) _ fun k23_67 hp68 hp69 => ?_))
      refine (?_ : R (_, _, [], (zMi c0 c1 c2 c3 c4 c5 c6 c7 c8 c9 c10 c11 c12 c13 f0 y9_49 f10 y11_50 y12_51 y13_52 y15_54 y16_55 y17_56 f20 f21 f22 f23 f26 f28 f31 f32 f33 f38 f41 f44 y14_53 g15 g16 g17 g18 g19 g20 g21 g22 k23_67 k24_66 g25 g26 g27 g28 g29 g30 g31 g32 g33 g34 g35 g36 g37 g38 g39 g40 g41 g42 g43 g44 t), 0, 0))
      refine hR (?_ : R (_, _, _, _, _, _))
      exact hR (zret_i rfl (Nat.le_refl _) (zbo (by omega)) (h _ _ _ _ _ _ _ _ _ _ _ (by omega) (by omega) (by omega) (by omega) (by omega) (fun _ => ⟨by omega, fun hz => hp69 (by omega) (yl_r (by omega) (by omega) (by omega) (by omega) (by omega)) (hr4 (by omega))⟩)))
    iterate 7 refine hR (?_ : R (_, _, _, _, _, _))
    refine hR (t_ldE (by omega) (by omega) (Nat.le_of_ble_eq_true rfl) fun v70 ev70 rv70 => ?_)
    have bv70 : v70 = (k24_57 1).toInt := ev70
    clear ev70
    refine hR (zcall_i 0 0 (Nat.le_of_ble_eq_true rfl) (Nat.le_of_ble_eq_true rfl) (m_takeBut2 _ 0 3 v70 (by omega) (by omega) (by omega) (by omega) (by omega) (by omega) _ fun v71 y9_72 y11_73 y12_74 y13_75 y14_76 y15_77 y16_78 y17_79 k24_80 hp81 hp82 hp83 hp84 hp85 hp86 => ?_))
    refine (?_ : R (_, _, (.int (Int32.ofInt v71)) :: [], (zMi c0 c1 c2 c3 c4 c5 c6 c7 c8 c9 c10 c11 c12 c13 f0 y9_72 f10 y11_73 y12_74 y13_75 y15_77 y16_78 y17_79 f20 f21 f22 f23 f26 f28 f31 f32 f33 f38 f41 f44 y14_76 g15 g16 g17 g18 g19 g20 g21 g22 g23 k24_80 g25 g26 g27 g28 g29 g30 g31 g32 g33 g34 g35 g36 g37 g38 g39 g40 g41 g42 g43 g44 t), 0, 0))
    refine hR (k_ne (by omega) (fun hc87 => ?_) (fun hc87 => ?_))
    rotate_left
    · skip
      refine hR (?_ : R (_, _, _, _, _, _))
      exact hR (zret_i rfl (Nat.le_refl _) (zbo (by omega)) (h _ _ _ _ _ _ _ _ _ _ _ (by omega) (by omega) (by omega) (by omega) (by omega) (fun h => by omega)))
    iterate 4 refine hR (?_ : R (_, _, _, _, _, _))
    refine hR (t_stV 0 rfl (by omega) (by omega) (by omega) (by omega) (Nat.le_of_ble_eq_true rfl) fun k24_88 hvk24_88 hwk24_88 => (?_ : R (_, _, _, (zMi c0 c1 c2 c3 c4 c5 c6 c7 c8 c9 c10 c11 c12 c13 f0 y9_72 f10 y11_73 y12_74 y13_75 y15_77 y16_78 y17_79 f20 f21 f22 f23 f26 f28 f31 f32 f33 f38 f41 f44 y14_76 g15 g16 g17 g18 g19 g20 g21 g22 g23 k24_88 g25 g26 g27 g28 g29 g30 g31 g32 g33 g34 g35 g36 g37 g38 g39 g40 g41 g42 g43 g44 t), _, _)))
    have hxk24_88_1 : (k24_88 1).toInt = (k24_80 1).toInt := by rw [hwk24_88 1 (by decide)]
    have hxk24_88_2 : (k24_88 2).toInt = (k24_80 2).toInt := by rw [hwk24_88 2 (by decide)]
    iterate 2 refine hR (?_ : R (_, _, _, _, _, _))
    refine hR (t_c 40 (by decide) ?_)
    refine hR (zcall_i 0 0 (Nat.le_of_ble_eq_true rfl) (Nat.le_of_ble_eq_true rfl) (m_keep3 _ (by omega) _ fun k23_89 hp90 hp91 => ?_))
    refine (?_ : R (_, _, [], (zMi c0 c1 c2 c3 c4 c5 c6 c7 c8 c9 c10 c11 c12 c13 f0 y9_72 f10 y11_73 y12_74 y13_75 y15_77 y16_78 y17_79 f20 f21 f22 f23 f26 f28 f31 f32 f33 f38 f41 f44 y14_76 g15 g16 g17 g18 g19 g20 g21 g22 k23_89 k24_88 g25 g26 g27 g28 g29 g30 g31 g32 g33 g34 g35 g36 g37 g38 g39 g40 g41 g42 g43 g44 t), 0, 0))
    refine hR (?_ : R (_, _, _, _, _, _))
    exact hR (zret_i rfl (Nat.le_refl _) (zbo (by omega)) (h _ _ _ _ _ _ _ _ _ _ _ (by omega) (by omega) (by omega) (by omega) (by omega) (fun _ => ⟨by omega, fun hz => hp91 (by omega) (yl_r (by omega) (by omega) (by omega) (by omega) (by omega)) (hr4 (by omega))⟩)))
  iterate 4 refine hR (?_ : R (_, _, _, _, _, _))
  refine hR (zcall_i 0 0 (Nat.le_of_ble_eq_true rfl) (Nat.le_of_ble_eq_true rfl) (m_take1 _ 0 3 (by omega) (by omega) (by omega) (by omega) (by omega) _ fun v92 y9_93 y11_94 y12_95 y13_96 y14_97 y15_98 y16_99 y17_100 k24_101 hp102 hp103 hp104 hp105 hp106 hp107 => ?_))
  refine (?_ : R (_, _, (.int (Int32.ofInt v92)) :: [], (zMi c0 c1 c2 c3 c4 c5 c6 c7 c8 c9 c10 c11 c12 c13 f0 y9_93 f10 y11_94 y12_95 y13_96 y15_98 y16_99 y17_100 f20 f21 f22 f23 f26 f28 f31 f32 f33 f38 f41 f44 y14_97 g15 g16 g17 g18 g19 g20 g21 g22 g23 k24_101 g25 g26 g27 g28 g29 g30 g31 g32 g33 g34 g35 g36 g37 g38 g39 g40 g41 g42 g43 g44 t), 0, 0))
  refine hR (k_eq (by omega) (fun hc108 => ?_) (fun hc108 => ?_))
  · skip
    refine hR (?_ : R (_, _, _, _, _, _))
    exact hR (zret_i rfl (Nat.le_refl _) (zbo (by omega)) (h _ _ _ _ _ _ _ _ _ _ _ (by omega) (by omega) (by omega) (by omega) (by omega) (fun h => by omega)))
  refine hR (?_ : R (_, _, _, _, _, _))
  refine hR (k_ne (by omega) (fun hc109 => ?_) (fun hc109 => ?_))
  · skip
    iterate 2 refine hR (?_ : R (_, _, _, _, _, _))
    refine hR (j_ne (by omega) (by omega) (fun hc110 => ?_) (fun hc110 => ?_))
    · skip
      iterate 4 refine hR (?_ : R (_, _, _, _, _, _))
      refine hR (t_stV 0 rfl (by omega) (by omega) (by omega) (by omega) (Nat.le_of_ble_eq_true rfl) fun k24_111 hvk24_111 hwk24_111 => (?_ : R (_, _, _, (zMi c0 c1 c2 c3 c4 c5 c6 c7 c8 c9 c10 c11 c12 c13 f0 y9_93 f10 y11_94 y12_95 y13_96 y15_98 y16_99 y17_100 f20 f21 f22 f23 f26 f28 f31 f32 f33 f38 f41 f44 y14_97 g15 g16 g17 g18 g19 g20 g21 g22 g23 k24_111 g25 g26 g27 g28 g29 g30 g31 g32 g33 g34 g35 g36 g37 g38 g39 g40 g41 g42 g43 g44 t), _, _)))
      have hxk24_111_1 : (k24_111 1).toInt = (k24_101 1).toInt := by rw [hwk24_111 1 (by decide)]
      have hxk24_111_2 : (k24_111 2).toInt = (k24_101 2).toInt := by rw [hwk24_111 2 (by decide)]
      iterate 2 refine hR (?_ : R (_, _, _, _, _, _))
      refine hR (t_c 40 (by decide) ?_)
      refine hR (zcall_i 0 0 (Nat.le_of_ble_eq_true rfl) (Nat.le_of_ble_eq_true rfl) (m_keep3 _ (by omega) _ fun k23_112 hp113 hp114 => ?_))
      refine (?_ : R (_, _, [], (zMi c0 c1 c2 c3 c4 c5 c6 c7 c8 c9 c10 c11 c12 c13 f0 y9_93 f10 y11_94 y12_95 y13_96 y15_98 y16_99 y17_100 f20 f21 f22 f23 f26 f28 f31 f32 f33 f38 f41 f44 y14_97 g15 g16 g17 g18 g19 g20 g21 g22 k23_112 k24_111 g25 g26 g27 g28 g29 g30 g31 g32 g33 g34 g35 g36 g37 g38 g39 g40 g41 g42 g43 g44 t), 0, 0))
      refine hR (?_ : R (_, _, _, _, _, _))
      exact hR (zret_i rfl (Nat.le_refl _) (zbo (by omega)) (h _ _ _ _ _ _ _ _ _ _ _ (by omega) (by omega) (by omega) (by omega) (by omega) (fun _ => ⟨by omega, fun hz => hp114 (by omega) (yl_r (by omega) (by omega) (by omega) (by omega) (by omega)) (hr4 (by omega))⟩)))
    iterate 7 refine hR (?_ : R (_, _, _, _, _, _))
    refine hR (t_ldE (by omega) (by omega) (Nat.le_of_ble_eq_true rfl) fun v115 ev115 rv115 => ?_)
    have bv115 : v115 = (k24_101 1).toInt := ev115
    clear ev115
    refine hR (zcall_i 0 0 (Nat.le_of_ble_eq_true rfl) (Nat.le_of_ble_eq_true rfl) (m_takeBut2 _ 0 3 v115 (by omega) (by omega) (by omega) (by omega) (by omega) (by omega) _ fun v116 y9_117 y11_118 y12_119 y13_120 y14_121 y15_122 y16_123 y17_124 k24_125 hp126 hp127 hp128 hp129 hp130 hp131 => ?_))
    refine (?_ : R (_, _, (.int (Int32.ofInt v116)) :: [], (zMi c0 c1 c2 c3 c4 c5 c6 c7 c8 c9 c10 c11 c12 c13 f0 y9_117 f10 y11_118 y12_119 y13_120 y15_122 y16_123 y17_124 f20 f21 f22 f23 f26 f28 f31 f32 f33 f38 f41 f44 y14_121 g15 g16 g17 g18 g19 g20 g21 g22 g23 k24_125 g25 g26 g27 g28 g29 g30 g31 g32 g33 g34 g35 g36 g37 g38 g39 g40 g41 g42 g43 g44 t), 0, 0))
    refine hR (k_ne (by omega) (fun hc132 => ?_) (fun hc132 => ?_))
    rotate_left
    · skip
      refine hR (?_ : R (_, _, _, _, _, _))
      exact hR (zret_i rfl (Nat.le_refl _) (zbo (by omega)) (h _ _ _ _ _ _ _ _ _ _ _ (by omega) (by omega) (by omega) (by omega) (by omega) (fun h => by omega)))
    iterate 4 refine hR (?_ : R (_, _, _, _, _, _))
    refine hR (t_stV 0 rfl (by omega) (by omega) (by omega) (by omega) (Nat.le_of_ble_eq_true rfl) fun k24_133 hvk24_133 hwk24_133 => (?_ : R (_, _, _, (zMi c0 c1 c2 c3 c4 c5 c6 c7 c8 c9 c10 c11 c12 c13 f0 y9_117 f10 y11_118 y12_119 y13_120 y15_122 y16_123 y17_124 f20 f21 f22 f23 f26 f28 f31 f32 f33 f38 f41 f44 y14_121 g15 g16 g17 g18 g19 g20 g21 g22 g23 k24_133 g25 g26 g27 g28 g29 g30 g31 g32 g33 g34 g35 g36 g37 g38 g39 g40 g41 g42 g43 g44 t), _, _)))
    have hxk24_133_1 : (k24_133 1).toInt = (k24_125 1).toInt := by rw [hwk24_133 1 (by decide)]
    have hxk24_133_2 : (k24_133 2).toInt = (k24_125 2).toInt := by rw [hwk24_133 2 (by decide)]
    iterate 2 refine hR (?_ : R (_, _, _, _, _, _))
    refine hR (t_c 40 (by decide) ?_)
    refine hR (zcall_i 0 0 (Nat.le_of_ble_eq_true rfl) (Nat.le_of_ble_eq_true rfl) (m_keep3 _ (by omega) _ fun k23_134 hp135 hp136 => ?_))
    refine (?_ : R (_, _, [], (zMi c0 c1 c2 c3 c4 c5 c6 c7 c8 c9 c10 c11 c12 c13 f0 y9_117 f10 y11_118 y12_119 y13_120 y15_122 y16_123 y17_124 f20 f21 f22 f23 f26 f28 f31 f32 f33 f38 f41 f44 y14_121 g15 g16 g17 g18 g19 g20 g21 g22 k23_134 k24_133 g25 g26 g27 g28 g29 g30 g31 g32 g33 g34 g35 g36 g37 g38 g39 g40 g41 g42 g43 g44 t), 0, 0))
    refine hR (?_ : R (_, _, _, _, _, _))
    exact hR (zret_i rfl (Nat.le_refl _) (zbo (by omega)) (h _ _ _ _ _ _ _ _ _ _ _ (by omega) (by omega) (by omega) (by omega) (by omega) (fun _ => ⟨by omega, fun hz => hp136 (by omega) (yl_r (by omega) (by omega) (by omega) (by omega) (by omega)) (hr4 (by omega))⟩)))
  iterate 4 refine hR (?_ : R (_, _, _, _, _, _))
  refine hR (zcall_i 0 0 (Nat.le_of_ble_eq_true rfl) (Nat.le_of_ble_eq_true rfl) (m_take2 _ 0 4 (by omega) (by omega) (by omega) (by omega) (by omega) _ fun v137 y9_138 y11_139 y12_140 y13_141 y14_142 y15_143 y16_144 y17_145 k24_146 hp147 hp148 hp149 hp150 hp151 hp152 => ?_))
  refine (?_ : R (_, _, (.int (Int32.ofInt v137)) :: [], (zMi c0 c1 c2 c3 c4 c5 c6 c7 c8 c9 c10 c11 c12 c13 f0 y9_138 f10 y11_139 y12_140 y13_141 y15_143 y16_144 y17_145 f20 f21 f22 f23 f26 f28 f31 f32 f33 f38 f41 f44 y14_142 g15 g16 g17 g18 g19 g20 g21 g22 g23 k24_146 g25 g26 g27 g28 g29 g30 g31 g32 g33 g34 g35 g36 g37 g38 g39 g40 g41 g42 g43 g44 t), 0, 0))
  refine hR (k_eq (by omega) (fun hc153 => ?_) (fun hc153 => ?_))
  · skip
    refine hR (?_ : R (_, _, _, _, _, _))
    exact hR (zret_i rfl (Nat.le_refl _) (zbo (by omega)) (h _ _ _ _ _ _ _ _ _ _ _ (by omega) (by omega) (by omega) (by omega) (by omega) (fun h => by omega)))
  iterate 2 refine hR (?_ : R (_, _, _, _, _, _))
  refine hR (j_ne (by omega) (by omega) (fun hc154 => ?_) (fun hc154 => ?_))
  · skip
    iterate 4 refine hR (?_ : R (_, _, _, _, _, _))
    refine hR (t_stV 0 rfl (by omega) (by omega) (by omega) (by omega) (Nat.le_of_ble_eq_true rfl) fun k24_155 hvk24_155 hwk24_155 => (?_ : R (_, _, _, (zMi c0 c1 c2 c3 c4 c5 c6 c7 c8 c9 c10 c11 c12 c13 f0 y9_138 f10 y11_139 y12_140 y13_141 y15_143 y16_144 y17_145 f20 f21 f22 f23 f26 f28 f31 f32 f33 f38 f41 f44 y14_142 g15 g16 g17 g18 g19 g20 g21 g22 g23 k24_155 g25 g26 g27 g28 g29 g30 g31 g32 g33 g34 g35 g36 g37 g38 g39 g40 g41 g42 g43 g44 t), _, _)))
    have hxk24_155_1 : (k24_155 1).toInt = (k24_146 1).toInt := by rw [hwk24_155 1 (by decide)]
    have hxk24_155_2 : (k24_155 2).toInt = (k24_146 2).toInt := by rw [hwk24_155 2 (by decide)]
    iterate 2 refine hR (?_ : R (_, _, _, _, _, _))
    refine hR (t_c 40 (by decide) ?_)
    refine hR (zcall_i 0 0 (Nat.le_of_ble_eq_true rfl) (Nat.le_of_ble_eq_true rfl) (m_keep3 _ (by omega) _ fun k23_156 hp157 hp158 => ?_))
    refine (?_ : R (_, _, [], (zMi c0 c1 c2 c3 c4 c5 c6 c7 c8 c9 c10 c11 c12 c13 f0 y9_138 f10 y11_139 y12_140 y13_141 y15_143 y16_144 y17_145 f20 f21 f22 f23 f26 f28 f31 f32 f33 f38 f41 f44 y14_142 g15 g16 g17 g18 g19 g20 g21 g22 k23_156 k24_155 g25 g26 g27 g28 g29 g30 g31 g32 g33 g34 g35 g36 g37 g38 g39 g40 g41 g42 g43 g44 t), 0, 0))
    refine hR (?_ : R (_, _, _, _, _, _))
    exact hR (zret_i rfl (Nat.le_refl _) (zbo (by omega)) (h _ _ _ _ _ _ _ _ _ _ _ (by omega) (by omega) (by omega) (by omega) (by omega) (fun _ => ⟨by omega, fun hz => hp158 (by omega) (yl_r (by omega) (by omega) (by omega) (by omega) (by omega)) (hr4 (by omega))⟩)))
  iterate 7 refine hR (?_ : R (_, _, _, _, _, _))
  refine hR (t_ldE (by omega) (by omega) (Nat.le_of_ble_eq_true rfl) fun v159 ev159 rv159 => ?_)
  have bv159 : v159 = (k24_146 1).toInt := ev159
  clear ev159
  refine hR (zcall_i 0 0 (Nat.le_of_ble_eq_true rfl) (Nat.le_of_ble_eq_true rfl) (m_takeBut2 _ 0 3 v159 (by omega) (by omega) (by omega) (by omega) (by omega) (by omega) _ fun v160 y9_161 y11_162 y12_163 y13_164 y14_165 y15_166 y16_167 y17_168 k24_169 hp170 hp171 hp172 hp173 hp174 hp175 => ?_))
  refine (?_ : R (_, _, (.int (Int32.ofInt v160)) :: [], (zMi c0 c1 c2 c3 c4 c5 c6 c7 c8 c9 c10 c11 c12 c13 f0 y9_161 f10 y11_162 y12_163 y13_164 y15_166 y16_167 y17_168 f20 f21 f22 f23 f26 f28 f31 f32 f33 f38 f41 f44 y14_165 g15 g16 g17 g18 g19 g20 g21 g22 g23 k24_169 g25 g26 g27 g28 g29 g30 g31 g32 g33 g34 g35 g36 g37 g38 g39 g40 g41 g42 g43 g44 t), 0, 0))
  refine hR (k_ne (by omega) (fun hc176 => ?_) (fun hc176 => ?_))
  rotate_left
  · skip
    refine hR (?_ : R (_, _, _, _, _, _))
    exact hR (zret_i rfl (Nat.le_refl _) (zbo (by omega)) (h _ _ _ _ _ _ _ _ _ _ _ (by omega) (by omega) (by omega) (by omega) (by omega) (fun h => by omega)))
  iterate 4 refine hR (?_ : R (_, _, _, _, _, _))
  refine hR (t_stV 0 rfl (by omega) (by omega) (by omega) (by omega) (Nat.le_of_ble_eq_true rfl) fun k24_177 hvk24_177 hwk24_177 => (?_ : R (_, _, _, (zMi c0 c1 c2 c3 c4 c5 c6 c7 c8 c9 c10 c11 c12 c13 f0 y9_161 f10 y11_162 y12_163 y13_164 y15_166 y16_167 y17_168 f20 f21 f22 f23 f26 f28 f31 f32 f33 f38 f41 f44 y14_165 g15 g16 g17 g18 g19 g20 g21 g22 g23 k24_177 g25 g26 g27 g28 g29 g30 g31 g32 g33 g34 g35 g36 g37 g38 g39 g40 g41 g42 g43 g44 t), _, _)))
  have hxk24_177_1 : (k24_177 1).toInt = (k24_169 1).toInt := by rw [hwk24_177 1 (by decide)]
  have hxk24_177_2 : (k24_177 2).toInt = (k24_169 2).toInt := by rw [hwk24_177 2 (by decide)]
  iterate 2 refine hR (?_ : R (_, _, _, _, _, _))
  refine hR (t_c 40 (by decide) ?_)
  refine hR (zcall_i 0 0 (Nat.le_of_ble_eq_true rfl) (Nat.le_of_ble_eq_true rfl) (m_keep3 _ (by omega) _ fun k23_178 hp179 hp180 => ?_))
  refine (?_ : R (_, _, [], (zMi c0 c1 c2 c3 c4 c5 c6 c7 c8 c9 c10 c11 c12 c13 f0 y9_161 f10 y11_162 y12_163 y13_164 y15_166 y16_167 y17_168 f20 f21 f22 f23 f26 f28 f31 f32 f33 f38 f41 f44 y14_165 g15 g16 g17 g18 g19 g20 g21 g22 k23_178 k24_177 g25 g26 g27 g28 g29 g30 g31 g32 g33 g34 g35 g36 g37 g38 g39 g40 g41 g42 g43 g44 t), 0, 0))
  refine hR (?_ : R (_, _, _, _, _, _))
  exact hR (zret_i rfl (Nat.le_refl _) (zbo (by omega)) (h _ _ _ _ _ _ _ _ _ _ _ (by omega) (by omega) (by omega) (by omega) (by omega) (fun _ => ⟨by omega, fun hz => hp180 (by omega) (yl_r (by omega) (by omega) (by omega) (by omega) (by omega)) (hr4 (by omega))⟩)))
theorem m_sightLine (d : Nat) (a2 : Int) (lw : Int64) (hr0 : 0 ≤ f9 ∧ f9 ≤ f10 ∧ f10 ≤ 600) (hr1 : 0 ≤ f12 ∧ f12 ≤ 4 ∧ (f12 = 3 → 0 ≤ f13 ∧ f13 ≤ 99)) (hr2 : 0 ≤ f16 ∧ f16 ≤ 4) (hr3 : 0 ≤ (g23 0).toInt ∧ (g23 0).toInt ≤ 6) (Q : zQ) (h : ∀ (v : Int) (y9 : Int) (y11 : Int) (y12 : Int) (y13 : Int) (y14 : Int64) (y15 : Int) (y16 : Int) (y17 : Int) (k23 : Nat → Int32) (k24 : Nat → Int32), (f9 ≤ y9 ∧ y9 ≤ f10) → (0 ≤ y12 ∧ y12 ≤ 4 ∧ (y12 = 3 → 0 ≤ y13 ∧ y13 ≤ 99)) → (0 ≤ y16 ∧ y16 ≤ 4) → (v = 0 ∨ v = 1) → (v = 1 → y12 = 0 ∨ f9 < y9) → (0 ≤ (k23 0).toInt ∧ (k23 0).toInt ≤ 6) → Q (some (.int (Int32.ofInt v))) (zMi c0 c1 c2 c3 c4 c5 c6 c7 c8 c9 c10 c11 c12 c13 f0 y9 f10 y11 y12 y13 y15 y16 y17 f20 f21 f22 f23 f26 f28 f31 f32 f33 f38 f41 f44 y14 g15 g16 g17 g18 g19 g20 g21 g22 k23 k24 g25 g26 g27 g28 g29 g30 g31 g32 g33 g34 g35 g36 g37 g38 g39 g40 g41 g42 g43 g44 t)) : zCl zTab (d + 6) iX12_sightLine [.ref 14, .long lw, .int (Int32.ofInt a2)] (zMi c0 c1 c2 c3 c4 c5 c6 c7 c8 c9 c10 c11 c12 c13 f0 f9 f10 f11 f12 f13 f15 f16 f17 f20 f21 f22 f23 f26 f28 f31 f32 f33 f38 f41 f44 x14 g15 g16 g17 g18 g19 g20 g21 g22 g23 g24 g25 g26 g27 g28 g29 g30 g31 g32 g33 g34 g35 g36 g37 g38 g39 g40 g41 g42 g43 g44 t) 0 0 Q := by
  refine zCl_i (M := kX12_sightLine) rfl (Nat.le_of_ble_eq_true rfl) fun R hR => ?_
  iterate 2 refine hR (?_ : R (_, _, _, _, _, _))
  refine hR (t_o fun v1 rv1 => ?_)
  refine hR (j_any ?_ ?_)
  rotate_left
  · skip
    refine hR (?_ : R (_, _, _, _, _, _))
    refine hR (zcall_i 0 0 (Nat.le_of_ble_eq_true rfl) (Nat.le_of_ble_eq_true rfl) (m_fails _ _ fun v49 y15_50 hp51 => ?_))
    refine (?_ : R (_, _, (.int (Int32.ofInt v49)) :: [], (zMi c0 c1 c2 c3 c4 c5 c6 c7 c8 c9 c10 c11 c12 c13 f0 f9 f10 f11 f12 f13 y15_50 f16 f17 f20 f21 f22 f23 f26 f28 f31 f32 f33 f38 f41 f44 x14 g15 g16 g17 g18 g19 g20 g21 g22 g23 g24 g25 g26 g27 g28 g29 g30 g31 g32 g33 g34 g35 g36 g37 g38 g39 g40 g41 g42 g43 g44 t), 0, 0))
    exact hR (zret_i rfl (Nat.le_refl _) (zbo (by omega)) (h _ _ _ _ _ _ _ _ _ _ _ (by omega) (by omega) (by omega) (by omega) (by omega) (by omega)))
  iterate 2 refine hR (?_ : R (_, _, _, _, _, _))
  refine hR (t_c 6 (by decide) ?_)
  refine hR (?_ : R (_, _, _, _, _, _))
  refine hR (zcall_i 0 0 (Nat.le_of_ble_eq_true rfl) (Nat.le_of_ble_eq_true rfl) (m_full0 _ 6 a2 (by omega) (by omega) _ fun y16_2 y17_3 hp4 hp5 => ?_))
  refine (?_ : R (_, _, [], (zMi c0 c1 c2 c3 c4 c5 c6 c7 c8 c9 c10 c11 c12 c13 f0 f9 f10 f11 f12 f13 f15 y16_2 y17_3 f20 f21 f22 f23 f26 f28 f31 f32 f33 f38 f41 f44 x14 g15 g16 g17 g18 g19 g20 g21 g22 g23 g24 g25 g26 g27 g28 g29 g30 g31 g32 g33 g34 g35 g36 g37 g38 g39 g40 g41 g42 g43 g44 t), 0, 0))
  refine hR (?_ : R (_, _, _, _, _, _))
  refine hR (zcall_i 0 0 (Nat.le_of_ble_eq_true rfl) (Nat.le_of_ble_eq_true rfl) (m_token _ (by omega) _ fun y9_6 y11_7 y12_8 y13_9 y14_10 hp11 hp12 hp13 hp14 => ?_))
  refine (?_ : R (_, _, [], (zMi c0 c1 c2 c3 c4 c5 c6 c7 c8 c9 c10 c11 c12 c13 f0 y9_6 f10 y11_7 y12_8 y13_9 f15 y16_2 y17_3 f20 f21 f22 f23 f26 f28 f31 f32 f33 f38 f41 f44 y14_10 g15 g16 g17 g18 g19 g20 g21 g22 g23 g24 g25 g26 g27 g28 g29 g30 g31 g32 g33 g34 g35 g36 g37 g38 g39 g40 g41 g42 g43 g44 t), 0, 0))
  iterate 3 refine hR (?_ : R (_, _, _, _, _, _))
  refine hR (t_c 9 (by decide) ?_)
  refine hR (zcall_i 0 0 (Nat.le_of_ble_eq_true rfl) (Nat.le_of_ble_eq_true rfl) (m_take0 _ 0 9 (by omega) (by omega) (by omega) (by omega) (by omega) _ fun v15 y9_16 y11_17 y12_18 y13_19 y14_20 y15_21 y16_22 y17_23 k24_24 hp25 hp26 hp27 hp28 hp29 hp30 => ?_))
  refine (?_ : R (_, _, (.int (Int32.ofInt v15)) :: [], (zMi c0 c1 c2 c3 c4 c5 c6 c7 c8 c9 c10 c11 c12 c13 f0 y9_16 f10 y11_17 y12_18 y13_19 y15_21 y16_22 y17_23 f20 f21 f22 f23 f26 f28 f31 f32 f33 f38 f41 f44 y14_20 g15 g16 g17 g18 g19 g20 g21 g22 g23 k24_24 g25 g26 g27 g28 g29 g30 g31 g32 g33 g34 g35 g36 g37 g38 g39 g40 g41 g42 g43 g44 t), 0, 0))
  refine hR (k_ne (by omega) (fun hc31 => ?_) (fun hc31 => ?_))
  rotate_left
  · skip
    refine hR (?_ : R (_, _, _, _, _, _))
    exact hR (zret_i rfl (Nat.le_refl _) (zbo (by omega)) (h _ _ _ _ _ _ _ _ _ _ _ (by omega) (by omega) (by omega) (by omega) (by omega) (by omega)))
  iterate 2 refine hR (?_ : R (_, _, _, _, _, _))
  refine hR (zcall_i 0 0 (Nat.le_of_ble_eq_true rfl) (Nat.le_of_ble_eq_true rfl) (m_takeText1 _ (by omega) (by omega) (by omega) _ fun y9_32 y11_33 y12_34 y13_35 y14_36 y15_37 y16_38 y17_39 k24_40 hp41 hp42 hp43 hp44 hp45 hp46 => ?_))
  refine (?_ : R (_, _, [], (zMi c0 c1 c2 c3 c4 c5 c6 c7 c8 c9 c10 c11 c12 c13 f0 y9_32 f10 y11_33 y12_34 y13_35 y15_37 y16_38 y17_39 f20 f21 f22 f23 f26 f28 f31 f32 f33 f38 f41 f44 y14_36 g15 g16 g17 g18 g19 g20 g21 g22 g23 k24_40 g25 g26 g27 g28 g29 g30 g31 g32 g33 g34 g35 g36 g37 g38 g39 g40 g41 g42 g43 g44 t), 0, 0))
  iterate 2 refine hR (?_ : R (_, _, _, _, _, _))
  refine hR (t_c 6 (by decide) ?_)
  refine hR (zcall_i 0 0 (Nat.le_of_ble_eq_true rfl) (Nat.le_of_ble_eq_true rfl) (m_keep2 _ (by omega) _ fun k23_47 hp48 => ?_))
  refine (?_ : R (_, _, [], (zMi c0 c1 c2 c3 c4 c5 c6 c7 c8 c9 c10 c11 c12 c13 f0 y9_32 f10 y11_33 y12_34 y13_35 y15_37 y16_38 y17_39 f20 f21 f22 f23 f26 f28 f31 f32 f33 f38 f41 f44 y14_36 g15 g16 g17 g18 g19 g20 g21 g22 k23_47 k24_40 g25 g26 g27 g28 g29 g30 g31 g32 g33 g34 g35 g36 g37 g38 g39 g40 g41 g42 g43 g44 t), 0, 0))
  refine hR (?_ : R (_, _, _, _, _, _))
  exact hR (zret_i rfl (Nat.le_refl _) (zbo (by omega)) (h _ _ _ _ _ _ _ _ _ _ _ (by omega) (by omega) (by omega) (by omega) (by omega) (by omega)))
theorem m_lineOf (d : Nat) (a1 a2 : Int) (lw : Int64) (hr0 : 0 ≤ f9 ∧ f9 ≤ f10 ∧ f10 ≤ 600) (hr1 : 0 ≤ f12 ∧ f12 ≤ 4 ∧ (f12 = 3 → 0 ≤ f13 ∧ f13 ≤ 99)) (hr2 : 0 ≤ f16 ∧ f16 ≤ 4) (hr3 : 0 ≤ a1 ∧ a1 ≤ 2) (hr4 : tI a1 g23 f16) (Q : zQ) (h : ∀ (v : Int) (y9 : Int) (y11 : Int) (y12 : Int) (y13 : Int) (y14 : Int64) (y15 : Int) (y16 : Int) (y17 : Int) (k23 : Nat → Int32) (k24 : Nat → Int32), (f9 ≤ y9 ∧ y9 ≤ f10) → (0 ≤ y12 ∧ y12 ≤ 4 ∧ (y12 = 3 → 0 ≤ y13 ∧ y13 ≤ 99)) → (0 ≤ y16 ∧ y16 ≤ 4) → (v = 0 ∨ v = 1) → (v = 1 → y12 = 0 ∨ f9 < y9) → (v = 1 → tI a1 k23 y16) → Q (some (.int (Int32.ofInt v))) (zMi c0 c1 c2 c3 c4 c5 c6 c7 c8 c9 c10 c11 c12 c13 f0 y9 f10 y11 y12 y13 y15 y16 y17 f20 f21 f22 f23 f26 f28 f31 f32 f33 f38 f41 f44 y14 g15 g16 g17 g18 g19 g20 g21 g22 k23 k24 g25 g26 g27 g28 g29 g30 g31 g32 g33 g34 g35 g36 g37 g38 g39 g40 g41 g42 g43 g44 t)) : zCl zTab (d + 7) iX12_lineOf [.ref 14, .int (Int32.ofInt a1), .long lw, .int (Int32.ofInt a2)] (zMi c0 c1 c2 c3 c4 c5 c6 c7 c8 c9 c10 c11 c12 c13 f0 f9 f10 f11 f12 f13 f15 f16 f17 f20 f21 f22 f23 f26 f28 f31 f32 f33 f38 f41 f44 x14 g15 g16 g17 g18 g19 g20 g21 g22 g23 g24 g25 g26 g27 g28 g29 g30 g31 g32 g33 g34 g35 g36 g37 g38 g39 g40 g41 g42 g43 g44 t) 0 0 Q := by
  refine zCl_i (M := kX12_lineOf) rfl (Nat.le_of_ble_eq_true rfl) fun R hR => ?_
  refine hR (?_ : R (_, _, _, _, _, _))
  refine hR (k_ne (by omega) (fun hc1 => ?_) (fun hc1 => ?_))
  rotate_left
  · skip
    iterate 3 refine hR (?_ : R (_, _, _, _, _, _))
    refine hR (zcall_i 0 0 (Nat.le_of_ble_eq_true rfl) (Nat.le_of_ble_eq_true rfl) (m_bookLine _ a2 _ (by omega) (by omega) (by omega) (hr4.1 (by omega)).1 (hr4.1 (by omega)).2 _ fun v37 y9_38 y11_39 y12_40 y13_41 y14_42 y15_43 y16_44 y17_45 k23_46 k24_47 hp48 hp49 hp50 hp51 hp52 hp53 => ?_))
    refine (?_ : R (_, _, (.int (Int32.ofInt v37)) :: [], (zMi c0 c1 c2 c3 c4 c5 c6 c7 c8 c9 c10 c11 c12 c13 f0 y9_38 f10 y11_39 y12_40 y13_41 y15_43 y16_44 y17_45 f20 f21 f22 f23 f26 f28 f31 f32 f33 f38 f41 f44 y14_42 g15 g16 g17 g18 g19 g20 g21 g22 k23_46 k24_47 g25 g26 g27 g28 g29 g30 g31 g32 g33 g34 g35 g36 g37 g38 g39 g40 g41 g42 g43 g44 t), 0, 0))
    refine hR (?_ : R (_, _, _, _, _, _))
    exact hR (zret_i rfl (Nat.le_refl _) (zbo (by omega)) (h _ _ _ _ _ _ _ _ _ _ _ (by omega) (by omega) (by omega) (by omega) (by omega) (fun h => tI_b (by omega) (hp53 h))))
  iterate 2 refine hR (?_ : R (_, _, _, _, _, _))
  refine hR (j_ne (by omega) (by omega) (fun hc2 => ?_) (fun hc2 => ?_))
  · skip
    iterate 3 refine hR (?_ : R (_, _, _, _, _, _))
    refine hR (zcall_i 0 0 (Nat.le_of_ble_eq_true rfl) (Nat.le_of_ble_eq_true rfl) (m_sightLine _ a2 _ (by omega) (by omega) (by omega) (hr4.2.2 (by omega)) _ fun v3 y9_4 y11_5 y12_6 y13_7 y14_8 y15_9 y16_10 y17_11 k23_12 k24_13 hp14 hp15 hp16 hp17 hp18 hp19 => ?_))
    refine (?_ : R (_, _, (.int (Int32.ofInt v3)) :: [], (zMi c0 c1 c2 c3 c4 c5 c6 c7 c8 c9 c10 c11 c12 c13 f0 y9_4 f10 y11_5 y12_6 y13_7 y15_9 y16_10 y17_11 f20 f21 f22 f23 f26 f28 f31 f32 f33 f38 f41 f44 y14_8 g15 g16 g17 g18 g19 g20 g21 g22 k23_12 k24_13 g25 g26 g27 g28 g29 g30 g31 g32 g33 g34 g35 g36 g37 g38 g39 g40 g41 g42 g43 g44 t), 0, 0))
    exact hR (zret_i rfl (Nat.le_refl _) (zbo (by omega)) (h _ _ _ _ _ _ _ _ _ _ _ (by omega) (by omega) (by omega) (by omega) (by omega) (fun h => tI_s (by omega) hp19)))
  iterate 3 refine hR (?_ : R (_, _, _, _, _, _))
  refine hR (zcall_i 0 0 (Nat.le_of_ble_eq_true rfl) (Nat.le_of_ble_eq_true rfl) (m_yearLine _ a2 _ (by omega) (by omega) (by omega) (hr4.2.1 (by omega)).1 (hr4.2.1 (by omega)).2 _ fun v20 y9_21 y11_22 y12_23 y13_24 y14_25 y15_26 y16_27 y17_28 k23_29 k24_30 hp31 hp32 hp33 hp34 hp35 hp36 => ?_))
  refine (?_ : R (_, _, (.int (Int32.ofInt v20)) :: [], (zMi c0 c1 c2 c3 c4 c5 c6 c7 c8 c9 c10 c11 c12 c13 f0 y9_21 f10 y11_22 y12_23 y13_24 y15_26 y16_27 y17_28 f20 f21 f22 f23 f26 f28 f31 f32 f33 f38 f41 f44 y14_25 g15 g16 g17 g18 g19 g20 g21 g22 k23_29 k24_30 g25 g26 g27 g28 g29 g30 g31 g32 g33 g34 g35 g36 g37 g38 g39 g40 g41 g42 g43 g44 t), 0, 0))
  refine hR (?_ : R (_, _, _, _, _, _))
  exact hR (zret_i rfl (Nat.le_refl _) (zbo (by omega)) (h _ _ _ _ _ _ _ _ _ _ _ (by omega) (by omega) (by omega) (by omega) (by omega) (fun h => tI_y (by omega) (hp36 h))))
theorem m_lines (d : Nat) (a1 : Int) (hr0 : 0 ≤ f9 ∧ f9 ≤ f10 ∧ f10 ≤ 600) (hr1 : 0 ≤ f12 ∧ f12 ≤ 4 ∧ (f12 = 3 → 0 ≤ f13 ∧ f13 ≤ 99)) (hr2 : 0 ≤ f16 ∧ f16 ≤ 4) (hr3 : 0 ≤ a1 ∧ a1 ≤ 2) (hr4 : tI a1 g23 f16) (Q : zQ) (h : ∀ (v : Int) (y9 : Int) (y11 : Int) (y12 : Int) (y13 : Int) (y14 : Int64) (y15 : Int) (y16 : Int) (y17 : Int) (k23 : Nat → Int32) (k24 : Nat → Int32), (f9 ≤ y9 ∧ y9 ≤ f10) → (0 ≤ y12 ∧ y12 ≤ 4 ∧ (y12 = 3 → 0 ≤ y13 ∧ y13 ≤ 99)) → (0 ≤ y16 ∧ y16 ≤ 4) → (v = 0 ∨ v = 1) → (v = 1 → tI a1 k23 y16) → Q (some (.int (Int32.ofInt v))) (zMi c0 c1 c2 c3 c4 c5 c6 c7 c8 c9 c10 c11 c12 c13 f0 y9 f10 y11 y12 y13 y15 y16 y17 f20 f21 f22 f23 f26 f28 f31 f32 f33 f38 f41 f44 y14 g15 g16 g17 g18 g19 g20 g21 g22 k23 k24 g25 g26 g27 g28 g29 g30 g31 g32 g33 g34 g35 g36 g37 g38 g39 g40 g41 g42 g43 g44 t)) : zCl zTab (d + 8) iX12_lines [.ref 14, .int (Int32.ofInt a1)] (zMi c0 c1 c2 c3 c4 c5 c6 c7 c8 c9 c10 c11 c12 c13 f0 f9 f10 f11 f12 f13 f15 f16 f17 f20 f21 f22 f23 f26 f28 f31 f32 f33 f38 f41 f44 x14 g15 g16 g17 g18 g19 g20 g21 g22 g23 g24 g25 g26 g27 g28 g29 g30 g31 g32 g33 g34 g35 g36 g37 g38 g39 g40 g41 g42 g43 g44 t) 0 0 Q := by
  refine zCl_i (M := kX12_lines) rfl (Nat.le_of_ble_eq_true rfl) fun R hR => ?_
  iterate 2 refine hR (?_ : R (_, _, _, _, _, _))
  have lp2 : ∀ (N : Nat) (fi : Int) (e9_2 : Int) (e11_2 : Int) (e12_2 : Int) (e13_2 : Int) (e14_2 : Int64) (e15_2 : Int) (e16_2 : Int) (e17_2 : Int) (q23_2 : Nat → Int32) (q24_2 : Nat → Int32), (0 ≤ fi ∧ fi ≤ 1) → (f9 ≤ e9_2 ∧ e9_2 ≤ f10) → (0 ≤ e12_2 ∧ e12_2 ≤ 4 ∧ (e12_2 = 3 → 0 ≤ e13_2 ∧ e13_2 ≤ 99)) → (0 ≤ e16_2 ∧ e16_2 ≤ 4) → (fi = 1 → tI a1 q23_2 e16_2) → (2 * (f10 - e9_2) + fi < N) → R (2, [some (.ref 14), some (.int (Int32.ofInt a1)), some (.int (Int32.ofInt fi))], [], (zMi c0 c1 c2 c3 c4 c5 c6 c7 c8 c9 c10 c11 c12 c13 f0 e9_2 f10 e11_2 e12_2 e13_2 e15_2 e16_2 e17_2 f20 f21 f22 f23 f26 f28 f31 f32 f33 f38 f41 f44 e14_2 g15 g16 g17 g18 g19 g20 g21 g22 q23_2 q24_2 g25 g26 g27 g28 g29 g30 g31 g32 g33 g34 g35 g36 g37 g38 g39 g40 g41 g42 g43 g44 t), 0, 0) := by
    intro N
    induction N with
    | zero => intros; omega
    | succ N ih2 =>
      intro fi e9_2 e11_2 e12_2 e13_2 e14_2 e15_2 e16_2 e17_2 q23_2 q24_2 hf0_2 hp0_2 hp1_2 hp2_2 hp3_2 hN2
      refine hR (?_ : R (_, _, _, _, _, _))
      refine hR (k_eq (by omega) (fun hc1 => ?_) (fun hc1 => ?_))
      · skip
        refine hR (?_ : R (_, _, _, _, _, _))
        exact hR (zret_i rfl (Nat.le_refl _) (zbo (by omega)) (h _ _ _ _ _ _ _ _ _ _ _ (by omega) (by omega) (by omega) (by omega) (fun h => hp3_2 (by omega))))
      iterate 2 refine hR (?_ : R (_, _, _, _, _, _))
      refine hR (k_eq (by omega) (fun hc2 => ?_) (fun hc2 => ?_))
      · skip
        refine hR (?_ : R (_, _, _, _, _, _))
        exact hR (zret_i rfl (Nat.le_refl _) (zbo (by omega)) (h _ _ _ _ _ _ _ _ _ _ _ (by omega) (by omega) (by omega) (by omega) (fun h => hp3_2 (by omega))))
      iterate 5 refine hR (?_ : R (_, _, _, _, _, _))
      refine hR (j_ne (by omega) (by omega) (fun hc3 => ?_) (fun hc3 => ?_))
      · skip
        iterate 3 refine hR (?_ : R (_, _, _, _, _, _))
        refine hR (zcall_i 0 0 (Nat.le_of_ble_eq_true rfl) (Nat.le_of_ble_eq_true rfl) (m_lineOf _ a1 e11_2 _ (by omega) (by omega) (by omega) (by omega) (hp3_2 (by omega)) _ fun v4 y9_5 y11_6 y12_7 y13_8 y14_9 y15_10 y16_11 y17_12 k23_13 k24_14 hp15 hp16 hp17 hp18 hp19 hp20 => ?_))
        refine (?_ : R (_, _, (.int (Int32.ofInt v4)) :: [], (zMi c0 c1 c2 c3 c4 c5 c6 c7 c8 c9 c10 c11 c12 c13 f0 y9_5 f10 y11_6 y12_7 y13_8 y15_10 y16_11 y17_12 f20 f21 f22 f23 f26 f28 f31 f32 f33 f38 f41 f44 y14_9 g15 g16 g17 g18 g19 g20 g21 g22 k23_13 k24_14 g25 g26 g27 g28 g29 g30 g31 g32 g33 g34 g35 g36 g37 g38 g39 g40 g41 g42 g43 g44 t), 0, 0))
        iterate 2 refine hR (?_ : R (_, _, _, _, _, _))
        refine hR (k_eq (by omega) (fun hc21 => ?_) (fun hc21 => ?_))
        · skip
          refine hR (?_ : R (_, _, _, _, _, _))
          refine hR (k_eq (by omega) (fun _ => ?_) (fun hc => by omega))
          exact ih2 _ _ _ _ _ _ _ _ _ _ _ (by omega) (by omega) (by omega) (by omega) (fun h => hp20 (by omega)) (by omega)
        iterate 3 refine hR (?_ : R (_, _, _, _, _, _))
        refine hR (j_eq (by omega) (by omega) (fun hc22 => ?_) (fun hc22 => ?_))
        · skip
          refine hR (?_ : R (_, _, _, _, _, _))
          refine hR (k_eq (by omega) (fun hc => by omega) (fun _ => ?_))
          refine hR (?_ : R (_, _, _, _, _, _))
          refine hR (zcall_i 0 0 (Nat.le_of_ble_eq_true rfl) (Nat.le_of_ble_eq_true rfl) (m_token _ (by omega) _ fun y9_23 y11_24 y12_25 y13_26 y14_27 hp28 hp29 hp30 hp31 => ?_))
          refine (?_ : R (_, _, [], (zMi c0 c1 c2 c3 c4 c5 c6 c7 c8 c9 c10 c11 c12 c13 f0 y9_23 f10 y11_24 y12_25 y13_26 y15_10 y16_11 y17_12 f20 f21 f22 f23 f26 f28 f31 f32 f33 f38 f41 f44 y14_27 g15 g16 g17 g18 g19 g20 g21 g22 k23_13 k24_14 g25 g26 g27 g28 g29 g30 g31 g32 g33 g34 g35 g36 g37 g38 g39 g40 g41 g42 g43 g44 t), 0, 0))
          refine hR (?_ : R (_, _, _, _, _, _))
          exact ih2 _ _ _ _ _ _ _ _ _ _ _ (by omega) (by omega) (by omega) (by omega) (fun h => hp20 (by omega)) (by omega)
        refine hR (?_ : R (_, _, _, _, _, _))
        refine hR (zcall_i 0 0 (Nat.le_of_ble_eq_true rfl) (Nat.le_of_ble_eq_true rfl) (m_fails _ _ fun v32 y15_33 hp34 => ?_))
        refine (?_ : R (_, _, (.int (Int32.ofInt v32)) :: [], (zMi c0 c1 c2 c3 c4 c5 c6 c7 c8 c9 c10 c11 c12 c13 f0 y9_5 f10 y11_6 y12_7 y13_8 y15_33 y16_11 y17_12 f20 f21 f22 f23 f26 f28 f31 f32 f33 f38 f41 f44 y14_9 g15 g16 g17 g18 g19 g20 g21 g22 k23_13 k24_14 g25 g26 g27 g28 g29 g30 g31 g32 g33 g34 g35 g36 g37 g38 g39 g40 g41 g42 g43 g44 t), 0, 0))
        iterate 2 refine hR (?_ : R (_, _, _, _, _, _))
        refine hR (k_eq (by omega) (fun hc35 => ?_) (fun hc35 => ?_))
        · skip
          exact ih2 _ _ _ _ _ _ _ _ _ _ _ (by omega) (by omega) (by omega) (by omega) (fun h => by omega) (by omega)
        refine hR (?_ : R (_, _, _, _, _, _))
        refine hR (zcall_i 0 0 (Nat.le_of_ble_eq_true rfl) (Nat.le_of_ble_eq_true rfl) (m_token _ (by omega) _ fun y9_36 y11_37 y12_38 y13_39 y14_40 hp41 hp42 hp43 hp44 => ?_))
        refine (?_ : R (_, _, [], (zMi c0 c1 c2 c3 c4 c5 c6 c7 c8 c9 c10 c11 c12 c13 f0 y9_36 f10 y11_37 y12_38 y13_39 y15_33 y16_11 y17_12 f20 f21 f22 f23 f26 f28 f31 f32 f33 f38 f41 f44 y14_40 g15 g16 g17 g18 g19 g20 g21 g22 k23_13 k24_14 g25 g26 g27 g28 g29 g30 g31 g32 g33 g34 g35 g36 g37 g38 g39 g40 g41 g42 g43 g44 t), 0, 0))
        refine hR (?_ : R (_, _, _, _, _, _))
        exact ih2 _ _ _ _ _ _ _ _ _ _ _ (by omega) (by omega) (by omega) (by omega) (fun h => by omega) (by omega)
      iterate 5 refine hR (?_ : R (_, _, _, _, _, _))
      refine hR (zcall_i 0 0 (Nat.le_of_ble_eq_true rfl) (Nat.le_of_ble_eq_true rfl) (m_lineOf _ a1 e11_2 _ (by omega) (by omega) (by omega) (by omega) (hp3_2 (by omega)) _ fun v45 y9_46 y11_47 y12_48 y13_49 y14_50 y15_51 y16_52 y17_53 k23_54 k24_55 hp56 hp57 hp58 hp59 hp60 hp61 => ?_))
      refine (?_ : R (_, _, (.int (Int32.ofInt v45)) :: [], (zMi c0 c1 c2 c3 c4 c5 c6 c7 c8 c9 c10 c11 c12 c13 f0 y9_46 f10 y11_47 y12_48 y13_49 y15_51 y16_52 y17_53 f20 f21 f22 f23 f26 f28 f31 f32 f33 f38 f41 f44 y14_50 g15 g16 g17 g18 g19 g20 g21 g22 k23_54 k24_55 g25 g26 g27 g28 g29 g30 g31 g32 g33 g34 g35 g36 g37 g38 g39 g40 g41 g42 g43 g44 t), 0, 0))
      iterate 2 refine hR (?_ : R (_, _, _, _, _, _))
      refine hR (k_eq (by omega) (fun hc62 => ?_) (fun hc62 => ?_))
      · skip
        refine hR (?_ : R (_, _, _, _, _, _))
        refine hR (k_eq (by omega) (fun _ => ?_) (fun hc => by omega))
        exact ih2 _ _ _ _ _ _ _ _ _ _ _ (by omega) (by omega) (by omega) (by omega) (fun h => hp61 (by omega)) (by omega)
      iterate 3 refine hR (?_ : R (_, _, _, _, _, _))
      refine hR (j_eq (by omega) (by omega) (fun hc63 => ?_) (fun hc63 => ?_))
      · skip
        refine hR (?_ : R (_, _, _, _, _, _))
        refine hR (k_eq (by omega) (fun hc => by omega) (fun _ => ?_))
        refine hR (?_ : R (_, _, _, _, _, _))
        refine hR (zcall_i 0 0 (Nat.le_of_ble_eq_true rfl) (Nat.le_of_ble_eq_true rfl) (m_token _ (by omega) _ fun y9_64 y11_65 y12_66 y13_67 y14_68 hp69 hp70 hp71 hp72 => ?_))
        refine (?_ : R (_, _, [], (zMi c0 c1 c2 c3 c4 c5 c6 c7 c8 c9 c10 c11 c12 c13 f0 y9_64 f10 y11_65 y12_66 y13_67 y15_51 y16_52 y17_53 f20 f21 f22 f23 f26 f28 f31 f32 f33 f38 f41 f44 y14_68 g15 g16 g17 g18 g19 g20 g21 g22 k23_54 k24_55 g25 g26 g27 g28 g29 g30 g31 g32 g33 g34 g35 g36 g37 g38 g39 g40 g41 g42 g43 g44 t), 0, 0))
        refine hR (?_ : R (_, _, _, _, _, _))
        exact ih2 _ _ _ _ _ _ _ _ _ _ _ (by omega) (by omega) (by omega) (by omega) (fun h => hp61 (by omega)) (by omega)
      refine hR (?_ : R (_, _, _, _, _, _))
      refine hR (zcall_i 0 0 (Nat.le_of_ble_eq_true rfl) (Nat.le_of_ble_eq_true rfl) (m_fails _ _ fun v73 y15_74 hp75 => ?_))
      refine (?_ : R (_, _, (.int (Int32.ofInt v73)) :: [], (zMi c0 c1 c2 c3 c4 c5 c6 c7 c8 c9 c10 c11 c12 c13 f0 y9_46 f10 y11_47 y12_48 y13_49 y15_74 y16_52 y17_53 f20 f21 f22 f23 f26 f28 f31 f32 f33 f38 f41 f44 y14_50 g15 g16 g17 g18 g19 g20 g21 g22 k23_54 k24_55 g25 g26 g27 g28 g29 g30 g31 g32 g33 g34 g35 g36 g37 g38 g39 g40 g41 g42 g43 g44 t), 0, 0))
      iterate 2 refine hR (?_ : R (_, _, _, _, _, _))
      refine hR (k_eq (by omega) (fun hc76 => ?_) (fun hc76 => ?_))
      · skip
        exact ih2 _ _ _ _ _ _ _ _ _ _ _ (by omega) (by omega) (by omega) (by omega) (fun h => by omega) (by omega)
      refine hR (?_ : R (_, _, _, _, _, _))
      refine hR (zcall_i 0 0 (Nat.le_of_ble_eq_true rfl) (Nat.le_of_ble_eq_true rfl) (m_token _ (by omega) _ fun y9_77 y11_78 y12_79 y13_80 y14_81 hp82 hp83 hp84 hp85 => ?_))
      refine (?_ : R (_, _, [], (zMi c0 c1 c2 c3 c4 c5 c6 c7 c8 c9 c10 c11 c12 c13 f0 y9_77 f10 y11_78 y12_79 y13_80 y15_74 y16_52 y17_53 f20 f21 f22 f23 f26 f28 f31 f32 f33 f38 f41 f44 y14_81 g15 g16 g17 g18 g19 g20 g21 g22 k23_54 k24_55 g25 g26 g27 g28 g29 g30 g31 g32 g33 g34 g35 g36 g37 g38 g39 g40 g41 g42 g43 g44 t), 0, 0))
      refine hR (?_ : R (_, _, _, _, _, _))
      exact ih2 _ _ _ _ _ _ _ _ _ _ _ (by omega) (by omega) (by omega) (by omega) (fun h => by omega) (by omega)
  exact lp2 400000000 _ _ _ _ _ _ _ _ _ _ _ (by omega) (by omega) (by omega) (by omega) (fun _ => hr4) (by omega)
theorem m_readText (d : Nat) (a1 : Int) (hr0 : 0 ≤ f10 ∧ f10 ≤ 600) (hr1 : 0 ≤ a1 ∧ a1 ≤ 2) (Q : zQ) (h : ∀ (v : Int) (y9 : Int) (y11 : Int) (y12 : Int) (y13 : Int) (y14 : Int64) (y15 : Int) (y16 : Int) (y17 : Int) (k17 : Nat → Int32) (k18 : Nat → Int32) (k23 : Nat → Int32) (k24 : Nat → Int32), (v = 0 ∨ v = 1) → (v = 1 → tOK a1 k23) → Q (some (.int (Int32.ofInt v))) (zMi c0 c1 c2 c3 c4 c5 c6 c7 c8 c9 c10 c11 c12 c13 f0 y9 f10 y11 y12 y13 y15 y16 y17 f20 f21 f22 f23 f26 f28 f31 f32 f33 f38 f41 f44 y14 g15 g16 k17 k18 g19 g20 g21 g22 k23 k24 g25 g26 g27 g28 g29 g30 g31 g32 g33 g34 g35 g36 g37 g38 g39 g40 g41 g42 g43 g44 t)) : zCl zTab (d + 9) iX12_readText [.ref 14, .int (Int32.ofInt a1)] (zMi c0 c1 c2 c3 c4 c5 c6 c7 c8 c9 c10 c11 c12 c13 f0 f9 f10 f11 f12 f13 f15 f16 f17 f20 f21 f22 f23 f26 f28 f31 f32 f33 f38 f41 f44 x14 g15 g16 g17 g18 g19 g20 g21 g22 g23 g24 g25 g26 g27 g28 g29 g30 g31 g32 g33 g34 g35 g36 g37 g38 g39 g40 g41 g42 g43 g44 t) 0 0 Q := by
  refine zCl_i (M := kX12_readText) rfl (Nat.le_of_ble_eq_true rfl) fun R hR => ?_
  iterate 2 refine hR (?_ : R (_, _, _, _, _, _))
  have lp2 : ∀ (N : Nat) (i : Int) (q23_2 : Nat → Int32), (0 ≤ i ∧ i ≤ 121) → (∀ j : Nat, (j : Int) < i → (q23_2 j).toInt = if a1 = 0 ∧ 2 ≤ j ∧ j ≤ 5 then (j : Int) - 2 else 0) → (121 - i < N) → R (2, [some (.ref 14), some (.int (Int32.ofInt a1)), some (.int (Int32.ofInt i))], [], (zMi c0 c1 c2 c3 c4 c5 c6 c7 c8 c9 c10 c11 c12 c13 f0 f9 f10 f11 f12 f13 f15 f16 f17 f20 f21 f22 f23 f26 f28 f31 f32 f33 f38 f41 f44 x14 g15 g16 g17 g18 g19 g20 g21 g22 q23_2 g24 g25 g26 g27 g28 g29 g30 g31 g32 g33 g34 g35 g36 g37 g38 g39 g40 g41 g42 g43 g44 t), 0, 0) := by
    intro N
    induction N with
    | zero => intros; omega
    | succ N ih2 =>
      intro i q23_2 hf0_2 hp0_2 hN2
      refine hR (?_ : R (_, _, _, _, _, _))
      refine hR (t_c 121 (by decide) ?_)
      refine hR (j_ge (by omega) (by omega) (fun hc1 => ?_) (fun hc1 => ?_))
      rotate_left
      · skip
        iterate 4 refine hR (?_ : R (_, _, _, _, _, _))
        refine hR (k_ne (by omega) (fun hc40 => ?_) (fun hc40 => ?_))
        · skip
          refine hR (?_ : R (_, _, _, _, _, _))
          refine hR (t_st (by omega) (by omega) (Nat.le_of_ble_eq_true rfl) (?_ : R (_, _, _, (zMi c0 c1 c2 c3 c4 c5 c6 c7 c8 c9 c10 c11 c12 c13 f0 f9 f10 f11 f12 f13 f15 f16 f17 f20 f21 f22 f23 f26 f28 f31 f32 f33 f38 f41 f44 x14 g15 g16 g17 g18 g19 g20 g21 g22 (upd q23_2 i.toNat (Int32.ofInt 0)) g24 g25 g26 g27 g28 g29 g30 g31 g32 g33 g34 g35 g36 g37 g38 g39 g40 g41 g42 g43 g44 t), _, _)))
          refine hR (t_inc ?_)
          refine hR (?_ : R (_, _, _, _, _, _))
          exact ih2 _ _ (by omega) (rt_i hp0_2 (by omega) (by omega)) (by omega)
        iterate 3 refine hR (?_ : R (_, _, _, _, _, _))
        refine hR (zcall_i 0 0 (Nat.le_of_ble_eq_true rfl) (Nat.le_of_ble_eq_true rfl) (m_in _ i 2 5 _ (by omega) (by omega) (by omega) _ fun v42 hp43 => ?_))
        refine (?_ : R (_, _, (.int (Int32.ofInt v42)) :: (.int (Int32.ofInt i)) :: (.ref 23) :: [], (zMi c0 c1 c2 c3 c4 c5 c6 c7 c8 c9 c10 c11 c12 c13 f0 f9 f10 f11 f12 f13 f15 f16 f17 f20 f21 f22 f23 f26 f28 f31 f32 f33 f38 f41 f44 x14 g15 g16 g17 g18 g19 g20 g21 g22 q23_2 g24 g25 g26 g27 g28 g29 g30 g31 g32 g33 g34 g35 g36 g37 g38 g39 g40 g41 g42 g43 g44 t), 0, 0))
        refine hR (k_eq (by omega) (fun hc44 => ?_) (fun hc44 => ?_))
        · skip
          refine hR (?_ : R (_, _, _, _, _, _))
          refine hR (t_st (by omega) (by omega) (Nat.le_of_ble_eq_true rfl) (?_ : R (_, _, _, (zMi c0 c1 c2 c3 c4 c5 c6 c7 c8 c9 c10 c11 c12 c13 f0 f9 f10 f11 f12 f13 f15 f16 f17 f20 f21 f22 f23 f26 f28 f31 f32 f33 f38 f41 f44 x14 g15 g16 g17 g18 g19 g20 g21 g22 (upd q23_2 i.toNat (Int32.ofInt 0)) g24 g25 g26 g27 g28 g29 g30 g31 g32 g33 g34 g35 g36 g37 g38 g39 g40 g41 g42 g43 g44 t), _, _)))
          refine hR (t_inc ?_)
          refine hR (?_ : R (_, _, _, _, _, _))
          exact ih2 _ _ (by omega) (rt_i hp0_2 (by omega) (by omega)) (by omega)
        iterate 2 refine hR (?_ : R (_, _, _, _, _, _))
        refine hR (t_sub ?_)
        refine hR (?_ : R (_, _, _, _, _, _))
        refine hR (t_st (by omega) (by omega) (Nat.le_of_ble_eq_true rfl) (?_ : R (_, _, _, (zMi c0 c1 c2 c3 c4 c5 c6 c7 c8 c9 c10 c11 c12 c13 f0 f9 f10 f11 f12 f13 f15 f16 f17 f20 f21 f22 f23 f26 f28 f31 f32 f33 f38 f41 f44 x14 g15 g16 g17 g18 g19 g20 g21 g22 (upd q23_2 i.toNat (Int32.ofInt (i - 2))) g24 g25 g26 g27 g28 g29 g30 g31 g32 g33 g34 g35 g36 g37 g38 g39 g40 g41 g42 g43 g44 t), _, _)))
        refine hR (t_inc ?_)
        refine hR (?_ : R (_, _, _, _, _, _))
        exact ih2 _ _ (by omega) (rt_i hp0_2 (by omega) (by omega)) (by omega)
      iterate 2 refine hR (?_ : R (_, _, _, _, _, _))
      refine hR (?_ : R (_, _, _, (zMi c0 c1 c2 c3 c4 c5 c6 c7 c8 c9 c10 c11 c12 c13 f0 0 f10 f11 f12 f13 f15 f16 f17 f20 f21 f22 f23 f26 f28 f31 f32 f33 f38 f41 f44 x14 g15 g16 g17 g18 g19 g20 g21 g22 q23_2 g24 g25 g26 g27 g28 g29 g30 g31 g32 g33 g34 g35 g36 g37 g38 g39 g40 g41 g42 g43 g44 t), _, _))
      iterate 2 refine hR (?_ : R (_, _, _, _, _, _))
      refine hR (?_ : R (_, _, _, (zMi c0 c1 c2 c3 c4 c5 c6 c7 c8 c9 c10 c11 c12 c13 f0 0 f10 f11 f12 f13 f15 0 f17 f20 f21 f22 f23 f26 f28 f31 f32 f33 f38 f41 f44 x14 g15 g16 g17 g18 g19 g20 g21 g22 q23_2 g24 g25 g26 g27 g28 g29 g30 g31 g32 g33 g34 g35 g36 g37 g38 g39 g40 g41 g42 g43 g44 t), _, _))
      refine hR (?_ : R (_, _, _, _, _, _))
      refine hR (zcall_i 0 0 (Nat.le_of_ble_eq_true rfl) (Nat.le_of_ble_eq_true rfl) (m_token _ (by omega) _ fun y9_2 y11_3 y12_4 y13_5 y14_6 hp7 hp8 hp9 hp10 => ?_))
      refine (?_ : R (_, _, [], (zMi c0 c1 c2 c3 c4 c5 c6 c7 c8 c9 c10 c11 c12 c13 f0 y9_2 f10 y11_3 y12_4 y13_5 f15 0 f17 f20 f21 f22 f23 f26 f28 f31 f32 f33 f38 f41 f44 y14_6 g15 g16 g17 g18 g19 g20 g21 g22 q23_2 g24 g25 g26 g27 g28 g29 g30 g31 g32 g33 g34 g35 g36 g37 g38 g39 g40 g41 g42 g43 g44 t), 0, 0))
      have hti := tI_0 (o := a1) (lf := 0) hp0_2 (by omega)
      iterate 2 refine hR (?_ : R (_, _, _, _, _, _))
      refine hR (zcall_i 0 0 (Nat.le_of_ble_eq_true rfl) (Nat.le_of_ble_eq_true rfl) (m_lines _ a1 (by omega) (by omega) (by omega) (by omega) hti _ fun v11 y9_12 y11_13 y12_14 y13_15 y14_16 y15_17 y16_18 y17_19 k23_20 k24_21 hp22 hp23 hp24 hp25 hp26 => ?_))
      refine (?_ : R (_, _, (.int (Int32.ofInt v11)) :: [], (zMi c0 c1 c2 c3 c4 c5 c6 c7 c8 c9 c10 c11 c12 c13 f0 y9_12 f10 y11_13 y12_14 y13_15 y15_17 y16_18 y17_19 f20 f21 f22 f23 f26 f28 f31 f32 f33 f38 f41 f44 y14_16 g15 g16 g17 g18 g19 g20 g21 g22 k23_20 k24_21 g25 g26 g27 g28 g29 g30 g31 g32 g33 g34 g35 g36 g37 g38 g39 g40 g41 g42 g43 g44 t), 0, 0))
      iterate 5 refine hR (?_ : R (_, _, _, _, _, _))
      refine hR (k_eq (by omega) (fun hc27 => ?_) (fun hc27 => ?_))
      · skip
        refine hR (?_ : R (_, _, _, _, _, _))
        refine hR (t_st (by omega) (by omega) (Nat.le_of_ble_eq_true rfl) (?_ : R (_, _, _, (zMi c0 c1 c2 c3 c4 c5 c6 c7 c8 c9 c10 c11 c12 c13 f0 y9_12 f10 y11_13 y12_14 y13_15 y15_17 y16_18 y17_19 f20 f21 f22 f23 f26 f28 f31 f32 f33 f38 f41 f44 y14_16 g15 g16 (upd g17 (0 : Int).toNat (Int32.ofInt 1)) g18 g19 g20 g21 g22 k23_20 k24_21 g25 g26 g27 g28 g29 g30 g31 g32 g33 g34 g35 g36 g37 g38 g39 g40 g41 g42 g43 g44 t), _, _)))
        iterate 4 refine hR (?_ : R (_, _, _, _, _, _))
        refine hR (k_ne (by omega) (fun hc => by omega) (fun _ => ?_))
        iterate 3 refine hR (?_ : R (_, _, _, _, _, _))
        refine hR (t_stx (by omega) (by omega) (Nat.le_of_ble_eq_true rfl) fun k18_29 => (?_ : R (_, _, _, (zMi c0 c1 c2 c3 c4 c5 c6 c7 c8 c9 c10 c11 c12 c13 f0 y9_12 f10 y11_13 y12_14 y13_15 y15_17 y16_18 y17_19 f20 f21 f22 f23 f26 f28 f31 f32 f33 f38 f41 f44 y14_16 g15 g16 (upd g17 (0 : Int).toNat (Int32.ofInt 1)) k18_29 g19 g20 g21 g22 k23_20 k24_21 g25 g26 g27 g28 g29 g30 g31 g32 g33 g34 g35 g36 g37 g38 g39 g40 g41 g42 g43 g44 t), _, _)))
        iterate 3 refine hR (?_ : R (_, _, _, _, _, _))
        refine hR (t_ldE (by omega) (by omega) (Nat.le_of_ble_eq_true rfl) fun v30 ev30 rv30 => ?_)
        have bv30 : v30 = 1 := by rw [ev30]; show (Int32.ofInt _).toInt = _; exact zti (by omega) (by omega)
        clear ev30
        refine hR (k_ne (by omega) (fun hc31 => ?_) (fun hc31 => ?_))
        · skip
          refine hR (?_ : R (_, _, _, _, _, _))
          exact hR (zret_i rfl (Nat.le_refl _) (zbo (by omega)) (h _ _ _ _ _ _ _ _ _ _ _ _ _ (by omega) (fun h => by omega)))
        iterate 2 refine hR (?_ : R (_, _, _, _, _, _))
        exact hR (zret_i rfl (Nat.le_refl _) (zbo (by omega)) (h _ _ _ _ _ _ _ _ _ _ _ _ _ (by omega) (fun _ => tOK_i (hp26 (by omega)) (by omega))))
      iterate 3 refine hR (?_ : R (_, _, _, _, _, _))
      refine hR (t_st (by omega) (by omega) (Nat.le_of_ble_eq_true rfl) (?_ : R (_, _, _, (zMi c0 c1 c2 c3 c4 c5 c6 c7 c8 c9 c10 c11 c12 c13 f0 y9_12 f10 y11_13 y12_14 y13_15 y15_17 y16_18 y17_19 f20 f21 f22 f23 f26 f28 f31 f32 f33 f38 f41 f44 y14_16 g15 g16 (upd g17 (0 : Int).toNat (Int32.ofInt y16_18)) g18 g19 g20 g21 g22 k23_20 k24_21 g25 g26 g27 g28 g29 g30 g31 g32 g33 g34 g35 g36 g37 g38 g39 g40 g41 g42 g43 g44 t), _, _)))
      iterate 4 refine hR (?_ : R (_, _, _, _, _, _))
      refine hR (k_ne (by omega) (fun _ => ?_) (fun hc => by omega))
      iterate 2 refine hR (?_ : R (_, _, _, _, _, _))
      refine hR (k_le (by omega) (fun hc33 => ?_) (fun hc33 => ?_))
      · skip
        refine hR (?_ : R (_, _, _, _, _, _))
        refine hR (t_stx (by omega) (by omega) (Nat.le_of_ble_eq_true rfl) fun k18_34 => (?_ : R (_, _, _, (zMi c0 c1 c2 c3 c4 c5 c6 c7 c8 c9 c10 c11 c12 c13 f0 y9_12 f10 y11_13 y12_14 y13_15 y15_17 y16_18 y17_19 f20 f21 f22 f23 f26 f28 f31 f32 f33 f38 f41 f44 y14_16 g15 g16 (upd g17 (0 : Int).toNat (Int32.ofInt y16_18)) k18_34 g19 g20 g21 g22 k23_20 k24_21 g25 g26 g27 g28 g29 g30 g31 g32 g33 g34 g35 g36 g37 g38 g39 g40 g41 g42 g43 g44 t), _, _)))
        iterate 3 refine hR (?_ : R (_, _, _, _, _, _))
        refine hR (t_ldE (by omega) (by omega) (Nat.le_of_ble_eq_true rfl) fun v35 ev35 rv35 => ?_)
        have bv35 : v35 = y16_18 := by rw [ev35]; show (Int32.ofInt _).toInt = _; exact zti (by omega) (by omega)
        clear ev35
        refine hR (k_ne (by omega) (fun hc36 => ?_) (fun hc36 => ?_))
        · skip
          refine hR (?_ : R (_, _, _, _, _, _))
          exact hR (zret_i rfl (Nat.le_refl _) (zbo (by omega)) (h _ _ _ _ _ _ _ _ _ _ _ _ _ (by omega) (fun h => by omega)))
        iterate 2 refine hR (?_ : R (_, _, _, _, _, _))
        exact hR (zret_i rfl (Nat.le_refl _) (zbo (by omega)) (h _ _ _ _ _ _ _ _ _ _ _ _ _ (by omega) (fun _ => tOK_i (hp26 (by omega)) (by omega))))
      iterate 3 refine hR (?_ : R (_, _, _, _, _, _))
      refine hR (t_stx (by omega) (by omega) (Nat.le_of_ble_eq_true rfl) fun k18_37 => (?_ : R (_, _, _, (zMi c0 c1 c2 c3 c4 c5 c6 c7 c8 c9 c10 c11 c12 c13 f0 y9_12 f10 y11_13 y12_14 y13_15 y15_17 y16_18 y17_19 f20 f21 f22 f23 f26 f28 f31 f32 f33 f38 f41 f44 y14_16 g15 g16 (upd g17 (0 : Int).toNat (Int32.ofInt y16_18)) k18_37 g19 g20 g21 g22 k23_20 k24_21 g25 g26 g27 g28 g29 g30 g31 g32 g33 g34 g35 g36 g37 g38 g39 g40 g41 g42 g43 g44 t), _, _)))
      iterate 3 refine hR (?_ : R (_, _, _, _, _, _))
      refine hR (t_ldE (by omega) (by omega) (Nat.le_of_ble_eq_true rfl) fun v38 ev38 rv38 => ?_)
      have bv38 : v38 = y16_18 := by rw [ev38]; show (Int32.ofInt _).toInt = _; exact zti (by omega) (by omega)
      clear ev38
      refine hR (k_ne (by omega) (fun hc39 => ?_) (fun hc39 => ?_))
      · skip
        refine hR (?_ : R (_, _, _, _, _, _))
        exact hR (zret_i rfl (Nat.le_refl _) (zbo (by omega)) (h _ _ _ _ _ _ _ _ _ _ _ _ _ (by omega) (fun h => by omega)))
      iterate 2 refine hR (?_ : R (_, _, _, _, _, _))
      exact hR (zret_i rfl (Nat.le_refl _) (zbo (by omega)) (h _ _ _ _ _ _ _ _ _ _ _ _ _ (by omega) (fun _ => tOK_i (hp26 (by omega)) (by omega))))
  exact lp2 400000000 _ _ (by omega) (fun j hj => by omega) (by omega)
theorem m_store20 (d : Nat) (a3 : Int) (hr0 : 0 ≤ a3 ∧ a3 ≤ 1) (Q : zQ) (h : ∀ (k20 : Nat → Int32), (k20 = kpR g20 (51 * a3.toNat) g23 51) → Q (none) (zMi c0 c1 c2 c3 c4 c5 c6 c7 c8 c9 c10 c11 c12 c13 f0 f9 f10 f11 f12 f13 f15 f16 f17 f20 f21 f22 f23 f26 f28 f31 f32 f33 f38 f41 f44 x14 g15 g16 g17 g18 g19 k20 g21 g22 g23 g24 g25 g26 g27 g28 g29 g30 g31 g32 g33 g34 g35 g36 g37 g38 g39 g40 g41 g42 g43 g44 t)) : zCl zTab (d + 1) iX12_store [.ref 14, .ref 20, .int (Int32.ofInt 51), .int (Int32.ofInt a3)] (zMi c0 c1 c2 c3 c4 c5 c6 c7 c8 c9 c10 c11 c12 c13 f0 f9 f10 f11 f12 f13 f15 f16 f17 f20 f21 f22 f23 f26 f28 f31 f32 f33 f38 f41 f44 x14 g15 g16 g17 g18 g19 g20 g21 g22 g23 g24 g25 g26 g27 g28 g29 g30 g31 g32 g33 g34 g35 g36 g37 g38 g39 g40 g41 g42 g43 g44 t) 0 0 Q := by
  refine zCl_i (M := kX12_store) rfl (Nat.le_of_ble_eq_true rfl) fun R hR => ?_
  iterate 2 refine hR (?_ : R (_, _, _, _, _, _))
  have lp3 : ∀ (N : Nat) (i : Int) (q20_3 : Nat → Int32), (0 ≤ i ∧ i ≤ 51) → (q20_3 = kpR g20 (51 * a3.toNat) g23 i.toNat) → (51 - i < N) → R (3, [some (.ref 14), some (.ref 20), some (.int (Int32.ofInt 51)), some (.int (Int32.ofInt a3)), some (.int (Int32.ofInt i))], [], (zMi c0 c1 c2 c3 c4 c5 c6 c7 c8 c9 c10 c11 c12 c13 f0 f9 f10 f11 f12 f13 f15 f16 f17 f20 f21 f22 f23 f26 f28 f31 f32 f33 f38 f41 f44 x14 g15 g16 g17 g18 g19 q20_3 g21 g22 g23 g24 g25 g26 g27 g28 g29 g30 g31 g32 g33 g34 g35 g36 g37 g38 g39 g40 g41 g42 g43 g44 t), 0, 0) := by
    intro N
    induction N with
    | zero => intros; omega
    | succ N ih3 =>
      intro i q20_3 hf0_3 hp0_3 hN3
      iterate 2 refine hR (?_ : R (_, _, _, _, _, _))
      refine hR (j_ge (by omega) (by omega) (fun hc1 => ?_) (fun hc1 => ?_))
      · skip
        exact hR (zret_i rfl (Nat.le_refl _) rfl (h _ (kpR_e hp0_3 (by omega))))
      iterate 3 refine hR (?_ : R (_, _, _, _, _, _))
      refine hR (t_mul ?_)
      refine hR (?_ : R (_, _, _, _, _, _))
      refine hR (t_add ?_)
      iterate 3 refine hR (?_ : R (_, _, _, _, _, _))
      refine hR (t_ldE (by omega) (by omega) (Nat.le_of_ble_eq_true rfl) fun v2 ev2 rv2 => ?_)
      refine hR (t_st (by omega) (by omega) (Nat.le_of_ble_eq_true rfl) (?_ : R (_, _, _, (zMi c0 c1 c2 c3 c4 c5 c6 c7 c8 c9 c10 c11 c12 c13 f0 f9 f10 f11 f12 f13 f15 f16 f17 f20 f21 f22 f23 f26 f28 f31 f32 f33 f38 f41 f44 x14 g15 g16 g17 g18 g19 (upd q20_3 ((51 * a3) + i).toNat (Int32.ofInt v2)) g21 g22 g23 g24 g25 g26 g27 g28 g29 g30 g31 g32 g33 g34 g35 g36 g37 g38 g39 g40 g41 g42 g43 g44 t), _, _)))
      refine hR (t_inc ?_)
      refine hR (?_ : R (_, _, _, _, _, _))
      exact ih3 _ _ (by omega) (kpR_s hp0_3 (by omega) (by omega) (by omega) ev2) (by omega)
  exact lp3 400000000 _ _ (by omega) (kpR_0 _ _ _) (by omega)
theorem m_store21 (d : Nat) (a3 : Int) (hr0 : 0 ≤ a3 ∧ a3 ≤ 1) (Q : zQ) (h : ∀ (k21 : Nat → Int32), (k21 = kpR g21 (121 * a3.toNat) g23 121) → Q (none) (zMi c0 c1 c2 c3 c4 c5 c6 c7 c8 c9 c10 c11 c12 c13 f0 f9 f10 f11 f12 f13 f15 f16 f17 f20 f21 f22 f23 f26 f28 f31 f32 f33 f38 f41 f44 x14 g15 g16 g17 g18 g19 g20 k21 g22 g23 g24 g25 g26 g27 g28 g29 g30 g31 g32 g33 g34 g35 g36 g37 g38 g39 g40 g41 g42 g43 g44 t)) : zCl zTab (d + 1) iX12_store [.ref 14, .ref 21, .int (Int32.ofInt 121), .int (Int32.ofInt a3)] (zMi c0 c1 c2 c3 c4 c5 c6 c7 c8 c9 c10 c11 c12 c13 f0 f9 f10 f11 f12 f13 f15 f16 f17 f20 f21 f22 f23 f26 f28 f31 f32 f33 f38 f41 f44 x14 g15 g16 g17 g18 g19 g20 g21 g22 g23 g24 g25 g26 g27 g28 g29 g30 g31 g32 g33 g34 g35 g36 g37 g38 g39 g40 g41 g42 g43 g44 t) 0 0 Q := by
  refine zCl_i (M := kX12_store) rfl (Nat.le_of_ble_eq_true rfl) fun R hR => ?_
  iterate 2 refine hR (?_ : R (_, _, _, _, _, _))
  have lp3 : ∀ (N : Nat) (i : Int) (q21_3 : Nat → Int32), (0 ≤ i ∧ i ≤ 121) → (q21_3 = kpR g21 (121 * a3.toNat) g23 i.toNat) → (121 - i < N) → R (3, [some (.ref 14), some (.ref 21), some (.int (Int32.ofInt 121)), some (.int (Int32.ofInt a3)), some (.int (Int32.ofInt i))], [], (zMi c0 c1 c2 c3 c4 c5 c6 c7 c8 c9 c10 c11 c12 c13 f0 f9 f10 f11 f12 f13 f15 f16 f17 f20 f21 f22 f23 f26 f28 f31 f32 f33 f38 f41 f44 x14 g15 g16 g17 g18 g19 g20 q21_3 g22 g23 g24 g25 g26 g27 g28 g29 g30 g31 g32 g33 g34 g35 g36 g37 g38 g39 g40 g41 g42 g43 g44 t), 0, 0) := by
    intro N
    induction N with
    | zero => intros; omega
    | succ N ih3 =>
      intro i q21_3 hf0_3 hp0_3 hN3
      iterate 2 refine hR (?_ : R (_, _, _, _, _, _))
      refine hR (j_ge (by omega) (by omega) (fun hc1 => ?_) (fun hc1 => ?_))
      · skip
        exact hR (zret_i rfl (Nat.le_refl _) rfl (h _ (kpR_e hp0_3 (by omega))))
      iterate 3 refine hR (?_ : R (_, _, _, _, _, _))
      refine hR (t_mul ?_)
      refine hR (?_ : R (_, _, _, _, _, _))
      refine hR (t_add ?_)
      iterate 3 refine hR (?_ : R (_, _, _, _, _, _))
      refine hR (t_ldE (by omega) (by omega) (Nat.le_of_ble_eq_true rfl) fun v2 ev2 rv2 => ?_)
      refine hR (t_st (by omega) (by omega) (Nat.le_of_ble_eq_true rfl) (?_ : R (_, _, _, (zMi c0 c1 c2 c3 c4 c5 c6 c7 c8 c9 c10 c11 c12 c13 f0 f9 f10 f11 f12 f13 f15 f16 f17 f20 f21 f22 f23 f26 f28 f31 f32 f33 f38 f41 f44 x14 g15 g16 g17 g18 g19 g20 (upd q21_3 ((121 * a3) + i).toNat (Int32.ofInt v2)) g22 g23 g24 g25 g26 g27 g28 g29 g30 g31 g32 g33 g34 g35 g36 g37 g38 g39 g40 g41 g42 g43 g44 t), _, _)))
      refine hR (t_inc ?_)
      refine hR (?_ : R (_, _, _, _, _, _))
      exact ih3 _ _ (by omega) (kpR_s hp0_3 (by omega) (by omega) (by omega) ev2) (by omega)
  exact lp3 400000000 _ _ (by omega) (kpR_0 _ _ _) (by omega)
theorem m_store22 (d : Nat) (a3 : Int) (hr0 : 0 ≤ a3 ∧ a3 ≤ 1) (Q : zQ) (h : ∀ (k22 : Nat → Int32), (k22 = kpR g22 (13 * a3.toNat) g23 13) → Q (none) (zMi c0 c1 c2 c3 c4 c5 c6 c7 c8 c9 c10 c11 c12 c13 f0 f9 f10 f11 f12 f13 f15 f16 f17 f20 f21 f22 f23 f26 f28 f31 f32 f33 f38 f41 f44 x14 g15 g16 g17 g18 g19 g20 g21 k22 g23 g24 g25 g26 g27 g28 g29 g30 g31 g32 g33 g34 g35 g36 g37 g38 g39 g40 g41 g42 g43 g44 t)) : zCl zTab (d + 1) iX12_store [.ref 14, .ref 22, .int (Int32.ofInt 13), .int (Int32.ofInt a3)] (zMi c0 c1 c2 c3 c4 c5 c6 c7 c8 c9 c10 c11 c12 c13 f0 f9 f10 f11 f12 f13 f15 f16 f17 f20 f21 f22 f23 f26 f28 f31 f32 f33 f38 f41 f44 x14 g15 g16 g17 g18 g19 g20 g21 g22 g23 g24 g25 g26 g27 g28 g29 g30 g31 g32 g33 g34 g35 g36 g37 g38 g39 g40 g41 g42 g43 g44 t) 0 0 Q := by
  refine zCl_i (M := kX12_store) rfl (Nat.le_of_ble_eq_true rfl) fun R hR => ?_
  iterate 2 refine hR (?_ : R (_, _, _, _, _, _))
  have lp3 : ∀ (N : Nat) (i : Int) (q22_3 : Nat → Int32), (0 ≤ i ∧ i ≤ 13) → (q22_3 = kpR g22 (13 * a3.toNat) g23 i.toNat) → (13 - i < N) → R (3, [some (.ref 14), some (.ref 22), some (.int (Int32.ofInt 13)), some (.int (Int32.ofInt a3)), some (.int (Int32.ofInt i))], [], (zMi c0 c1 c2 c3 c4 c5 c6 c7 c8 c9 c10 c11 c12 c13 f0 f9 f10 f11 f12 f13 f15 f16 f17 f20 f21 f22 f23 f26 f28 f31 f32 f33 f38 f41 f44 x14 g15 g16 g17 g18 g19 g20 g21 q22_3 g23 g24 g25 g26 g27 g28 g29 g30 g31 g32 g33 g34 g35 g36 g37 g38 g39 g40 g41 g42 g43 g44 t), 0, 0) := by
    intro N
    induction N with
    | zero => intros; omega
    | succ N ih3 =>
      intro i q22_3 hf0_3 hp0_3 hN3
      iterate 2 refine hR (?_ : R (_, _, _, _, _, _))
      refine hR (j_ge (by omega) (by omega) (fun hc1 => ?_) (fun hc1 => ?_))
      · skip
        exact hR (zret_i rfl (Nat.le_refl _) rfl (h _ (kpR_e hp0_3 (by omega))))
      iterate 3 refine hR (?_ : R (_, _, _, _, _, _))
      refine hR (t_mul ?_)
      refine hR (?_ : R (_, _, _, _, _, _))
      refine hR (t_add ?_)
      iterate 3 refine hR (?_ : R (_, _, _, _, _, _))
      refine hR (t_ldE (by omega) (by omega) (Nat.le_of_ble_eq_true rfl) fun v2 ev2 rv2 => ?_)
      refine hR (t_st (by omega) (by omega) (Nat.le_of_ble_eq_true rfl) (?_ : R (_, _, _, (zMi c0 c1 c2 c3 c4 c5 c6 c7 c8 c9 c10 c11 c12 c13 f0 f9 f10 f11 f12 f13 f15 f16 f17 f20 f21 f22 f23 f26 f28 f31 f32 f33 f38 f41 f44 x14 g15 g16 g17 g18 g19 g20 g21 (upd q22_3 ((13 * a3) + i).toNat (Int32.ofInt v2)) g23 g24 g25 g26 g27 g28 g29 g30 g31 g32 g33 g34 g35 g36 g37 g38 g39 g40 g41 g42 g43 g44 t), _, _)))
      refine hR (t_inc ?_)
      refine hR (?_ : R (_, _, _, _, _, _))
      exact ih3 _ _ (by omega) (kpR_s hp0_3 (by omega) (by omega) (by omega) ev2) (by omega)
  exact lp3 400000000 _ _ (by omega) (kpR_0 _ _ _) (by omega)
end MZ
theorem tx_o {g : Nat → Int32} {x : Int32} {j : Nat} (hj : j ≠ 0) : upd g (0 : Int).toNat x j = g j := if_neg hj
theorem bk_kp {g q T : Nat → Int32} {a : Int} (hg : bkOK g) (hq : q = kpR g (51 * a.toNat) T 51) (hT : bkR T) (ha : 0 ≤ a ∧ a ≤ 1) : bkOK q := by
  intro b hb
  have h1 := hg b hb
  by_cases hbb : b = a.toNat
  · obtain ⟨t0, t1, t2, t3, t4⟩ := hT
    have hin : ∀ j, j < 51 → q (51 * b + j) = T j := by
      intro j hj
      rw [hq]; unfold kpR
      rw [if_pos (by omega), show 51 * b + j - 51 * a.toNat = j by omega]
    refine ⟨?_, ?_, fun j q1 q2 => ?_, fun j q1 q2 => ?_, fun j q1 => ?_⟩
    · dsimp only; rw [hin 0 (by omega)]; exact t0
    · dsimp only; rw [hin 1 (by omega)]; exact t1
    · dsimp only; rw [hin j (by omega)]; exact t2 j q1 q2
    · dsimp only; rw [hin j (by omega)]; exact t3 j q1 q2
    · dsimp only; rw [hin (11 + 2 * j) (by omega), hin (12 + 2 * j) (by omega)]; exact t4 j q1
  · have hout : ∀ j, j < 51 → q (51 * b + j) = g (51 * b + j) := by
      intro j hj
      rw [hq]; unfold kpR
      rw [if_neg (by omega)]
    obtain ⟨t0, t1, t2, t3, t4⟩ := h1
    refine ⟨?_, ?_, fun j q1 q2 => ?_, fun j q1 q2 => ?_, fun j q1 => ?_⟩
    · dsimp only; rw [hout 0 (by omega)]; exact t0
    · dsimp only; rw [hout 1 (by omega)]; exact t1
    · dsimp only; rw [hout j (by omega)]; exact t2 j q1 q2
    · dsimp only; rw [hout j (by omega)]; exact t3 j q1 q2
    · dsimp only; rw [hout (11 + 2 * j) (by omega), hout (12 + 2 * j) (by omega)]; exact t4 j q1
theorem yr_kp {g q T : Nat → Int32} {a : Int} (hg : yrOK g) (hq : q = kpR g (121 * a.toNat) T 121) (hT : yrR T) (ha : 0 ≤ a ∧ a ≤ 1) : yrOK q := by
  intro b hb
  have h1 := hg b hb
  by_cases hbb : b = a.toNat
  · obtain ⟨t0, t1⟩ := hT
    have hin : ∀ j, j < 121 → q (121 * b + j) = T j := by
      intro j hj
      rw [hq]; unfold kpR
      rw [if_pos (by omega), show 121 * b + j - 121 * a.toNat = j by omega]
    refine ⟨?_, fun k hk => ?_⟩
    · dsimp only; rw [hin 0 (by omega)]; exact t0
    · dsimp only; rw [hin (1 + 3 * k) (by omega), hin (2 + 3 * k) (by omega), hin (3 + 3 * k) (by omega)]; exact t1 k hk
  · have hout : ∀ j, j < 121 → q (121 * b + j) = g (121 * b + j) := by
      intro j hj
      rw [hq]; unfold kpR
      rw [if_neg (by omega)]
    obtain ⟨t0, t1⟩ := h1
    refine ⟨?_, fun k hk => ?_⟩
    · dsimp only; rw [hout 0 (by omega)]; exact t0
    · dsimp only; rw [hout (1 + 3 * k) (by omega), hout (2 + 3 * k) (by omega), hout (3 + 3 * k) (by omega)]; exact t1 k hk
theorem si_kp {g q T : Nat → Int32} {a : Int} (hg : siOK g) (hq : q = kpR g (13 * a.toNat) T 13) (hT : 0 ≤ (T 0).toInt ∧ (T 0).toInt ≤ 6) (ha : 0 ≤ a ∧ a ≤ 1) : siOK q := by
  intro b hb
  have h1 := hg b hb
  by_cases hbb : b = a.toNat
  · have hin : q (13 * b) = T 0 := by
      rw [hq]; unfold kpR
      rw [if_pos (by omega), show 13 * b - 13 * a.toNat = 0 by omega]
    rw [hin]; exact hT
  · have hout : q (13 * b) = g (13 * b) := by
      rw [hq]; unfold kpR
      rw [if_neg (by omega)]
    rw [hout]; exact h1
theorem cp_row {g : Nat → Int32} {n fr to m : Nat} (b : Nat) (hm : m * 2 = n) : ∃ b2, (b2 = b ∨ b2 = 2 * fr ∨ b2 = 2 * fr + 1) ∧ ∀ j, j < m → cpR g n fr to n (m * b + j) = g (m * b2 + j) := by
  subst hm
  have e1 : m * 2 * to = m * (2 * to) := by rw [Nat.mul_assoc]
  have e2 : m * 2 * fr = m * (2 * fr) := by rw [Nat.mul_assoc]
  by_cases h1 : b = 2 * to
  · refine ⟨2 * fr, Or.inr (Or.inl rfl), fun j hj => ?_⟩
    subst h1
    unfold cpR
    rw [e1, e2, if_pos (by omega)]
    congr 1; omega
  · by_cases h2 : b = 2 * to + 1
    · refine ⟨2 * fr + 1, Or.inr (Or.inr rfl), fun j hj => ?_⟩
      subst h2
      unfold cpR
      rw [e1, e2, Nat.mul_add, Nat.mul_add, if_pos (by omega)]
      congr 1; omega
    · refine ⟨b, Or.inl rfl, fun j hj => ?_⟩
      unfold cpR
      rw [e1, if_neg]
      intro q
      by_cases q1 : b < 2 * to
      · have := Nat.mul_le_mul_left m (show b + 1 ≤ 2 * to by omega)
        rw [Nat.mul_add, Nat.mul_one] at this
        omega
      · have := Nat.mul_le_mul_left m (show 2 * to + 2 ≤ b by omega)
        rw [Nat.mul_add] at this
        omega
theorem bk_cp {g : Nat → Int32} (hg : bkOK g) {fr to : Nat} (hf : fr ≤ 3) : bkOK (cpR g 102 fr to 102) := by
  intro b hb
  obtain ⟨b2, h1, h2⟩ := cp_row (g := g) (n := 102) (fr := fr) (to := to) (m := 51) b rfl
  obtain ⟨t0, t1, t2, t3, t4⟩ := hg b2 (by omega)
  refine ⟨?_, ?_, fun j q1 q2 => ?_, fun j q1 q2 => ?_, fun j q1 => ?_⟩
  · dsimp only; rw [h2 0 (by omega)]; exact t0
  · dsimp only; rw [h2 1 (by omega)]; exact t1
  · dsimp only; rw [h2 j (by omega)]; exact t2 j q1 q2
  · dsimp only; rw [h2 j (by omega)]; exact t3 j q1 q2
  · dsimp only; rw [h2 (11 + 2 * j) (by omega), h2 (12 + 2 * j) (by omega)]; exact t4 j q1
theorem yr_cp {g : Nat → Int32} (hg : yrOK g) {fr to : Nat} (hf : fr ≤ 3) : yrOK (cpR g 242 fr to 242) := by
  intro b hb
  obtain ⟨b2, h1, h2⟩ := cp_row (g := g) (n := 242) (fr := fr) (to := to) (m := 121) b rfl
  obtain ⟨t0, t1⟩ := hg b2 (by omega)
  refine ⟨?_, fun k hk => ?_⟩
  · dsimp only; rw [h2 0 (by omega)]; exact t0
  · dsimp only; rw [h2 (1 + 3 * k) (by omega), h2 (2 + 3 * k) (by omega), h2 (3 + 3 * k) (by omega)]; exact t1 k hk
theorem si_cp {g : Nat → Int32} (hg : siOK g) {fr to : Nat} (hf : fr ≤ 3) : siOK (cpR g 26 fr to 26) := by
  intro b hb
  obtain ⟨b2, h1, h2⟩ := cp_row (g := g) (n := 26) (fr := fr) (to := to) (m := 13) b rfl
  have := hg b2 (by omega)
  have e := h2 0 (by omega)
  rw [Nat.add_zero, Nat.add_zero] at e
  rw [e]; exact this
section MZ
variable {c0 c1 c2 c3 c4 c5 c6 c7 c8 c9 c10 c11 c12 c13 : va_E} {f0 f9 f10 f11 f12 f13 f15 f16 f17 f20 f21 f22 f23 f26 f28 f31 f32 f33 f38 f41 f44 : Int} {x14 : Int64} {g15 g16 g17 g18 g19 g20 g21 g22 g23 g24 g25 g26 g27 g28 g29 g30 g31 g32 g33 g34 g35 g36 g37 g38 g39 g40 g41 g42 g43 g44 : Nat → Int32} {t : zW}
theorem m_text (d : Nat) (a1 a2 : Int) (hb19 : zB 0 2 g19) (hr1 : zB 0 600 g16) (hr2 : bkOK g20) (hr3 : yrOK g21) (hr4 : siOK g22) (hr5 : -2147483648 ≤ a1 ∧ a1 ≤ 2147483647) (hr6 : -2147483648 ≤ a2 ∧ a2 ≤ 2147483647) (Q : zQ) (h : ∀ (v : Int) (y0 : Int) (y9 : Int) (y10 : Int) (y11 : Int) (y12 : Int) (y13 : Int) (y14 : Int64) (y15 : Int) (y16 : Int) (y17 : Int) (y21 : Int) (k16 : Nat → Int32) (k17 : Nat → Int32) (k18 : Nat → Int32) (k19 : Nat → Int32) (k20 : Nat → Int32) (k21 : Nat → Int32) (k22 : Nat → Int32) (k23 : Nat → Int32) (k24 : Nat → Int32), zB 0 2 k19 → ((k16 0).toInt = 0) → (∀ j, j ≠ 0 → k16 j = g16 j) → (bkOK k20) → (yrOK k21) → (siOK k22) → Q (some (.int (Int32.ofInt v))) (zMi c0 c1 c2 c3 c4 c5 c6 c7 c8 c9 c10 c11 c12 c13 y0 y9 y10 y11 y12 y13 y15 y16 y17 f20 y21 f22 f23 f26 f28 f31 f32 f33 f38 f41 f44 y14 g15 k16 k17 k18 k19 k20 k21 k22 k23 k24 g25 g26 g27 g28 g29 g30 g31 g32 g33 g34 g35 g36 g37 g38 g39 g40 g41 g42 g43 g44 t)) : zCl zTab (d + 10) iX12_text [.ref 14, .int (Int32.ofInt a1), .int (Int32.ofInt a2)] (zMi c0 c1 c2 c3 c4 c5 c6 c7 c8 c9 c10 c11 c12 c13 f0 f9 f10 f11 f12 f13 f15 f16 f17 f20 f21 f22 f23 f26 f28 f31 f32 f33 f38 f41 f44 x14 g15 g16 g17 g18 g19 g20 g21 g22 g23 g24 g25 g26 g27 g28 g29 g30 g31 g32 g33 g34 g35 g36 g37 g38 g39 g40 g41 g42 g43 g44 t) 0 0 Q := by
  refine zCl_i (M := kX12_text) rfl (Nat.le_of_ble_eq_true rfl) fun R hR => ?_
  iterate 2 refine hR (?_ : R (_, _, _, _, _, _))
  refine hR (?_ : R (_, _, _, (zMi c0 c1 c2 c3 c4 c5 c6 c7 c8 c9 c10 c11 c12 c13 0 f9 f10 f11 f12 f13 f15 f16 f17 f20 f21 f22 f23 f26 f28 f31 f32 f33 f38 f41 f44 x14 g15 g16 g17 g18 g19 g20 g21 g22 g23 g24 g25 g26 g27 g28 g29 g30 g31 g32 g33 g34 g35 g36 g37 g38 g39 g40 g41 g42 g43 g44 t), _, _))
  iterate 4 refine hR (?_ : R (_, _, _, _, _, _))
  refine hR (t_ldE (by omega) (by omega) (Nat.le_of_ble_eq_true rfl) fun v1 ev1 rv1 => ?_)
  have bv1 : v1 = (g16 0).toInt := ev1
  have cv1 := hr1 0
  refine hR (?_ : R (_, _, _, (zMi c0 c1 c2 c3 c4 c5 c6 c7 c8 c9 c10 c11 c12 c13 0 f9 v1 f11 f12 f13 f15 f16 f17 f20 f21 f22 f23 f26 f28 f31 f32 f33 f38 f41 f44 x14 g15 g16 g17 g18 g19 g20 g21 g22 g23 g24 g25 g26 g27 g28 g29 g30 g31 g32 g33 g34 g35 g36 g37 g38 g39 g40 g41 g42 g43 g44 t), _, _))
  iterate 4 refine hR (?_ : R (_, _, _, _, _, _))
  refine hR (t_st (by omega) (by omega) (Nat.le_of_ble_eq_true rfl) (?_ : R (_, _, _, (zMi c0 c1 c2 c3 c4 c5 c6 c7 c8 c9 c10 c11 c12 c13 0 f9 v1 f11 f12 f13 f15 f16 f17 f20 f21 f22 f23 f26 f28 f31 f32 f33 f38 f41 f44 x14 g15 (upd g16 (0 : Int).toNat (Int32.ofInt 0)) g17 g18 g19 g20 g21 g22 g23 g24 g25 g26 g27 g28 g29 g30 g31 g32 g33 g34 g35 g36 g37 g38 g39 g40 g41 g42 g43 g44 t), _, _)))
  iterate 4 refine hR (?_ : R (_, _, _, _, _, _))
  refine hR (t_stx (by omega) (by omega) (Nat.le_of_ble_eq_true rfl) fun k17_3 => (?_ : R (_, _, _, (zMi c0 c1 c2 c3 c4 c5 c6 c7 c8 c9 c10 c11 c12 c13 0 f9 v1 f11 f12 f13 f15 f16 f17 f20 f21 f22 f23 f26 f28 f31 f32 f33 f38 f41 f44 x14 g15 (upd g16 (0 : Int).toNat (Int32.ofInt 0)) k17_3 g18 g19 g20 g21 g22 g23 g24 g25 g26 g27 g28 g29 g30 g31 g32 g33 g34 g35 g36 g37 g38 g39 g40 g41 g42 g43 g44 t), _, _)))
  iterate 4 refine hR (?_ : R (_, _, _, _, _, _))
  refine hR (t_stx (by omega) (by omega) (Nat.le_of_ble_eq_true rfl) fun k18_4 => (?_ : R (_, _, _, (zMi c0 c1 c2 c3 c4 c5 c6 c7 c8 c9 c10 c11 c12 c13 0 f9 v1 f11 f12 f13 f15 f16 f17 f20 f21 f22 f23 f26 f28 f31 f32 f33 f38 f41 f44 x14 g15 (upd g16 (0 : Int).toNat (Int32.ofInt 0)) k17_3 k18_4 g19 g20 g21 g22 g23 g24 g25 g26 g27 g28 g29 g30 g31 g32 g33 g34 g35 g36 g37 g38 g39 g40 g41 g42 g43 g44 t), _, _)))
  iterate 3 refine hR (?_ : R (_, _, _, _, _, _))
  refine hR (zcall_i 0 0 (Nat.le_of_ble_eq_true rfl) (Nat.le_of_ble_eq_true rfl) (m_in _ a1 0 2 _ (by omega) (by omega) (by omega) _ fun v5 hp6 => ?_))
  refine (?_ : R (_, _, (.int (Int32.ofInt v5)) :: [], (zMi c0 c1 c2 c3 c4 c5 c6 c7 c8 c9 c10 c11 c12 c13 0 f9 v1 f11 f12 f13 f15 f16 f17 f20 f21 f22 f23 f26 f28 f31 f32 f33 f38 f41 f44 x14 g15 (upd g16 (0 : Int).toNat (Int32.ofInt 0)) k17_3 k18_4 g19 g20 g21 g22 g23 g24 g25 g26 g27 g28 g29 g30 g31 g32 g33 g34 g35 g36 g37 g38 g39 g40 g41 g42 g43 g44 t), 0, 0))
  refine hR (k_eq (by omega) (fun hc7 => ?_) (fun hc7 => ?_))
  · skip
    refine hR (t_c (-2) (by decide) ?_)
    exact hR (zret_i rfl (Nat.le_refl _) trivial (h _ _ _ _ _ _ _ _ _ _ _ _ _ _ _ _ _ _ _ _ _ hb19 (by rfl) (fun j hj => tx_o hj) hr2 hr3 hr4))
  iterate 2 refine hR (?_ : R (_, _, _, _, _, _))
  refine hR (j_ne (by omega) (by omega) (fun hc8 => ?_) (fun hc8 => ?_))
  · skip
    iterate 3 refine hR (?_ : R (_, _, _, _, _, _))
    refine hR (zcall_i 0 0 (Nat.le_of_ble_eq_true rfl) (Nat.le_of_ble_eq_true rfl) (m_is _ a1 a2 hb19 (by omega) (by omega) _ fun v9 hp10 => ?_))
    refine (?_ : R (_, _, (.int (Int32.ofInt v9)) :: [], (zMi c0 c1 c2 c3 c4 c5 c6 c7 c8 c9 c10 c11 c12 c13 0 f9 v1 f11 f12 f13 f15 f16 f17 f20 f21 f22 f23 f26 f28 f31 f32 f33 f38 f41 f44 x14 g15 (upd g16 (0 : Int).toNat (Int32.ofInt 0)) k17_3 k18_4 g19 g20 g21 g22 g23 g24 g25 g26 g27 g28 g29 g30 g31 g32 g33 g34 g35 g36 g37 g38 g39 g40 g41 g42 g43 g44 t), 0, 0))
    refine hR (k_ne (by omega) (fun hc11 => ?_) (fun hc11 => ?_))
    rotate_left
    · skip
      refine hR (t_c (-2) (by decide) ?_)
      exact hR (zret_i rfl (Nat.le_refl _) trivial (h _ _ _ _ _ _ _ _ _ _ _ _ _ _ _ _ _ _ _ _ _ hb19 (by rfl) (fun j hj => tx_o hj) hr2 hr3 hr4))
    iterate 2 refine hR (?_ : R (_, _, _, _, _, _))
    refine hR (zcall_i 0 0 (Nat.le_of_ble_eq_true rfl) (Nat.le_of_ble_eq_true rfl) (m_readText _ a1 (by omega) (by omega) _ fun v12 y9_13 y11_14 y12_15 y13_16 y14_17 y15_18 y16_19 y17_20 k17_21 k18_22 k23_23 k24_24 hp25 hp26 => ?_))
    refine (?_ : R (_, _, (.int (Int32.ofInt v12)) :: [], (zMi c0 c1 c2 c3 c4 c5 c6 c7 c8 c9 c10 c11 c12 c13 0 y9_13 v1 y11_14 y12_15 y13_16 y15_18 y16_19 y17_20 f20 f21 f22 f23 f26 f28 f31 f32 f33 f38 f41 f44 y14_17 g15 (upd g16 (0 : Int).toNat (Int32.ofInt 0)) k17_21 k18_22 g19 g20 g21 g22 k23_23 k24_24 g25 g26 g27 g28 g29 g30 g31 g32 g33 g34 g35 g36 g37 g38 g39 g40 g41 g42 g43 g44 t), 0, 0))
    refine hR (k_ne (by omega) (fun hc27 => ?_) (fun hc27 => ?_))
    rotate_left
    · skip
      refine hR (?_ : R (_, _, _, _, _, _))
      exact hR (zret_i rfl (Nat.le_refl _) trivial (h _ _ _ _ _ _ _ _ _ _ _ _ _ _ _ _ _ _ _ _ _ hb19 (by rfl) (fun j hj => tx_o hj) hr2 hr3 hr4))
    iterate 2 refine hR (?_ : R (_, _, _, _, _, _))
    refine hR (j_ne (by omega) (by omega) (fun _ => ?_) (fun hc => by omega))
    iterate 6 refine hR (?_ : R (_, _, _, _, _, _))
    refine hR (t_ldB hb19 (by omega) (by omega) (Nat.le_of_ble_eq_true rfl) fun v28 ev28 lv28 uv28 => ?_)
    iterate 2 refine hR (?_ : R (_, _, _, _, _, _))
    refine hR (j_ne (by omega) (by omega) (fun _ => ?_) (fun hc => by omega))
    refine hR (?_ : R (_, _, _, _, _, _))
    refine hR (t_add ?_)
    refine hR (t_stB hb19 (by omega) (by omega) (by omega) (by omega) (by omega) (by omega) (Nat.le_of_ble_eq_true rfl) fun k19_29 hk19_29 => (?_ : R (_, _, _, (zMi c0 c1 c2 c3 c4 c5 c6 c7 c8 c9 c10 c11 c12 c13 0 y9_13 v1 y11_14 y12_15 y13_16 y15_18 y16_19 y17_20 f20 f21 f22 f23 f26 f28 f31 f32 f33 f38 f41 f44 y14_17 g15 (upd g16 (0 : Int).toNat (Int32.ofInt 0)) k17_21 k18_22 k19_29 g20 g21 g22 k23_23 k24_24 g25 g26 g27 g28 g29 g30 g31 g32 g33 g34 g35 g36 g37 g38 g39 g40 g41 g42 g43 g44 t), _, _)))
    refine hR (?_ : R (_, _, _, _, _, _))
    refine hR (k_ne (by omega) (fun hc30 => ?_) (fun hc30 => ?_))
    rotate_left
    · skip
      iterate 3 refine hR (?_ : R (_, _, _, _, _, _))
      refine hR (t_c 51 (by decide) ?_)
      refine hR (?_ : R (_, _, _, _, _, _))
      refine hR (zcall_i 0 0 (Nat.le_of_ble_eq_true rfl) (Nat.le_of_ble_eq_true rfl) (m_store20 _ a2 (by omega) _ fun k20_36 hp37 => ?_))
      refine (?_ : R (_, _, [], (zMi c0 c1 c2 c3 c4 c5 c6 c7 c8 c9 c10 c11 c12 c13 0 y9_13 v1 y11_14 y12_15 y13_16 y15_18 y16_19 y17_20 f20 f21 f22 f23 f26 f28 f31 f32 f33 f38 f41 f44 y14_17 g15 (upd g16 (0 : Int).toNat (Int32.ofInt 0)) k17_21 k18_22 k19_29 k20_36 g21 g22 k23_23 k24_24 g25 g26 g27 g28 g29 g30 g31 g32 g33 g34 g35 g36 g37 g38 g39 g40 g41 g42 g43 g44 t), 0, 0))
      iterate 2 refine hR (?_ : R (_, _, _, _, _, _))
      refine hR (?_ : R (_, _, _, (zMi c0 c1 c2 c3 c4 c5 c6 c7 c8 c9 c10 c11 c12 c13 0 y9_13 v1 y11_14 y12_15 y13_16 y15_18 y16_19 y17_20 f20 ((-1)) f22 f23 f26 f28 f31 f32 f33 f38 f41 f44 y14_17 g15 (upd g16 (0 : Int).toNat (Int32.ofInt 0)) k17_21 k18_22 k19_29 k20_36 g21 g22 k23_23 k24_24 g25 g26 g27 g28 g29 g30 g31 g32 g33 g34 g35 g36 g37 g38 g39 g40 g41 g42 g43 g44 t), _, _))
      iterate 2 refine hR (?_ : R (_, _, _, _, _, _))
      exact hR (zret_i rfl (Nat.le_refl _) trivial (h _ _ _ _ _ _ _ _ _ _ _ _ _ _ _ _ _ _ _ _ _ hk19_29 (by rfl) (fun j hj => tx_o hj) (bk_kp hr2 hp37 ((hp26 (by omega)).1 (by omega)) (by omega)) hr3 hr4))
    iterate 2 refine hR (?_ : R (_, _, _, _, _, _))
    refine hR (j_ne (by omega) (by omega) (fun hc31 => ?_) (fun hc31 => ?_))
    · skip
      iterate 3 refine hR (?_ : R (_, _, _, _, _, _))
      refine hR (t_c 13 (by decide) ?_)
      refine hR (?_ : R (_, _, _, _, _, _))
      refine hR (zcall_i 0 0 (Nat.le_of_ble_eq_true rfl) (Nat.le_of_ble_eq_true rfl) (m_store22 _ a2 (by omega) _ fun k22_32 hp33 => ?_))
      refine (?_ : R (_, _, [], (zMi c0 c1 c2 c3 c4 c5 c6 c7 c8 c9 c10 c11 c12 c13 0 y9_13 v1 y11_14 y12_15 y13_16 y15_18 y16_19 y17_20 f20 f21 f22 f23 f26 f28 f31 f32 f33 f38 f41 f44 y14_17 g15 (upd g16 (0 : Int).toNat (Int32.ofInt 0)) k17_21 k18_22 k19_29 g20 g21 k22_32 k23_23 k24_24 g25 g26 g27 g28 g29 g30 g31 g32 g33 g34 g35 g36 g37 g38 g39 g40 g41 g42 g43 g44 t), 0, 0))
      refine hR (?_ : R (_, _, _, _, _, _))
      exact hR (zret_i rfl (Nat.le_refl _) trivial (h _ _ _ _ _ _ _ _ _ _ _ _ _ _ _ _ _ _ _ _ _ hk19_29 (by rfl) (fun j hj => tx_o hj) hr2 hr3 (si_kp hr4 hp33 ((hp26 (by omega)).2.2 (by omega)) (by omega))))
    iterate 3 refine hR (?_ : R (_, _, _, _, _, _))
    refine hR (t_c 121 (by decide) ?_)
    refine hR (?_ : R (_, _, _, _, _, _))
    refine hR (zcall_i 0 0 (Nat.le_of_ble_eq_true rfl) (Nat.le_of_ble_eq_true rfl) (m_store21 _ a2 (by omega) _ fun k21_34 hp35 => ?_))
    refine (?_ : R (_, _, [], (zMi c0 c1 c2 c3 c4 c5 c6 c7 c8 c9 c10 c11 c12 c13 0 y9_13 v1 y11_14 y12_15 y13_16 y15_18 y16_19 y17_20 f20 f21 f22 f23 f26 f28 f31 f32 f33 f38 f41 f44 y14_17 g15 (upd g16 (0 : Int).toNat (Int32.ofInt 0)) k17_21 k18_22 k19_29 g20 k21_34 g22 k23_23 k24_24 g25 g26 g27 g28 g29 g30 g31 g32 g33 g34 g35 g36 g37 g38 g39 g40 g41 g42 g43 g44 t), 0, 0))
    iterate 2 refine hR (?_ : R (_, _, _, _, _, _))
    exact hR (zret_i rfl (Nat.le_refl _) trivial (h _ _ _ _ _ _ _ _ _ _ _ _ _ _ _ _ _ _ _ _ _ hk19_29 (by rfl) (fun j hj => tx_o hj) hr2 (yr_kp hr3 hp35 ((hp26 (by omega)).2.1 (by omega)) (by omega)) hr4))
  iterate 3 refine hR (?_ : R (_, _, _, _, _, _))
  refine hR (t_ldB hb19 (by omega) (by omega) (Nat.le_of_ble_eq_true rfl) fun v38 ev38 lv38 uv38 => ?_)
  refine hR (?_ : R (_, _, _, _, _, _))
  refine hR (j_ne (by omega) (by omega) (fun hc39 => ?_) (fun hc39 => ?_))
  rotate_left
  · skip
    refine hR (?_ : R (_, _, _, _, _, _))
    refine hR (t_c (-2) (by decide) ?_)
    exact hR (zret_i rfl (Nat.le_refl _) trivial (h _ _ _ _ _ _ _ _ _ _ _ _ _ _ _ _ _ _ _ _ _ hb19 (by rfl) (fun j hj => tx_o hj) hr2 hr3 hr4))
  iterate 2 refine hR (?_ : R (_, _, _, _, _, _))
  refine hR (zcall_i 0 0 (Nat.le_of_ble_eq_true rfl) (Nat.le_of_ble_eq_true rfl) (m_readText _ a1 (by omega) (by omega) _ fun v40 y9_41 y11_42 y12_43 y13_44 y14_45 y15_46 y16_47 y17_48 k17_49 k18_50 k23_51 k24_52 hp53 hp54 => ?_))
  refine (?_ : R (_, _, (.int (Int32.ofInt v40)) :: [], (zMi c0 c1 c2 c3 c4 c5 c6 c7 c8 c9 c10 c11 c12 c13 0 y9_41 v1 y11_42 y12_43 y13_44 y15_46 y16_47 y17_48 f20 f21 f22 f23 f26 f28 f31 f32 f33 f38 f41 f44 y14_45 g15 (upd g16 (0 : Int).toNat (Int32.ofInt 0)) k17_49 k18_50 g19 g20 g21 g22 k23_51 k24_52 g25 g26 g27 g28 g29 g30 g31 g32 g33 g34 g35 g36 g37 g38 g39 g40 g41 g42 g43 g44 t), 0, 0))
  refine hR (k_ne (by omega) (fun hc55 => ?_) (fun hc55 => ?_))
  rotate_left
  · skip
    refine hR (?_ : R (_, _, _, _, _, _))
    exact hR (zret_i rfl (Nat.le_refl _) trivial (h _ _ _ _ _ _ _ _ _ _ _ _ _ _ _ _ _ _ _ _ _ hb19 (by rfl) (fun j hj => tx_o hj) hr2 hr3 hr4))
  iterate 2 refine hR (?_ : R (_, _, _, _, _, _))
  refine hR (j_ne (by omega) (by omega) (fun hc => by omega) (fun _ => ?_))
  iterate 3 refine hR (?_ : R (_, _, _, _, _, _))
  refine hR (t_ldB hb19 (by omega) (by omega) (Nat.le_of_ble_eq_true rfl) fun v56 ev56 lv56 uv56 => ?_)
  iterate 6 refine hR (?_ : R (_, _, _, _, _, _))
  refine hR (t_ldB hb19 (by omega) (by omega) (Nat.le_of_ble_eq_true rfl) fun v57 ev57 lv57 uv57 => ?_)
  iterate 2 refine hR (?_ : R (_, _, _, _, _, _))
  refine hR (j_ne (by omega) (by omega) (fun hc => by omega) (fun _ => ?_))
  iterate 2 refine hR (?_ : R (_, _, _, _, _, _))
  refine hR (t_add ?_)
  refine hR (t_stB hb19 (by omega) (by omega) (by omega) (by omega) (by omega) (by omega) (Nat.le_of_ble_eq_true rfl) fun k19_58 hk19_58 => (?_ : R (_, _, _, (zMi c0 c1 c2 c3 c4 c5 c6 c7 c8 c9 c10 c11 c12 c13 0 y9_41 v1 y11_42 y12_43 y13_44 y15_46 y16_47 y17_48 f20 f21 f22 f23 f26 f28 f31 f32 f33 f38 f41 f44 y14_45 g15 (upd g16 (0 : Int).toNat (Int32.ofInt 0)) k17_49 k18_50 k19_58 g20 g21 g22 k23_51 k24_52 g25 g26 g27 g28 g29 g30 g31 g32 g33 g34 g35 g36 g37 g38 g39 g40 g41 g42 g43 g44 t), _, _)))
  refine hR (?_ : R (_, _, _, _, _, _))
  refine hR (k_ne (by omega) (fun hc59 => ?_) (fun hc59 => ?_))
  rotate_left
  · skip
    iterate 3 refine hR (?_ : R (_, _, _, _, _, _))
    refine hR (t_c 51 (by decide) ?_)
    refine hR (?_ : R (_, _, _, _, _, _))
    refine hR (zcall_i 0 0 (Nat.le_of_ble_eq_true rfl) (Nat.le_of_ble_eq_true rfl) (m_store20 _ v56 (by omega) _ fun k20_65 hp66 => ?_))
    refine (?_ : R (_, _, [], (zMi c0 c1 c2 c3 c4 c5 c6 c7 c8 c9 c10 c11 c12 c13 0 y9_41 v1 y11_42 y12_43 y13_44 y15_46 y16_47 y17_48 f20 f21 f22 f23 f26 f28 f31 f32 f33 f38 f41 f44 y14_45 g15 (upd g16 (0 : Int).toNat (Int32.ofInt 0)) k17_49 k18_50 k19_58 k20_65 g21 g22 k23_51 k24_52 g25 g26 g27 g28 g29 g30 g31 g32 g33 g34 g35 g36 g37 g38 g39 g40 g41 g42 g43 g44 t), 0, 0))
    iterate 2 refine hR (?_ : R (_, _, _, _, _, _))
    refine hR (?_ : R (_, _, _, (zMi c0 c1 c2 c3 c4 c5 c6 c7 c8 c9 c10 c11 c12 c13 0 y9_41 v1 y11_42 y12_43 y13_44 y15_46 y16_47 y17_48 f20 ((-1)) f22 f23 f26 f28 f31 f32 f33 f38 f41 f44 y14_45 g15 (upd g16 (0 : Int).toNat (Int32.ofInt 0)) k17_49 k18_50 k19_58 k20_65 g21 g22 k23_51 k24_52 g25 g26 g27 g28 g29 g30 g31 g32 g33 g34 g35 g36 g37 g38 g39 g40 g41 g42 g43 g44 t), _, _))
    iterate 2 refine hR (?_ : R (_, _, _, _, _, _))
    exact hR (zret_i rfl (Nat.le_refl _) trivial (h _ _ _ _ _ _ _ _ _ _ _ _ _ _ _ _ _ _ _ _ _ hk19_58 (by rfl) (fun j hj => tx_o hj) (bk_kp hr2 hp66 ((hp54 (by omega)).1 (by omega)) (by omega)) hr3 hr4))
  iterate 2 refine hR (?_ : R (_, _, _, _, _, _))
  refine hR (j_ne (by omega) (by omega) (fun hc60 => ?_) (fun hc60 => ?_))
  · skip
    iterate 3 refine hR (?_ : R (_, _, _, _, _, _))
    refine hR (t_c 13 (by decide) ?_)
    refine hR (?_ : R (_, _, _, _, _, _))
    refine hR (zcall_i 0 0 (Nat.le_of_ble_eq_true rfl) (Nat.le_of_ble_eq_true rfl) (m_store22 _ v56 (by omega) _ fun k22_61 hp62 => ?_))
    refine (?_ : R (_, _, [], (zMi c0 c1 c2 c3 c4 c5 c6 c7 c8 c9 c10 c11 c12 c13 0 y9_41 v1 y11_42 y12_43 y13_44 y15_46 y16_47 y17_48 f20 f21 f22 f23 f26 f28 f31 f32 f33 f38 f41 f44 y14_45 g15 (upd g16 (0 : Int).toNat (Int32.ofInt 0)) k17_49 k18_50 k19_58 g20 g21 k22_61 k23_51 k24_52 g25 g26 g27 g28 g29 g30 g31 g32 g33 g34 g35 g36 g37 g38 g39 g40 g41 g42 g43 g44 t), 0, 0))
    refine hR (?_ : R (_, _, _, _, _, _))
    exact hR (zret_i rfl (Nat.le_refl _) trivial (h _ _ _ _ _ _ _ _ _ _ _ _ _ _ _ _ _ _ _ _ _ hk19_58 (by rfl) (fun j hj => tx_o hj) hr2 hr3 (si_kp hr4 hp62 ((hp54 (by omega)).2.2 (by omega)) (by omega))))
  iterate 3 refine hR (?_ : R (_, _, _, _, _, _))
  refine hR (t_c 121 (by decide) ?_)
  refine hR (?_ : R (_, _, _, _, _, _))
  refine hR (zcall_i 0 0 (Nat.le_of_ble_eq_true rfl) (Nat.le_of_ble_eq_true rfl) (m_store21 _ v56 (by omega) _ fun k21_63 hp64 => ?_))
  refine (?_ : R (_, _, [], (zMi c0 c1 c2 c3 c4 c5 c6 c7 c8 c9 c10 c11 c12 c13 0 y9_41 v1 y11_42 y12_43 y13_44 y15_46 y16_47 y17_48 f20 f21 f22 f23 f26 f28 f31 f32 f33 f38 f41 f44 y14_45 g15 (upd g16 (0 : Int).toNat (Int32.ofInt 0)) k17_49 k18_50 k19_58 g20 k21_63 g22 k23_51 k24_52 g25 g26 g27 g28 g29 g30 g31 g32 g33 g34 g35 g36 g37 g38 g39 g40 g41 g42 g43 g44 t), 0, 0))
  iterate 2 refine hR (?_ : R (_, _, _, _, _, _))
  exact hR (zret_i rfl (Nat.le_refl _) trivial (h _ _ _ _ _ _ _ _ _ _ _ _ _ _ _ _ _ _ _ _ _ hk19_58 (by rfl) (fun j hj => tx_o hj) hr2 (yr_kp hr3 hp64 ((hp54 (by omega)).2.1 (by omega)) (by omega)) hr4))
end MZ
/-! THE CLASS'S WORLD: every cell has a role; a role says what the cell holds. -/
noncomputable def wfr (q0 : Nat) (w w1 : zW) : Prop := w1.length = w.length ∧ ∀ q, q ≠ q0 → zix w1 q = zix w q
theorem wfr_st {w : zW} {q : Nat} {c c' : va_E} (h : zix w q = some c) : wfr q w (zst w q c') ∧ zix (zst w q c') q = some c' := by
  have hq : q < w.length := by
    rw [zix_eq] at h
    exact (List.getElem?_eq_some_iff.mp h).1
  refine ⟨⟨by rw [zst_eq, List.length_set], fun j hj => ?_⟩, ?_⟩
  · rw [zst_eq, zix_eq, zix_eq, List.getElem?_set_ne (fun e => hj e.symm)]
  · rw [zst_eq, zix_eq, List.getElem?_set_self hq]
noncomputable def rAr (r : Nat) : Option (Nat × Nat × Int × Int) := match r with
  | 3 => some (0, 600, (-128), 127)
  | 4 => some (1, 3, 0, 2)
  | 11 => some (1, 4, 0, 5460)
  | 12 => some (1, 5, (-2147483648), 2147483647)
  | 21 => some (1, 4, 0, 3)
  | 22 => some (1, 5, 0, 4)
  | 23 => some (1, 20, 0, 4)
  | 24 => some (1, 20, 0, 6)
  | 25 => some (1, 20, 0, 4)
  | 26 => some (1, 20, 0, 6)
  | 31 => some (1, 40, (-2147483648), 2147483647)
  | 32 => some (1, 40, (-2147483648), 2147483647)
  | 33 => some (1, 40, (-2147483648), 2147483647)
  | 41 => some (1, 6, 0, 9)
  | 42 => some (1, 6, (-2147483648), 2147483647)
  | 51 => some (1, 27305, (-1), 5460)
  | 52 => some (0, 5461, (-2147483648), 2147483647)
  | 61 => some (1, 5461, 0, 5460)
  | 62 => some (1, 5461, (-2147483648), 2147483647)
  | 63 => some (1, 5461, (-2147483648), 2147483647)
  | 64 => some (1, 5461, (-2147483648), 2147483647)
  | 71 => some (1, 11, 0, 25750)
  | 72 => some (1, 10, (-2147483648), 2147483647)
  | 73 => some (1, 25750, 0, 5460)
  | 74 => some (1, 25750, (-2147483648), 2147483647)
  | 75 => some (1, 25750, (-2147483648), 2147483647)
  | 76 => some (1, 5461, (-1), 25749)
  | 81 => some (1, 6, (-2147483648), 2147483647)
  | 82 => some (1, 5461, (-2147483648), 2147483647)
  | 83 => some (1, 5461, 0, 5460)
  | 84 => some (1, 5461, (-2147483648), 2147483647)
  | 85 => some (1, 5461, 0, 5460)
  | 86 => some (1, 5461, 0, 5460)
  | 87 => some (1, 5461, (-2147483648), 2147483647)
  | 88 => some (1, 5461, (-2147483648), 2147483647)
  | 89 => some (1, 5461, 0, 5)
  | 90 => some (1, 5461, (-2147483648), 2147483647)
  | _ => none
noncomputable def rRf (r : Nat) : Option (Nat × Nat × Nat) := match r with
  | 5 => some (3, 2, 20)
  | 6 => some (4, 2, 30)
  | 7 => some (5, 2, 40)
  | 8 => some (6, 3, 2)
  | 13 => some (7, 2, 50)
  | 14 => some (8, 2, 60)
  | _ => none
noncomputable def rOb (ρ : Nat → Nat) (r q : Nat) (c : va_E) : Prop := match r with
  | 1 => ∃ (y6 : Option Nat) (y7 : Option Nat), c = .inr (10, [.ref 1, .ref 7, .ref 8, .ref 9, .ref 12, .ref 13, va_rf y6, va_rf y7]) ∧ ρ 1 = 2 ∧ ρ 7 = 8 ∧ ρ 8 = 9 ∧ ρ 9 = 10 ∧ ρ 12 = 13 ∧ ρ 13 = 14 ∧ (∀ z, y6 = some z → ρ z = 70) ∧ (∀ z, y7 = some z → ρ z = 80)
  | 2 => ∃ (x1 : Int) (x2 : Int) (x3 : Int), c = .inr (7, [.ref (q + 1), .int (Int32.ofInt x1), .int (Int32.ofInt x2), .int (Int32.ofInt x3), .ref (q + 2), .ref (q + 3), .ref (q + 4), .ref (q + 5)]) ∧ ρ (q + 1) = 3 ∧ (0 ≤ x1 ∧ x1 ≤ 600) ∧ ((-2147483648) ≤ x2 ∧ x2 ≤ 2147483647) ∧ ((-2147483648) ≤ x3 ∧ x3 ≤ 2147483647) ∧ ρ (q + 2) = 4 ∧ ρ (q + 3) = 5 ∧ ρ (q + 4) = 6 ∧ ρ (q + 5) = 7
  | 9 => ∃ (y0 : Option Nat) (x1 : Int) (x2 : Int) (x3 : Int) (x4 : Int) (x5 : Int) (x6 : Int) (x7 : Int), c = .inr (6, [va_rf y0, .int (Int32.ofInt x1), .int (Int32.ofInt x2), .int (Int32.ofInt x3), .int (Int32.ofInt x4), .int (Int32.ofInt x5), .int (Int32.ofInt x6), .int (Int32.ofInt x7)]) ∧ (∀ z, y0 = some z → ρ z = 3) ∧ ((-2147483648) ≤ x1 ∧ x1 ≤ 2147483647) ∧ ((-2147483648) ≤ x2 ∧ x2 ≤ 2147483647) ∧ ((-2147483648) ≤ x3 ∧ x3 ≤ 2147483647) ∧ ((-2147483648) ≤ x4 ∧ x4 ≤ 2147483647) ∧ ((-2147483648) ≤ x5 ∧ x5 ≤ 2147483647) ∧ ((-2147483648) ≤ x6 ∧ x6 ≤ 2147483647) ∧ ((-2147483648) ≤ x7 ∧ x7 ≤ 2147483647)
  | 10 => ∃ (y0 : Option Nat) (x1 : Int) (x2 : Int) (x3 : Int) (x4 : Int), c = .inr (1, [va_rf y0, .int (Int32.ofInt x1), .int (Int32.ofInt x2), .int (Int32.ofInt x3), .int (Int32.ofInt x4), .ref (q + 1), .ref (q + 2)]) ∧ (∀ z, y0 = some z → ρ z = 20) ∧ ((-2147483648) ≤ x1 ∧ x1 ≤ 2147483647) ∧ (0 ≤ x2 ∧ x2 ≤ 3) ∧ ((-2147483648) ≤ x3 ∧ x3 ≤ 2147483647) ∧ ((-2147483648) ≤ x4 ∧ x4 ≤ 2147483647) ∧ ρ (q + 1) = 11 ∧ ρ (q + 2) = 12
  | 19 => ∃ (x0 : Int) (x1 : Int) (x2 : Int), c = .inr (0, [.int (Int32.ofInt x0), .int (Int32.ofInt x1), .int (Int32.ofInt x2), .ref (q + 1), .ref (q + 2), .ref (q + 3), .ref (q + 4)]) ∧ (0 ≤ x0 ∧ x0 ≤ 5460) ∧ (0 ≤ x1 ∧ x1 ≤ 5) ∧ ((-1) ≤ x2 ∧ x2 ≤ 3) ∧ ρ (q + 1) = 21 ∧ ρ (q + 2) = 22 ∧ ρ (q + 3) = 25 ∧ ρ (q + 4) = 26
  | 20 => ∃ (x0 : Int) (x1 : Int) (x2 : Int), c = .inr (0, [.int (Int32.ofInt x0), .int (Int32.ofInt x1), .int (Int32.ofInt x2), .ref (q + 1), .ref (q + 2), .ref (q + 3), .ref (q + 4)]) ∧ (0 ≤ x0 ∧ x0 ≤ 5460) ∧ (0 ≤ x1 ∧ x1 ≤ 5) ∧ ((-1) ≤ x2 ∧ x2 ≤ 3) ∧ ρ (q + 1) = 21 ∧ ρ (q + 2) = 22 ∧ ρ (q + 3) = 23 ∧ ρ (q + 4) = 24
  | 30 => ∃ (x0 : Int), c = .inr (9, [.int (Int32.ofInt x0), .ref (q + 1), .ref (q + 2), .ref (q + 3)]) ∧ (0 ≤ x0 ∧ x0 ≤ 40) ∧ ρ (q + 1) = 31 ∧ ρ (q + 2) = 32 ∧ ρ (q + 3) = 33
  | 40 => ∃ (x0 : Int), c = .inr (5, [.int (Int32.ofInt x0), .ref (q + 1), .ref (q + 2)]) ∧ (0 ≤ x0 ∧ x0 ≤ 6) ∧ ρ (q + 1) = 41 ∧ ρ (q + 2) = 42
  | 49 => ∃ (y0 : Option Nat) (z2 : Nat) (z3 : Nat), c = .inr (3, [va_rf y0, .ref (q + 1), .ref z2, .ref z3]) ∧ (∀ z, y0 = some z → ρ z = 20) ∧ ρ (q + 1) = 51 ∧ ρ z2 = 52 ∧ ρ z3 = 52 ∧ z2 ≠ z3
  | 50 => ∃ (z0 : Nat) (z2 : Nat) (z3 : Nat), c = .inr (3, [.ref z0, .ref (q + 1), .ref z2, .ref z3]) ∧ ρ z0 = 20 ∧ ρ (q + 1) = 51 ∧ ρ z2 = 52 ∧ ρ z3 = 52 ∧ z2 ≠ z3
  | 60 => ∃ (x0 : Int), c = .inr (8, [.int (Int32.ofInt x0), .ref (q + 1), .ref (q + 2), .ref (q + 3), .ref (q + 4)]) ∧ (0 ≤ x0 ∧ x0 ≤ 5461) ∧ ρ (q + 1) = 61 ∧ ρ (q + 2) = 62 ∧ ρ (q + 3) = 63 ∧ ρ (q + 4) = 64
  | 70 => ∃ (y0 : Option Nat) (x1 : Int) (x2 : Int) (x3 : Int), c = .inr (2, [va_rf y0, .int (Int32.ofInt x1), .int (Int32.ofInt x2), .int (Int32.ofInt x3), .ref (q + 1), .ref (q + 2), .ref (q + 3), .ref (q + 4), .ref (q + 5), .ref (q + 6)]) ∧ (∀ z, y0 = some z → ρ z = 50) ∧ (0 ≤ x1 ∧ x1 ≤ 9) ∧ ((-2147483648) ≤ x2 ∧ x2 ≤ 2147483647) ∧ ((-2147483648) ≤ x3 ∧ x3 ≤ 2147483647) ∧ ρ (q + 1) = 71 ∧ ρ (q + 2) = 72 ∧ ρ (q + 3) = 73 ∧ ρ (q + 4) = 74 ∧ ρ (q + 5) = 75 ∧ ρ (q + 6) = 76
  | 80 => ∃ (x1 : Int) (x2 : Int) (x3 : Int) (x4 : Int) (x5 : Int), c = .inr (4, [.ref (q + 1), .int (Int32.ofInt x1), .int (Int32.ofInt x2), .int (Int32.ofInt x3), .int (Int32.ofInt x4), .int (Int32.ofInt x5), .ref (q + 2), .ref (q + 3), .ref (q + 4), .ref (q + 5), .ref (q + 6), .ref (q + 7), .ref (q + 8), .ref (q + 9), .ref (q + 10)]) ∧ ρ (q + 1) = 81 ∧ ((-2147483648) ≤ x1 ∧ x1 ≤ 2147483647) ∧ ((-2147483648) ≤ x2 ∧ x2 ≤ 2147483647) ∧ ((-2147483648) ≤ x3 ∧ x3 ≤ 2147483647) ∧ ((-2147483648) ≤ x4 ∧ x4 ≤ 2147483647) ∧ ((-2147483648) ≤ x5 ∧ x5 ≤ 2147483647) ∧ ρ (q + 2) = 82 ∧ ρ (q + 3) = 83 ∧ ρ (q + 4) = 84 ∧ ρ (q + 5) = 85 ∧ ρ (q + 6) = 86 ∧ ρ (q + 7) = 87 ∧ ρ (q + 8) = 88 ∧ ρ (q + 9) = 89 ∧ ρ (q + 10) = 90
  | _ => True
noncomputable def rOK (ρ : Nat → Nat) (q : Nat) (c : va_E) : Prop := match rAr (ρ q) with
  | some (ti, len, lo, hi) => ∃ g, c = .inl (ti, len, .inl g) ∧ zB lo hi g
  | none => match rRf (ρ q) with
    | some (ti, len, re) => ∃ g : Nat → Option Nat, c = .inl (ti, len, .inr (.inr (.inr (.inr g)))) ∧ ∀ j x, g j = some x → ρ x = re
    | none => rOb ρ (ρ q) q c
noncomputable def wt (ρ : Nat → Nat) (w : zW) : Prop := ∀ q, q < w.length → ∃ c, zix w q = some c ∧ rOK ρ q c
noncomputable def wrel (ρ : Nat → Nat) (w : zW) : Prop := ∀ q, ρ q = 23 → ρ (q + 1) = 24 ∧ ∃ gk gn, zix w q = some (.inl (1, 20, .inl gk)) ∧ zix w (q + 1) = some (.inl (1, 20, .inl gn)) ∧ ∀ j, j < 20 → ((gk j).toInt = 0 → (gn j).toInt ≤ 3) ∧ (1 ≤ (gk j).toInt → (gk j).toInt ≤ 3 → 1 ≤ (gn j).toInt)
noncomputable def CI (ρ : Nat → Nat) (w : zW) : Prop := wt ρ w ∧ (∀ q, w.length ≤ q → ρ q = 0) ∧ wrel ρ w
theorem CI_lt {ρ : Nat → Nat} {w : zW} (h : CI ρ w) {q : Nat} (hq : ρ q ≠ 0) : q < w.length := by
  rcases Nat.lt_or_ge q w.length with h1 | h1
  · exact h1
  · exact absurd (h.2.1 q h1) hq
theorem CI_at {ρ : Nat → Nat} {w : zW} (h : CI ρ w) {q : Nat} (hq : ρ q ≠ 0) : ∃ c, zix w q = some c ∧ rOK ρ q c := h.1 q (CI_lt h hq)
theorem CI_ar {ρ : Nat → Nat} {w : zW} (h : CI ρ w) {q ti len : Nat} {lo hi : Int} (hr : rAr (ρ q) = some (ti, len, lo, hi)) : ∃ g, zix w q = some (.inl (ti, len, .inl g)) ∧ zB lo hi g := by
  have h0 : ρ q ≠ 0 := by intro e; rw [e] at hr; cases hr
  obtain ⟨c, h1, h2⟩ := CI_at h h0
  unfold rOK at h2
  rw [hr] at h2
  obtain ⟨g, rfl, h3⟩ := h2
  exact ⟨g, h1, h3⟩
theorem CI_rf {ρ : Nat → Nat} {w : zW} (h : CI ρ w) {q ti len re : Nat} (ha : rAr (ρ q) = none) (hr : rRf (ρ q) = some (ti, len, re)) : ∃ g : Nat → Option Nat, zix w q = some (.inl (ti, len, .inr (.inr (.inr (.inr g))))) ∧ ∀ j x, g j = some x → ρ x = re := by
  have h0 : ρ q ≠ 0 := by intro e; rw [e] at hr; cases hr
  obtain ⟨c, h1, h2⟩ := CI_at h h0
  unfold rOK at h2
  rw [ha, hr] at h2
  obtain ⟨g, rfl, h3⟩ := h2
  exact ⟨g, h1, h3⟩
theorem CI_st {ρ : Nat → Nat} {w w1 : zW} {q : Nat} {c : va_E} (h : CI ρ w) (hf : wfr q w w1) (hc : zix w1 q = some c) (hok : rOK ρ q c) (hm : ρ q ≠ 23 ∧ ρ q ≠ 24) : CI ρ w1 := by
  refine ⟨fun j hj => ?_, fun j hj => h.2.1 j (by rw [← hf.1]; exact hj), fun j hj => ?_⟩
  · by_cases e : j = q
    · subst e; exact ⟨c, hc, hok⟩
    · rw [hf.2 j e]; exact h.1 j (by rw [← hf.1]; exact hj)
  · obtain ⟨h1, gk, gn, h2, h3, h4⟩ := h.2.2 j hj
    refine ⟨h1, gk, gn, ?_, ?_, h4⟩
    · rw [hf.2 j (fun e => hm.1 (e ▸ hj))]; exact h2
    · rw [hf.2 (j + 1) (fun e => hm.2 (e ▸ h1))]; exact h3
/-- what a call may change: cells of some roles -/
noncomputable def wfR (rs : List Nat) (ρ : Nat → Nat) (w w1 : zW) : Prop := w1.length = w.length ∧ ∀ q, ρ q ∉ rs → zix w1 q = zix w q
theorem wfR_rf (rs : List Nat) (ρ : Nat → Nat) (w : zW) : wfR rs ρ w w := ⟨rfl, fun _ _ => rfl⟩
theorem wfR_st {rs : List Nat} {ρ : Nat → Nat} {w w1 w2 : zW} {q : Nat} (h : wfR rs ρ w w1) (hf : wfr q w1 w2) (hq : ρ q ∈ rs) : wfR rs ρ w w2 :=
  ⟨hf.1.trans h.1, fun j hj => (hf.2 j (fun e => hj (e ▸ hq))).trans (h.2 j hj)⟩
theorem wfR_tr {rs rs' : List Nat} {ρ : Nat → Nat} {w w1 w2 : zW} (h : wfR rs ρ w w1) (h2 : wfR rs' ρ w1 w2) (hs : ∀ r ∈ rs', r ∈ rs) : wfR rs ρ w w2 :=
  ⟨h2.1.trans h.1, fun j hj => (h2.2 j (fun e => hj (hs _ e))).trans (h.2 j hj)⟩
theorem CI_o1 {ρ : Nat → Nat} {w : zW} (h : CI ρ w) {q : Nat} (hq : ρ q = 1) : ∃ (y6 : Option Nat) (y7 : Option Nat), zix w q = some (.inr (10, [.ref 1, .ref 7, .ref 8, .ref 9, .ref 12, .ref 13, va_rf y6, va_rf y7])) ∧ ρ 1 = 2 ∧ ρ 7 = 8 ∧ ρ 8 = 9 ∧ ρ 9 = 10 ∧ ρ 12 = 13 ∧ ρ 13 = 14 ∧ (∀ z, y6 = some z → ρ z = 70) ∧ (∀ z, y7 = some z → ρ z = 80) := by
  obtain ⟨c, h1, h2⟩ := CI_at h (q := q) (by rw [hq]; decide)
  unfold rOK at h2
  rw [hq] at h2
  obtain ⟨y6, y7, rfl, h3⟩ := h2
  exact ⟨y6, y7, h1, h3⟩
theorem CI_w1 {ρ : Nat → Nat} {w w1 : zW} (h : CI ρ w) {q : Nat} (hq : ρ q = 1) (hf : wfr q w w1) {y6 : Option Nat} {y7 : Option Nat} (hc : zix w1 q = some (.inr (10, [.ref 1, .ref 7, .ref 8, .ref 9, .ref 12, .ref 13, va_rf y6, va_rf y7]))) (hk : ρ 1 = 2 ∧ ρ 7 = 8 ∧ ρ 8 = 9 ∧ ρ 9 = 10 ∧ ρ 12 = 13 ∧ ρ 13 = 14 ∧ (∀ z, y6 = some z → ρ z = 70) ∧ (∀ z, y7 = some z → ρ z = 80)) : CI ρ w1 := by
  refine CI_st h hf hc ?_ ⟨by rw [hq]; decide, by rw [hq]; decide⟩
  unfold rOK
  rw [hq]
  exact ⟨y6, y7, rfl, hk⟩
theorem CI_o2 {ρ : Nat → Nat} {w : zW} (h : CI ρ w) {q : Nat} (hq : ρ q = 2) : ∃ (x1 : Int) (x2 : Int) (x3 : Int), zix w q = some (.inr (7, [.ref (q + 1), .int (Int32.ofInt x1), .int (Int32.ofInt x2), .int (Int32.ofInt x3), .ref (q + 2), .ref (q + 3), .ref (q + 4), .ref (q + 5)])) ∧ ρ (q + 1) = 3 ∧ (0 ≤ x1 ∧ x1 ≤ 600) ∧ ((-2147483648) ≤ x2 ∧ x2 ≤ 2147483647) ∧ ((-2147483648) ≤ x3 ∧ x3 ≤ 2147483647) ∧ ρ (q + 2) = 4 ∧ ρ (q + 3) = 5 ∧ ρ (q + 4) = 6 ∧ ρ (q + 5) = 7 := by
  obtain ⟨c, h1, h2⟩ := CI_at h (q := q) (by rw [hq]; decide)
  unfold rOK at h2
  rw [hq] at h2
  obtain ⟨x1, x2, x3, rfl, h3⟩ := h2
  exact ⟨x1, x2, x3, h1, h3⟩
theorem CI_w2 {ρ : Nat → Nat} {w w1 : zW} (h : CI ρ w) {q : Nat} (hq : ρ q = 2) (hf : wfr q w w1) {x1 : Int} {x2 : Int} {x3 : Int} (hc : zix w1 q = some (.inr (7, [.ref (q + 1), .int (Int32.ofInt x1), .int (Int32.ofInt x2), .int (Int32.ofInt x3), .ref (q + 2), .ref (q + 3), .ref (q + 4), .ref (q + 5)]))) (hk : ρ (q + 1) = 3 ∧ (0 ≤ x1 ∧ x1 ≤ 600) ∧ ((-2147483648) ≤ x2 ∧ x2 ≤ 2147483647) ∧ ((-2147483648) ≤ x3 ∧ x3 ≤ 2147483647) ∧ ρ (q + 2) = 4 ∧ ρ (q + 3) = 5 ∧ ρ (q + 4) = 6 ∧ ρ (q + 5) = 7) : CI ρ w1 := by
  refine CI_st h hf hc ?_ ⟨by rw [hq]; decide, by rw [hq]; decide⟩
  unfold rOK
  rw [hq]
  exact ⟨x1, x2, x3, rfl, hk⟩
theorem CI_o9 {ρ : Nat → Nat} {w : zW} (h : CI ρ w) {q : Nat} (hq : ρ q = 9) : ∃ (y0 : Option Nat) (x1 : Int) (x2 : Int) (x3 : Int) (x4 : Int) (x5 : Int) (x6 : Int) (x7 : Int), zix w q = some (.inr (6, [va_rf y0, .int (Int32.ofInt x1), .int (Int32.ofInt x2), .int (Int32.ofInt x3), .int (Int32.ofInt x4), .int (Int32.ofInt x5), .int (Int32.ofInt x6), .int (Int32.ofInt x7)])) ∧ (∀ z, y0 = some z → ρ z = 3) ∧ ((-2147483648) ≤ x1 ∧ x1 ≤ 2147483647) ∧ ((-2147483648) ≤ x2 ∧ x2 ≤ 2147483647) ∧ ((-2147483648) ≤ x3 ∧ x3 ≤ 2147483647) ∧ ((-2147483648) ≤ x4 ∧ x4 ≤ 2147483647) ∧ ((-2147483648) ≤ x5 ∧ x5 ≤ 2147483647) ∧ ((-2147483648) ≤ x6 ∧ x6 ≤ 2147483647) ∧ ((-2147483648) ≤ x7 ∧ x7 ≤ 2147483647) := by
  obtain ⟨c, h1, h2⟩ := CI_at h (q := q) (by rw [hq]; decide)
  unfold rOK at h2
  rw [hq] at h2
  obtain ⟨y0, x1, x2, x3, x4, x5, x6, x7, rfl, h3⟩ := h2
  exact ⟨y0, x1, x2, x3, x4, x5, x6, x7, h1, h3⟩
theorem CI_w9 {ρ : Nat → Nat} {w w1 : zW} (h : CI ρ w) {q : Nat} (hq : ρ q = 9) (hf : wfr q w w1) {y0 : Option Nat} {x1 : Int} {x2 : Int} {x3 : Int} {x4 : Int} {x5 : Int} {x6 : Int} {x7 : Int} (hc : zix w1 q = some (.inr (6, [va_rf y0, .int (Int32.ofInt x1), .int (Int32.ofInt x2), .int (Int32.ofInt x3), .int (Int32.ofInt x4), .int (Int32.ofInt x5), .int (Int32.ofInt x6), .int (Int32.ofInt x7)]))) (hk : (∀ z, y0 = some z → ρ z = 3) ∧ ((-2147483648) ≤ x1 ∧ x1 ≤ 2147483647) ∧ ((-2147483648) ≤ x2 ∧ x2 ≤ 2147483647) ∧ ((-2147483648) ≤ x3 ∧ x3 ≤ 2147483647) ∧ ((-2147483648) ≤ x4 ∧ x4 ≤ 2147483647) ∧ ((-2147483648) ≤ x5 ∧ x5 ≤ 2147483647) ∧ ((-2147483648) ≤ x6 ∧ x6 ≤ 2147483647) ∧ ((-2147483648) ≤ x7 ∧ x7 ≤ 2147483647)) : CI ρ w1 := by
  refine CI_st h hf hc ?_ ⟨by rw [hq]; decide, by rw [hq]; decide⟩
  unfold rOK
  rw [hq]
  exact ⟨y0, x1, x2, x3, x4, x5, x6, x7, rfl, hk⟩
theorem CI_o10 {ρ : Nat → Nat} {w : zW} (h : CI ρ w) {q : Nat} (hq : ρ q = 10) : ∃ (y0 : Option Nat) (x1 : Int) (x2 : Int) (x3 : Int) (x4 : Int), zix w q = some (.inr (1, [va_rf y0, .int (Int32.ofInt x1), .int (Int32.ofInt x2), .int (Int32.ofInt x3), .int (Int32.ofInt x4), .ref (q + 1), .ref (q + 2)])) ∧ (∀ z, y0 = some z → ρ z = 20) ∧ ((-2147483648) ≤ x1 ∧ x1 ≤ 2147483647) ∧ (0 ≤ x2 ∧ x2 ≤ 3) ∧ ((-2147483648) ≤ x3 ∧ x3 ≤ 2147483647) ∧ ((-2147483648) ≤ x4 ∧ x4 ≤ 2147483647) ∧ ρ (q + 1) = 11 ∧ ρ (q + 2) = 12 := by
  obtain ⟨c, h1, h2⟩ := CI_at h (q := q) (by rw [hq]; decide)
  unfold rOK at h2
  rw [hq] at h2
  obtain ⟨y0, x1, x2, x3, x4, rfl, h3⟩ := h2
  exact ⟨y0, x1, x2, x3, x4, h1, h3⟩
theorem CI_w10 {ρ : Nat → Nat} {w w1 : zW} (h : CI ρ w) {q : Nat} (hq : ρ q = 10) (hf : wfr q w w1) {y0 : Option Nat} {x1 : Int} {x2 : Int} {x3 : Int} {x4 : Int} (hc : zix w1 q = some (.inr (1, [va_rf y0, .int (Int32.ofInt x1), .int (Int32.ofInt x2), .int (Int32.ofInt x3), .int (Int32.ofInt x4), .ref (q + 1), .ref (q + 2)]))) (hk : (∀ z, y0 = some z → ρ z = 20) ∧ ((-2147483648) ≤ x1 ∧ x1 ≤ 2147483647) ∧ (0 ≤ x2 ∧ x2 ≤ 3) ∧ ((-2147483648) ≤ x3 ∧ x3 ≤ 2147483647) ∧ ((-2147483648) ≤ x4 ∧ x4 ≤ 2147483647) ∧ ρ (q + 1) = 11 ∧ ρ (q + 2) = 12) : CI ρ w1 := by
  refine CI_st h hf hc ?_ ⟨by rw [hq]; decide, by rw [hq]; decide⟩
  unfold rOK
  rw [hq]
  exact ⟨y0, x1, x2, x3, x4, rfl, hk⟩
theorem CI_o19 {ρ : Nat → Nat} {w : zW} (h : CI ρ w) {q : Nat} (hq : ρ q = 19) : ∃ (x0 : Int) (x1 : Int) (x2 : Int), zix w q = some (.inr (0, [.int (Int32.ofInt x0), .int (Int32.ofInt x1), .int (Int32.ofInt x2), .ref (q + 1), .ref (q + 2), .ref (q + 3), .ref (q + 4)])) ∧ (0 ≤ x0 ∧ x0 ≤ 5460) ∧ (0 ≤ x1 ∧ x1 ≤ 5) ∧ ((-1) ≤ x2 ∧ x2 ≤ 3) ∧ ρ (q + 1) = 21 ∧ ρ (q + 2) = 22 ∧ ρ (q + 3) = 25 ∧ ρ (q + 4) = 26 := by
  obtain ⟨c, h1, h2⟩ := CI_at h (q := q) (by rw [hq]; decide)
  unfold rOK at h2
  rw [hq] at h2
  obtain ⟨x0, x1, x2, rfl, h3⟩ := h2
  exact ⟨x0, x1, x2, h1, h3⟩
theorem CI_w19 {ρ : Nat → Nat} {w w1 : zW} (h : CI ρ w) {q : Nat} (hq : ρ q = 19) (hf : wfr q w w1) {x0 : Int} {x1 : Int} {x2 : Int} (hc : zix w1 q = some (.inr (0, [.int (Int32.ofInt x0), .int (Int32.ofInt x1), .int (Int32.ofInt x2), .ref (q + 1), .ref (q + 2), .ref (q + 3), .ref (q + 4)]))) (hk : (0 ≤ x0 ∧ x0 ≤ 5460) ∧ (0 ≤ x1 ∧ x1 ≤ 5) ∧ ((-1) ≤ x2 ∧ x2 ≤ 3) ∧ ρ (q + 1) = 21 ∧ ρ (q + 2) = 22 ∧ ρ (q + 3) = 25 ∧ ρ (q + 4) = 26) : CI ρ w1 := by
  refine CI_st h hf hc ?_ ⟨by rw [hq]; decide, by rw [hq]; decide⟩
  unfold rOK
  rw [hq]
  exact ⟨x0, x1, x2, rfl, hk⟩
theorem CI_o20 {ρ : Nat → Nat} {w : zW} (h : CI ρ w) {q : Nat} (hq : ρ q = 20) : ∃ (x0 : Int) (x1 : Int) (x2 : Int), zix w q = some (.inr (0, [.int (Int32.ofInt x0), .int (Int32.ofInt x1), .int (Int32.ofInt x2), .ref (q + 1), .ref (q + 2), .ref (q + 3), .ref (q + 4)])) ∧ (0 ≤ x0 ∧ x0 ≤ 5460) ∧ (0 ≤ x1 ∧ x1 ≤ 5) ∧ ((-1) ≤ x2 ∧ x2 ≤ 3) ∧ ρ (q + 1) = 21 ∧ ρ (q + 2) = 22 ∧ ρ (q + 3) = 23 ∧ ρ (q + 4) = 24 := by
  obtain ⟨c, h1, h2⟩ := CI_at h (q := q) (by rw [hq]; decide)
  unfold rOK at h2
  rw [hq] at h2
  obtain ⟨x0, x1, x2, rfl, h3⟩ := h2
  exact ⟨x0, x1, x2, h1, h3⟩
theorem CI_o30 {ρ : Nat → Nat} {w : zW} (h : CI ρ w) {q : Nat} (hq : ρ q = 30) : ∃ (x0 : Int), zix w q = some (.inr (9, [.int (Int32.ofInt x0), .ref (q + 1), .ref (q + 2), .ref (q + 3)])) ∧ (0 ≤ x0 ∧ x0 ≤ 40) ∧ ρ (q + 1) = 31 ∧ ρ (q + 2) = 32 ∧ ρ (q + 3) = 33 := by
  obtain ⟨c, h1, h2⟩ := CI_at h (q := q) (by rw [hq]; decide)
  unfold rOK at h2
  rw [hq] at h2
  obtain ⟨x0, rfl, h3⟩ := h2
  exact ⟨x0, h1, h3⟩
theorem CI_w30 {ρ : Nat → Nat} {w w1 : zW} (h : CI ρ w) {q : Nat} (hq : ρ q = 30) (hf : wfr q w w1) {x0 : Int} (hc : zix w1 q = some (.inr (9, [.int (Int32.ofInt x0), .ref (q + 1), .ref (q + 2), .ref (q + 3)]))) (hk : (0 ≤ x0 ∧ x0 ≤ 40) ∧ ρ (q + 1) = 31 ∧ ρ (q + 2) = 32 ∧ ρ (q + 3) = 33) : CI ρ w1 := by
  refine CI_st h hf hc ?_ ⟨by rw [hq]; decide, by rw [hq]; decide⟩
  unfold rOK
  rw [hq]
  exact ⟨x0, rfl, hk⟩
theorem CI_o40 {ρ : Nat → Nat} {w : zW} (h : CI ρ w) {q : Nat} (hq : ρ q = 40) : ∃ (x0 : Int), zix w q = some (.inr (5, [.int (Int32.ofInt x0), .ref (q + 1), .ref (q + 2)])) ∧ (0 ≤ x0 ∧ x0 ≤ 6) ∧ ρ (q + 1) = 41 ∧ ρ (q + 2) = 42 := by
  obtain ⟨c, h1, h2⟩ := CI_at h (q := q) (by rw [hq]; decide)
  unfold rOK at h2
  rw [hq] at h2
  obtain ⟨x0, rfl, h3⟩ := h2
  exact ⟨x0, h1, h3⟩
theorem CI_w40 {ρ : Nat → Nat} {w w1 : zW} (h : CI ρ w) {q : Nat} (hq : ρ q = 40) (hf : wfr q w w1) {x0 : Int} (hc : zix w1 q = some (.inr (5, [.int (Int32.ofInt x0), .ref (q + 1), .ref (q + 2)]))) (hk : (0 ≤ x0 ∧ x0 ≤ 6) ∧ ρ (q + 1) = 41 ∧ ρ (q + 2) = 42) : CI ρ w1 := by
  refine CI_st h hf hc ?_ ⟨by rw [hq]; decide, by rw [hq]; decide⟩
  unfold rOK
  rw [hq]
  exact ⟨x0, rfl, hk⟩
theorem CI_o49 {ρ : Nat → Nat} {w : zW} (h : CI ρ w) {q : Nat} (hq : ρ q = 49) : ∃ (y0 : Option Nat) (z2 : Nat) (z3 : Nat), zix w q = some (.inr (3, [va_rf y0, .ref (q + 1), .ref z2, .ref z3])) ∧ (∀ z, y0 = some z → ρ z = 20) ∧ ρ (q + 1) = 51 ∧ ρ z2 = 52 ∧ ρ z3 = 52 ∧ z2 ≠ z3 := by
  obtain ⟨c, h1, h2⟩ := CI_at h (q := q) (by rw [hq]; decide)
  unfold rOK at h2
  rw [hq] at h2
  obtain ⟨y0, z2, z3, rfl, h3⟩ := h2
  exact ⟨y0, z2, z3, h1, h3⟩
theorem CI_w49 {ρ : Nat → Nat} {w w1 : zW} (h : CI ρ w) {q : Nat} (hq : ρ q = 49) (hf : wfr q w w1) {y0 : Option Nat} {z2 : Nat} {z3 : Nat} (hc : zix w1 q = some (.inr (3, [va_rf y0, .ref (q + 1), .ref z2, .ref z3]))) (hk : (∀ z, y0 = some z → ρ z = 20) ∧ ρ (q + 1) = 51 ∧ ρ z2 = 52 ∧ ρ z3 = 52 ∧ z2 ≠ z3) : CI ρ w1 := by
  refine CI_st h hf hc ?_ ⟨by rw [hq]; decide, by rw [hq]; decide⟩
  unfold rOK
  rw [hq]
  exact ⟨y0, z2, z3, rfl, hk⟩
theorem CI_o50 {ρ : Nat → Nat} {w : zW} (h : CI ρ w) {q : Nat} (hq : ρ q = 50) : ∃ (z0 : Nat) (z2 : Nat) (z3 : Nat), zix w q = some (.inr (3, [.ref z0, .ref (q + 1), .ref z2, .ref z3])) ∧ ρ z0 = 20 ∧ ρ (q + 1) = 51 ∧ ρ z2 = 52 ∧ ρ z3 = 52 ∧ z2 ≠ z3 := by
  obtain ⟨c, h1, h2⟩ := CI_at h (q := q) (by rw [hq]; decide)
  unfold rOK at h2
  rw [hq] at h2
  obtain ⟨z0, z2, z3, rfl, h3⟩ := h2
  exact ⟨z0, z2, z3, h1, h3⟩
theorem CI_w50 {ρ : Nat → Nat} {w w1 : zW} (h : CI ρ w) {q : Nat} (hq : ρ q = 50) (hf : wfr q w w1) {z0 : Nat} {z2 : Nat} {z3 : Nat} (hc : zix w1 q = some (.inr (3, [.ref z0, .ref (q + 1), .ref z2, .ref z3]))) (hk : ρ z0 = 20 ∧ ρ (q + 1) = 51 ∧ ρ z2 = 52 ∧ ρ z3 = 52 ∧ z2 ≠ z3) : CI ρ w1 := by
  refine CI_st h hf hc ?_ ⟨by rw [hq]; decide, by rw [hq]; decide⟩
  unfold rOK
  rw [hq]
  exact ⟨z0, z2, z3, rfl, hk⟩
theorem CI_o60 {ρ : Nat → Nat} {w : zW} (h : CI ρ w) {q : Nat} (hq : ρ q = 60) : ∃ (x0 : Int), zix w q = some (.inr (8, [.int (Int32.ofInt x0), .ref (q + 1), .ref (q + 2), .ref (q + 3), .ref (q + 4)])) ∧ (0 ≤ x0 ∧ x0 ≤ 5461) ∧ ρ (q + 1) = 61 ∧ ρ (q + 2) = 62 ∧ ρ (q + 3) = 63 ∧ ρ (q + 4) = 64 := by
  obtain ⟨c, h1, h2⟩ := CI_at h (q := q) (by rw [hq]; decide)
  unfold rOK at h2
  rw [hq] at h2
  obtain ⟨x0, rfl, h3⟩ := h2
  exact ⟨x0, h1, h3⟩
theorem CI_w60 {ρ : Nat → Nat} {w w1 : zW} (h : CI ρ w) {q : Nat} (hq : ρ q = 60) (hf : wfr q w w1) {x0 : Int} (hc : zix w1 q = some (.inr (8, [.int (Int32.ofInt x0), .ref (q + 1), .ref (q + 2), .ref (q + 3), .ref (q + 4)]))) (hk : (0 ≤ x0 ∧ x0 ≤ 5461) ∧ ρ (q + 1) = 61 ∧ ρ (q + 2) = 62 ∧ ρ (q + 3) = 63 ∧ ρ (q + 4) = 64) : CI ρ w1 := by
  refine CI_st h hf hc ?_ ⟨by rw [hq]; decide, by rw [hq]; decide⟩
  unfold rOK
  rw [hq]
  exact ⟨x0, rfl, hk⟩
theorem CI_o70 {ρ : Nat → Nat} {w : zW} (h : CI ρ w) {q : Nat} (hq : ρ q = 70) : ∃ (y0 : Option Nat) (x1 : Int) (x2 : Int) (x3 : Int), zix w q = some (.inr (2, [va_rf y0, .int (Int32.ofInt x1), .int (Int32.ofInt x2), .int (Int32.ofInt x3), .ref (q + 1), .ref (q + 2), .ref (q + 3), .ref (q + 4), .ref (q + 5), .ref (q + 6)])) ∧ (∀ z, y0 = some z → ρ z = 50) ∧ (0 ≤ x1 ∧ x1 ≤ 9) ∧ ((-2147483648) ≤ x2 ∧ x2 ≤ 2147483647) ∧ ((-2147483648) ≤ x3 ∧ x3 ≤ 2147483647) ∧ ρ (q + 1) = 71 ∧ ρ (q + 2) = 72 ∧ ρ (q + 3) = 73 ∧ ρ (q + 4) = 74 ∧ ρ (q + 5) = 75 ∧ ρ (q + 6) = 76 := by
  obtain ⟨c, h1, h2⟩ := CI_at h (q := q) (by rw [hq]; decide)
  unfold rOK at h2
  rw [hq] at h2
  obtain ⟨y0, x1, x2, x3, rfl, h3⟩ := h2
  exact ⟨y0, x1, x2, x3, h1, h3⟩
theorem CI_w70 {ρ : Nat → Nat} {w w1 : zW} (h : CI ρ w) {q : Nat} (hq : ρ q = 70) (hf : wfr q w w1) {y0 : Option Nat} {x1 : Int} {x2 : Int} {x3 : Int} (hc : zix w1 q = some (.inr (2, [va_rf y0, .int (Int32.ofInt x1), .int (Int32.ofInt x2), .int (Int32.ofInt x3), .ref (q + 1), .ref (q + 2), .ref (q + 3), .ref (q + 4), .ref (q + 5), .ref (q + 6)]))) (hk : (∀ z, y0 = some z → ρ z = 50) ∧ (0 ≤ x1 ∧ x1 ≤ 9) ∧ ((-2147483648) ≤ x2 ∧ x2 ≤ 2147483647) ∧ ((-2147483648) ≤ x3 ∧ x3 ≤ 2147483647) ∧ ρ (q + 1) = 71 ∧ ρ (q + 2) = 72 ∧ ρ (q + 3) = 73 ∧ ρ (q + 4) = 74 ∧ ρ (q + 5) = 75 ∧ ρ (q + 6) = 76) : CI ρ w1 := by
  refine CI_st h hf hc ?_ ⟨by rw [hq]; decide, by rw [hq]; decide⟩
  unfold rOK
  rw [hq]
  exact ⟨y0, x1, x2, x3, rfl, hk⟩
theorem CI_o80 {ρ : Nat → Nat} {w : zW} (h : CI ρ w) {q : Nat} (hq : ρ q = 80) : ∃ (x1 : Int) (x2 : Int) (x3 : Int) (x4 : Int) (x5 : Int), zix w q = some (.inr (4, [.ref (q + 1), .int (Int32.ofInt x1), .int (Int32.ofInt x2), .int (Int32.ofInt x3), .int (Int32.ofInt x4), .int (Int32.ofInt x5), .ref (q + 2), .ref (q + 3), .ref (q + 4), .ref (q + 5), .ref (q + 6), .ref (q + 7), .ref (q + 8), .ref (q + 9), .ref (q + 10)])) ∧ ρ (q + 1) = 81 ∧ ((-2147483648) ≤ x1 ∧ x1 ≤ 2147483647) ∧ ((-2147483648) ≤ x2 ∧ x2 ≤ 2147483647) ∧ ((-2147483648) ≤ x3 ∧ x3 ≤ 2147483647) ∧ ((-2147483648) ≤ x4 ∧ x4 ≤ 2147483647) ∧ ((-2147483648) ≤ x5 ∧ x5 ≤ 2147483647) ∧ ρ (q + 2) = 82 ∧ ρ (q + 3) = 83 ∧ ρ (q + 4) = 84 ∧ ρ (q + 5) = 85 ∧ ρ (q + 6) = 86 ∧ ρ (q + 7) = 87 ∧ ρ (q + 8) = 88 ∧ ρ (q + 9) = 89 ∧ ρ (q + 10) = 90 := by
  obtain ⟨c, h1, h2⟩ := CI_at h (q := q) (by rw [hq]; decide)
  unfold rOK at h2
  rw [hq] at h2
  obtain ⟨x1, x2, x3, x4, x5, rfl, h3⟩ := h2
  exact ⟨x1, x2, x3, x4, x5, h1, h3⟩
theorem CI_w80 {ρ : Nat → Nat} {w w1 : zW} (h : CI ρ w) {q : Nat} (hq : ρ q = 80) (hf : wfr q w w1) {x1 : Int} {x2 : Int} {x3 : Int} {x4 : Int} {x5 : Int} (hc : zix w1 q = some (.inr (4, [.ref (q + 1), .int (Int32.ofInt x1), .int (Int32.ofInt x2), .int (Int32.ofInt x3), .int (Int32.ofInt x4), .int (Int32.ofInt x5), .ref (q + 2), .ref (q + 3), .ref (q + 4), .ref (q + 5), .ref (q + 6), .ref (q + 7), .ref (q + 8), .ref (q + 9), .ref (q + 10)]))) (hk : ρ (q + 1) = 81 ∧ ((-2147483648) ≤ x1 ∧ x1 ≤ 2147483647) ∧ ((-2147483648) ≤ x2 ∧ x2 ≤ 2147483647) ∧ ((-2147483648) ≤ x3 ∧ x3 ≤ 2147483647) ∧ ((-2147483648) ≤ x4 ∧ x4 ≤ 2147483647) ∧ ((-2147483648) ≤ x5 ∧ x5 ≤ 2147483647) ∧ ρ (q + 2) = 82 ∧ ρ (q + 3) = 83 ∧ ρ (q + 4) = 84 ∧ ρ (q + 5) = 85 ∧ ρ (q + 6) = 86 ∧ ρ (q + 7) = 87 ∧ ρ (q + 8) = 88 ∧ ρ (q + 9) = 89 ∧ ρ (q + 10) = 90) : CI ρ w1 := by
  refine CI_st h hf hc ?_ ⟨by rw [hq]; decide, by rw [hq]; decide⟩
  unfold rOK
  rw [hq]
  exact ⟨x1, x2, x3, x4, x5, rfl, hk⟩
section CZ
variable {R : zS → Prop} {np : Nat} {L : zL} {S : List Value} {w : zW} {k n : Nat} {ρ : Nat → Nat}
theorem c_get {p ci b : Nat} {fs : List Value} {v : Value} (h : zix w p = some (.inr (ci, fs))) (hv : zix fs b = some v) (hk : R (np, L, v :: S, w, k, n)) : zob w p ci (fun fs => zfld fs b fun v => R (np, L, v :: S, w, k, n)) := by
  unfold zob
  rw [h]
  dsimp only
  rw [show Nat.beq ci ci = true from Nat.beq_refl ci]
  show zfld fs b _
  unfold zfld
  rw [hv]
  exact hk
theorem c_put {p ci b : Nat} {fs : List Value} {v : Value} {ty : FieldType} (h : zix w p = some (.inr (ci, fs))) (ht : zfit ty v = true) (hb : Nat.blt b fs.length = true) (hk : ∀ w1, wfr p w w1 → zix w1 p = some (.inr (ci, zst fs b v)) → R (np, L, S, w1, k, n)) : zob w p ci (fun fs => zif (zfit ty v) (zif (Nat.blt b fs.length) (R (np, L, S, zst w p (.inr (ci, zst fs b v)), k, n)))) := by
  unfold zob
  rw [h]
  dsimp only
  rw [show Nat.beq ci ci = true from Nat.beq_refl ci]
  show zif (zfit ty v) _
  rw [ht]
  show zif (Nat.blt b fs.length) _
  rw [hb]
  obtain ⟨h1, h2⟩ := wfr_st (c' := .inr (ci, zst fs b v)) h
  exact hk _ h1 h2
theorem c_obj {p ci : Nat} {fs : List Value} {A : Prop} (h : zix w p = some (.inr (ci, fs))) (hk : A) : zob w p ci (fun _ => A) := by
  unfold zob
  rw [h]
  dsimp only
  rw [show Nat.beq ci ci = true from Nat.beq_refl ci]
  exact hk
theorem c_ald {q len : Nat} {i lo hi : Int} (hw : CI ρ w) (hr : rAr (ρ q) = some (1, len, lo, hi)) (h0 : 0 ≤ i) (h1 : i < len) (hl : len ≤ 60000) (hk : ∀ v : Int, lo ≤ v → v ≤ hi → R (np, L, .int (Int32.ofInt v) :: S, w, k, n)) : zai w q (fun ti len g => zif (Nat.beq ti 1) (vp_in (Int32.ofInt i) len ∧ R (np, L, .int (g (Int32.ofInt i).toNatClampNeg) :: S, w, k, n))) := by
  obtain ⟨g, h2, h3⟩ := CI_ar hw hr
  unfold zai
  rw [h2]
  exact t_ldB h3 h0 h1 hl fun v _ a b => hk v a b
theorem c_aldE {q len : Nat} {i : Int} {g : Nat → Int32} (h2 : zix w q = some (.inl (1, len, .inl g))) (h0 : 0 ≤ i) (h1 : i < len) (hl : len ≤ 60000) (hk : ∀ v : Int, v = (g i.toNat).toInt → (-2147483648 ≤ v ∧ v ≤ 2147483647) → R (np, L, .int (Int32.ofInt v) :: S, w, k, n)) : zai w q (fun ti len g => zif (Nat.beq ti 1) (vp_in (Int32.ofInt i) len ∧ R (np, L, .int (g (Int32.ofInt i).toNatClampNeg) :: S, w, k, n))) := by
  unfold zai
  rw [h2]
  exact t_ldE h0 h1 hl hk
theorem c_bld {q len : Nat} {i lo hi : Int} (hw : CI ρ w) (hr : rAr (ρ q) = some (0, len, lo, hi)) (h0 : 0 ≤ i) (h1 : i < len) (hl : len ≤ 60000) (hk : ∀ v : Int, (-2147483648 ≤ v ∧ v ≤ 2147483647) → R (np, L, .int (Int32.ofInt v) :: S, w, k, n)) : zai w q (fun ti len g => zif (Nat.beq ti 0 || Nat.beq ti 2) (vp_in (Int32.ofInt i) len ∧ R (np, L, .int (g (Int32.ofInt i).toNatClampNeg) :: S, w, k, n))) := by
  obtain ⟨g, h2, h3⟩ := CI_ar hw hr
  unfold zai
  rw [h2]
  exact t_ldo h0 h1 hl hk
theorem c_ast {q len : Nat} {i e lo hi : Int} (hw : CI ρ w) (hr : rAr (ρ q) = some (1, len, lo, hi)) (hm : ρ q ≠ 23 ∧ ρ q ≠ 24) (he1 : lo ≤ e) (he2 : e ≤ hi) (hl1 : -2147483648 ≤ lo) (hh : hi ≤ 2147483647) (h0 : 0 ≤ i) (h1 : i < len) (hl : len ≤ 60000) (hk : ∀ w1, CI ρ w1 → wfr q w w1 → R (np, L, S, w1, k, n)) : zai w q (fun ti len g => zif (Nat.beq ti 1) (vp_in (Int32.ofInt i) len ∧ R (np, L, S, zst w q (.inl (ti, len, .inl (upd g (Int32.ofInt i).toNatClampNeg (Int32.ofInt e)))), k, n))) := by
  obtain ⟨g, h2, h3⟩ := CI_ar hw hr
  unfold zai
  rw [h2]
  refine ⟨zvin h0 h1 hl, ?_⟩
  obtain ⟨f1, f2⟩ := wfr_st (c' := .inl (1, len, .inl (upd g (Int32.ofInt i).toNatClampNeg (Int32.ofInt e)))) h2
  refine hk _ (CI_st hw f1 f2 ?_ hm) f1
  unfold rOK
  rw [hr]
  exact ⟨_, rfl, zB_u h3 he1 he2 hl1 hh⟩
theorem c_bst {q len : Nat} {i : Int} {x : Int32} (hw : CI ρ w) (hr : rAr (ρ q) = some (0, len, -2147483648, 2147483647)) (hm : ρ q ≠ 23 ∧ ρ q ≠ 24) (h0 : 0 ≤ i) (h1 : i < len) (hl : len ≤ 60000) (hk : ∀ w1, CI ρ w1 → wfr q w w1 → R (np, L, S, w1, k, n)) : zai w q (fun ti len g => zor (Nat.beq ti 0) (vp_in (Int32.ofInt i) len ∧ R (np, L, S, zst w q (.inl (ti, len, .inl (upd g (Int32.ofInt i).toNatClampNeg (vp_nar .byte x)))), k, n)) (zif (Nat.beq ti 2) (vp_in (Int32.ofInt i) len ∧ R (np, L, S, zst w q (.inl (ti, len, .inl (upd g (Int32.ofInt i).toNatClampNeg (vp_nar .boolean x)))), k, n)))) := by
  obtain ⟨g, h2, h3⟩ := CI_ar hw hr
  unfold zai
  rw [h2]
  refine ⟨zvin h0 h1 hl, ?_⟩
  obtain ⟨f1, f2⟩ := wfr_st (c' := .inl (0, len, .inl (upd g (Int32.ofInt i).toNatClampNeg (vp_nar .byte x)))) h2
  refine hk _ (CI_st hw f1 f2 ?_ hm) f1
  unfold rOK
  rw [hr]
  exact ⟨_, rfl, fun j => zrg _⟩
/-- a reference out of an array -/
theorem c_rld {q ti len re : Nat} {i : Int} (hw : CI ρ w) (ha : rAr (ρ q) = none) (hr : rRf (ρ q) = some (ti, len, re)) (ht : (Nat.ble 3 ti && Nat.ble ti 8) = true) (h0 : 0 ≤ i) (h1 : i < len) (hl : len ≤ 60000) (hk : ∀ o : Option Nat, (∀ x, o = some x → ρ x = re) → R (np, L, va_rf o :: S, w, k, n)) : zaq w q (fun ti len g => zif (Nat.ble 3 ti && Nat.ble ti 8) (vp_in (Int32.ofInt i) len ∧ R (np, L, va_rf (g (Int32.ofInt i).toNatClampNeg) :: S, w, k, n))) := by
  obtain ⟨g, h2, h3⟩ := CI_rf hw ha hr
  unfold zaq
  rw [h2]
  dsimp only
  rw [ht]
  exact ⟨zvin h0 h1 hl, hk _ fun x hx => h3 _ x hx⟩
end CZ
