theorem t_cl {R : zS → Prop} {np : Nat} {L : zL} {S : List Value} {w : zW} {k n : Nat} {x : Int64} (v : Int64) (e : x = v) (h : R (np, L, .long v :: S, w, k, n)) : R (np, L, .long x :: S, w, k, n) := by rw [e]; exact h
theorem zl_rem (x y : Int64) (hy : y ≠ 0) : (x - x / y * y).toInt.natAbs < y.toInt.natAbs := by
  have hx := Int64.le_toInt x
  have hx2 := Int64.toInt_lt x
  have hy1 := Int64.le_toInt y
  have hy2 := Int64.toInt_lt y
  have hy0 : y.toInt ≠ 0 := fun h => hy (Int64.toInt_inj.mp (h.trans rfl))
  have e : (x - x / y * y).toInt = x.toInt.tmod y.toInt := by
    rw [Int64.toInt_sub, Int64.toInt_mul, Int64.toInt_div]
    have h1 : (x.toInt - ((x.toInt.tdiv y.toInt).bmod (2 ^ 64) * y.toInt).bmod (2 ^ 64)).bmod (2 ^ 64) = (x.toInt - x.toInt.tdiv y.toInt * y.toInt).bmod (2 ^ 64) := by
      rw [Int.bmod_mul_bmod, Int.sub_bmod_bmod]
    rw [h1]
    have h2 : x.toInt - x.toInt.tdiv y.toInt * y.toInt = x.toInt.tmod y.toInt := by
      have := Int.tmod_add_tdiv_mul x.toInt y.toInt
      omega
    rw [h2]
    have h3 : (x.toInt.tmod y.toInt).natAbs < y.toInt.natAbs := by
      rw [Int.natAbs_tmod]; exact Nat.mod_lt _ (by omega)
    rw [Int.bmod_eq_of_le] <;> omega
  rw [e, Int.natAbs_tmod]
  exact Nat.mod_lt _ (by omega)
theorem ml_ne {x : Int64} {b : Int} (h : 1 ≤ x.toInt ∧ x.toInt ≤ b) : x ≠ 0 := by
  intro e
  rw [e] at h
  have : (0 : Int64).toInt = 0 := rfl
  omega
theorem p5_b {i : Int} (h0 : 0 ≤ i) (h1 : i ≤ 8) : (5 : Int) ^ i.toNat ≤ 390625 := by
  have h : i = 0 ∨ i = 1 ∨ i = 2 ∨ i = 3 ∨ i = 4 ∨ i = 5 ∨ i = 6 ∨ i = 7 ∨ i = 8 := by omega
  rcases h with rfl | rfl | rfl | rfl | rfl | rfl | rfl | rfl | rfl <;> decide
theorem zl_mul {D : Int64} {r : Int} (h : 1 ≤ D.toInt ∧ D.toInt ≤ 390625) (hr : 1 ≤ r ∧ r ≤ 5) : ∃ w : Int64, 1 ≤ w.toInt ∧ w.toInt ≤ 5 * D.toInt ∧ D * (Int32.ofInt r).toInt64 = w := by
  refine ⟨_, ?_, ?_, rfl⟩
  · have e : (D * (Int32.ofInt r).toInt64).toInt = D.toInt * r := by
      rw [Int64.toInt_mul, Int32.toInt_toInt64, zti (by omega) (by omega)]
      have hc : r = 1 ∨ r = 2 ∨ r = 3 ∨ r = 4 ∨ r = 5 := by omega
      rw [Int.bmod_eq_of_le] <;> (rcases hc with rfl | rfl | rfl | rfl | rfl <;> omega)
    rw [e]
    have hc : r = 1 ∨ r = 2 ∨ r = 3 ∨ r = 4 ∨ r = 5 := by omega
    rcases hc with rfl | rfl | rfl | rfl | rfl <;> omega
  · have e : (D * (Int32.ofInt r).toInt64).toInt = D.toInt * r := by
      rw [Int64.toInt_mul, Int32.toInt_toInt64, zti (by omega) (by omega)]
      have hc : r = 1 ∨ r = 2 ∨ r = 3 ∨ r = 4 ∨ r = 5 := by omega
      rw [Int.bmod_eq_of_le] <;> (rcases hc with rfl | rfl | rfl | rfl | rfl <;> omega)
    rw [e]
    have hc : r = 1 ∨ r = 2 ∨ r = 3 ∨ r = 4 ∨ r = 5 := by omega
    rcases hc with rfl | rfl | rfl | rfl | rfl <;> omega
theorem ml_p {D w : Int64} {k : Int} (h : 1 ≤ D.toInt ∧ D.toInt ≤ 5 ^ (k - 1).toNat) (h1 : 1 ≤ w.toInt) (h2 : w.toInt ≤ 5 * D.toInt) (hk : 1 ≤ k) : 1 ≤ w.toInt ∧ w.toInt ≤ 5 ^ (k + 1 - 1).toNat := by
  rw [show (k + 1 - 1).toNat = (k - 1).toNat + 1 by omega, Int.pow_succ]
  omega
theorem m_common (d : Nat) (la lb : Int64) (w : zW) (hr0 : la ≠ 0) (Q : zQ) (h : ∀ (v : Int64), (v ≠ 0) → Q (some (.long v)) w) : zCl zTab (d + 1) iX12_common [.long la, .long lb] w 0 0 Q := by
  refine zCl_i (M := kX12_common) rfl (Nat.le_of_ble_eq_true rfl) fun R hR => ?_
  have loop : ∀ (N : Nat) (x y : Int64) (o8 : Option Value), x ≠ 0 → y.toInt.natAbs < N → R (6, [some (.long la), none, some (.long lb), none, some (.long x), none, some (.long y), none, o8, none], [], w, 0, 0) := by
    intro N
    induction N with
    | zero => intro x y o8 _ h; omega
    | succ N ih =>
      intro x y o8 hx hN
      iterate 2 refine hR (?_ : R (_, _, _, _, _, _))
      refine hR (?_ : R (_, _, .int (lg_cmp y 0) :: _, _, _, _))
      refine hR (And.intro (fun hc => ?_) (fun hc => ?_))
      · refine hR (?_ : R (_, _, _, _, _, _))
        exact hR (zret_i rfl (Nat.le_refl _) trivial (h x hx))
      · have hy : y ≠ 0 := fun e => hc (by rw [e]; decide)
        iterate 2 refine hR (?_ : R (_, _, _, _, _, _))
        refine hR (And.intro hy ?_)
        iterate 6 refine hR (?_ : R (_, _, _, _, _, _))
        exact ih y _ _ hy (by have := zl_rem x y hy; omega)
  iterate 4 refine hR (?_ : R (_, _, _, _, _, _))
  exact loop (lb.toInt.natAbs + 1) la lb none hr0 (by omega)
/-! kin -/
noncomputable def kfun (g : Nat → Int32) (b : Nat) : Nat → Nat := fun w => (g (51 * b + (2 + w))).toInt.toNat
noncomputable def krl (K : Nat → Nat) (w : Nat) : Nat → Nat → Nat → Nat
  | 0, a, n => if a = w then n else 0
  | f + 1, a, n => if a = w then n else krl K w f (K a) (n + 1)
noncomputable def kr (K : Nat → Nat) (w : Nat) : Nat := krl K w 4 (K w) 1
noncomputable def kdl (K : Nat → Nat) : Nat → Nat → Nat
  | 0, _ => 0
  | f + 1, w => if kr K w = 0 then kdl K f (K w) + 1 else 0
theorem kd_b (K : Nat → Nat) : ∀ f w, kdl K f w ≤ f
  | 0, _ => Nat.le_refl _
  | f + 1, w => by
    unfold kdl
    have := kd_b K f (K w)
    split <;> omega
theorem kr_0 {g : Nat → Int32} {b : Nat} {a v : Int} (h : 0 ≤ a) (hv : 0 ≤ v) (e : v = (g (51 * b + (2 + a).toNat)).toInt) : krl (kfun g b) a.toNat (5 - 1 : Int).toNat v.toNat (1 : Int).toNat = kr (kfun g b) a.toNat := by
  have e2 : v.toNat = kfun g b a.toNat := by
    unfold kfun
    rw [e, show (2 + a).toNat = 2 + a.toNat by omega]
  rw [e2]; rfl
theorem kr_s {g : Nat → Int32} {b : Nat} {a n v : Int} {w k : Nat} (h : krl (kfun g b) w (5 - n).toNat a.toNat n.toNat = k) (ha : 0 ≤ a) (hn : 1 ≤ n) (hn2 : n ≤ 4) (hne : ¬ a.toNat = w) (e : v = (g (51 * b + (2 + a).toNat)).toInt) : krl (kfun g b) w (5 - (n + 1)).toNat v.toNat (n + 1).toNat = k := by
  have e2 : v.toNat = kfun g b a.toNat := by
    unfold kfun
    rw [e, show (2 + a).toNat = 2 + a.toNat by omega]
  rw [show (5 - n).toNat = (5 - (n + 1)).toNat + 1 by omega] at h
  unfold krl at h
  rw [if_neg hne] at h
  rw [e2, show (n + 1).toNat = n.toNat + 1 by omega]
  exact h
theorem kr_e1 {K : Nat → Nat} {a n w : Int} {k : Nat} (h : krl K w.toNat (5 - n).toNat a.toNat n.toNat = k) (hw : 0 ≤ w ∧ 0 ≤ a) (ha : a = w) (hn : 1 ≤ n) : n = (k : Int) := by
  have e : krl K w.toNat (5 - n).toNat a.toNat n.toNat = n.toNat := by
    cases (5 - n).toNat with
    | zero => unfold krl; rw [if_pos (by omega)]
    | succ m => unfold krl; rw [if_pos (by omega)]
  rw [e] at h
  omega
theorem kr_e0 {K : Nat → Nat} {a n w : Int} {k : Nat} (h : krl K w.toNat (5 - n).toNat a.toNat n.toNat = k) (hw : 0 ≤ w ∧ 0 ≤ a) (ha : ¬ a = w) (hn : 5 ≤ n) : (0 : Int) = (k : Int) := by
  rw [show (5 - n).toNat = 0 by omega] at h
  unfold krl at h
  rw [if_neg (by omega)] at h
  omega
noncomputable def ktab (a b c d : Nat) : Nat → Nat := fun i => if i = 0 then a else if i = 1 then b else if i = 2 then c else d
theorem krl_cong {K K' : Nat → Nat} (h : ∀ i, i < 4 → K i = K' i ∧ K i < 4) (w : Nat) : ∀ f a n, a < 4 → krl K w f a n = krl K' w f a n
  | 0, _, _, _ => rfl
  | f + 1, a, n, ha => by
    unfold krl
    rw [krl_cong h w f (K a) (n + 1) (h a ha).2, (h a ha).1]
theorem kr_cong {K K' : Nat → Nat} (h : ∀ i, i < 4 → K i = K' i ∧ K i < 4) {w : Nat} (hw : w < 4) : kr K w = kr K' w := by
  unfold kr
  rw [krl_cong h w 4 (K w) 1 (h w hw).2, (h w hw).1]
theorem kdl_cong {K K' : Nat → Nat} (h : ∀ i, i < 4 → K i = K' i ∧ K i < 4) : ∀ f w, w < 4 → kdl K f w = kdl K' f w
  | 0, _, _ => rfl
  | f + 1, w, hw => by
    unfold kdl
    rw [kr_cong h hw, kdl_cong h f (K w) (h w hw).2, (h w hw).1]
theorem kd_tab0 : ∀ a b c d w : Fin 4, kr (ktab a.val b.val c.val d.val) w.val = 0 → kdl (ktab a.val b.val c.val d.val) 4 (ktab a.val b.val c.val d.val w.val) < kdl (ktab a.val b.val c.val d.val) 4 w.val := by decide +kernel
theorem kd_tab (a : Nat) (ha : a < 4) (b : Nat) (hb : b < 4) (c : Nat) (hc : c < 4) (d : Nat) (hd : d < 4) (w : Nat) (hw : w < 4) : kr (ktab a b c d) w = 0 → kdl (ktab a b c d) 4 (ktab a b c d w) < kdl (ktab a b c d) 4 w := kd_tab0 ⟨a, ha⟩ ⟨b, hb⟩ ⟨c, hc⟩ ⟨d, hd⟩ ⟨w, hw⟩
theorem kd_s {g : Nat → Int32} (hg : bkOK g) {f w v u : Int} (hf : 0 ≤ f) (hf1 : f ≤ 7) (hw : 0 ≤ w) (hw2 : w ≤ 3) (hz : u = (kr (kfun g f.toNat) w.toNat : Int) ∧ u = 0) (e : v = (g (51 * f.toNat + (2 + w).toNat)).toInt) : kdl (kfun g f.toNat) 4 v.toNat < kdl (kfun g f.toNat) 4 w.toNat := by
  have hk : ∀ i, i < 4 → kfun g f.toNat i < 4 := by
    intro i hi
    have := (hg f.toNat (by omega)).2.2.1 (2 + i) (by omega) (by omega)
    dsimp only at this
    unfold kfun
    omega
  have hc : ∀ i, i < 4 → kfun g f.toNat i = ktab (kfun g f.toNat 0) (kfun g f.toNat 1) (kfun g f.toNat 2) (kfun g f.toNat 3) i ∧ kfun g f.toNat i < 4 := by
    intro i hi
    refine ⟨?_, hk i hi⟩
    have hi4 : i = 0 ∨ i = 1 ∨ i = 2 ∨ i = 3 := by omega
    rcases hi4 with rfl | rfl | rfl | rfl <;> rfl
  have e2 : v.toNat = kfun g f.toNat w.toNat := by
    unfold kfun
    rw [e, show (2 + w).toNat = 2 + w.toNat by omega]
  have hk2 := hk w.toNat (by omega)
  have h1 := kd_tab _ (hk 0 (by omega)) _ (hk 1 (by omega)) _ (hk 2 (by omega)) _ (hk 3 (by omega)) w.toNat (by omega) (by rw [← kr_cong hc (by omega)]; omega)
  rw [e2, kdl_cong hc 4 _ hk2, kdl_cong hc 4 _ (by omega), (hc w.toNat (by omega)).1]
  exact h1
theorem zshl_r6 {e : Int} (h0 : 0 ≤ e) (h1 : e ≤ 6) : ∃ v : Int, 1 ≤ v ∧ v ≤ 64 ∧ Int32.ofInt 1 <<< (Int32.ofInt e &&& 31) = Int32.ofInt v := by
  have h : e = 0 ∨ e = 1 ∨ e = 2 ∨ e = 3 ∨ e = 4 ∨ e = 5 ∨ e = 6 := by omega
  rcases h with rfl | rfl | rfl | rfl | rfl | rfl | rfl
  · exact ⟨1, by omega, by omega, by decide⟩
  · exact ⟨2, by omega, by omega, by decide⟩
  · exact ⟨4, by omega, by omega, by decide⟩
  · exact ⟨8, by omega, by omega, by decide⟩
  · exact ⟨16, by omega, by omega, by decide⟩
  · exact ⟨32, by omega, by omega, by decide⟩
  · exact ⟨64, by omega, by omega, by decide⟩
theorem fo_s {D g : Nat → Int32} {v sh : Int} (e : v = (D 0).toInt) (h : 8 * ((D 0).toInt - (g 0).toInt) = 24 - sh) (hr : -1000 ≤ v ∧ v ≤ 1000) : 8 * ((upd D (0 : Int).toNat (Int32.ofInt (v + 1)) 0).toInt - (g 0).toInt) = 24 - (sh + (-8)) := by
  have e2 : upd D (0 : Int).toNat (Int32.ofInt (v + 1)) 0 = Int32.ofInt (v + 1) := if_pos rfl
  rw [e2, zti (by omega) (by omega)]
  omega
theorem fo_o {D g : Nat → Int32} {x : Int32} (h : ∀ j, j ≠ 0 → D j = g j) : ∀ j, j ≠ 0 → upd D (0 : Int).toNat x j = g j := by
  intro j hj
  have e2 : upd D (0 : Int).toNat x j = D j := if_neg hj
  rw [e2]; exact h j hj
theorem fo_m {sh : Int} (h : ∃ m : Int, sh = 8 * m) : ∃ m : Int, sh + (-8) = 8 * m := by
  obtain ⟨m, h⟩ := h
  exact ⟨m - 1, by omega⟩
theorem en_s {g : Nat → Int32} {a s : Int} (h1 : 0 ≤ a ∧ a ≤ s) (h2 : s = (g 0).toInt ∧ s ≤ 600) : (a = -1 ∧ (a < 0 ∨ (g 0).toInt < a) ∧ (upd g (0 : Int).toNat (Int32.ofInt a) 0).toInt = (g 0).toInt) ∨ (a = a ∧ 0 ≤ a ∧ a ≤ (g 0).toInt ∧ (upd g (0 : Int).toNat (Int32.ofInt a) 0).toInt = a) := by
  have e2 : upd g (0 : Int).toNat (Int32.ofInt a) 0 = Int32.ofInt a := if_pos rfl
  rw [e2, zti (by omega) (by omega)]
  omega
section MZ
variable {c0 c1 c2 c3 c4 c5 c6 c7 c8 c9 c10 c11 c12 c13 : va_E} {f0 f9 f10 f11 f12 f13 f15 f16 f17 f20 f21 f22 f23 f26 f28 f31 f32 f33 f38 f41 f44 : Int} {x14 : Int64} {g15 g16 g17 g18 g19 g20 g21 g22 g23 g24 g25 g26 g27 g28 g29 g30 g31 g32 g33 g34 g35 g36 g37 g38 g39 g40 g41 g42 g43 g44 : Nat → Int32} {t : zW}
theorem m_mean (d : Nat) (a1 a2 a3 : Int) (hb19 : zB 0 2 g19) (hb25 : zB 0 3 g25) (hb26 : zB 0 3 g26) (hb30 : zB 0 5460 g30) (hr4 : bkOK g20) (hr5 : -2147483648 ≤ a1 ∧ a1 ≤ 2147483647) (hr6 : -2147483648 ≤ a2 ∧ a2 ≤ 2147483647) (hr7 : -2147483648 ≤ a3 ∧ a3 ≤ 2147483647) (Q : zQ) (h : ∀ (v : Int64) (y0 : Int) (y20 : Int) (y21 : Int) (y22 : Int) (y23 : Int) (y26 : Int) (k25 : Nat → Int32) (k26 : Nat → Int32) (k27 : Nat → Int32) (k30 : Nat → Int32) (k35 : Nat → Int32), zB 0 3 k25 → zB 0 3 k26 → zB 0 5460 k30 → Q (some (.long v)) (zMi c0 c1 c2 c3 c4 c5 c6 c7 c8 c9 c10 c11 c12 c13 y0 f9 f10 f11 f12 f13 f15 f16 f17 y20 y21 y22 y23 y26 f28 f31 f32 f33 f38 f41 f44 x14 g15 g16 g17 g18 g19 g20 g21 g22 g23 g24 k25 k26 k27 g28 g29 k30 g31 g32 g33 g34 k35 g36 g37 g38 g39 g40 g41 g42 g43 g44 t)) : zCl zTab (d + 6) iX12_mean [.ref 14, .int (Int32.ofInt a1), .int (Int32.ofInt a2), .int (Int32.ofInt a3)] (zMi c0 c1 c2 c3 c4 c5 c6 c7 c8 c9 c10 c11 c12 c13 f0 f9 f10 f11 f12 f13 f15 f16 f17 f20 f21 f22 f23 f26 f28 f31 f32 f33 f38 f41 f44 x14 g15 g16 g17 g18 g19 g20 g21 g22 g23 g24 g25 g26 g27 g28 g29 g30 g31 g32 g33 g34 g35 g36 g37 g38 g39 g40 g41 g42 g43 g44 t) 0 0 Q := by
  refine zCl_i (M := kX12_mean) rfl (Nat.le_of_ble_eq_true rfl) fun R hR => ?_
  iterate 2 refine hR (?_ : R (_, _, _, _, _, _))
  refine hR (?_ : R (_, _, _, (zMi c0 c1 c2 c3 c4 c5 c6 c7 c8 c9 c10 c11 c12 c13 0 f9 f10 f11 f12 f13 f15 f16 f17 f20 f21 f22 f23 f26 f28 f31 f32 f33 f38 f41 f44 x14 g15 g16 g17 g18 g19 g20 g21 g22 g23 g24 g25 g26 g27 g28 g29 g30 g31 g32 g33 g34 g35 g36 g37 g38 g39 g40 g41 g42 g43 g44 t), _, _))
  iterate 2 refine hR (?_ : R (_, _, _, _, _, _))
  refine hR (t_c 9 (by decide) ?_)
  refine hR (zcall_i 0 0 (Nat.le_of_ble_eq_true rfl) (Nat.le_of_ble_eq_true rfl) (m_in _ a2 0 9 _ (by omega) (by omega) (by omega) _ fun v1 hp2 => ?_))
  refine (?_ : R (_, _, (.int (Int32.ofInt v1)) :: [], (zMi c0 c1 c2 c3 c4 c5 c6 c7 c8 c9 c10 c11 c12 c13 0 f9 f10 f11 f12 f13 f15 f16 f17 f20 f21 f22 f23 f26 f28 f31 f32 f33 f38 f41 f44 x14 g15 g16 g17 g18 g19 g20 g21 g22 g23 g24 g25 g26 g27 g28 g29 g30 g31 g32 g33 g34 g35 g36 g37 g38 g39 g40 g41 g42 g43 g44 t), 0, 0))
  refine hR (k_eq (by omega) (fun hc3 => ?_) (fun hc3 => ?_))
  · skip
    refine hR (?_ : R (_, _, _, _, _, _))
    exact hR (zret_i rfl (Nat.le_refl _) trivial (h _ _ _ _ _ _ _ _ _ _ _ _ hb25 hb26 hb30))
  iterate 2 refine hR (?_ : R (_, _, _, _, _, _))
  refine hR (zcall_i 0 0 (Nat.le_of_ble_eq_true rfl) (Nat.le_of_ble_eq_true rfl) (m_hand _ a1 hb19 hr4 (by omega) _ fun v4 y20_5 y22_6 y23_7 hp8 => ?_))
  refine (?_ : R (_, _, (.int (Int32.ofInt v4)) :: [], (zMi c0 c1 c2 c3 c4 c5 c6 c7 c8 c9 c10 c11 c12 c13 0 f9 f10 f11 f12 f13 f15 f16 f17 y20_5 f21 y22_6 y23_7 f26 f28 f31 f32 f33 f38 f41 f44 x14 g15 g16 g17 g18 g19 g20 g21 g22 g23 g24 g25 g26 g27 g28 g29 g30 g31 g32 g33 g34 g35 g36 g37 g38 g39 g40 g41 g42 g43 g44 t), 0, 0))
  refine hR (k_eq (by omega) (fun hc9 => ?_) (fun hc9 => ?_))
  · skip
    refine hR (?_ : R (_, _, _, _, _, _))
    exact hR (zret_i rfl (Nat.le_refl _) trivial (h _ _ _ _ _ _ _ _ _ _ _ _ hb25 hb26 hb30))
  iterate 2 refine hR (?_ : R (_, _, _, _, _, _))
  refine hR (k_ne (by omega) (fun hc10 => ?_) (fun hc10 => ?_))
  · skip
    refine hR (?_ : R (_, _, _, _, _, _))
    refine hR (zcall_i 0 0 (Nat.le_of_ble_eq_true rfl) (Nat.le_of_ble_eq_true rfl) (m_layMade _ hb25 hb30 hr4 (by omega) (by omega) _ fun y21_11 y26_12 k25_13 k30_14 hp15 hp16 => ?_))
    refine (?_ : R (_, _, [], (zMi c0 c1 c2 c3 c4 c5 c6 c7 c8 c9 c10 c11 c12 c13 0 f9 f10 f11 f12 f13 f15 f16 f17 y20_5 y21_11 y22_6 y23_7 y26_12 f28 f31 f32 f33 f38 f41 f44 x14 g15 g16 g17 g18 g19 g20 g21 g22 g23 g24 k25_13 g26 g27 g28 g29 k30_14 g31 g32 g33 g34 g35 g36 g37 g38 g39 g40 g41 g42 g43 g44 t), 0, 0))
    refine hR (?_ : R (_, _, _, _, _, _))
    refine hR (zcall_i 0 0 (Nat.le_of_ble_eq_true rfl) (Nat.le_of_ble_eq_true rfl) (m_layDrifts _ hp15 hb26 (by omega) _ fun k25_17 k26_18 k27_19 k35_20 hp21 hp22 => ?_))
    refine (?_ : R (_, _, [], (zMi c0 c1 c2 c3 c4 c5 c6 c7 c8 c9 c10 c11 c12 c13 0 f9 f10 f11 f12 f13 f15 f16 f17 y20_5 y21_11 y22_6 y23_7 y26_12 f28 f31 f32 f33 f38 f41 f44 x14 g15 g16 g17 g18 g19 g20 g21 g22 g23 g24 k25_17 k26_18 k27_19 g28 g29 k30_14 g31 g32 g33 g34 k35_20 g36 g37 g38 g39 g40 g41 g42 g43 g44 t), 0, 0))
    iterate 4 refine hR (?_ : R (_, _, _, _, _, _))
    have lp52 : ∀ (N : Nat) (dn : Int64) (k : Int) (o7_52 : Option Value) (o8_52 : Option Value) (o9_52 : Option Value) (q35_52 : Nat → Int32), (zc2 o7_52 = false) → (zc2 o8_52 = false) → (zc2 o9_52 = false) → (1 ≤ k ∧ k ≤ 10) → (1 ≤ dn.toInt ∧ dn.toInt ≤ 5 ^ (k - 1).toNat) → (k ≤ a2 + 1) → (10 - k < N) → R (52, [some (.ref 14), some (.int (Int32.ofInt a1)), some (.int (Int32.ofInt a2)), some (.int (Int32.ofInt a3)), some (.long dn), none, some (.int (Int32.ofInt k)), o7_52, o8_52, o9_52], [], (zMi c0 c1 c2 c3 c4 c5 c6 c7 c8 c9 c10 c11 c12 c13 0 f9 f10 f11 f12 f13 f15 f16 f17 y20_5 y21_11 y22_6 y23_7 y26_12 f28 f31 f32 f33 f38 f41 f44 x14 g15 g16 g17 g18 g19 g20 g21 g22 g23 g24 k25_17 k26_18 k27_19 g28 g29 k30_14 g31 g32 g33 g34 q35_52 g36 g37 g38 g39 g40 g41 g42 g43 g44 t), 0, 0) := by
      intro N
      induction N with
      | zero => intros; omega
      | succ N ih52 =>
        intro dn k o7_52 o8_52 o9_52 q35_52 hzo7_52 hzo8_52 hzo9_52 hf0_52 hp0_52 hp1_52 hN52
        iterate 2 refine hR (?_ : R (_, _, _, _, _, _))
        refine hR (j_gt (by omega) (by omega) (fun hc23 => ?_) (fun hc23 => ?_))
        · skip
          iterate 2 refine hR (?_ : R (_, _, _, _, _, _))
          refine hR (t_c 5461 (by decide) ?_)
          refine hR (?_ : R (_, _, _, _, _, _))
          refine hR (t_mul ?_)
          iterate 2 refine hR (?_ : R (_, _, _, _, _, _))
          refine hR (t_add ?_)
          refine hR (t_ldo (by omega) (by omega) (Nat.le_of_ble_eq_true rfl) fun v24 rv24 => ?_)
          refine hR (t_xl fun w25 => ?_)
          iterate 2 refine hR (?_ : R (_, _, _, _, _, _))
          refine hR (k_eq (by omega) (fun hc26 => ?_) (fun hc26 => ?_))
          · skip
            iterate 3 refine hR (?_ : R (_, _, _, _, _, _))
            refine hR (zcall_i 0 0 (Nat.le_of_ble_eq_true rfl) (Nat.le_of_ble_eq_true rfl) (m_common _ _ _ _ (ml_ne hp0_52) _ fun v27 hp28 => ?_))
            refine (?_ : R (_, _, (.long v27) :: (.long w25) :: [], (zMi c0 c1 c2 c3 c4 c5 c6 c7 c8 c9 c10 c11 c12 c13 0 f9 f10 f11 f12 f13 f15 f16 f17 y20_5 y21_11 y22_6 y23_7 y26_12 f28 f31 f32 f33 f38 f41 f44 x14 g15 g16 g17 g18 g19 g20 g21 g22 g23 g24 k25_17 k26_18 k27_19 g28 g29 k30_14 g31 g32 g33 g34 q35_52 g36 g37 g38 g39 g40 g41 g42 g43 g44 t), 0, 0))
            refine hR (And.intro hp28 (t_xl fun wq => ?_))
            exact hR (zret_i rfl (Nat.le_refl _) trivial (h _ _ _ _ _ _ _ _ _ _ _ _ hp21 hp22 hp16))
          iterate 4 refine hR (?_ : R (_, _, _, _, _, _))
          refine hR (zcall_i 0 0 (Nat.le_of_ble_eq_true rfl) (Nat.le_of_ble_eq_true rfl) (m_common _ _ _ _ (ml_ne hp0_52) _ fun v29 hp30 => ?_))
          refine (?_ : R (_, _, (.long v29) :: (.long dn) :: [], (zMi c0 c1 c2 c3 c4 c5 c6 c7 c8 c9 c10 c11 c12 c13 0 f9 f10 f11 f12 f13 f15 f16 f17 y20_5 y21_11 y22_6 y23_7 y26_12 f28 f31 f32 f33 f38 f41 f44 x14 g15 g16 g17 g18 g19 g20 g21 g22 g23 g24 k25_17 k26_18 k27_19 g28 g29 k30_14 g31 g32 g33 g34 q35_52 g36 g37 g38 g39 g40 g41 g42 g43 g44 t), 0, 0))
          refine hR (And.intro hp30 (t_xl fun wq => ?_))
          exact hR (zret_i rfl (Nat.le_refl _) trivial (h _ _ _ _ _ _ _ _ _ _ _ _ hp21 hp22 hp16))
        iterate 4 refine hR (?_ : R (_, _, _, _, _, _))
        have h5 := p5_b (i := k - 1) (by omega) (by omega)
        obtain ⟨wm, hw1, hw2, hw3⟩ := zl_mul (D := dn) (r := y23_7) (by omega) (by omega)
        refine hR (t_cl wm hw3 ?_)
        iterate 3 refine hR (?_ : R (_, _, _, _, _, _))
        have lp71 : ∀ (N : Nat) (i : Int) (o8_71 : Option Value) (o9_71 : Option Value) (q35_71 : Nat → Int32), (zc2 o8_71 = false) → (zc2 o9_71 = false) → (0 ≤ i ∧ i ≤ 5461) → (5461 - i < N) → R (71, [some (.ref 14), some (.int (Int32.ofInt a1)), some (.int (Int32.ofInt a2)), some (.int (Int32.ofInt a3)), some (.long wm), none, some (.int (Int32.ofInt k)), some (.int (Int32.ofInt i)), o8_71, o9_71], [], (zMi c0 c1 c2 c3 c4 c5 c6 c7 c8 c9 c10 c11 c12 c13 0 f9 f10 f11 f12 f13 f15 f16 f17 y20_5 y21_11 y22_6 y23_7 y26_12 f28 f31 f32 f33 f38 f41 f44 x14 g15 g16 g17 g18 g19 g20 g21 g22 g23 g24 k25_17 k26_18 k27_19 g28 g29 k30_14 g31 g32 g33 g34 q35_71 g36 g37 g38 g39 g40 g41 g42 g43 g44 t), 0, 0) := by
          intro N
          induction N with
          | zero => intros; omega
          | succ N ih71 =>
            intro i o8_71 o9_71 q35_71 hzo8_71 hzo9_71 hf0_71 hN71
            refine hR (?_ : R (_, _, _, _, _, _))
            refine hR (t_c 5461 (by decide) ?_)
            refine hR (j_ge (by omega) (by omega) (fun hc31 => ?_) (fun hc31 => ?_))
            · skip
              refine hR (t_inc ?_)
              refine hR (?_ : R (_, _, _, _, _, _))
              exact ih52 _ _ _ _ _ _ (by rfl) hzo8_71 hzo9_71 (by omega) (ml_p hp0_52 hw1 hw2 (by omega)) (by omega) (by omega)
            iterate 4 refine hR (?_ : R (_, _, _, _, _, _))
            have lp85 : ∀ (N : Nat) (su : Int) (r : Int), (0 ≤ r ∧ r ≤ y23_7) → (y23_7 - r < N) → R (85, [some (.ref 14), some (.int (Int32.ofInt a1)), some (.int (Int32.ofInt a2)), some (.int (Int32.ofInt a3)), some (.long wm), none, some (.int (Int32.ofInt k)), some (.int (Int32.ofInt i)), some (.int (Int32.ofInt su)), some (.int (Int32.ofInt r))], [], (zMi c0 c1 c2 c3 c4 c5 c6 c7 c8 c9 c10 c11 c12 c13 0 f9 f10 f11 f12 f13 f15 f16 f17 y20_5 y21_11 y22_6 y23_7 y26_12 f28 f31 f32 f33 f38 f41 f44 x14 g15 g16 g17 g18 g19 g20 g21 g22 g23 g24 k25_17 k26_18 k27_19 g28 g29 k30_14 g31 g32 g33 g34 q35_71 g36 g37 g38 g39 g40 g41 g42 g43 g44 t), 0, 0) := by
              intro N
              induction N with
              | zero => intros; omega
              | succ N ih85 =>
                intro su r hf0_85 hN85
                iterate 3 refine hR (?_ : R (_, _, _, _, _, _))
                refine hR (j_ge (by omega) (by omega) (fun hc32 => ?_) (fun hc32 => ?_))
                · skip
                  iterate 2 refine hR (?_ : R (_, _, _, _, _, _))
                  refine hR (t_c 5461 (by decide) ?_)
                  refine hR (?_ : R (_, _, _, _, _, _))
                  refine hR (t_mul ?_)
                  refine hR (?_ : R (_, _, _, _, _, _))
                  refine hR (t_add ?_)
                  refine hR (?_ : R (_, _, _, _, _, _))
                  refine hR (t_stx (by omega) (by omega) (Nat.le_of_ble_eq_true rfl) fun k35_33 => (?_ : R (_, _, _, (zMi c0 c1 c2 c3 c4 c5 c6 c7 c8 c9 c10 c11 c12 c13 0 f9 f10 f11 f12 f13 f15 f16 f17 y20_5 y21_11 y22_6 y23_7 y26_12 f28 f31 f32 f33 f38 f41 f44 x14 g15 g16 g17 g18 g19 g20 g21 g22 g23 g24 k25_17 k26_18 k27_19 g28 g29 k30_14 g31 g32 g33 g34 k35_33 g36 g37 g38 g39 g40 g41 g42 g43 g44 t), _, _)))
                  refine hR (t_inc ?_)
                  refine hR (?_ : R (_, _, _, _, _, _))
                  exact ih71 _ _ _ _ (by rfl) (by rfl) (by omega) (by omega)
                iterate 3 refine hR (?_ : R (_, _, _, _, _, _))
                refine hR (t_c 5461 (by decide) ?_)
                iterate 2 refine hR (?_ : R (_, _, _, _, _, _))
                refine hR (t_sub ?_)
                refine hR (t_mul ?_)
                iterate 2 refine hR (?_ : R (_, _, _, _, _, _))
                refine hR (t_c 5461 (by decide) ?_)
                refine hR (?_ : R (_, _, _, _, _, _))
                refine hR (t_mul ?_)
                refine hR (?_ : R (_, _, _, _, _, _))
                refine hR (t_add ?_)
                refine hR (t_ldB hp16 (by omega) (by omega) (Nat.le_of_ble_eq_true rfl) fun v34 ev34 lv34 uv34 => ?_)
                clear ev34
                refine hR (t_add ?_)
                refine hR (t_ldo (by omega) (by omega) (Nat.le_of_ble_eq_true rfl) fun v35 rv35 => ?_)
                refine hR (t_add ?_)
                refine hR (?_ : R (_, _, _, _, _, _))
                refine hR (t_inc ?_)
                refine hR (?_ : R (_, _, _, _, _, _))
                exact ih85 _ _ (by omega) (by omega)
            exact lp85 400000000 _ _ (by omega) (by omega)
        exact lp71 400000000 _ _ _ _ hzo8_52 hzo9_52 (by omega) (by omega)
    exact lp52 400000000 _ _ _ _ _ _ (by rfl) (by rfl) (by rfl) (by omega) (by decide) (by omega) (by omega)
  refine hR (?_ : R (_, _, _, _, _, _))
  refine hR (k_le (by omega) (fun hc36 => ?_) (fun hc36 => ?_))
  rotate_left
  · skip
    refine hR (?_ : R (_, _, _, _, _, _))
    exact hR (zret_i rfl (Nat.le_refl _) trivial (h _ _ _ _ _ _ _ _ _ _ _ _ hb25 hb26 hb30))
  refine hR (?_ : R (_, _, _, _, _, _))
  refine hR (zcall_i 0 0 (Nat.le_of_ble_eq_true rfl) (Nat.le_of_ble_eq_true rfl) (m_layMade _ hb25 hb30 hr4 (by omega) (by omega) _ fun y21_37 y26_38 k25_39 k30_40 hp41 hp42 => ?_))
  refine (?_ : R (_, _, [], (zMi c0 c1 c2 c3 c4 c5 c6 c7 c8 c9 c10 c11 c12 c13 0 f9 f10 f11 f12 f13 f15 f16 f17 y20_5 y21_37 y22_6 y23_7 y26_38 f28 f31 f32 f33 f38 f41 f44 x14 g15 g16 g17 g18 g19 g20 g21 g22 g23 g24 k25_39 g26 g27 g28 g29 k30_40 g31 g32 g33 g34 g35 g36 g37 g38 g39 g40 g41 g42 g43 g44 t), 0, 0))
  refine hR (?_ : R (_, _, _, _, _, _))
  refine hR (zcall_i 0 0 (Nat.le_of_ble_eq_true rfl) (Nat.le_of_ble_eq_true rfl) (m_layDrifts _ hp41 hb26 (by omega) _ fun k25_43 k26_44 k27_45 k35_46 hp47 hp48 => ?_))
  refine (?_ : R (_, _, [], (zMi c0 c1 c2 c3 c4 c5 c6 c7 c8 c9 c10 c11 c12 c13 0 f9 f10 f11 f12 f13 f15 f16 f17 y20_5 y21_37 y22_6 y23_7 y26_38 f28 f31 f32 f33 f38 f41 f44 x14 g15 g16 g17 g18 g19 g20 g21 g22 g23 g24 k25_43 k26_44 k27_45 g28 g29 k30_40 g31 g32 g33 g34 k35_46 g36 g37 g38 g39 g40 g41 g42 g43 g44 t), 0, 0))
  iterate 4 refine hR (?_ : R (_, _, _, _, _, _))
  have lp52 : ∀ (N : Nat) (dn : Int64) (k : Int) (o7_52 : Option Value) (o8_52 : Option Value) (o9_52 : Option Value) (q35_52 : Nat → Int32), (zc2 o7_52 = false) → (zc2 o8_52 = false) → (zc2 o9_52 = false) → (1 ≤ k ∧ k ≤ 10) → (1 ≤ dn.toInt ∧ dn.toInt ≤ 5 ^ (k - 1).toNat) → (k ≤ a2 + 1) → (10 - k < N) → R (52, [some (.ref 14), some (.int (Int32.ofInt a1)), some (.int (Int32.ofInt a2)), some (.int (Int32.ofInt a3)), some (.long dn), none, some (.int (Int32.ofInt k)), o7_52, o8_52, o9_52], [], (zMi c0 c1 c2 c3 c4 c5 c6 c7 c8 c9 c10 c11 c12 c13 0 f9 f10 f11 f12 f13 f15 f16 f17 y20_5 y21_37 y22_6 y23_7 y26_38 f28 f31 f32 f33 f38 f41 f44 x14 g15 g16 g17 g18 g19 g20 g21 g22 g23 g24 k25_43 k26_44 k27_45 g28 g29 k30_40 g31 g32 g33 g34 q35_52 g36 g37 g38 g39 g40 g41 g42 g43 g44 t), 0, 0) := by
    intro N
    induction N with
    | zero => intros; omega
    | succ N ih52 =>
      intro dn k o7_52 o8_52 o9_52 q35_52 hzo7_52 hzo8_52 hzo9_52 hf0_52 hp0_52 hp1_52 hN52
      iterate 2 refine hR (?_ : R (_, _, _, _, _, _))
      refine hR (j_gt (by omega) (by omega) (fun hc49 => ?_) (fun hc49 => ?_))
      · skip
        iterate 2 refine hR (?_ : R (_, _, _, _, _, _))
        refine hR (t_c 5461 (by decide) ?_)
        refine hR (?_ : R (_, _, _, _, _, _))
        refine hR (t_mul ?_)
        iterate 2 refine hR (?_ : R (_, _, _, _, _, _))
        refine hR (t_add ?_)
        refine hR (t_ldo (by omega) (by omega) (Nat.le_of_ble_eq_true rfl) fun v50 rv50 => ?_)
        refine hR (t_xl fun w51 => ?_)
        iterate 2 refine hR (?_ : R (_, _, _, _, _, _))
        refine hR (k_eq (by omega) (fun hc52 => ?_) (fun hc52 => ?_))
        · skip
          iterate 3 refine hR (?_ : R (_, _, _, _, _, _))
          refine hR (zcall_i 0 0 (Nat.le_of_ble_eq_true rfl) (Nat.le_of_ble_eq_true rfl) (m_common _ _ _ _ (ml_ne hp0_52) _ fun v53 hp54 => ?_))
          refine (?_ : R (_, _, (.long v53) :: (.long w51) :: [], (zMi c0 c1 c2 c3 c4 c5 c6 c7 c8 c9 c10 c11 c12 c13 0 f9 f10 f11 f12 f13 f15 f16 f17 y20_5 y21_37 y22_6 y23_7 y26_38 f28 f31 f32 f33 f38 f41 f44 x14 g15 g16 g17 g18 g19 g20 g21 g22 g23 g24 k25_43 k26_44 k27_45 g28 g29 k30_40 g31 g32 g33 g34 q35_52 g36 g37 g38 g39 g40 g41 g42 g43 g44 t), 0, 0))
          refine hR (And.intro hp54 (t_xl fun wq => ?_))
          exact hR (zret_i rfl (Nat.le_refl _) trivial (h _ _ _ _ _ _ _ _ _ _ _ _ hp47 hp48 hp42))
        iterate 4 refine hR (?_ : R (_, _, _, _, _, _))
        refine hR (zcall_i 0 0 (Nat.le_of_ble_eq_true rfl) (Nat.le_of_ble_eq_true rfl) (m_common _ _ _ _ (ml_ne hp0_52) _ fun v55 hp56 => ?_))
        refine (?_ : R (_, _, (.long v55) :: (.long dn) :: [], (zMi c0 c1 c2 c3 c4 c5 c6 c7 c8 c9 c10 c11 c12 c13 0 f9 f10 f11 f12 f13 f15 f16 f17 y20_5 y21_37 y22_6 y23_7 y26_38 f28 f31 f32 f33 f38 f41 f44 x14 g15 g16 g17 g18 g19 g20 g21 g22 g23 g24 k25_43 k26_44 k27_45 g28 g29 k30_40 g31 g32 g33 g34 q35_52 g36 g37 g38 g39 g40 g41 g42 g43 g44 t), 0, 0))
        refine hR (And.intro hp56 (t_xl fun wq => ?_))
        exact hR (zret_i rfl (Nat.le_refl _) trivial (h _ _ _ _ _ _ _ _ _ _ _ _ hp47 hp48 hp42))
      iterate 4 refine hR (?_ : R (_, _, _, _, _, _))
      have h5 := p5_b (i := k - 1) (by omega) (by omega)
      obtain ⟨wm, hw1, hw2, hw3⟩ := zl_mul (D := dn) (r := y23_7) (by omega) (by omega)
      refine hR (t_cl wm hw3 ?_)
      iterate 3 refine hR (?_ : R (_, _, _, _, _, _))
      have lp71 : ∀ (N : Nat) (i : Int) (o8_71 : Option Value) (o9_71 : Option Value) (q35_71 : Nat → Int32), (zc2 o8_71 = false) → (zc2 o9_71 = false) → (0 ≤ i ∧ i ≤ 5461) → (5461 - i < N) → R (71, [some (.ref 14), some (.int (Int32.ofInt a1)), some (.int (Int32.ofInt a2)), some (.int (Int32.ofInt a3)), some (.long wm), none, some (.int (Int32.ofInt k)), some (.int (Int32.ofInt i)), o8_71, o9_71], [], (zMi c0 c1 c2 c3 c4 c5 c6 c7 c8 c9 c10 c11 c12 c13 0 f9 f10 f11 f12 f13 f15 f16 f17 y20_5 y21_37 y22_6 y23_7 y26_38 f28 f31 f32 f33 f38 f41 f44 x14 g15 g16 g17 g18 g19 g20 g21 g22 g23 g24 k25_43 k26_44 k27_45 g28 g29 k30_40 g31 g32 g33 g34 q35_71 g36 g37 g38 g39 g40 g41 g42 g43 g44 t), 0, 0) := by
        intro N
        induction N with
        | zero => intros; omega
        | succ N ih71 =>
          intro i o8_71 o9_71 q35_71 hzo8_71 hzo9_71 hf0_71 hN71
          refine hR (?_ : R (_, _, _, _, _, _))
          refine hR (t_c 5461 (by decide) ?_)
          refine hR (j_ge (by omega) (by omega) (fun hc57 => ?_) (fun hc57 => ?_))
          · skip
            refine hR (t_inc ?_)
            refine hR (?_ : R (_, _, _, _, _, _))
            exact ih52 _ _ _ _ _ _ (by rfl) hzo8_71 hzo9_71 (by omega) (ml_p hp0_52 hw1 hw2 (by omega)) (by omega) (by omega)
          iterate 4 refine hR (?_ : R (_, _, _, _, _, _))
          have lp85 : ∀ (N : Nat) (su : Int) (r : Int), (0 ≤ r ∧ r ≤ y23_7) → (y23_7 - r < N) → R (85, [some (.ref 14), some (.int (Int32.ofInt a1)), some (.int (Int32.ofInt a2)), some (.int (Int32.ofInt a3)), some (.long wm), none, some (.int (Int32.ofInt k)), some (.int (Int32.ofInt i)), some (.int (Int32.ofInt su)), some (.int (Int32.ofInt r))], [], (zMi c0 c1 c2 c3 c4 c5 c6 c7 c8 c9 c10 c11 c12 c13 0 f9 f10 f11 f12 f13 f15 f16 f17 y20_5 y21_37 y22_6 y23_7 y26_38 f28 f31 f32 f33 f38 f41 f44 x14 g15 g16 g17 g18 g19 g20 g21 g22 g23 g24 k25_43 k26_44 k27_45 g28 g29 k30_40 g31 g32 g33 g34 q35_71 g36 g37 g38 g39 g40 g41 g42 g43 g44 t), 0, 0) := by
            intro N
            induction N with
            | zero => intros; omega
            | succ N ih85 =>
              intro su r hf0_85 hN85
              iterate 3 refine hR (?_ : R (_, _, _, _, _, _))
              refine hR (j_ge (by omega) (by omega) (fun hc58 => ?_) (fun hc58 => ?_))
              · skip
                iterate 2 refine hR (?_ : R (_, _, _, _, _, _))
                refine hR (t_c 5461 (by decide) ?_)
                refine hR (?_ : R (_, _, _, _, _, _))
                refine hR (t_mul ?_)
                refine hR (?_ : R (_, _, _, _, _, _))
                refine hR (t_add ?_)
                refine hR (?_ : R (_, _, _, _, _, _))
                refine hR (t_stx (by omega) (by omega) (Nat.le_of_ble_eq_true rfl) fun k35_59 => (?_ : R (_, _, _, (zMi c0 c1 c2 c3 c4 c5 c6 c7 c8 c9 c10 c11 c12 c13 0 f9 f10 f11 f12 f13 f15 f16 f17 y20_5 y21_37 y22_6 y23_7 y26_38 f28 f31 f32 f33 f38 f41 f44 x14 g15 g16 g17 g18 g19 g20 g21 g22 g23 g24 k25_43 k26_44 k27_45 g28 g29 k30_40 g31 g32 g33 g34 k35_59 g36 g37 g38 g39 g40 g41 g42 g43 g44 t), _, _)))
                refine hR (t_inc ?_)
                refine hR (?_ : R (_, _, _, _, _, _))
                exact ih71 _ _ _ _ (by rfl) (by rfl) (by omega) (by omega)
              iterate 3 refine hR (?_ : R (_, _, _, _, _, _))
              refine hR (t_c 5461 (by decide) ?_)
              iterate 2 refine hR (?_ : R (_, _, _, _, _, _))
              refine hR (t_sub ?_)
              refine hR (t_mul ?_)
              iterate 2 refine hR (?_ : R (_, _, _, _, _, _))
              refine hR (t_c 5461 (by decide) ?_)
              refine hR (?_ : R (_, _, _, _, _, _))
              refine hR (t_mul ?_)
              refine hR (?_ : R (_, _, _, _, _, _))
              refine hR (t_add ?_)
              refine hR (t_ldB hp42 (by omega) (by omega) (Nat.le_of_ble_eq_true rfl) fun v60 ev60 lv60 uv60 => ?_)
              clear ev60
              refine hR (t_add ?_)
              refine hR (t_ldo (by omega) (by omega) (Nat.le_of_ble_eq_true rfl) fun v61 rv61 => ?_)
              refine hR (t_add ?_)
              refine hR (?_ : R (_, _, _, _, _, _))
              refine hR (t_inc ?_)
              refine hR (?_ : R (_, _, _, _, _, _))
              exact ih85 _ _ (by omega) (by omega)
          exact lp85 400000000 _ _ (by omega) (by omega)
      exact lp71 400000000 _ _ _ _ hzo8_52 hzo9_52 (by omega) (by omega)
  exact lp52 400000000 _ _ _ _ _ _ (by rfl) (by rfl) (by rfl) (by omega) (by decide) (by omega) (by omega)
theorem m_kinRing (d : Nat) (a1 : Int) (hr0 : bkOK g20) (hr1 : 0 ≤ f20 ∧ f20 ≤ 1) (hr2 : 0 ≤ a1 ∧ a1 ≤ 3) (Q : zQ) (h : ∀ (v : Int), (v = (kr (kfun g20 f20.toNat) a1.toNat : Int)) → (0 ≤ v ∧ v ≤ 5) → Q (some (.int (Int32.ofInt v))) (zMi c0 c1 c2 c3 c4 c5 c6 c7 c8 c9 c10 c11 c12 c13 f0 f9 f10 f11 f12 f13 f15 f16 f17 f20 f21 f22 f23 f26 f28 f31 f32 f33 f38 f41 f44 x14 g15 g16 g17 g18 g19 g20 g21 g22 g23 g24 g25 g26 g27 g28 g29 g30 g31 g32 g33 g34 g35 g36 g37 g38 g39 g40 g41 g42 g43 g44 t)) : zCl zTab (d + 2) iX12_kinRing [.ref 14, .int (Int32.ofInt a1)] (zMi c0 c1 c2 c3 c4 c5 c6 c7 c8 c9 c10 c11 c12 c13 f0 f9 f10 f11 f12 f13 f15 f16 f17 f20 f21 f22 f23 f26 f28 f31 f32 f33 f38 f41 f44 x14 g15 g16 g17 g18 g19 g20 g21 g22 g23 g24 g25 g26 g27 g28 g29 g30 g31 g32 g33 g34 g35 g36 g37 g38 g39 g40 g41 g42 g43 g44 t) 0 0 Q := by
  refine zCl_i (M := kX12_kinRing) rfl (Nat.le_of_ble_eq_true rfl) fun R hR => ?_
  iterate 3 refine hR (?_ : R (_, _, _, _, _, _))
  refine hR (t_add ?_)
  refine hR (zcall_i 0 0 (Nat.le_of_ble_eq_true rfl) (Nat.le_of_ble_eq_true rfl) (m_ofK _ (2 + a1) hr0 (by omega) (by omega) _ fun v1 hp2 hp3 => ?_))
  refine (?_ : R (_, _, (.int (Int32.ofInt v1)) :: [], (zMi c0 c1 c2 c3 c4 c5 c6 c7 c8 c9 c10 c11 c12 c13 f0 f9 f10 f11 f12 f13 f15 f16 f17 f20 f21 f22 f23 f26 f28 f31 f32 f33 f38 f41 f44 x14 g15 g16 g17 g18 g19 g20 g21 g22 g23 g24 g25 g26 g27 g28 g29 g30 g31 g32 g33 g34 g35 g36 g37 g38 g39 g40 g41 g42 g43 g44 t), 0, 0))
  iterate 3 refine hR (?_ : R (_, _, _, _, _, _))
  have lp10 : ∀ (N : Nat) (at_ : Int) (n : Int), (0 ≤ at_ ∧ at_ ≤ 3) → (1 ≤ n ∧ n ≤ 5) → (krl (kfun g20 f20.toNat) a1.toNat (5 - n).toNat at_.toNat n.toNat = kr (kfun g20 f20.toNat) a1.toNat) → (5 - n < N) → R (10, [some (.ref 14), some (.int (Int32.ofInt a1)), some (.int (Int32.ofInt at_)), some (.int (Int32.ofInt n))], [], (zMi c0 c1 c2 c3 c4 c5 c6 c7 c8 c9 c10 c11 c12 c13 f0 f9 f10 f11 f12 f13 f15 f16 f17 f20 f21 f22 f23 f26 f28 f31 f32 f33 f38 f41 f44 x14 g15 g16 g17 g18 g19 g20 g21 g22 g23 g24 g25 g26 g27 g28 g29 g30 g31 g32 g33 g34 g35 g36 g37 g38 g39 g40 g41 g42 g43 g44 t), 0, 0) := by
    intro N
    induction N with
    | zero => intros; omega
    | succ N ih10 =>
      intro at_ n hf0_10 hf1_10 hp0_10 hN10
      iterate 2 refine hR (?_ : R (_, _, _, _, _, _))
      refine hR (j_eq (by omega) (by omega) (fun hc4 => ?_) (fun hc4 => ?_))
      · skip
        iterate 2 refine hR (?_ : R (_, _, _, _, _, _))
        refine hR (j_ne (by omega) (by omega) (fun hc5 => ?_) (fun hc5 => ?_))
        · skip
          refine hR (?_ : R (_, _, _, _, _, _))
          exact hR (zret_i rfl (Nat.le_refl _) trivial (h _ (kr_e0 hp0_10 (by omega) (by omega) (by omega)) (by omega)))
        iterate 2 refine hR (?_ : R (_, _, _, _, _, _))
        exact hR (zret_i rfl (Nat.le_refl _) trivial (h _ (kr_e1 hp0_10 (by omega) (by omega) (by omega)) (by omega)))
      iterate 2 refine hR (?_ : R (_, _, _, _, _, _))
      refine hR (j_gt (by omega) (by omega) (fun hc6 => ?_) (fun hc6 => ?_))
      · skip
        iterate 2 refine hR (?_ : R (_, _, _, _, _, _))
        refine hR (j_ne (by omega) (by omega) (fun hc7 => ?_) (fun hc7 => ?_))
        · skip
          refine hR (?_ : R (_, _, _, _, _, _))
          exact hR (zret_i rfl (Nat.le_refl _) trivial (h _ (kr_e0 hp0_10 (by omega) (by omega) (by omega)) (by omega)))
        iterate 2 refine hR (?_ : R (_, _, _, _, _, _))
        exact hR (zret_i rfl (Nat.le_refl _) trivial (h _ (kr_e1 hp0_10 (by omega) (by omega) (by omega)) (by omega)))
      iterate 3 refine hR (?_ : R (_, _, _, _, _, _))
      refine hR (t_add ?_)
      refine hR (zcall_i 0 0 (Nat.le_of_ble_eq_true rfl) (Nat.le_of_ble_eq_true rfl) (m_ofK _ (2 + at_) hr0 (by omega) (by omega) _ fun v8 hp9 hp10 => ?_))
      refine (?_ : R (_, _, (.int (Int32.ofInt v8)) :: [], (zMi c0 c1 c2 c3 c4 c5 c6 c7 c8 c9 c10 c11 c12 c13 f0 f9 f10 f11 f12 f13 f15 f16 f17 f20 f21 f22 f23 f26 f28 f31 f32 f33 f38 f41 f44 x14 g15 g16 g17 g18 g19 g20 g21 g22 g23 g24 g25 g26 g27 g28 g29 g30 g31 g32 g33 g34 g35 g36 g37 g38 g39 g40 g41 g42 g43 g44 t), 0, 0))
      refine hR (?_ : R (_, _, _, _, _, _))
      refine hR (t_inc ?_)
      refine hR (?_ : R (_, _, _, _, _, _))
      exact ih10 _ _ (by omega) (by omega) (kr_s hp0_10 (by omega) (by omega) (by omega) (by omega) hp9) (by omega)
  exact lp10 400000000 _ _ (by omega) (by omega) (kr_0 (by omega) (by omega) hp2) (by omega)
theorem m_kinship (d : Nat) (a1 a2 a3 : Int) (hb19 : zB 0 2 g19) (hr1 : bkOK g20) (hr2 : -2147483648 ≤ a1 ∧ a1 ≤ 2147483647) (hr3 : -2147483648 ≤ a2 ∧ a2 ≤ 2147483647) (hr4 : -2147483648 ≤ a3 ∧ a3 ≤ 2147483647) (Q : zQ) (h : ∀ (v : Int) (y0 : Int) (y20 : Int) (y22 : Int) (y23 : Int), Q (some (.int (Int32.ofInt v))) (zMi c0 c1 c2 c3 c4 c5 c6 c7 c8 c9 c10 c11 c12 c13 y0 f9 f10 f11 f12 f13 f15 f16 f17 y20 f21 y22 y23 f26 f28 f31 f32 f33 f38 f41 f44 x14 g15 g16 g17 g18 g19 g20 g21 g22 g23 g24 g25 g26 g27 g28 g29 g30 g31 g32 g33 g34 g35 g36 g37 g38 g39 g40 g41 g42 g43 g44 t)) : zCl zTab (d + 4) iX12_kinship [.ref 14, .int (Int32.ofInt a1), .int (Int32.ofInt a2), .int (Int32.ofInt a3)] (zMi c0 c1 c2 c3 c4 c5 c6 c7 c8 c9 c10 c11 c12 c13 f0 f9 f10 f11 f12 f13 f15 f16 f17 f20 f21 f22 f23 f26 f28 f31 f32 f33 f38 f41 f44 x14 g15 g16 g17 g18 g19 g20 g21 g22 g23 g24 g25 g26 g27 g28 g29 g30 g31 g32 g33 g34 g35 g36 g37 g38 g39 g40 g41 g42 g43 g44 t) 0 0 Q := by
  refine zCl_i (M := kX12_kinship) rfl (Nat.le_of_ble_eq_true rfl) fun R hR => ?_
  iterate 2 refine hR (?_ : R (_, _, _, _, _, _))
  refine hR (?_ : R (_, _, _, (zMi c0 c1 c2 c3 c4 c5 c6 c7 c8 c9 c10 c11 c12 c13 0 f9 f10 f11 f12 f13 f15 f16 f17 f20 f21 f22 f23 f26 f28 f31 f32 f33 f38 f41 f44 x14 g15 g16 g17 g18 g19 g20 g21 g22 g23 g24 g25 g26 g27 g28 g29 g30 g31 g32 g33 g34 g35 g36 g37 g38 g39 g40 g41 g42 g43 g44 t), _, _))
  iterate 2 refine hR (?_ : R (_, _, _, _, _, _))
  refine hR (zcall_i 0 0 (Nat.le_of_ble_eq_true rfl) (Nat.le_of_ble_eq_true rfl) (m_hand _ a1 hb19 hr1 (by omega) _ fun v1 y20_2 y22_3 y23_4 hp5 => ?_))
  refine (?_ : R (_, _, (.int (Int32.ofInt v1)) :: [], (zMi c0 c1 c2 c3 c4 c5 c6 c7 c8 c9 c10 c11 c12 c13 0 f9 f10 f11 f12 f13 f15 f16 f17 y20_2 f21 y22_3 y23_4 f26 f28 f31 f32 f33 f38 f41 f44 x14 g15 g16 g17 g18 g19 g20 g21 g22 g23 g24 g25 g26 g27 g28 g29 g30 g31 g32 g33 g34 g35 g36 g37 g38 g39 g40 g41 g42 g43 g44 t), 0, 0))
  refine hR (k_eq (by omega) (fun hc6 => ?_) (fun hc6 => ?_))
  · skip
    refine hR (?_ : R (_, _, _, _, _, _))
    exact hR (zret_i rfl (Nat.le_refl _) trivial (h _ _ _ _ _))
  iterate 3 refine hR (?_ : R (_, _, _, _, _, _))
  refine hR (zcall_i 0 0 (Nat.le_of_ble_eq_true rfl) (Nat.le_of_ble_eq_true rfl) (m_in _ a2 0 3 _ (by omega) (by omega) (by omega) _ fun v7 hp8 => ?_))
  refine (?_ : R (_, _, (.int (Int32.ofInt v7)) :: [], (zMi c0 c1 c2 c3 c4 c5 c6 c7 c8 c9 c10 c11 c12 c13 0 f9 f10 f11 f12 f13 f15 f16 f17 y20_2 f21 y22_3 y23_4 f26 f28 f31 f32 f33 f38 f41 f44 x14 g15 g16 g17 g18 g19 g20 g21 g22 g23 g24 g25 g26 g27 g28 g29 g30 g31 g32 g33 g34 g35 g36 g37 g38 g39 g40 g41 g42 g43 g44 t), 0, 0))
  refine hR (k_ne (by omega) (fun hc9 => ?_) (fun hc9 => ?_))
  rotate_left
  · skip
    refine hR (?_ : R (_, _, _, _, _, _))
    exact hR (zret_i rfl (Nat.le_refl _) trivial (h _ _ _ _ _))
  iterate 4 refine hR (?_ : R (_, _, _, _, _, _))
  have lp30 : ∀ (N : Nat) (u : Int) (w_ : Int), (0 ≤ w_ ∧ w_ ≤ 3) → ((kdl (kfun g20 y20_2.toNat) 4 w_.toNat : Int) < N) → R (30, [some (.ref 14), some (.int (Int32.ofInt a1)), some (.int (Int32.ofInt a2)), some (.int (Int32.ofInt a3)), some (.int (Int32.ofInt u)), some (.int (Int32.ofInt w_))], [], (zMi c0 c1 c2 c3 c4 c5 c6 c7 c8 c9 c10 c11 c12 c13 0 f9 f10 f11 f12 f13 f15 f16 f17 y20_2 f21 y22_3 y23_4 f26 f28 f31 f32 f33 f38 f41 f44 x14 g15 g16 g17 g18 g19 g20 g21 g22 g23 g24 g25 g26 g27 g28 g29 g30 g31 g32 g33 g34 g35 g36 g37 g38 g39 g40 g41 g42 g43 g44 t), 0, 0) := by
    intro N
    induction N with
    | zero => intros; omega
    | succ N ih30 =>
      intro u w_ hf0_30 hN30
      iterate 2 refine hR (?_ : R (_, _, _, _, _, _))
      refine hR (zcall_i 0 0 (Nat.le_of_ble_eq_true rfl) (Nat.le_of_ble_eq_true rfl) (m_kinRing _ w_ hr1 (by omega) (by omega) _ fun v10 hp11 hp12 => ?_))
      refine (?_ : R (_, _, (.int (Int32.ofInt v10)) :: [], (zMi c0 c1 c2 c3 c4 c5 c6 c7 c8 c9 c10 c11 c12 c13 0 f9 f10 f11 f12 f13 f15 f16 f17 y20_2 f21 y22_3 y23_4 f26 f28 f31 f32 f33 f38 f41 f44 x14 g15 g16 g17 g18 g19 g20 g21 g22 g23 g24 g25 g26 g27 g28 g29 g30 g31 g32 g33 g34 g35 g36 g37 g38 g39 g40 g41 g42 g43 g44 t), 0, 0))
      refine hR (k_ne (by omega) (fun hc13 => ?_) (fun hc13 => ?_))
      rotate_left
      · skip
        iterate 3 refine hR (?_ : R (_, _, _, _, _, _))
        refine hR (t_add ?_)
        refine hR (zcall_i 0 0 (Nat.le_of_ble_eq_true rfl) (Nat.le_of_ble_eq_true rfl) (m_ofK _ (2 + w_) hr1 (by omega) (by omega) _ fun v18 hp19 hp20 => ?_))
        refine (?_ : R (_, _, (.int (Int32.ofInt v18)) :: [], (zMi c0 c1 c2 c3 c4 c5 c6 c7 c8 c9 c10 c11 c12 c13 0 f9 f10 f11 f12 f13 f15 f16 f17 y20_2 f21 y22_3 y23_4 f26 f28 f31 f32 f33 f38 f41 f44 x14 g15 g16 g17 g18 g19 g20 g21 g22 g23 g24 g25 g26 g27 g28 g29 g30 g31 g32 g33 g34 g35 g36 g37 g38 g39 g40 g41 g42 g43 g44 t), 0, 0))
        have hkd := kd_s hr1 (f := y20_2) (w := w_) (v := v18) (u := v10) (by omega) (by omega) (by omega) (by omega) (by omega) hp19
        refine hR (?_ : R (_, _, _, _, _, _))
        refine hR (t_inc ?_)
        refine hR (?_ : R (_, _, _, _, _, _))
        exact ih30 _ _ (by omega) (by omega)
      refine hR (?_ : R (_, _, _, _, _, _))
      refine hR (k_eq (by omega) (fun hc14 => ?_) (fun hc14 => ?_))
      · skip
        refine hR (?_ : R (_, _, _, _, _, _))
        exact hR (zret_i rfl (Nat.le_refl _) trivial (h _ _ _ _ _))
      iterate 2 refine hR (?_ : R (_, _, _, _, _, _))
      refine hR (zcall_i 0 0 (Nat.le_of_ble_eq_true rfl) (Nat.le_of_ble_eq_true rfl) (m_kinRing _ w_ hr1 (by omega) (by omega) _ fun v15 hp16 hp17 => ?_))
      refine (?_ : R (_, _, (.int (Int32.ofInt v15)) :: [], (zMi c0 c1 c2 c3 c4 c5 c6 c7 c8 c9 c10 c11 c12 c13 0 f9 f10 f11 f12 f13 f15 f16 f17 y20_2 f21 y22_3 y23_4 f26 f28 f31 f32 f33 f38 f41 f44 x14 g15 g16 g17 g18 g19 g20 g21 g22 g23 g24 g25 g26 g27 g28 g29 g30 g31 g32 g33 g34 g35 g36 g37 g38 g39 g40 g41 g42 g43 g44 t), 0, 0))
      refine hR (?_ : R (_, _, _, _, _, _))
      exact hR (zret_i rfl (Nat.le_refl _) trivial (h _ _ _ _ _))
  have hent := kd_b (kfun g20 y20_2.toNat) 4 a2.toNat
  exact lp30 400000000 _ _ (by omega) (by omega)
theorem m_someOf (d : Nat) (a1 a2 : Int) (hb25 : zB 0 3 g25) (hr1 : 0 ≤ a1 ∧ a1 ≤ 5460) (Q : zQ) (h : ∀ (v : Int) (k25 : Nat → Int32), zB 0 3 k25 → (0 ≤ v ∧ v ≤ 5460) → Q (some (.int (Int32.ofInt v))) (zMi c0 c1 c2 c3 c4 c5 c6 c7 c8 c9 c10 c11 c12 c13 f0 f9 f10 f11 f12 f13 f15 f16 f17 f20 f21 f22 f23 f26 f28 f31 f32 f33 f38 f41 f44 x14 g15 g16 g17 g18 g19 g20 g21 g22 g23 g24 k25 g26 g27 g28 g29 g30 g31 g32 g33 g34 g35 g36 g37 g38 g39 g40 g41 g42 g43 g44 t)) : zCl zTab (d + 4) iX12_someOf [.ref 14, .int (Int32.ofInt a1), .int (Int32.ofInt a2)] (zMi c0 c1 c2 c3 c4 c5 c6 c7 c8 c9 c10 c11 c12 c13 f0 f9 f10 f11 f12 f13 f15 f16 f17 f20 f21 f22 f23 f26 f28 f31 f32 f33 f38 f41 f44 x14 g15 g16 g17 g18 g19 g20 g21 g22 g23 g24 g25 g26 g27 g28 g29 g30 g31 g32 g33 g34 g35 g36 g37 g38 g39 g40 g41 g42 g43 g44 t) 0 0 Q := by
  refine zCl_i (M := kX12_someOf) rfl (Nat.le_of_ble_eq_true rfl) fun R hR => ?_
  iterate 3 refine hR (?_ : R (_, _, _, _, _, _))
  refine hR (zcall_i 0 0 (Nat.le_of_ble_eq_true rfl) (Nat.le_of_ble_eq_true rfl) (m_spell25 _ a1 hb25 (by omega) _ fun k25_1 hp2 => ?_))
  refine (?_ : R (_, _, [], (zMi c0 c1 c2 c3 c4 c5 c6 c7 c8 c9 c10 c11 c12 c13 f0 f9 f10 f11 f12 f13 f15 f16 f17 f20 f21 f22 f23 f26 f28 f31 f32 f33 f38 f41 f44 x14 g15 g16 g17 g18 g19 g20 g21 g22 g23 g24 k25_1 g26 g27 g28 g29 g30 g31 g32 g33 g34 g35 g36 g37 g38 g39 g40 g41 g42 g43 g44 t), 0, 0))
  iterate 4 refine hR (?_ : R (_, _, _, _, _, _))
  have lp13 : ∀ (N : Nat) (n : Int) (k : Int) (q25_13 : Nat → Int32), (0 ≤ n ∧ n ≤ k) → (0 ≤ k ∧ k ≤ 6) → (zB 0 3 q25_13) → (6 - k < N) → R (13, [some (.ref 14), some (.int (Int32.ofInt a1)), some (.int (Int32.ofInt a2)), some (.int (Int32.ofInt n)), some (.int (Int32.ofInt k))], [], (zMi c0 c1 c2 c3 c4 c5 c6 c7 c8 c9 c10 c11 c12 c13 f0 f9 f10 f11 f12 f13 f15 f16 f17 f20 f21 f22 f23 f26 f28 f31 f32 f33 f38 f41 f44 x14 g15 g16 g17 g18 g19 g20 g21 g22 g23 g24 q25_13 g26 g27 g28 g29 g30 g31 g32 g33 g34 g35 g36 g37 g38 g39 g40 g41 g42 g43 g44 t), 0, 0) := by
    intro N
    induction N with
    | zero => intros; omega
    | succ N ih13 =>
      intro n k q25_13 hf0_13 hf1_13 hq25_13 hN13
      iterate 2 refine hR (?_ : R (_, _, _, _, _, _))
      refine hR (zcall_i 0 0 (Nat.le_of_ble_eq_true rfl) (Nat.le_of_ble_eq_true rfl) (m_sizeOf _ a1 _ (by omega) _ fun v3 hp4 hp5 => ?_))
      refine (?_ : R (_, _, (.int (Int32.ofInt v3)) :: (.int (Int32.ofInt k)) :: [], (zMi c0 c1 c2 c3 c4 c5 c6 c7 c8 c9 c10 c11 c12 c13 f0 f9 f10 f11 f12 f13 f15 f16 f17 f20 f21 f22 f23 f26 f28 f31 f32 f33 f38 f41 f44 x14 g15 g16 g17 g18 g19 g20 g21 g22 g23 g24 q25_13 g26 g27 g28 g29 g30 g31 g32 g33 g34 g35 g36 g37 g38 g39 g40 g41 g42 g43 g44 t), 0, 0))
      refine hR (j_ge (by omega) (by omega) (fun hc6 => ?_) (fun hc6 => ?_))
      · skip
        iterate 2 refine hR (?_ : R (_, _, _, _, _, _))
        refine hR (zcall_i 0 0 (Nat.le_of_ble_eq_true rfl) (Nat.le_of_ble_eq_true rfl) (m_numberOf _ n hq25_13 (by omega) _ fun v7 hp8 => ?_))
        refine (?_ : R (_, _, (.int (Int32.ofInt v7)) :: [], (zMi c0 c1 c2 c3 c4 c5 c6 c7 c8 c9 c10 c11 c12 c13 f0 f9 f10 f11 f12 f13 f15 f16 f17 f20 f21 f22 f23 f26 f28 f31 f32 f33 f38 f41 f44 x14 g15 g16 g17 g18 g19 g20 g21 g22 g23 g24 q25_13 g26 g27 g28 g29 g30 g31 g32 g33 g34 g35 g36 g37 g38 g39 g40 g41 g42 g43 g44 t), 0, 0))
        exact hR (zret_i rfl (Nat.le_refl _) trivial (h _ _ hq25_13 (by omega)))
      iterate 2 refine hR (?_ : R (_, _, _, _, _, _))
      refine hR (zcall_i 0 0 (Nat.le_of_ble_eq_true rfl) (Nat.le_of_ble_eq_true rfl) (m_has _ a2 k _ _ fun v9 hp10 => ?_))
      refine (?_ : R (_, _, (.int (Int32.ofInt v9)) :: [], (zMi c0 c1 c2 c3 c4 c5 c6 c7 c8 c9 c10 c11 c12 c13 f0 f9 f10 f11 f12 f13 f15 f16 f17 f20 f21 f22 f23 f26 f28 f31 f32 f33 f38 f41 f44 x14 g15 g16 g17 g18 g19 g20 g21 g22 g23 g24 q25_13 g26 g27 g28 g29 g30 g31 g32 g33 g34 g35 g36 g37 g38 g39 g40 g41 g42 g43 g44 t), 0, 0))
      refine hR (k_eq (by omega) (fun hc11 => ?_) (fun hc11 => ?_))
      · skip
        refine hR (t_inc ?_)
        refine hR (?_ : R (_, _, _, _, _, _))
        exact ih13 _ _ _ (by omega) (by omega) hq25_13 (by omega)
      iterate 6 refine hR (?_ : R (_, _, _, _, _, _))
      refine hR (t_ldB hq25_13 (by omega) (by omega) (Nat.le_of_ble_eq_true rfl) fun v12 ev12 lv12 uv12 => ?_)
      clear ev12
      refine hR (t_stB hq25_13 (by omega) (by omega) (by omega) (by omega) (by omega) (by omega) (Nat.le_of_ble_eq_true rfl) fun k25_13 hk25_13 => (?_ : R (_, _, _, (zMi c0 c1 c2 c3 c4 c5 c6 c7 c8 c9 c10 c11 c12 c13 f0 f9 f10 f11 f12 f13 f15 f16 f17 f20 f21 f22 f23 f26 f28 f31 f32 f33 f38 f41 f44 x14 g15 g16 g17 g18 g19 g20 g21 g22 g23 g24 k25_13 g26 g27 g28 g29 g30 g31 g32 g33 g34 g35 g36 g37 g38 g39 g40 g41 g42 g43 g44 t), _, _)))
      refine hR (t_inc ?_)
      refine hR (t_inc ?_)
      refine hR (?_ : R (_, _, _, _, _, _))
      exact ih13 _ _ _ (by omega) (by omega) hk25_13 (by omega)
  exact lp13 400000000 _ _ _ (by omega) (by omega) hp2 (by omega)
theorem m_isLeft (d : Nat) (a1 a2 : Int) (hb25 : zB 0 3 g25) (hr1 : 0 ≤ a1 ∧ a1 ≤ 5460) (hr2 : 0 ≤ a2 ∧ a2 ≤ 5460) (Q : zQ) (h : ∀ (v : Int) (k25 : Nat → Int32), zB 0 3 k25 → (v = 0 ∨ v = 1) → Q (some (.int (Int32.ofInt v))) (zMi c0 c1 c2 c3 c4 c5 c6 c7 c8 c9 c10 c11 c12 c13 f0 f9 f10 f11 f12 f13 f15 f16 f17 f20 f21 f22 f23 f26 f28 f31 f32 f33 f38 f41 f44 x14 g15 g16 g17 g18 g19 g20 g21 g22 g23 g24 k25 g26 g27 g28 g29 g30 g31 g32 g33 g34 g35 g36 g37 g38 g39 g40 g41 g42 g43 g44 t)) : zCl zTab (d + 5) iX12_isLeft [.ref 14, .int (Int32.ofInt a1), .int (Int32.ofInt a2)] (zMi c0 c1 c2 c3 c4 c5 c6 c7 c8 c9 c10 c11 c12 c13 f0 f9 f10 f11 f12 f13 f15 f16 f17 f20 f21 f22 f23 f26 f28 f31 f32 f33 f38 f41 f44 x14 g15 g16 g17 g18 g19 g20 g21 g22 g23 g24 g25 g26 g27 g28 g29 g30 g31 g32 g33 g34 g35 g36 g37 g38 g39 g40 g41 g42 g43 g44 t) 0 0 Q := by
  refine zCl_i (M := kX12_isLeft) rfl (Nat.le_of_ble_eq_true rfl) fun R hR => ?_
  iterate 2 refine hR (?_ : R (_, _, _, _, _, _))
  have lp2 : ∀ (N : Nat) (se : Int) (q25_2 : Nat → Int32), (0 ≤ se ∧ se ≤ 64) → (zB 0 3 q25_2) → (64 - se < N) → R (2, [some (.ref 14), some (.int (Int32.ofInt a1)), some (.int (Int32.ofInt a2)), some (.int (Int32.ofInt se))], [], (zMi c0 c1 c2 c3 c4 c5 c6 c7 c8 c9 c10 c11 c12 c13 f0 f9 f10 f11 f12 f13 f15 f16 f17 f20 f21 f22 f23 f26 f28 f31 f32 f33 f38 f41 f44 x14 g15 g16 g17 g18 g19 g20 g21 g22 g23 g24 q25_2 g26 g27 g28 g29 g30 g31 g32 g33 g34 g35 g36 g37 g38 g39 g40 g41 g42 g43 g44 t), 0, 0) := by
    intro N
    induction N with
    | zero => intros; omega
    | succ N ih2 =>
      intro se q25_2 hf0_2 hq25_2 hN2
      iterate 3 refine hR (?_ : R (_, _, _, _, _, _))
      refine hR (zcall_i 0 0 (Nat.le_of_ble_eq_true rfl) (Nat.le_of_ble_eq_true rfl) (m_sizeOf _ a1 _ (by omega) _ fun v1 hp2 hp3 => ?_))
      refine (?_ : R (_, _, (.int (Int32.ofInt v1)) :: (.int (Int32.ofInt 1)) :: (.int (Int32.ofInt se)) :: [], (zMi c0 c1 c2 c3 c4 c5 c6 c7 c8 c9 c10 c11 c12 c13 f0 f9 f10 f11 f12 f13 f15 f16 f17 f20 f21 f22 f23 f26 f28 f31 f32 f33 f38 f41 f44 x14 g15 g16 g17 g18 g19 g20 g21 g22 g23 g24 q25_2 g26 g27 g28 g29 g30 g31 g32 g33 g34 g35 g36 g37 g38 g39 g40 g41 g42 g43 g44 t), 0, 0))
      obtain ⟨v4, lv4, uv4, qv4⟩ := zshl_r6 (e := v1) (by omega) (by omega)
      refine hR (t_c v4 qv4 ?_)
      refine hR (j_ge (by omega) (by omega) (fun hc5 => ?_) (fun hc5 => ?_))
      · skip
        refine hR (?_ : R (_, _, _, _, _, _))
        exact hR (zret_i rfl (Nat.le_refl _) (zbo (by omega)) (h _ _ hq25_2 (by omega)))
      iterate 3 refine hR (?_ : R (_, _, _, _, _, _))
      refine hR (zcall_i 0 0 (Nat.le_of_ble_eq_true rfl) (Nat.le_of_ble_eq_true rfl) (m_someOf _ a1 se hq25_2 (by omega) _ fun v6 k25_7 hp8 hp9 => ?_))
      refine (?_ : R (_, _, (.int (Int32.ofInt v6)) :: [], (zMi c0 c1 c2 c3 c4 c5 c6 c7 c8 c9 c10 c11 c12 c13 f0 f9 f10 f11 f12 f13 f15 f16 f17 f20 f21 f22 f23 f26 f28 f31 f32 f33 f38 f41 f44 x14 g15 g16 g17 g18 g19 g20 g21 g22 g23 g24 k25_7 g26 g27 g28 g29 g30 g31 g32 g33 g34 g35 g36 g37 g38 g39 g40 g41 g42 g43 g44 t), 0, 0))
      refine hR (?_ : R (_, _, _, _, _, _))
      refine hR (j_ne (by omega) (by omega) (fun hc10 => ?_) (fun hc10 => ?_))
      rotate_left
      · skip
        refine hR (?_ : R (_, _, _, _, _, _))
        exact hR (zret_i rfl (Nat.le_refl _) (zbo (by omega)) (h _ _ hp8 (by omega)))
      refine hR (t_inc ?_)
      refine hR (?_ : R (_, _, _, _, _, _))
      exact ih2 _ _ (by omega) hp8 (by omega)
  exact lp2 400000000 _ _ (by omega) hb25 (by omega)
theorem m_shared (d : Nat) (a1 a2 a3 : Int) (hb25 : zB 0 3 g25) (hr1 : -2147483648 ≤ a1 ∧ a1 ≤ 2147483647) (hr2 : -2147483648 ≤ a2 ∧ a2 ≤ 2147483647) (hr3 : -2147483648 ≤ a3 ∧ a3 ≤ 2147483647) (Q : zQ) (h : ∀ (v : Int) (y0 : Int) (k25 : Nat → Int32), zB 0 3 k25 → Q (some (.int (Int32.ofInt v))) (zMi c0 c1 c2 c3 c4 c5 c6 c7 c8 c9 c10 c11 c12 c13 y0 f9 f10 f11 f12 f13 f15 f16 f17 f20 f21 f22 f23 f26 f28 f31 f32 f33 f38 f41 f44 x14 g15 g16 g17 g18 g19 g20 g21 g22 g23 g24 k25 g26 g27 g28 g29 g30 g31 g32 g33 g34 g35 g36 g37 g38 g39 g40 g41 g42 g43 g44 t)) : zCl zTab (d + 6) iX12_shared [.ref 14, .int (Int32.ofInt a1), .int (Int32.ofInt a2), .int (Int32.ofInt a3)] (zMi c0 c1 c2 c3 c4 c5 c6 c7 c8 c9 c10 c11 c12 c13 f0 f9 f10 f11 f12 f13 f15 f16 f17 f20 f21 f22 f23 f26 f28 f31 f32 f33 f38 f41 f44 x14 g15 g16 g17 g18 g19 g20 g21 g22 g23 g24 g25 g26 g27 g28 g29 g30 g31 g32 g33 g34 g35 g36 g37 g38 g39 g40 g41 g42 g43 g44 t) 0 0 Q := by
  refine zCl_i (M := kX12_shared) rfl (Nat.le_of_ble_eq_true rfl) fun R hR => ?_
  iterate 2 refine hR (?_ : R (_, _, _, _, _, _))
  refine hR (?_ : R (_, _, _, (zMi c0 c1 c2 c3 c4 c5 c6 c7 c8 c9 c10 c11 c12 c13 0 f9 f10 f11 f12 f13 f15 f16 f17 f20 f21 f22 f23 f26 f28 f31 f32 f33 f38 f41 f44 x14 g15 g16 g17 g18 g19 g20 g21 g22 g23 g24 g25 g26 g27 g28 g29 g30 g31 g32 g33 g34 g35 g36 g37 g38 g39 g40 g41 g42 g43 g44 t), _, _))
  refine hR (?_ : R (_, _, _, _, _, _))
  refine hR (zcall_i 0 0 (Nat.le_of_ble_eq_true rfl) (Nat.le_of_ble_eq_true rfl) (m_isText _ a1 _ (by omega) _ fun v1 hp2 => ?_))
  refine (?_ : R (_, _, (.int (Int32.ofInt v1)) :: [], (zMi c0 c1 c2 c3 c4 c5 c6 c7 c8 c9 c10 c11 c12 c13 0 f9 f10 f11 f12 f13 f15 f16 f17 f20 f21 f22 f23 f26 f28 f31 f32 f33 f38 f41 f44 x14 g15 g16 g17 g18 g19 g20 g21 g22 g23 g24 g25 g26 g27 g28 g29 g30 g31 g32 g33 g34 g35 g36 g37 g38 g39 g40 g41 g42 g43 g44 t), 0, 0))
  refine hR (k_eq (by omega) (fun hc3 => ?_) (fun hc3 => ?_))
  · skip
    refine hR (?_ : R (_, _, _, _, _, _))
    exact hR (zret_i rfl (Nat.le_refl _) trivial (h _ _ _ hb25))
  refine hR (?_ : R (_, _, _, _, _, _))
  refine hR (zcall_i 0 0 (Nat.le_of_ble_eq_true rfl) (Nat.le_of_ble_eq_true rfl) (m_isText _ a2 _ (by omega) _ fun v4 hp5 => ?_))
  refine (?_ : R (_, _, (.int (Int32.ofInt v4)) :: [], (zMi c0 c1 c2 c3 c4 c5 c6 c7 c8 c9 c10 c11 c12 c13 0 f9 f10 f11 f12 f13 f15 f16 f17 f20 f21 f22 f23 f26 f28 f31 f32 f33 f38 f41 f44 x14 g15 g16 g17 g18 g19 g20 g21 g22 g23 g24 g25 g26 g27 g28 g29 g30 g31 g32 g33 g34 g35 g36 g37 g38 g39 g40 g41 g42 g43 g44 t), 0, 0))
  refine hR (k_ne (by omega) (fun hc6 => ?_) (fun hc6 => ?_))
  rotate_left
  · skip
    refine hR (?_ : R (_, _, _, _, _, _))
    exact hR (zret_i rfl (Nat.le_refl _) trivial (h _ _ _ hb25))
  iterate 4 refine hR (?_ : R (_, _, _, _, _, _))
  have lp27 : ∀ (N : Nat) (be : Int) (se : Int) (o6_27 : Option Value) (o7_27 : Option Value) (q25_27 : Nat → Int32), (zc2 o6_27 = false) → (zc2 o7_27 = false) → (0 ≤ be ∧ be ≤ 5460) → (0 ≤ se ∧ se ≤ 64) → (zB 0 3 q25_27) → (64 - se < N) → R (27, [some (.ref 14), some (.int (Int32.ofInt a1)), some (.int (Int32.ofInt a2)), some (.int (Int32.ofInt a3)), some (.int (Int32.ofInt be)), some (.int (Int32.ofInt se)), o6_27, o7_27], [], (zMi c0 c1 c2 c3 c4 c5 c6 c7 c8 c9 c10 c11 c12 c13 0 f9 f10 f11 f12 f13 f15 f16 f17 f20 f21 f22 f23 f26 f28 f31 f32 f33 f38 f41 f44 x14 g15 g16 g17 g18 g19 g20 g21 g22 g23 g24 q25_27 g26 g27 g28 g29 g30 g31 g32 g33 g34 g35 g36 g37 g38 g39 g40 g41 g42 g43 g44 t), 0, 0) := by
    intro N
    induction N with
    | zero => intros; omega
    | succ N ih27 =>
      intro be se o6_27 o7_27 q25_27 hzo6_27 hzo7_27 hf0_27 hf1_27 hq25_27 hN27
      iterate 3 refine hR (?_ : R (_, _, _, _, _, _))
      refine hR (zcall_i 0 0 (Nat.le_of_ble_eq_true rfl) (Nat.le_of_ble_eq_true rfl) (m_sizeOf _ a1 _ (by omega) _ fun v7 hp8 hp9 => ?_))
      refine (?_ : R (_, _, (.int (Int32.ofInt v7)) :: (.int (Int32.ofInt 1)) :: (.int (Int32.ofInt se)) :: [], (zMi c0 c1 c2 c3 c4 c5 c6 c7 c8 c9 c10 c11 c12 c13 0 f9 f10 f11 f12 f13 f15 f16 f17 f20 f21 f22 f23 f26 f28 f31 f32 f33 f38 f41 f44 x14 g15 g16 g17 g18 g19 g20 g21 g22 g23 g24 q25_27 g26 g27 g28 g29 g30 g31 g32 g33 g34 g35 g36 g37 g38 g39 g40 g41 g42 g43 g44 t), 0, 0))
      obtain ⟨v10, lv10, uv10, qv10⟩ := zshl_r6 (e := v7) (by omega) (by omega)
      refine hR (t_c v10 qv10 ?_)
      refine hR (j_ge (by omega) (by omega) (fun hc11 => ?_) (fun hc11 => ?_))
      · skip
        refine hR (?_ : R (_, _, _, _, _, _))
        refine hR (k_eq (by omega) (fun hc12 => ?_) (fun hc12 => ?_))
        rotate_left
        · skip
          iterate 2 refine hR (?_ : R (_, _, _, _, _, _))
          exact hR (zret_i rfl (Nat.le_refl _) trivial (h _ _ _ hq25_27))
        refine hR (?_ : R (_, _, _, _, _, _))
        refine hR (zcall_i 0 0 (Nat.le_of_ble_eq_true rfl) (Nat.le_of_ble_eq_true rfl) (m_sizeOf _ be _ (by omega) _ fun v13 hp14 hp15 => ?_))
        refine (?_ : R (_, _, (.int (Int32.ofInt v13)) :: [], (zMi c0 c1 c2 c3 c4 c5 c6 c7 c8 c9 c10 c11 c12 c13 0 f9 f10 f11 f12 f13 f15 f16 f17 f20 f21 f22 f23 f26 f28 f31 f32 f33 f38 f41 f44 x14 g15 g16 g17 g18 g19 g20 g21 g22 g23 g24 q25_27 g26 g27 g28 g29 g30 g31 g32 g33 g34 g35 g36 g37 g38 g39 g40 g41 g42 g43 g44 t), 0, 0))
        exact hR (zret_i rfl (Nat.le_refl _) trivial (h _ _ _ hq25_27))
      iterate 3 refine hR (?_ : R (_, _, _, _, _, _))
      refine hR (zcall_i 0 0 (Nat.le_of_ble_eq_true rfl) (Nat.le_of_ble_eq_true rfl) (m_someOf _ a1 se hq25_27 (by omega) _ fun v16 k25_17 hp18 hp19 => ?_))
      refine (?_ : R (_, _, (.int (Int32.ofInt v16)) :: [], (zMi c0 c1 c2 c3 c4 c5 c6 c7 c8 c9 c10 c11 c12 c13 0 f9 f10 f11 f12 f13 f15 f16 f17 f20 f21 f22 f23 f26 f28 f31 f32 f33 f38 f41 f44 x14 g15 g16 g17 g18 g19 g20 g21 g22 g23 g24 k25_17 g26 g27 g28 g29 g30 g31 g32 g33 g34 g35 g36 g37 g38 g39 g40 g41 g42 g43 g44 t), 0, 0))
      iterate 2 refine hR (?_ : R (_, _, _, _, _, _))
      refine hR (zcall_i 0 0 (Nat.le_of_ble_eq_true rfl) (Nat.le_of_ble_eq_true rfl) (m_sizeOf _ v16 _ (by omega) _ fun v20 hp21 hp22 => ?_))
      refine (?_ : R (_, _, (.int (Int32.ofInt v20)) :: [], (zMi c0 c1 c2 c3 c4 c5 c6 c7 c8 c9 c10 c11 c12 c13 0 f9 f10 f11 f12 f13 f15 f16 f17 f20 f21 f22 f23 f26 f28 f31 f32 f33 f38 f41 f44 x14 g15 g16 g17 g18 g19 g20 g21 g22 g23 g24 k25_17 g26 g27 g28 g29 g30 g31 g32 g33 g34 g35 g36 g37 g38 g39 g40 g41 g42 g43 g44 t), 0, 0))
      refine hR (?_ : R (_, _, _, _, _, _))
      refine hR (zcall_i 0 0 (Nat.le_of_ble_eq_true rfl) (Nat.le_of_ble_eq_true rfl) (m_sizeOf _ be _ (by omega) _ fun v23 hp24 hp25 => ?_))
      refine (?_ : R (_, _, (.int (Int32.ofInt v23)) :: (.int (Int32.ofInt v20)) :: [], (zMi c0 c1 c2 c3 c4 c5 c6 c7 c8 c9 c10 c11 c12 c13 0 f9 f10 f11 f12 f13 f15 f16 f17 f20 f21 f22 f23 f26 f28 f31 f32 f33 f38 f41 f44 x14 g15 g16 g17 g18 g19 g20 g21 g22 g23 g24 k25_17 g26 g27 g28 g29 g30 g31 g32 g33 g34 g35 g36 g37 g38 g39 g40 g41 g42 g43 g44 t), 0, 0))
      refine hR (j_gt (by omega) (by omega) (fun hc26 => ?_) (fun hc26 => ?_))
      · skip
        iterate 4 refine hR (?_ : R (_, _, _, _, _, _))
        refine hR (k_eq (by omega) (fun hc => by omega) (fun _ => ?_))
        iterate 3 refine hR (?_ : R (_, _, _, _, _, _))
        refine hR (zcall_i 0 0 (Nat.le_of_ble_eq_true rfl) (Nat.le_of_ble_eq_true rfl) (m_isLeft _ a2 v16 hp18 (by omega) (by omega) _ fun v27 k25_28 hp29 hp30 => ?_))
        refine (?_ : R (_, _, (.int (Int32.ofInt v27)) :: [], (zMi c0 c1 c2 c3 c4 c5 c6 c7 c8 c9 c10 c11 c12 c13 0 f9 f10 f11 f12 f13 f15 f16 f17 f20 f21 f22 f23 f26 f28 f31 f32 f33 f38 f41 f44 x14 g15 g16 g17 g18 g19 g20 g21 g22 g23 g24 k25_28 g26 g27 g28 g29 g30 g31 g32 g33 g34 g35 g36 g37 g38 g39 g40 g41 g42 g43 g44 t), 0, 0))
        refine hR (k_eq (by omega) (fun hc31 => ?_) (fun hc31 => ?_))
        · skip
          iterate 2 refine hR (?_ : R (_, _, _, _, _, _))
          refine hR (t_inc ?_)
          refine hR (?_ : R (_, _, _, _, _, _))
          exact ih27 _ _ _ _ _ (by rfl) (by rfl) (by omega) (by omega) hp29 (by omega)
        iterate 3 refine hR (?_ : R (_, _, _, _, _, _))
        refine hR (t_inc ?_)
        refine hR (?_ : R (_, _, _, _, _, _))
        exact ih27 _ _ _ _ _ (by rfl) (by rfl) (by omega) (by omega) hp29 (by omega)
      refine hR (?_ : R (_, _, _, _, _, _))
      refine hR (zcall_i 0 0 (Nat.le_of_ble_eq_true rfl) (Nat.le_of_ble_eq_true rfl) (m_sizeOf _ v16 _ (by omega) _ fun v32 hp33 hp34 => ?_))
      refine (?_ : R (_, _, (.int (Int32.ofInt v32)) :: [], (zMi c0 c1 c2 c3 c4 c5 c6 c7 c8 c9 c10 c11 c12 c13 0 f9 f10 f11 f12 f13 f15 f16 f17 f20 f21 f22 f23 f26 f28 f31 f32 f33 f38 f41 f44 x14 g15 g16 g17 g18 g19 g20 g21 g22 g23 g24 k25_17 g26 g27 g28 g29 g30 g31 g32 g33 g34 g35 g36 g37 g38 g39 g40 g41 g42 g43 g44 t), 0, 0))
      refine hR (?_ : R (_, _, _, _, _, _))
      refine hR (zcall_i 0 0 (Nat.le_of_ble_eq_true rfl) (Nat.le_of_ble_eq_true rfl) (m_sizeOf _ be _ (by omega) _ fun v35 hp36 hp37 => ?_))
      refine (?_ : R (_, _, (.int (Int32.ofInt v35)) :: (.int (Int32.ofInt v32)) :: [], (zMi c0 c1 c2 c3 c4 c5 c6 c7 c8 c9 c10 c11 c12 c13 0 f9 f10 f11 f12 f13 f15 f16 f17 f20 f21 f22 f23 f26 f28 f31 f32 f33 f38 f41 f44 x14 g15 g16 g17 g18 g19 g20 g21 g22 g23 g24 k25_17 g26 g27 g28 g29 g30 g31 g32 g33 g34 g35 g36 g37 g38 g39 g40 g41 g42 g43 g44 t), 0, 0))
      refine hR (j_ne (by omega) (by omega) (fun hc38 => ?_) (fun hc38 => ?_))
      · skip
        iterate 3 refine hR (?_ : R (_, _, _, _, _, _))
        refine hR (k_eq (by omega) (fun _ => ?_) (fun hc => by omega))
        iterate 2 refine hR (?_ : R (_, _, _, _, _, _))
        refine hR (t_inc ?_)
        refine hR (?_ : R (_, _, _, _, _, _))
        exact ih27 _ _ _ _ _ (by rfl) (by rfl) (by omega) (by omega) hp18 (by omega)
      iterate 2 refine hR (?_ : R (_, _, _, _, _, _))
      refine hR (j_ge (by omega) (by omega) (fun hc39 => ?_) (fun hc39 => ?_))
      · skip
        iterate 3 refine hR (?_ : R (_, _, _, _, _, _))
        refine hR (k_eq (by omega) (fun _ => ?_) (fun hc => by omega))
        iterate 2 refine hR (?_ : R (_, _, _, _, _, _))
        refine hR (t_inc ?_)
        refine hR (?_ : R (_, _, _, _, _, _))
        exact ih27 _ _ _ _ _ (by rfl) (by rfl) (by omega) (by omega) hp18 (by omega)
      iterate 4 refine hR (?_ : R (_, _, _, _, _, _))
      refine hR (k_eq (by omega) (fun hc => by omega) (fun _ => ?_))
      iterate 3 refine hR (?_ : R (_, _, _, _, _, _))
      refine hR (zcall_i 0 0 (Nat.le_of_ble_eq_true rfl) (Nat.le_of_ble_eq_true rfl) (m_isLeft _ a2 v16 hp18 (by omega) (by omega) _ fun v40 k25_41 hp42 hp43 => ?_))
      refine (?_ : R (_, _, (.int (Int32.ofInt v40)) :: [], (zMi c0 c1 c2 c3 c4 c5 c6 c7 c8 c9 c10 c11 c12 c13 0 f9 f10 f11 f12 f13 f15 f16 f17 f20 f21 f22 f23 f26 f28 f31 f32 f33 f38 f41 f44 x14 g15 g16 g17 g18 g19 g20 g21 g22 g23 g24 k25_41 g26 g27 g28 g29 g30 g31 g32 g33 g34 g35 g36 g37 g38 g39 g40 g41 g42 g43 g44 t), 0, 0))
      refine hR (k_eq (by omega) (fun hc44 => ?_) (fun hc44 => ?_))
      · skip
        iterate 2 refine hR (?_ : R (_, _, _, _, _, _))
        refine hR (t_inc ?_)
        refine hR (?_ : R (_, _, _, _, _, _))
        exact ih27 _ _ _ _ _ (by rfl) (by rfl) (by omega) (by omega) hp42 (by omega)
      iterate 3 refine hR (?_ : R (_, _, _, _, _, _))
      refine hR (t_inc ?_)
      refine hR (?_ : R (_, _, _, _, _, _))
      exact ih27 _ _ _ _ _ (by rfl) (by rfl) (by omega) (by omega) hp42 (by omega)
  exact lp27 400000000 _ _ _ _ _ (by rfl) (by rfl) (by omega) (by omega) hb25 (by omega)
theorem m_four (d : Nat) (a1 : Int) (hr0 : 0 ≤ (g16 0).toInt ∧ (g16 0).toInt ≤ 596) (Q : zQ) (h : ∀ (k15 : Nat → Int32) (k16 : Nat → Int32), ((k16 0).toInt = (g16 0).toInt + 4) → (∀ j, j ≠ 0 → k16 j = g16 j) → Q (none) (zMi c0 c1 c2 c3 c4 c5 c6 c7 c8 c9 c10 c11 c12 c13 f0 f9 f10 f11 f12 f13 f15 f16 f17 f20 f21 f22 f23 f26 f28 f31 f32 f33 f38 f41 f44 x14 k15 k16 g17 g18 g19 g20 g21 g22 g23 g24 g25 g26 g27 g28 g29 g30 g31 g32 g33 g34 g35 g36 g37 g38 g39 g40 g41 g42 g43 g44 t)) : zCl zTab (d + 1) iX12_four [.ref 14, .int (Int32.ofInt a1)] (zMi c0 c1 c2 c3 c4 c5 c6 c7 c8 c9 c10 c11 c12 c13 f0 f9 f10 f11 f12 f13 f15 f16 f17 f20 f21 f22 f23 f26 f28 f31 f32 f33 f38 f41 f44 x14 g15 g16 g17 g18 g19 g20 g21 g22 g23 g24 g25 g26 g27 g28 g29 g30 g31 g32 g33 g34 g35 g36 g37 g38 g39 g40 g41 g42 g43 g44 t) 0 0 Q := by
  refine zCl_i (M := kX12_four) rfl (Nat.le_of_ble_eq_true rfl) fun R hR => ?_
  refine hR (t_c 24 (by decide) ?_)
  refine hR (?_ : R (_, _, _, _, _, _))
  have lp3 : ∀ (N : Nat) (sh : Int) (q15_3 : Nat → Int32) (q16_3 : Nat → Int32), (-8 ≤ sh ∧ sh ≤ 24) → (8 * ((q16_3 0).toInt - (g16 0).toInt) = 24 - sh) → (∀ j, j ≠ 0 → q16_3 j = g16 j) → (∃ m : Int, sh = 8 * m) → (sh + 8 < N) → R (3, [some (.ref 14), some (.int (Int32.ofInt a1)), some (.int (Int32.ofInt sh))], [], (zMi c0 c1 c2 c3 c4 c5 c6 c7 c8 c9 c10 c11 c12 c13 f0 f9 f10 f11 f12 f13 f15 f16 f17 f20 f21 f22 f23 f26 f28 f31 f32 f33 f38 f41 f44 x14 q15_3 q16_3 g17 g18 g19 g20 g21 g22 g23 g24 g25 g26 g27 g28 g29 g30 g31 g32 g33 g34 g35 g36 g37 g38 g39 g40 g41 g42 g43 g44 t), 0, 0) := by
    intro N
    induction N with
    | zero => intros; omega
    | succ N ih3 =>
      intro sh q15_3 q16_3 hf0_3 hp0_3 hp1_3 hp2_3 hN3
      refine hR (?_ : R (_, _, _, _, _, _))
      refine hR (k_lt (by omega) (fun hc1 => ?_) (fun hc1 => ?_))
      · skip
        obtain ⟨m8, hm8⟩ := hp2_3
        exact hR (zret_i rfl (Nat.le_refl _) rfl (h _ _ (by omega) hp1_3))
      obtain ⟨m8, hm8⟩ := id hp2_3
      iterate 5 refine hR (?_ : R (_, _, _, _, _, _))
      refine hR (t_ldE (by omega) (by omega) (Nat.le_of_ble_eq_true rfl) fun v2 ev2 rv2 => ?_)
      have bv2 : v2 = (q16_3 0).toInt := ev2
      iterate 2 refine hR (?_ : R (_, _, _, _, _, _))
      refine hR (t_o fun v3 rv3 => ?_)
      refine hR (t_o fun v4 rv4 => ?_)
      refine hR (t_stx (by omega) (by omega) (Nat.le_of_ble_eq_true rfl) fun k15_5 => (?_ : R (_, _, _, (zMi c0 c1 c2 c3 c4 c5 c6 c7 c8 c9 c10 c11 c12 c13 f0 f9 f10 f11 f12 f13 f15 f16 f17 f20 f21 f22 f23 f26 f28 f31 f32 f33 f38 f41 f44 x14 k15_5 q16_3 g17 g18 g19 g20 g21 g22 g23 g24 g25 g26 g27 g28 g29 g30 g31 g32 g33 g34 g35 g36 g37 g38 g39 g40 g41 g42 g43 g44 t), _, _)))
      iterate 4 refine hR (?_ : R (_, _, _, _, _, _))
      refine hR (t_ldE (by omega) (by omega) (Nat.le_of_ble_eq_true rfl) fun v6 ev6 rv6 => ?_)
      have bv6 : v6 = (q16_3 0).toInt := ev6
      refine hR (?_ : R (_, _, _, _, _, _))
      refine hR (t_add ?_)
      refine hR (t_st (by omega) (by omega) (Nat.le_of_ble_eq_true rfl) (?_ : R (_, _, _, (zMi c0 c1 c2 c3 c4 c5 c6 c7 c8 c9 c10 c11 c12 c13 f0 f9 f10 f11 f12 f13 f15 f16 f17 f20 f21 f22 f23 f26 f28 f31 f32 f33 f38 f41 f44 x14 k15_5 (upd q16_3 (0 : Int).toNat (Int32.ofInt (v6 + 1))) g17 g18 g19 g20 g21 g22 g23 g24 g25 g26 g27 g28 g29 g30 g31 g32 g33 g34 g35 g36 g37 g38 g39 g40 g41 g42 g43 g44 t), _, _)))
      refine hR (t_inc ?_)
      refine hR (?_ : R (_, _, _, _, _, _))
      exact ih3 _ _ _ (by omega) (fo_s ev6 (by omega) (by omega)) (fo_o hp1_3) (fo_m hp2_3) (by omega)
  exact lp3 400000000 _ _ _ (by omega) (by omega) (fun j _ => rfl) ⟨3, by omega⟩ (by omega)
theorem m_feed (d : Nat) (a1 a2 a3 a4 a5 : Int) (hr0 : 0 ≤ (g16 0).toInt ∧ (g16 0).toInt ≤ 600) (Q : zQ) (h : ∀ (v : Int) (y0 : Int) (k15 : Nat → Int32) (k16 : Nat → Int32), ((v = -1 ∧ 580 < (g16 0).toInt ∧ (k16 0).toInt = (g16 0).toInt) ∨ (v = (g16 0).toInt + 20 ∧ (g16 0).toInt ≤ 580 ∧ (k16 0).toInt = v)) → (∀ j, j ≠ 0 → k16 j = g16 j) → Q (some (.int (Int32.ofInt v))) (zMi c0 c1 c2 c3 c4 c5 c6 c7 c8 c9 c10 c11 c12 c13 y0 f9 f10 f11 f12 f13 f15 f16 f17 f20 f21 f22 f23 f26 f28 f31 f32 f33 f38 f41 f44 x14 k15 k16 g17 g18 g19 g20 g21 g22 g23 g24 g25 g26 g27 g28 g29 g30 g31 g32 g33 g34 g35 g36 g37 g38 g39 g40 g41 g42 g43 g44 t)) : zCl zTab (d + 2) iX12_feed [.ref 14, .int (Int32.ofInt a1), .int (Int32.ofInt a2), .int (Int32.ofInt a3), .int (Int32.ofInt a4), .int (Int32.ofInt a5)] (zMi c0 c1 c2 c3 c4 c5 c6 c7 c8 c9 c10 c11 c12 c13 f0 f9 f10 f11 f12 f13 f15 f16 f17 f20 f21 f22 f23 f26 f28 f31 f32 f33 f38 f41 f44 x14 g15 g16 g17 g18 g19 g20 g21 g22 g23 g24 g25 g26 g27 g28 g29 g30 g31 g32 g33 g34 g35 g36 g37 g38 g39 g40 g41 g42 g43 g44 t) 0 0 Q := by
  refine zCl_i (M := kX12_feed) rfl (Nat.le_of_ble_eq_true rfl) fun R hR => ?_
  iterate 2 refine hR (?_ : R (_, _, _, _, _, _))
  refine hR (?_ : R (_, _, _, (zMi c0 c1 c2 c3 c4 c5 c6 c7 c8 c9 c10 c11 c12 c13 0 f9 f10 f11 f12 f13 f15 f16 f17 f20 f21 f22 f23 f26 f28 f31 f32 f33 f38 f41 f44 x14 g15 g16 g17 g18 g19 g20 g21 g22 g23 g24 g25 g26 g27 g28 g29 g30 g31 g32 g33 g34 g35 g36 g37 g38 g39 g40 g41 g42 g43 g44 t), _, _))
  iterate 3 refine hR (?_ : R (_, _, _, _, _, _))
  refine hR (t_ldE (by omega) (by omega) (Nat.le_of_ble_eq_true rfl) fun v1 ev1 rv1 => ?_)
  have bv1 : v1 = (g16 0).toInt := ev1
  refine hR (t_c 20 (by decide) ?_)
  refine hR (t_add ?_)
  refine hR (t_c 600 (by decide) ?_)
  refine hR (j_le (by omega) (by omega) (fun hc2 => ?_) (fun hc2 => ?_))
  rotate_left
  · skip
    refine hR (?_ : R (_, _, _, _, _, _))
    exact hR (zret_i rfl (Nat.le_refl _) trivial (h _ _ _ _ (by omega) (fun j _ => rfl)))
  iterate 2 refine hR (?_ : R (_, _, _, _, _, _))
  refine hR (zcall_i 0 0 (Nat.le_of_ble_eq_true rfl) (Nat.le_of_ble_eq_true rfl) (m_four _ a1 (by omega) _ fun k15_3 k16_4 hp5 hp6 => ?_))
  refine (?_ : R (_, _, [], (zMi c0 c1 c2 c3 c4 c5 c6 c7 c8 c9 c10 c11 c12 c13 0 f9 f10 f11 f12 f13 f15 f16 f17 f20 f21 f22 f23 f26 f28 f31 f32 f33 f38 f41 f44 x14 k15_3 k16_4 g17 g18 g19 g20 g21 g22 g23 g24 g25 g26 g27 g28 g29 g30 g31 g32 g33 g34 g35 g36 g37 g38 g39 g40 g41 g42 g43 g44 t), 0, 0))
  iterate 2 refine hR (?_ : R (_, _, _, _, _, _))
  refine hR (zcall_i 0 0 (Nat.le_of_ble_eq_true rfl) (Nat.le_of_ble_eq_true rfl) (m_four _ a2 (by omega) _ fun k15_7 k16_8 hp9 hp10 => ?_))
  refine (?_ : R (_, _, [], (zMi c0 c1 c2 c3 c4 c5 c6 c7 c8 c9 c10 c11 c12 c13 0 f9 f10 f11 f12 f13 f15 f16 f17 f20 f21 f22 f23 f26 f28 f31 f32 f33 f38 f41 f44 x14 k15_7 k16_8 g17 g18 g19 g20 g21 g22 g23 g24 g25 g26 g27 g28 g29 g30 g31 g32 g33 g34 g35 g36 g37 g38 g39 g40 g41 g42 g43 g44 t), 0, 0))
  iterate 2 refine hR (?_ : R (_, _, _, _, _, _))
  refine hR (zcall_i 0 0 (Nat.le_of_ble_eq_true rfl) (Nat.le_of_ble_eq_true rfl) (m_four _ a3 (by omega) _ fun k15_11 k16_12 hp13 hp14 => ?_))
  refine (?_ : R (_, _, [], (zMi c0 c1 c2 c3 c4 c5 c6 c7 c8 c9 c10 c11 c12 c13 0 f9 f10 f11 f12 f13 f15 f16 f17 f20 f21 f22 f23 f26 f28 f31 f32 f33 f38 f41 f44 x14 k15_11 k16_12 g17 g18 g19 g20 g21 g22 g23 g24 g25 g26 g27 g28 g29 g30 g31 g32 g33 g34 g35 g36 g37 g38 g39 g40 g41 g42 g43 g44 t), 0, 0))
  iterate 2 refine hR (?_ : R (_, _, _, _, _, _))
  refine hR (zcall_i 0 0 (Nat.le_of_ble_eq_true rfl) (Nat.le_of_ble_eq_true rfl) (m_four _ a4 (by omega) _ fun k15_15 k16_16 hp17 hp18 => ?_))
  refine (?_ : R (_, _, [], (zMi c0 c1 c2 c3 c4 c5 c6 c7 c8 c9 c10 c11 c12 c13 0 f9 f10 f11 f12 f13 f15 f16 f17 f20 f21 f22 f23 f26 f28 f31 f32 f33 f38 f41 f44 x14 k15_15 k16_16 g17 g18 g19 g20 g21 g22 g23 g24 g25 g26 g27 g28 g29 g30 g31 g32 g33 g34 g35 g36 g37 g38 g39 g40 g41 g42 g43 g44 t), 0, 0))
  iterate 2 refine hR (?_ : R (_, _, _, _, _, _))
  refine hR (zcall_i 0 0 (Nat.le_of_ble_eq_true rfl) (Nat.le_of_ble_eq_true rfl) (m_four _ a5 (by omega) _ fun k15_19 k16_20 hp21 hp22 => ?_))
  refine (?_ : R (_, _, [], (zMi c0 c1 c2 c3 c4 c5 c6 c7 c8 c9 c10 c11 c12 c13 0 f9 f10 f11 f12 f13 f15 f16 f17 f20 f21 f22 f23 f26 f28 f31 f32 f33 f38 f41 f44 x14 k15_19 k16_20 g17 g18 g19 g20 g21 g22 g23 g24 g25 g26 g27 g28 g29 g30 g31 g32 g33 g34 g35 g36 g37 g38 g39 g40 g41 g42 g43 g44 t), 0, 0))
  iterate 3 refine hR (?_ : R (_, _, _, _, _, _))
  refine hR (t_ldE (by omega) (by omega) (Nat.le_of_ble_eq_true rfl) fun v23 ev23 rv23 => ?_)
  have bv23 : v23 = (k16_20 0).toInt := ev23
  exact hR (zret_i rfl (Nat.le_refl _) trivial (h _ _ _ _ (by omega) (fun j hj => ((hp22 j hj).trans ((hp18 j hj).trans ((hp14 j hj).trans ((hp10 j hj).trans (hp6 j hj))))))))
theorem m_end (d : Nat) (a1 : Int) (hr0 : 0 ≤ (g16 0).toInt ∧ (g16 0).toInt ≤ 600) (hr1 : -2147483648 ≤ a1 ∧ a1 ≤ 2147483647) (Q : zQ) (h : ∀ (v : Int) (y0 : Int) (k16 : Nat → Int32), ((v = -1 ∧ (a1 < 0 ∨ (g16 0).toInt < a1) ∧ (k16 0).toInt = (g16 0).toInt) ∨ (v = a1 ∧ 0 ≤ a1 ∧ a1 ≤ (g16 0).toInt ∧ (k16 0).toInt = a1)) → (∀ j, j ≠ 0 → k16 j = g16 j) → Q (some (.int (Int32.ofInt v))) (zMi c0 c1 c2 c3 c4 c5 c6 c7 c8 c9 c10 c11 c12 c13 y0 f9 f10 f11 f12 f13 f15 f16 f17 f20 f21 f22 f23 f26 f28 f31 f32 f33 f38 f41 f44 x14 g15 k16 g17 g18 g19 g20 g21 g22 g23 g24 g25 g26 g27 g28 g29 g30 g31 g32 g33 g34 g35 g36 g37 g38 g39 g40 g41 g42 g43 g44 t)) : zCl zTab (d + 2) iX12_end [.ref 14, .int (Int32.ofInt a1)] (zMi c0 c1 c2 c3 c4 c5 c6 c7 c8 c9 c10 c11 c12 c13 f0 f9 f10 f11 f12 f13 f15 f16 f17 f20 f21 f22 f23 f26 f28 f31 f32 f33 f38 f41 f44 x14 g15 g16 g17 g18 g19 g20 g21 g22 g23 g24 g25 g26 g27 g28 g29 g30 g31 g32 g33 g34 g35 g36 g37 g38 g39 g40 g41 g42 g43 g44 t) 0 0 Q := by
  refine zCl_i (M := kX12_end) rfl (Nat.le_of_ble_eq_true rfl) fun R hR => ?_
  iterate 2 refine hR (?_ : R (_, _, _, _, _, _))
  refine hR (?_ : R (_, _, _, (zMi c0 c1 c2 c3 c4 c5 c6 c7 c8 c9 c10 c11 c12 c13 0 f9 f10 f11 f12 f13 f15 f16 f17 f20 f21 f22 f23 f26 f28 f31 f32 f33 f38 f41 f44 x14 g15 g16 g17 g18 g19 g20 g21 g22 g23 g24 g25 g26 g27 g28 g29 g30 g31 g32 g33 g34 g35 g36 g37 g38 g39 g40 g41 g42 g43 g44 t), _, _))
  iterate 5 refine hR (?_ : R (_, _, _, _, _, _))
  refine hR (t_ldE (by omega) (by omega) (Nat.le_of_ble_eq_true rfl) fun v1 ev1 rv1 => ?_)
  have bv1 : v1 = (g16 0).toInt := ev1
  refine hR (zcall_i 0 0 (Nat.le_of_ble_eq_true rfl) (Nat.le_of_ble_eq_true rfl) (m_in _ a1 0 v1 _ (by omega) (by omega) (by omega) _ fun v2 hp3 => ?_))
  refine (?_ : R (_, _, (.int (Int32.ofInt v2)) :: [], (zMi c0 c1 c2 c3 c4 c5 c6 c7 c8 c9 c10 c11 c12 c13 0 f9 f10 f11 f12 f13 f15 f16 f17 f20 f21 f22 f23 f26 f28 f31 f32 f33 f38 f41 f44 x14 g15 g16 g17 g18 g19 g20 g21 g22 g23 g24 g25 g26 g27 g28 g29 g30 g31 g32 g33 g34 g35 g36 g37 g38 g39 g40 g41 g42 g43 g44 t), 0, 0))
  refine hR (k_ne (by omega) (fun hc4 => ?_) (fun hc4 => ?_))
  rotate_left
  · skip
    refine hR (?_ : R (_, _, _, _, _, _))
    exact hR (zret_i rfl (Nat.le_refl _) trivial (h _ _ _ (by omega) (fun j _ => rfl)))
  iterate 4 refine hR (?_ : R (_, _, _, _, _, _))
  refine hR (t_st (by omega) (by omega) (Nat.le_of_ble_eq_true rfl) (?_ : R (_, _, _, (zMi c0 c1 c2 c3 c4 c5 c6 c7 c8 c9 c10 c11 c12 c13 0 f9 f10 f11 f12 f13 f15 f16 f17 f20 f21 f22 f23 f26 f28 f31 f32 f33 f38 f41 f44 x14 g15 (upd g16 (0 : Int).toNat (Int32.ofInt a1)) g17 g18 g19 g20 g21 g22 g23 g24 g25 g26 g27 g28 g29 g30 g31 g32 g33 g34 g35 g36 g37 g38 g39 g40 g41 g42 g43 g44 t), _, _)))
  refine hR (?_ : R (_, _, _, _, _, _))
  exact hR (zret_i rfl (Nat.le_refl _) trivial (h _ _ _ (en_s (s := v1) (by omega) (by omega)) (fun j hj => pk_un hj)))
theorem m_fault (d : Nat) (a1 : Int) (hr0 : -2147483648 ≤ a1 ∧ a1 ≤ 2147483647) (Q : zQ) (h : ∀ (v : Int) (y0 : Int), Q (some (.int (Int32.ofInt v))) (zMi c0 c1 c2 c3 c4 c5 c6 c7 c8 c9 c10 c11 c12 c13 y0 f9 f10 f11 f12 f13 f15 f16 f17 f20 f21 f22 f23 f26 f28 f31 f32 f33 f38 f41 f44 x14 g15 g16 g17 g18 g19 g20 g21 g22 g23 g24 g25 g26 g27 g28 g29 g30 g31 g32 g33 g34 g35 g36 g37 g38 g39 g40 g41 g42 g43 g44 t)) : zCl zTab (d + 1) iX12_fault [.ref 14, .int (Int32.ofInt a1)] (zMi c0 c1 c2 c3 c4 c5 c6 c7 c8 c9 c10 c11 c12 c13 f0 f9 f10 f11 f12 f13 f15 f16 f17 f20 f21 f22 f23 f26 f28 f31 f32 f33 f38 f41 f44 x14 g15 g16 g17 g18 g19 g20 g21 g22 g23 g24 g25 g26 g27 g28 g29 g30 g31 g32 g33 g34 g35 g36 g37 g38 g39 g40 g41 g42 g43 g44 t) 0 0 Q := by
  refine zCl_i (M := kX12_fault) rfl (Nat.le_of_ble_eq_true rfl) fun R hR => ?_
  iterate 2 refine hR (?_ : R (_, _, _, _, _, _))
  refine hR (?_ : R (_, _, _, (zMi c0 c1 c2 c3 c4 c5 c6 c7 c8 c9 c10 c11 c12 c13 0 f9 f10 f11 f12 f13 f15 f16 f17 f20 f21 f22 f23 f26 f28 f31 f32 f33 f38 f41 f44 x14 g15 g16 g17 g18 g19 g20 g21 g22 g23 g24 g25 g26 g27 g28 g29 g30 g31 g32 g33 g34 g35 g36 g37 g38 g39 g40 g41 g42 g43 g44 t), _, _))
  refine hR (?_ : R (_, _, _, _, _, _))
  refine hR (k_ne (by omega) (fun hc1 => ?_) (fun hc1 => ?_))
  rotate_left
  · skip
    iterate 3 refine hR (?_ : R (_, _, _, _, _, _))
    refine hR (t_ldo (by omega) (by omega) (Nat.le_of_ble_eq_true rfl) fun v4 rv4 => ?_)
    refine hR (?_ : R (_, _, _, _, _, _))
    exact hR (zret_i rfl (Nat.le_refl _) trivial (h _ _))
  iterate 2 refine hR (?_ : R (_, _, _, _, _, _))
  refine hR (j_ne (by omega) (by omega) (fun hc2 => ?_) (fun hc2 => ?_))
  · skip
    refine hR (?_ : R (_, _, _, _, _, _))
    exact hR (zret_i rfl (Nat.le_refl _) trivial (h _ _))
  iterate 3 refine hR (?_ : R (_, _, _, _, _, _))
  refine hR (t_ldo (by omega) (by omega) (Nat.le_of_ble_eq_true rfl) fun v3 rv3 => ?_)
  refine hR (?_ : R (_, _, _, _, _, _))
  exact hR (zret_i rfl (Nat.le_refl _) trivial (h _ _))
theorem m_count (d : Nat) (a1 : Int) (hb19 : zB 0 2 g19) (hr1 : -2147483648 ≤ a1 ∧ a1 ≤ 2147483647) (Q : zQ) (h : ∀ (v : Int) (y0 : Int), Q (some (.int (Int32.ofInt v))) (zMi c0 c1 c2 c3 c4 c5 c6 c7 c8 c9 c10 c11 c12 c13 y0 f9 f10 f11 f12 f13 f15 f16 f17 f20 f21 f22 f23 f26 f28 f31 f32 f33 f38 f41 f44 x14 g15 g16 g17 g18 g19 g20 g21 g22 g23 g24 g25 g26 g27 g28 g29 g30 g31 g32 g33 g34 g35 g36 g37 g38 g39 g40 g41 g42 g43 g44 t)) : zCl zTab (d + 2) iX12_count [.ref 14, .int (Int32.ofInt a1)] (zMi c0 c1 c2 c3 c4 c5 c6 c7 c8 c9 c10 c11 c12 c13 f0 f9 f10 f11 f12 f13 f15 f16 f17 f20 f21 f22 f23 f26 f28 f31 f32 f33 f38 f41 f44 x14 g15 g16 g17 g18 g19 g20 g21 g22 g23 g24 g25 g26 g27 g28 g29 g30 g31 g32 g33 g34 g35 g36 g37 g38 g39 g40 g41 g42 g43 g44 t) 0 0 Q := by
  refine zCl_i (M := kX12_count) rfl (Nat.le_of_ble_eq_true rfl) fun R hR => ?_
  iterate 2 refine hR (?_ : R (_, _, _, _, _, _))
  refine hR (?_ : R (_, _, _, (zMi c0 c1 c2 c3 c4 c5 c6 c7 c8 c9 c10 c11 c12 c13 0 f9 f10 f11 f12 f13 f15 f16 f17 f20 f21 f22 f23 f26 f28 f31 f32 f33 f38 f41 f44 x14 g15 g16 g17 g18 g19 g20 g21 g22 g23 g24 g25 g26 g27 g28 g29 g30 g31 g32 g33 g34 g35 g36 g37 g38 g39 g40 g41 g42 g43 g44 t), _, _))
  iterate 3 refine hR (?_ : R (_, _, _, _, _, _))
  refine hR (zcall_i 0 0 (Nat.le_of_ble_eq_true rfl) (Nat.le_of_ble_eq_true rfl) (m_in _ a1 0 2 _ (by omega) (by omega) (by omega) _ fun v1 hp2 => ?_))
  refine (?_ : R (_, _, (.int (Int32.ofInt v1)) :: [], (zMi c0 c1 c2 c3 c4 c5 c6 c7 c8 c9 c10 c11 c12 c13 0 f9 f10 f11 f12 f13 f15 f16 f17 f20 f21 f22 f23 f26 f28 f31 f32 f33 f38 f41 f44 x14 g15 g16 g17 g18 g19 g20 g21 g22 g23 g24 g25 g26 g27 g28 g29 g30 g31 g32 g33 g34 g35 g36 g37 g38 g39 g40 g41 g42 g43 g44 t), 0, 0))
  refine hR (k_eq (by omega) (fun hc3 => ?_) (fun hc3 => ?_))
  · skip
    refine hR (t_c (-2) (by decide) ?_)
    exact hR (zret_i rfl (Nat.le_refl _) trivial (h _ _))
  iterate 3 refine hR (?_ : R (_, _, _, _, _, _))
  refine hR (t_ldB hb19 (by omega) (by omega) (Nat.le_of_ble_eq_true rfl) fun v4 ev4 lv4 uv4 => ?_)
  clear ev4
  refine hR (?_ : R (_, _, _, _, _, _))
  exact hR (zret_i rfl (Nat.le_refl _) trivial (h _ _))
theorem m_image (d : Nat) (a1 : Int) (hr0 : -2147483648 ≤ a1 ∧ a1 ≤ 2147483647) (Q : zQ) (h : ∀ (v : Int) (y0 : Int) (k15 : Nat → Int32) (k16 : Nat → Int32) (k17 : Nat → Int32) (k18 : Nat → Int32) (k19 : Nat → Int32) (k20 : Nat → Int32) (k21 : Nat → Int32) (k22 : Nat → Int32) (k44 : Nat → Int32), ((v = 1 ∧ 0 ≤ a1 ∧ a1 ≤ 2) ∨ (v = 0 ∧ (a1 < 0 ∨ 2 < a1))) → ((v = 0 ∧ k44 = g44) ∨ (v = 1 ∧ k44 = upd g44 a1.toNat (Int32.ofInt 1))) → ((v = 0 ∧ k16 = g16) ∨ (v = 1 ∧ k16 = cpR g16 1 0 (a1 + 1).toNat 1)) → ((v = 0 ∧ k17 = g17) ∨ (v = 1 ∧ k17 = cpR g17 1 0 (a1 + 1).toNat 1)) → ((v = 0 ∧ k18 = g18) ∨ (v = 1 ∧ k18 = cpR g18 1 0 (a1 + 1).toNat 1)) → ((v = 0 ∧ k19 = g19) ∨ (v = 1 ∧ k19 = cpR g19 3 0 (a1 + 1).toNat 3)) → ((v = 0 ∧ k20 = g20) ∨ (v = 1 ∧ k20 = cpR g20 102 0 (a1 + 1).toNat 102)) → ((v = 0 ∧ k21 = g21) ∨ (v = 1 ∧ k21 = cpR g21 242 0 (a1 + 1).toNat 242)) → ((v = 0 ∧ k22 = g22) ∨ (v = 1 ∧ k22 = cpR g22 26 0 (a1 + 1).toNat 26)) → Q (some (.int (Int32.ofInt v))) (zMi c0 c1 c2 c3 c4 c5 c6 c7 c8 c9 c10 c11 c12 c13 y0 f9 f10 f11 f12 f13 f15 f16 f17 f20 f21 f22 f23 f26 f28 f31 f32 f33 f38 f41 f44 x14 k15 k16 k17 k18 k19 k20 k21 k22 g23 g24 g25 g26 g27 g28 g29 g30 g31 g32 g33 g34 g35 g36 g37 g38 g39 g40 g41 g42 g43 k44 t)) : zCl zTab (d + 3) iX12_image [.ref 14, .int (Int32.ofInt a1)] (zMi c0 c1 c2 c3 c4 c5 c6 c7 c8 c9 c10 c11 c12 c13 f0 f9 f10 f11 f12 f13 f15 f16 f17 f20 f21 f22 f23 f26 f28 f31 f32 f33 f38 f41 f44 x14 g15 g16 g17 g18 g19 g20 g21 g22 g23 g24 g25 g26 g27 g28 g29 g30 g31 g32 g33 g34 g35 g36 g37 g38 g39 g40 g41 g42 g43 g44 t) 0 0 Q := by
  refine zCl_i (M := kX12_image) rfl (Nat.le_of_ble_eq_true rfl) fun R hR => ?_
  iterate 2 refine hR (?_ : R (_, _, _, _, _, _))
  refine hR (?_ : R (_, _, _, (zMi c0 c1 c2 c3 c4 c5 c6 c7 c8 c9 c10 c11 c12 c13 0 f9 f10 f11 f12 f13 f15 f16 f17 f20 f21 f22 f23 f26 f28 f31 f32 f33 f38 f41 f44 x14 g15 g16 g17 g18 g19 g20 g21 g22 g23 g24 g25 g26 g27 g28 g29 g30 g31 g32 g33 g34 g35 g36 g37 g38 g39 g40 g41 g42 g43 g44 t), _, _))
  iterate 3 refine hR (?_ : R (_, _, _, _, _, _))
  refine hR (zcall_i 0 0 (Nat.le_of_ble_eq_true rfl) (Nat.le_of_ble_eq_true rfl) (m_in _ a1 0 2 _ (by omega) (by omega) (by omega) _ fun v1 hp2 => ?_))
  refine (?_ : R (_, _, (.int (Int32.ofInt v1)) :: [], (zMi c0 c1 c2 c3 c4 c5 c6 c7 c8 c9 c10 c11 c12 c13 0 f9 f10 f11 f12 f13 f15 f16 f17 f20 f21 f22 f23 f26 f28 f31 f32 f33 f38 f41 f44 x14 g15 g16 g17 g18 g19 g20 g21 g22 g23 g24 g25 g26 g27 g28 g29 g30 g31 g32 g33 g34 g35 g36 g37 g38 g39 g40 g41 g42 g43 g44 t), 0, 0))
  refine hR (k_ne (by omega) (fun hc3 => ?_) (fun hc3 => ?_))
  rotate_left
  · skip
    refine hR (?_ : R (_, _, _, _, _, _))
    exact hR (zret_i rfl (Nat.le_refl _) (zbo (by omega)) (h _ _ _ _ _ _ _ _ _ _ _ (by omega) (Or.inl ⟨rfl, rfl⟩) (Or.inl ⟨rfl, rfl⟩) (Or.inl ⟨rfl, rfl⟩) (Or.inl ⟨rfl, rfl⟩) (Or.inl ⟨rfl, rfl⟩) (Or.inl ⟨rfl, rfl⟩) (Or.inl ⟨rfl, rfl⟩) (Or.inl ⟨rfl, rfl⟩)))
  iterate 4 refine hR (?_ : R (_, _, _, _, _, _))
  refine hR (t_add ?_)
  refine hR (zcall_i 0 0 (Nat.le_of_ble_eq_true rfl) (Nat.le_of_ble_eq_true rfl) (m_copyAll _ 0 (a1 + 1) (by omega) (by omega) (by omega) _ fun k15_4 k16_5 k17_6 k18_7 k19_8 k20_9 k21_10 k22_11 hp12 hp13 hp14 hp15 hp16 hp17 hp18 => ?_))
  refine (?_ : R (_, _, [], (zMi c0 c1 c2 c3 c4 c5 c6 c7 c8 c9 c10 c11 c12 c13 0 f9 f10 f11 f12 f13 f15 f16 f17 f20 f21 f22 f23 f26 f28 f31 f32 f33 f38 f41 f44 x14 k15_4 k16_5 k17_6 k18_7 k19_8 k20_9 k21_10 k22_11 g23 g24 g25 g26 g27 g28 g29 g30 g31 g32 g33 g34 g35 g36 g37 g38 g39 g40 g41 g42 g43 g44 t), 0, 0))
  iterate 4 refine hR (?_ : R (_, _, _, _, _, _))
  refine hR (t_st (by omega) (by omega) (Nat.le_of_ble_eq_true rfl) (?_ : R (_, _, _, (zMi c0 c1 c2 c3 c4 c5 c6 c7 c8 c9 c10 c11 c12 c13 0 f9 f10 f11 f12 f13 f15 f16 f17 f20 f21 f22 f23 f26 f28 f31 f32 f33 f38 f41 f44 x14 k15_4 k16_5 k17_6 k18_7 k19_8 k20_9 k21_10 k22_11 g23 g24 g25 g26 g27 g28 g29 g30 g31 g32 g33 g34 g35 g36 g37 g38 g39 g40 g41 g42 g43 (upd g44 a1.toNat (Int32.ofInt 1)) t), _, _)))
  refine hR (?_ : R (_, _, _, _, _, _))
  exact hR (zret_i rfl (Nat.le_refl _) (zbo (by omega)) (h _ _ _ _ _ _ _ _ _ _ _ (by omega) (Or.inr ⟨rfl, rfl⟩) (Or.inr ⟨rfl, hp12⟩) (Or.inr ⟨rfl, hp13⟩) (Or.inr ⟨rfl, hp14⟩) (Or.inr ⟨rfl, hp15⟩) (Or.inr ⟨rfl, hp16⟩) (Or.inr ⟨rfl, hp17⟩) (Or.inr ⟨rfl, hp18⟩)))
theorem m_again (d : Nat) (a1 : Int) (hr0 : -2147483648 ≤ a1 ∧ a1 ≤ 2147483647) (Q : zQ) (h : ∀ (v : Int) (y0 : Int) (y21 : Int) (k15 : Nat → Int32) (k16 : Nat → Int32) (k17 : Nat → Int32) (k18 : Nat → Int32) (k19 : Nat → Int32) (k20 : Nat → Int32) (k21 : Nat → Int32) (k22 : Nat → Int32), ((v = 1 ∧ 0 ≤ a1 ∧ a1 ≤ 2 ∧ (g44 a1.toNat).toInt ≠ 0) ∨ (v = 0 ∧ (a1 < 0 ∨ 2 < a1 ∨ (g44 a1.toNat).toInt = 0))) → ((v = 0 ∧ k16 = g16) ∨ (v = 1 ∧ k16 = cpR g16 1 (a1 + 1).toNat 0 1)) → ((v = 0 ∧ k17 = g17) ∨ (v = 1 ∧ k17 = cpR g17 1 (a1 + 1).toNat 0 1)) → ((v = 0 ∧ k18 = g18) ∨ (v = 1 ∧ k18 = cpR g18 1 (a1 + 1).toNat 0 1)) → ((v = 0 ∧ k19 = g19) ∨ (v = 1 ∧ k19 = cpR g19 3 (a1 + 1).toNat 0 3)) → ((v = 0 ∧ k20 = g20) ∨ (v = 1 ∧ k20 = cpR g20 102 (a1 + 1).toNat 0 102)) → ((v = 0 ∧ k21 = g21) ∨ (v = 1 ∧ k21 = cpR g21 242 (a1 + 1).toNat 0 242)) → ((v = 0 ∧ k22 = g22) ∨ (v = 1 ∧ k22 = cpR g22 26 (a1 + 1).toNat 0 26)) → Q (some (.int (Int32.ofInt v))) (zMi c0 c1 c2 c3 c4 c5 c6 c7 c8 c9 c10 c11 c12 c13 y0 f9 f10 f11 f12 f13 f15 f16 f17 f20 y21 f22 f23 f26 f28 f31 f32 f33 f38 f41 f44 x14 k15 k16 k17 k18 k19 k20 k21 k22 g23 g24 g25 g26 g27 g28 g29 g30 g31 g32 g33 g34 g35 g36 g37 g38 g39 g40 g41 g42 g43 g44 t)) : zCl zTab (d + 3) iX12_again [.ref 14, .int (Int32.ofInt a1)] (zMi c0 c1 c2 c3 c4 c5 c6 c7 c8 c9 c10 c11 c12 c13 f0 f9 f10 f11 f12 f13 f15 f16 f17 f20 f21 f22 f23 f26 f28 f31 f32 f33 f38 f41 f44 x14 g15 g16 g17 g18 g19 g20 g21 g22 g23 g24 g25 g26 g27 g28 g29 g30 g31 g32 g33 g34 g35 g36 g37 g38 g39 g40 g41 g42 g43 g44 t) 0 0 Q := by
  refine zCl_i (M := kX12_again) rfl (Nat.le_of_ble_eq_true rfl) fun R hR => ?_
  iterate 2 refine hR (?_ : R (_, _, _, _, _, _))
  refine hR (?_ : R (_, _, _, (zMi c0 c1 c2 c3 c4 c5 c6 c7 c8 c9 c10 c11 c12 c13 0 f9 f10 f11 f12 f13 f15 f16 f17 f20 f21 f22 f23 f26 f28 f31 f32 f33 f38 f41 f44 x14 g15 g16 g17 g18 g19 g20 g21 g22 g23 g24 g25 g26 g27 g28 g29 g30 g31 g32 g33 g34 g35 g36 g37 g38 g39 g40 g41 g42 g43 g44 t), _, _))
  iterate 3 refine hR (?_ : R (_, _, _, _, _, _))
  refine hR (zcall_i 0 0 (Nat.le_of_ble_eq_true rfl) (Nat.le_of_ble_eq_true rfl) (m_in _ a1 0 2 _ (by omega) (by omega) (by omega) _ fun v1 hp2 => ?_))
  refine (?_ : R (_, _, (.int (Int32.ofInt v1)) :: [], (zMi c0 c1 c2 c3 c4 c5 c6 c7 c8 c9 c10 c11 c12 c13 0 f9 f10 f11 f12 f13 f15 f16 f17 f20 f21 f22 f23 f26 f28 f31 f32 f33 f38 f41 f44 x14 g15 g16 g17 g18 g19 g20 g21 g22 g23 g24 g25 g26 g27 g28 g29 g30 g31 g32 g33 g34 g35 g36 g37 g38 g39 g40 g41 g42 g43 g44 t), 0, 0))
  refine hR (k_eq (by omega) (fun hc3 => ?_) (fun hc3 => ?_))
  · skip
    refine hR (?_ : R (_, _, _, _, _, _))
    exact hR (zret_i rfl (Nat.le_refl _) (zbo (by omega)) (h _ _ _ _ _ _ _ _ _ _ _ (by omega) (Or.inl ⟨rfl, rfl⟩) (Or.inl ⟨rfl, rfl⟩) (Or.inl ⟨rfl, rfl⟩) (Or.inl ⟨rfl, rfl⟩) (Or.inl ⟨rfl, rfl⟩) (Or.inl ⟨rfl, rfl⟩) (Or.inl ⟨rfl, rfl⟩)))
  iterate 3 refine hR (?_ : R (_, _, _, _, _, _))
  refine hR (t_ldE (by omega) (by omega) (Nat.le_of_ble_eq_true rfl) fun v4 ev4 rv4 => ?_)
  refine hR (k_ne (by omega) (fun hc5 => ?_) (fun hc5 => ?_))
  rotate_left
  · skip
    refine hR (?_ : R (_, _, _, _, _, _))
    exact hR (zret_i rfl (Nat.le_refl _) (zbo (by omega)) (h _ _ _ _ _ _ _ _ _ _ _ (by omega) (Or.inl ⟨rfl, rfl⟩) (Or.inl ⟨rfl, rfl⟩) (Or.inl ⟨rfl, rfl⟩) (Or.inl ⟨rfl, rfl⟩) (Or.inl ⟨rfl, rfl⟩) (Or.inl ⟨rfl, rfl⟩) (Or.inl ⟨rfl, rfl⟩)))
  iterate 3 refine hR (?_ : R (_, _, _, _, _, _))
  refine hR (t_add ?_)
  refine hR (?_ : R (_, _, _, _, _, _))
  refine hR (zcall_i 0 0 (Nat.le_of_ble_eq_true rfl) (Nat.le_of_ble_eq_true rfl) (m_copyAll _ (a1 + 1) 0 (by omega) (by omega) (by omega) _ fun k15_6 k16_7 k17_8 k18_9 k19_10 k20_11 k21_12 k22_13 hp14 hp15 hp16 hp17 hp18 hp19 hp20 => ?_))
  refine (?_ : R (_, _, [], (zMi c0 c1 c2 c3 c4 c5 c6 c7 c8 c9 c10 c11 c12 c13 0 f9 f10 f11 f12 f13 f15 f16 f17 f20 f21 f22 f23 f26 f28 f31 f32 f33 f38 f41 f44 x14 k15_6 k16_7 k17_8 k18_9 k19_10 k20_11 k21_12 k22_13 g23 g24 g25 g26 g27 g28 g29 g30 g31 g32 g33 g34 g35 g36 g37 g38 g39 g40 g41 g42 g43 g44 t), 0, 0))
  iterate 2 refine hR (?_ : R (_, _, _, _, _, _))
  refine hR (?_ : R (_, _, _, (zMi c0 c1 c2 c3 c4 c5 c6 c7 c8 c9 c10 c11 c12 c13 0 f9 f10 f11 f12 f13 f15 f16 f17 f20 ((-1)) f22 f23 f26 f28 f31 f32 f33 f38 f41 f44 x14 k15_6 k16_7 k17_8 k18_9 k19_10 k20_11 k21_12 k22_13 g23 g24 g25 g26 g27 g28 g29 g30 g31 g32 g33 g34 g35 g36 g37 g38 g39 g40 g41 g42 g43 g44 t), _, _))
  refine hR (?_ : R (_, _, _, _, _, _))
  exact hR (zret_i rfl (Nat.le_refl _) (zbo (by omega)) (h _ _ _ _ _ _ _ _ _ _ _ (by omega) (Or.inr ⟨rfl, hp14⟩) (Or.inr ⟨rfl, hp15⟩) (Or.inr ⟨rfl, hp16⟩) (Or.inr ⟨rfl, hp17⟩) (Or.inr ⟨rfl, hp18⟩) (Or.inr ⟨rfl, hp19⟩) (Or.inr ⟨rfl, hp20⟩)))
end MZ
noncomputable def seeV (g : Nat → Int32) (p l : Int) : Int := if p < l then (g p.toNat &&& Int32.ofInt 255).toInt else -1
theorem see_n {g : Nat → Int32} {p l : Int} (h : l ≤ p) : -1 = seeV g p l := by
  unfold seeV; rw [if_neg (by omega)]
theorem see_v {g : Nat → Int32} {p l x v : Int} (h : p < l) (e : x = (g p.toNat).toInt) (q : Int32.ofInt x &&& Int32.ofInt 255 = Int32.ofInt v) (hv : 0 ≤ v ∧ v ≤ 255) : v = seeV g p l := by
  unfold seeV
  rw [if_pos h]
  rw [e, zoi] at q
  rw [q, zti (by omega) (by omega)]
theorem t_stV {R : zS → Prop} {np : Nat} {L : zL} {S : List Value} {w : zW} {k n : Nat} {q ti : Nat} {i e : Int} {len : Nat} {g : Nat → Int32} (m : Nat) (hm : i.toNat = m) (he1 : -2147483648 ≤ e) (he2 : e ≤ 2147483647) (h0 : 0 ≤ i) (h1 : i < len) (hl : len ≤ 60000) (h : ∀ g' : Nat → Int32, (g' m).toInt = e → (∀ j, j ≠ m → g' j = g j) → R (np, L, S, zst w q (.inl (ti, len, .inl g')), k, n)) : vp_in (Int32.ofInt i) len ∧ R (np, L, S, zst w q (.inl (ti, len, .inl (upd g (Int32.ofInt i).toNatClampNeg (Int32.ofInt e)))), k, n) := by
  refine ⟨zvin h0 h1 hl, ?_⟩
  rw [zcl h0 (by omega), hm]
  exact h _ (by rw [pk_us]; exact zti he1 he2) (fun j hj => pk_un hj)
theorem tt_s {f16 fg w n : Int} (_h : f16 = 0) (h : fg < 4 ^ n.toNat) (hn : 0 ≤ n ∧ 0 ≤ w) (hw : w ≤ 3) : f16 = 0 ∧ 4 * fg + w < 4 ^ (n + 1).toNat := ⟨_h, zp4_s hn.1 h hw⟩
theorem tt_b {fg w n : Int} (hn : 0 ≤ n) (h : fg ≤ 33 * (4 ^ n.toNat - 1)) (hw : w ≤ 99) : 4 * fg + w ≤ 33 * (4 ^ (n + 1).toNat - 1) := by
  rw [show (n + 1).toNat = n.toNat + 1 by omega, Int.pow_succ]
  omega
section MZ
variable {c0 c1 c2 c3 c4 c5 c6 c7 c8 c9 c10 c11 c12 c13 : va_E} {f0 f9 f10 f11 f12 f13 f15 f16 f17 f20 f21 f22 f23 f26 f28 f31 f32 f33 f38 f41 f44 : Int} {x14 : Int64} {g15 g16 g17 g18 g19 g20 g21 g22 g23 g24 g25 g26 g27 g28 g29 g30 g31 g32 g33 g34 g35 g36 g37 g38 g39 g40 g41 g42 g43 g44 : Nat → Int32} {t : zW}
theorem m_see (d : Nat) (hr0 : 0 ≤ f9 ∧ f9 ≤ f10 ∧ f10 ≤ 600) (Q : zQ) (h : ∀ (v : Int), ((v = -1 ∧ f10 ≤ f9) ∨ (0 ≤ v ∧ v ≤ 255 ∧ f9 < f10)) → (v = seeV g15 f9 f10) → Q (some (.int (Int32.ofInt v))) (zMi c0 c1 c2 c3 c4 c5 c6 c7 c8 c9 c10 c11 c12 c13 f0 f9 f10 f11 f12 f13 f15 f16 f17 f20 f21 f22 f23 f26 f28 f31 f32 f33 f38 f41 f44 x14 g15 g16 g17 g18 g19 g20 g21 g22 g23 g24 g25 g26 g27 g28 g29 g30 g31 g32 g33 g34 g35 g36 g37 g38 g39 g40 g41 g42 g43 g44 t)) : zCl zTab (d + 1) iX12_see [.ref 14] (zMi c0 c1 c2 c3 c4 c5 c6 c7 c8 c9 c10 c11 c12 c13 f0 f9 f10 f11 f12 f13 f15 f16 f17 f20 f21 f22 f23 f26 f28 f31 f32 f33 f38 f41 f44 x14 g15 g16 g17 g18 g19 g20 g21 g22 g23 g24 g25 g26 g27 g28 g29 g30 g31 g32 g33 g34 g35 g36 g37 g38 g39 g40 g41 g42 g43 g44 t) 0 0 Q := by
  refine zCl_i (M := kX12_see) rfl (Nat.le_of_ble_eq_true rfl) fun R hR => ?_
  iterate 4 refine hR (?_ : R (_, _, _, _, _, _))
  refine hR (j_ge (by omega) (by omega) (fun hc1 => ?_) (fun hc1 => ?_))
  · skip
    refine hR (?_ : R (_, _, _, _, _, _))
    exact hR (zret_i rfl (Nat.le_refl _) trivial (h _ (by omega) (see_n (by omega))))
  iterate 4 refine hR (?_ : R (_, _, _, _, _, _))
  refine hR (t_ldE (by omega) (by omega) (Nat.le_of_ble_eq_true rfl) fun v2 ev2 rv2 => ?_)
  refine hR (t_c 255 (by decide) ?_)
  obtain ⟨v3, lv3, uv3, qv3⟩ := zand_r (Int32.ofInt v2) (m := Int32.ofInt 255) 8 (by decide) (by decide)
  refine hR (t_c v3 qv3 ?_)
  refine hR (?_ : R (_, _, _, _, _, _))
  exact hR (zret_i rfl (Nat.le_refl _) trivial (h _ (by omega) (see_v (by omega) ev2 qv3 (by omega))))
theorem m_token (d : Nat) (hr0 : 0 ≤ f9 ∧ f9 ≤ f10 ∧ f10 ≤ 600) (Q : zQ) (h : ∀ (y9 : Int) (y11 : Int) (y12 : Int) (y13 : Int) (y14 : Int64), (f9 ≤ y9 ∧ y9 ≤ f10) → (0 ≤ y12 ∧ y12 ≤ 4) → (y12 = 3 → 0 ≤ y13 ∧ y13 ≤ 99) → (y12 = 0 ∨ f9 < y9) → Q (none) (zMi c0 c1 c2 c3 c4 c5 c6 c7 c8 c9 c10 c11 c12 c13 f0 y9 f10 y11 y12 y13 f15 f16 f17 f20 f21 f22 f23 f26 f28 f31 f32 f33 f38 f41 f44 y14 g15 g16 g17 g18 g19 g20 g21 g22 g23 g24 g25 g26 g27 g28 g29 g30 g31 g32 g33 g34 g35 g36 g37 g38 g39 g40 g41 g42 g43 g44 t)) : zCl zTab (d + 2) iX12_token [.ref 14] (zMi c0 c1 c2 c3 c4 c5 c6 c7 c8 c9 c10 c11 c12 c13 f0 f9 f10 f11 f12 f13 f15 f16 f17 f20 f21 f22 f23 f26 f28 f31 f32 f33 f38 f41 f44 x14 g15 g16 g17 g18 g19 g20 g21 g22 g23 g24 g25 g26 g27 g28 g29 g30 g31 g32 g33 g34 g35 g36 g37 g38 g39 g40 g41 g42 g43 g44 t) 0 0 Q := by
  refine zCl_i (M := kX12_token) rfl (Nat.le_of_ble_eq_true rfl) fun R hR => ?_
  have lp0 : ∀ (N : Nat) (e9_0 : Int), (f9 ≤ e9_0 ∧ e9_0 ≤ f10) → (f10 - e9_0 < N) → R (0, [some (.ref 14), none, none], [], (zMi c0 c1 c2 c3 c4 c5 c6 c7 c8 c9 c10 c11 c12 c13 f0 e9_0 f10 f11 f12 f13 f15 f16 f17 f20 f21 f22 f23 f26 f28 f31 f32 f33 f38 f41 f44 x14 g15 g16 g17 g18 g19 g20 g21 g22 g23 g24 g25 g26 g27 g28 g29 g30 g31 g32 g33 g34 g35 g36 g37 g38 g39 g40 g41 g42 g43 g44 t), 0, 0) := by
    intro N
    induction N with
    | zero => intros; omega
    | succ N ih0 =>
      intro e9_0 hp0_0 hN0
      refine hR (?_ : R (_, _, _, _, _, _))
      refine hR (zcall_i 0 0 (Nat.le_of_ble_eq_true rfl) (Nat.le_of_ble_eq_true rfl) (m_see _ (by omega) _ fun v1 hp2 hp3 => ?_))
      refine (?_ : R (_, _, (.int (Int32.ofInt v1)) :: [], (zMi c0 c1 c2 c3 c4 c5 c6 c7 c8 c9 c10 c11 c12 c13 f0 e9_0 f10 f11 f12 f13 f15 f16 f17 f20 f21 f22 f23 f26 f28 f31 f32 f33 f38 f41 f44 x14 g15 g16 g17 g18 g19 g20 g21 g22 g23 g24 g25 g26 g27 g28 g29 g30 g31 g32 g33 g34 g35 g36 g37 g38 g39 g40 g41 g42 g43 g44 t), 0, 0))
      refine hR (t_c 10 (by decide) ?_)
      refine hR (j_eq (by omega) (by omega) (fun hc4 => ?_) (fun hc4 => ?_))
      · skip
        iterate 4 refine hR (?_ : R (_, _, _, _, _, _))
        refine hR (t_add ?_)
        refine hR (?_ : R (_, _, _, (zMi c0 c1 c2 c3 c4 c5 c6 c7 c8 c9 c10 c11 c12 c13 f0 (e9_0 + 1) f10 f11 f12 f13 f15 f16 f17 f20 f21 f22 f23 f26 f28 f31 f32 f33 f38 f41 f44 x14 g15 g16 g17 g18 g19 g20 g21 g22 g23 g24 g25 g26 g27 g28 g29 g30 g31 g32 g33 g34 g35 g36 g37 g38 g39 g40 g41 g42 g43 g44 t), _, _))
        refine hR (?_ : R (_, _, _, _, _, _))
        exact ih0 _ (by omega) (by omega)
      refine hR (?_ : R (_, _, _, _, _, _))
      refine hR (zcall_i 0 0 (Nat.le_of_ble_eq_true rfl) (Nat.le_of_ble_eq_true rfl) (m_see _ (by omega) _ fun v5 hp6 hp7 => ?_))
      refine (?_ : R (_, _, (.int (Int32.ofInt v5)) :: [], (zMi c0 c1 c2 c3 c4 c5 c6 c7 c8 c9 c10 c11 c12 c13 f0 e9_0 f10 f11 f12 f13 f15 f16 f17 f20 f21 f22 f23 f26 f28 f31 f32 f33 f38 f41 f44 x14 g15 g16 g17 g18 g19 g20 g21 g22 g23 g24 g25 g26 g27 g28 g29 g30 g31 g32 g33 g34 g35 g36 g37 g38 g39 g40 g41 g42 g43 g44 t), 0, 0))
      refine hR (t_c 32 (by decide) ?_)
      refine hR (j_ne (by omega) (by omega) (fun hc8 => ?_) (fun hc8 => ?_))
      rotate_left
      · skip
        iterate 4 refine hR (?_ : R (_, _, _, _, _, _))
        refine hR (t_add ?_)
        refine hR (?_ : R (_, _, _, (zMi c0 c1 c2 c3 c4 c5 c6 c7 c8 c9 c10 c11 c12 c13 f0 (e9_0 + 1) f10 f11 f12 f13 f15 f16 f17 f20 f21 f22 f23 f26 f28 f31 f32 f33 f38 f41 f44 x14 g15 g16 g17 g18 g19 g20 g21 g22 g23 g24 g25 g26 g27 g28 g29 g30 g31 g32 g33 g34 g35 g36 g37 g38 g39 g40 g41 g42 g43 g44 t), _, _))
        refine hR (?_ : R (_, _, _, _, _, _))
        exact ih0 _ (by omega) (by omega)
      iterate 3 refine hR (?_ : R (_, _, _, _, _, _))
      refine hR (?_ : R (_, _, _, (zMi c0 c1 c2 c3 c4 c5 c6 c7 c8 c9 c10 c11 c12 c13 f0 e9_0 f10 e9_0 f12 f13 f15 f16 f17 f20 f21 f22 f23 f26 f28 f31 f32 f33 f38 f41 f44 x14 g15 g16 g17 g18 g19 g20 g21 g22 g23 g24 g25 g26 g27 g28 g29 g30 g31 g32 g33 g34 g35 g36 g37 g38 g39 g40 g41 g42 g43 g44 t), _, _))
      refine hR (?_ : R (_, _, _, _, _, _))
      refine hR (zcall_i 0 0 (Nat.le_of_ble_eq_true rfl) (Nat.le_of_ble_eq_true rfl) (m_see _ (by omega) _ fun v9 hp10 hp11 => ?_))
      refine (?_ : R (_, _, (.int (Int32.ofInt v9)) :: [], (zMi c0 c1 c2 c3 c4 c5 c6 c7 c8 c9 c10 c11 c12 c13 f0 e9_0 f10 e9_0 f12 f13 f15 f16 f17 f20 f21 f22 f23 f26 f28 f31 f32 f33 f38 f41 f44 x14 g15 g16 g17 g18 g19 g20 g21 g22 g23 g24 g25 g26 g27 g28 g29 g30 g31 g32 g33 g34 g35 g36 g37 g38 g39 g40 g41 g42 g43 g44 t), 0, 0))
      iterate 3 refine hR (?_ : R (_, _, _, _, _, _))
      refine hR (?_ : R (_, _, _, (zMi c0 c1 c2 c3 c4 c5 c6 c7 c8 c9 c10 c11 c12 c13 f0 e9_0 f10 e9_0 f12 f13 f15 f16 f17 f20 f21 f22 f23 f26 f28 f31 f32 f33 f38 f41 f44 (Int64.ofNat 0) g15 g16 g17 g18 g19 g20 g21 g22 g23 g24 g25 g26 g27 g28 g29 g30 g31 g32 g33 g34 g35 g36 g37 g38 g39 g40 g41 g42 g43 g44 t), _, _))
      iterate 3 refine hR (?_ : R (_, _, _, _, _, _))
      refine hR (k_ge (by omega) (fun hc12 => ?_) (fun hc12 => ?_))
      rotate_left
      · skip
        iterate 2 refine hR (?_ : R (_, _, _, _, _, _))
        refine hR (?_ : R (_, _, _, (zMi c0 c1 c2 c3 c4 c5 c6 c7 c8 c9 c10 c11 c12 c13 f0 e9_0 f10 e9_0 0 f13 f15 f16 f17 f20 f21 f22 f23 f26 f28 f31 f32 f33 f38 f41 f44 (Int64.ofNat 0) g15 g16 g17 g18 g19 g20 g21 g22 g23 g24 g25 g26 g27 g28 g29 g30 g31 g32 g33 g34 g35 g36 g37 g38 g39 g40 g41 g42 g43 g44 t), _, _))
        refine hR (?_ : R (_, _, _, _, _, _))
        exact hR (zret_i rfl (Nat.le_refl _) rfl (h _ _ _ _ _ (by omega) (by omega) (by omega) (by omega)))
      refine hR (?_ : R (_, _, _, _, _, _))
      refine hR (t_c 97 (by decide) ?_)
      refine hR (t_c 122 (by decide) ?_)
      refine hR (zcall_i 0 0 (Nat.le_of_ble_eq_true rfl) (Nat.le_of_ble_eq_true rfl) (m_in _ v9 97 122 _ (by omega) (by omega) (by omega) _ fun v13 hp14 => ?_))
      refine (?_ : R (_, _, (.int (Int32.ofInt v13)) :: [], (zMi c0 c1 c2 c3 c4 c5 c6 c7 c8 c9 c10 c11 c12 c13 f0 e9_0 f10 e9_0 f12 f13 f15 f16 f17 f20 f21 f22 f23 f26 f28 f31 f32 f33 f38 f41 f44 (Int64.ofNat 0) g15 g16 g17 g18 g19 g20 g21 g22 g23 g24 g25 g26 g27 g28 g29 g30 g31 g32 g33 g34 g35 g36 g37 g38 g39 g40 g41 g42 g43 g44 t), 0, 0))
      refine hR (k_eq (by omega) (fun hc15 => ?_) (fun hc15 => ?_))
      rotate_left
      · skip
        have lp74 : ∀ (N : Nat) (n : Int) (e9_74 : Int) (e14_74 : Int64), (0 ≤ n ∧ n ≤ 600) → (e9_0 ≤ e9_74 ∧ e9_74 ≤ f10 ∧ n ≤ e9_74) → (e9_74 = e9_0 → seeV g15 e9_74 f10 = v9) → (f10 - e9_74 < N) → R (74, [some (.ref 14), some (.int (Int32.ofInt v9)), some (.int (Int32.ofInt n))], [], (zMi c0 c1 c2 c3 c4 c5 c6 c7 c8 c9 c10 c11 c12 c13 f0 e9_74 f10 e9_0 f12 f13 f15 f16 f17 f20 f21 f22 f23 f26 f28 f31 f32 f33 f38 f41 f44 e14_74 g15 g16 g17 g18 g19 g20 g21 g22 g23 g24 g25 g26 g27 g28 g29 g30 g31 g32 g33 g34 g35 g36 g37 g38 g39 g40 g41 g42 g43 g44 t), 0, 0) := by
          intro N
          induction N with
          | zero => intros; omega
          | succ N ih74 =>
            intro n e9_74 e14_74 hf0_74 hp0_74 hp1_74 hN74
            refine hR (?_ : R (_, _, _, _, _, _))
            refine hR (zcall_i 0 0 (Nat.le_of_ble_eq_true rfl) (Nat.le_of_ble_eq_true rfl) (m_see _ (by omega) _ fun v31 hp32 hp33 => ?_))
            refine (?_ : R (_, _, (.int (Int32.ofInt v31)) :: [], (zMi c0 c1 c2 c3 c4 c5 c6 c7 c8 c9 c10 c11 c12 c13 f0 e9_74 f10 e9_0 f12 f13 f15 f16 f17 f20 f21 f22 f23 f26 f28 f31 f32 f33 f38 f41 f44 e14_74 g15 g16 g17 g18 g19 g20 g21 g22 g23 g24 g25 g26 g27 g28 g29 g30 g31 g32 g33 g34 g35 g36 g37 g38 g39 g40 g41 g42 g43 g44 t), 0, 0))
            refine hR (t_c 97 (by decide) ?_)
            refine hR (t_c 122 (by decide) ?_)
            refine hR (zcall_i 0 0 (Nat.le_of_ble_eq_true rfl) (Nat.le_of_ble_eq_true rfl) (m_in _ v31 97 122 _ (by omega) (by omega) (by omega) _ fun v34 hp35 => ?_))
            refine (?_ : R (_, _, (.int (Int32.ofInt v34)) :: [], (zMi c0 c1 c2 c3 c4 c5 c6 c7 c8 c9 c10 c11 c12 c13 f0 e9_74 f10 e9_0 f12 f13 f15 f16 f17 f20 f21 f22 f23 f26 f28 f31 f32 f33 f38 f41 f44 e14_74 g15 g16 g17 g18 g19 g20 g21 g22 g23 g24 g25 g26 g27 g28 g29 g30 g31 g32 g33 g34 g35 g36 g37 g38 g39 g40 g41 g42 g43 g44 t), 0, 0))
            refine hR (k_eq (by omega) (fun hc36 => ?_) (fun hc36 => ?_))
            rotate_left
            · skip
              iterate 3 refine hR (?_ : R (_, _, _, _, _, _))
              refine hR (t_c 8 (by decide) ?_)
              refine hR (t_xl fun w38 => ?_)
              refine hR (?_ : R (_, _, _, _, _, _))
              refine hR (zcall_i 0 0 (Nat.le_of_ble_eq_true rfl) (Nat.le_of_ble_eq_true rfl) (m_see _ (by omega) _ fun v39 hp40 hp41 => ?_))
              refine (?_ : R (_, _, (.int (Int32.ofInt v39)) :: (.long w38) :: (.ref 14) :: [], (zMi c0 c1 c2 c3 c4 c5 c6 c7 c8 c9 c10 c11 c12 c13 f0 e9_74 f10 e9_0 f12 f13 f15 f16 f17 f20 f21 f22 f23 f26 f28 f31 f32 f33 f38 f41 f44 e14_74 g15 g16 g17 g18 g19 g20 g21 g22 g23 g24 g25 g26 g27 g28 g29 g30 g31 g32 g33 g34 g35 g36 g37 g38 g39 g40 g41 g42 g43 g44 t), 0, 0))
              refine hR (t_xl fun w42 => ?_)
              refine hR (t_xl fun w43 => ?_)
              refine hR (?_ : R (_, _, _, (zMi c0 c1 c2 c3 c4 c5 c6 c7 c8 c9 c10 c11 c12 c13 f0 e9_74 f10 e9_0 f12 f13 f15 f16 f17 f20 f21 f22 f23 f26 f28 f31 f32 f33 f38 f41 f44 w43 g15 g16 g17 g18 g19 g20 g21 g22 g23 g24 g25 g26 g27 g28 g29 g30 g31 g32 g33 g34 g35 g36 g37 g38 g39 g40 g41 g42 g43 g44 t), _, _))
              iterate 4 refine hR (?_ : R (_, _, _, _, _, _))
              refine hR (t_add ?_)
              refine hR (?_ : R (_, _, _, (zMi c0 c1 c2 c3 c4 c5 c6 c7 c8 c9 c10 c11 c12 c13 f0 (e9_74 + 1) f10 e9_0 f12 f13 f15 f16 f17 f20 f21 f22 f23 f26 f28 f31 f32 f33 f38 f41 f44 w43 g15 g16 g17 g18 g19 g20 g21 g22 g23 g24 g25 g26 g27 g28 g29 g30 g31 g32 g33 g34 g35 g36 g37 g38 g39 g40 g41 g42 g43 g44 t), _, _))
              refine hR (t_inc ?_)
              refine hR (?_ : R (_, _, _, _, _, _))
              exact ih74 _ _ _ (by omega) (by omega) (by omega) (by omega)
            iterate 2 refine hR (?_ : R (_, _, _, _, _, _))
            refine hR (t_c 8 (by decide) ?_)
            refine hR (j_le (by omega) (by omega) (fun hc37 => ?_) (fun hc37 => ?_))
            · skip
              iterate 2 refine hR (?_ : R (_, _, _, _, _, _))
              refine hR (?_ : R (_, _, _, (zMi c0 c1 c2 c3 c4 c5 c6 c7 c8 c9 c10 c11 c12 c13 f0 e9_74 f10 e9_0 f12 f13 f15 f16 f17 f20 f21 f22 f23 f26 f28 f31 f32 f33 f38 f41 f44 e14_74 g15 g16 g17 g18 g19 g20 g21 g22 g23 g24 g25 g26 g27 g28 g29 g30 g31 g32 g33 g34 g35 g36 g37 g38 g39 g40 g41 g42 g43 g44 t), _, _))
              iterate 2 refine hR (?_ : R (_, _, _, _, _, _))
              refine hR (?_ : R (_, _, _, (zMi c0 c1 c2 c3 c4 c5 c6 c7 c8 c9 c10 c11 c12 c13 f0 e9_74 f10 e9_0 2 f13 f15 f16 f17 f20 f21 f22 f23 f26 f28 f31 f32 f33 f38 f41 f44 e14_74 g15 g16 g17 g18 g19 g20 g21 g22 g23 g24 g25 g26 g27 g28 g29 g30 g31 g32 g33 g34 g35 g36 g37 g38 g39 g40 g41 g42 g43 g44 t), _, _))
              refine hR (?_ : R (_, _, _, _, _, _))
              exact hR (zret_i rfl (Nat.le_refl _) rfl (h _ _ _ _ _ (by omega) (by omega) (by omega) (by omega)))
            iterate 2 refine hR (?_ : R (_, _, _, _, _, _))
            refine hR (?_ : R (_, _, _, (zMi c0 c1 c2 c3 c4 c5 c6 c7 c8 c9 c10 c11 c12 c13 f0 e9_74 f10 e9_0 f12 f13 f15 f16 f17 f20 f21 f22 f23 f26 f28 f31 f32 f33 f38 f41 f44 (Int64.ofNat 0) g15 g16 g17 g18 g19 g20 g21 g22 g23 g24 g25 g26 g27 g28 g29 g30 g31 g32 g33 g34 g35 g36 g37 g38 g39 g40 g41 g42 g43 g44 t), _, _))
            iterate 2 refine hR (?_ : R (_, _, _, _, _, _))
            refine hR (?_ : R (_, _, _, (zMi c0 c1 c2 c3 c4 c5 c6 c7 c8 c9 c10 c11 c12 c13 f0 e9_74 f10 e9_0 2 f13 f15 f16 f17 f20 f21 f22 f23 f26 f28 f31 f32 f33 f38 f41 f44 (Int64.ofNat 0) g15 g16 g17 g18 g19 g20 g21 g22 g23 g24 g25 g26 g27 g28 g29 g30 g31 g32 g33 g34 g35 g36 g37 g38 g39 g40 g41 g42 g43 g44 t), _, _))
            refine hR (?_ : R (_, _, _, _, _, _))
            exact hR (zret_i rfl (Nat.le_refl _) rfl (h _ _ _ _ _ (by omega) (by omega) (by omega) (by omega)))
        exact lp74 400000000 _ _ _ (by omega) (by omega) (by omega) (by omega)
      refine hR (?_ : R (_, _, _, _, _, _))
      refine hR (t_c 48 (by decide) ?_)
      refine hR (t_c 57 (by decide) ?_)
      refine hR (zcall_i 0 0 (Nat.le_of_ble_eq_true rfl) (Nat.le_of_ble_eq_true rfl) (m_in _ v9 48 57 _ (by omega) (by omega) (by omega) _ fun v16 hp17 => ?_))
      refine (?_ : R (_, _, (.int (Int32.ofInt v16)) :: [], (zMi c0 c1 c2 c3 c4 c5 c6 c7 c8 c9 c10 c11 c12 c13 f0 e9_0 f10 e9_0 f12 f13 f15 f16 f17 f20 f21 f22 f23 f26 f28 f31 f32 f33 f38 f41 f44 (Int64.ofNat 0) g15 g16 g17 g18 g19 g20 g21 g22 g23 g24 g25 g26 g27 g28 g29 g30 g31 g32 g33 g34 g35 g36 g37 g38 g39 g40 g41 g42 g43 g44 t), 0, 0))
      refine hR (k_eq (by omega) (fun hc18 => ?_) (fun hc18 => ?_))
      · skip
        iterate 4 refine hR (?_ : R (_, _, _, _, _, _))
        refine hR (t_add ?_)
        refine hR (?_ : R (_, _, _, (zMi c0 c1 c2 c3 c4 c5 c6 c7 c8 c9 c10 c11 c12 c13 f0 (e9_0 + 1) f10 e9_0 f12 f13 f15 f16 f17 f20 f21 f22 f23 f26 f28 f31 f32 f33 f38 f41 f44 (Int64.ofNat 0) g15 g16 g17 g18 g19 g20 g21 g22 g23 g24 g25 g26 g27 g28 g29 g30 g31 g32 g33 g34 g35 g36 g37 g38 g39 g40 g41 g42 g43 g44 t), _, _))
        iterate 2 refine hR (?_ : R (_, _, _, _, _, _))
        refine hR (t_c 59 (by decide) ?_)
        refine hR (j_ne (by omega) (by omega) (fun hc19 => ?_) (fun hc19 => ?_))
        · skip
          refine hR (?_ : R (_, _, _, _, _, _))
          refine hR (?_ : R (_, _, _, (zMi c0 c1 c2 c3 c4 c5 c6 c7 c8 c9 c10 c11 c12 c13 f0 (e9_0 + 1) f10 e9_0 1 f13 f15 f16 f17 f20 f21 f22 f23 f26 f28 f31 f32 f33 f38 f41 f44 (Int64.ofNat 0) g15 g16 g17 g18 g19 g20 g21 g22 g23 g24 g25 g26 g27 g28 g29 g30 g31 g32 g33 g34 g35 g36 g37 g38 g39 g40 g41 g42 g43 g44 t), _, _))
          exact hR (zret_i rfl (Nat.le_refl _) rfl (h _ _ _ _ _ (by omega) (by omega) (by omega) (by omega)))
        iterate 2 refine hR (?_ : R (_, _, _, _, _, _))
        refine hR (?_ : R (_, _, _, (zMi c0 c1 c2 c3 c4 c5 c6 c7 c8 c9 c10 c11 c12 c13 f0 (e9_0 + 1) f10 e9_0 4 f13 f15 f16 f17 f20 f21 f22 f23 f26 f28 f31 f32 f33 f38 f41 f44 (Int64.ofNat 0) g15 g16 g17 g18 g19 g20 g21 g22 g23 g24 g25 g26 g27 g28 g29 g30 g31 g32 g33 g34 g35 g36 g37 g38 g39 g40 g41 g42 g43 g44 t), _, _))
        exact hR (zret_i rfl (Nat.le_refl _) rfl (h _ _ _ _ _ (by omega) (by omega) (by omega) (by omega)))
      iterate 2 refine hR (?_ : R (_, _, _, _, _, _))
      refine hR (?_ : R (_, _, _, (zMi c0 c1 c2 c3 c4 c5 c6 c7 c8 c9 c10 c11 c12 c13 f0 e9_0 f10 e9_0 f12 0 f15 f16 f17 f20 f21 f22 f23 f26 f28 f31 f32 f33 f38 f41 f44 (Int64.ofNat 0) g15 g16 g17 g18 g19 g20 g21 g22 g23 g24 g25 g26 g27 g28 g29 g30 g31 g32 g33 g34 g35 g36 g37 g38 g39 g40 g41 g42 g43 g44 t), _, _))
      have lp163 : ∀ (N : Nat) (n : Int) (e9_163 : Int) (e13_163 : Int), (0 ≤ n ∧ n ≤ 600) → (e9_0 ≤ e9_163 ∧ e9_163 ≤ f10 ∧ n ≤ e9_163) → (e9_163 = e9_0 → seeV g15 e9_163 f10 = v9) → (0 ≤ e13_163 ∧ e13_163 ≤ 99 ∧ (n = 0 → e13_163 = 0) ∧ (n = 1 → e13_163 ≤ 9)) → (f10 - e9_163 < N) → R (163, [some (.ref 14), some (.int (Int32.ofInt v9)), some (.int (Int32.ofInt n))], [], (zMi c0 c1 c2 c3 c4 c5 c6 c7 c8 c9 c10 c11 c12 c13 f0 e9_163 f10 e9_0 f12 e13_163 f15 f16 f17 f20 f21 f22 f23 f26 f28 f31 f32 f33 f38 f41 f44 (Int64.ofNat 0) g15 g16 g17 g18 g19 g20 g21 g22 g23 g24 g25 g26 g27 g28 g29 g30 g31 g32 g33 g34 g35 g36 g37 g38 g39 g40 g41 g42 g43 g44 t), 0, 0) := by
        intro N
        induction N with
        | zero => intros; omega
        | succ N ih163 =>
          intro n e9_163 e13_163 hf0_163 hp0_163 hp1_163 hp2_163 hN163
          refine hR (?_ : R (_, _, _, _, _, _))
          refine hR (zcall_i 0 0 (Nat.le_of_ble_eq_true rfl) (Nat.le_of_ble_eq_true rfl) (m_see _ (by omega) _ fun v20 hp21 hp22 => ?_))
          refine (?_ : R (_, _, (.int (Int32.ofInt v20)) :: [], (zMi c0 c1 c2 c3 c4 c5 c6 c7 c8 c9 c10 c11 c12 c13 f0 e9_163 f10 e9_0 f12 e13_163 f15 f16 f17 f20 f21 f22 f23 f26 f28 f31 f32 f33 f38 f41 f44 (Int64.ofNat 0) g15 g16 g17 g18 g19 g20 g21 g22 g23 g24 g25 g26 g27 g28 g29 g30 g31 g32 g33 g34 g35 g36 g37 g38 g39 g40 g41 g42 g43 g44 t), 0, 0))
          refine hR (t_c 48 (by decide) ?_)
          refine hR (t_c 57 (by decide) ?_)
          refine hR (zcall_i 0 0 (Nat.le_of_ble_eq_true rfl) (Nat.le_of_ble_eq_true rfl) (m_in _ v20 48 57 _ (by omega) (by omega) (by omega) _ fun v23 hp24 => ?_))
          refine (?_ : R (_, _, (.int (Int32.ofInt v23)) :: [], (zMi c0 c1 c2 c3 c4 c5 c6 c7 c8 c9 c10 c11 c12 c13 f0 e9_163 f10 e9_0 f12 e13_163 f15 f16 f17 f20 f21 f22 f23 f26 f28 f31 f32 f33 f38 f41 f44 (Int64.ofNat 0) g15 g16 g17 g18 g19 g20 g21 g22 g23 g24 g25 g26 g27 g28 g29 g30 g31 g32 g33 g34 g35 g36 g37 g38 g39 g40 g41 g42 g43 g44 t), 0, 0))
          refine hR (k_eq (by omega) (fun hc25 => ?_) (fun hc25 => ?_))
          · skip
            iterate 3 refine hR (?_ : R (_, _, _, _, _, _))
            refine hR (j_le (by omega) (by omega) (fun hc26 => ?_) (fun hc26 => ?_))
            · skip
              refine hR (?_ : R (_, _, _, _, _, _))
              refine hR (?_ : R (_, _, _, (zMi c0 c1 c2 c3 c4 c5 c6 c7 c8 c9 c10 c11 c12 c13 f0 e9_163 f10 e9_0 3 e13_163 f15 f16 f17 f20 f21 f22 f23 f26 f28 f31 f32 f33 f38 f41 f44 (Int64.ofNat 0) g15 g16 g17 g18 g19 g20 g21 g22 g23 g24 g25 g26 g27 g28 g29 g30 g31 g32 g33 g34 g35 g36 g37 g38 g39 g40 g41 g42 g43 g44 t), _, _))
              refine hR (?_ : R (_, _, _, _, _, _))
              exact hR (zret_i rfl (Nat.le_refl _) rfl (h _ _ _ _ _ (by omega) (by omega) (by omega) (by omega)))
            iterate 2 refine hR (?_ : R (_, _, _, _, _, _))
            refine hR (?_ : R (_, _, _, (zMi c0 c1 c2 c3 c4 c5 c6 c7 c8 c9 c10 c11 c12 c13 f0 e9_163 f10 e9_0 1 e13_163 f15 f16 f17 f20 f21 f22 f23 f26 f28 f31 f32 f33 f38 f41 f44 (Int64.ofNat 0) g15 g16 g17 g18 g19 g20 g21 g22 g23 g24 g25 g26 g27 g28 g29 g30 g31 g32 g33 g34 g35 g36 g37 g38 g39 g40 g41 g42 g43 g44 t), _, _))
            refine hR (?_ : R (_, _, _, _, _, _))
            exact hR (zret_i rfl (Nat.le_refl _) rfl (h _ _ _ _ _ (by omega) (by omega) (by omega) (by omega)))
          iterate 3 refine hR (?_ : R (_, _, _, _, _, _))
          refine hR (j_ge (by omega) (by omega) (fun hc27 => ?_) (fun hc27 => ?_))
          · skip
            iterate 2 refine hR (?_ : R (_, _, _, _, _, _))
            refine hR (?_ : R (_, _, _, (zMi c0 c1 c2 c3 c4 c5 c6 c7 c8 c9 c10 c11 c12 c13 f0 e9_163 f10 e9_0 f12 e13_163 f15 f16 f17 f20 f21 f22 f23 f26 f28 f31 f32 f33 f38 f41 f44 (Int64.ofNat 0) g15 g16 g17 g18 g19 g20 g21 g22 g23 g24 g25 g26 g27 g28 g29 g30 g31 g32 g33 g34 g35 g36 g37 g38 g39 g40 g41 g42 g43 g44 t), _, _))
            iterate 4 refine hR (?_ : R (_, _, _, _, _, _))
            refine hR (t_add ?_)
            refine hR (?_ : R (_, _, _, (zMi c0 c1 c2 c3 c4 c5 c6 c7 c8 c9 c10 c11 c12 c13 f0 (e9_163 + 1) f10 e9_0 f12 e13_163 f15 f16 f17 f20 f21 f22 f23 f26 f28 f31 f32 f33 f38 f41 f44 (Int64.ofNat 0) g15 g16 g17 g18 g19 g20 g21 g22 g23 g24 g25 g26 g27 g28 g29 g30 g31 g32 g33 g34 g35 g36 g37 g38 g39 g40 g41 g42 g43 g44 t), _, _))
            refine hR (t_inc ?_)
            refine hR (?_ : R (_, _, _, _, _, _))
            exact ih163 _ _ _ (by omega) (by omega) (by omega) (by omega) (by omega)
          refine hR (t_c 10 (by decide) ?_)
          iterate 2 refine hR (?_ : R (_, _, _, _, _, _))
          refine hR (t_mul ?_)
          refine hR (?_ : R (_, _, _, _, _, _))
          refine hR (zcall_i 0 0 (Nat.le_of_ble_eq_true rfl) (Nat.le_of_ble_eq_true rfl) (m_see _ (by omega) _ fun v28 hp29 hp30 => ?_))
          refine (?_ : R (_, _, (.int (Int32.ofInt v28)) :: (.int (Int32.ofInt (10 * e13_163))) :: (.ref 14) :: [], (zMi c0 c1 c2 c3 c4 c5 c6 c7 c8 c9 c10 c11 c12 c13 f0 e9_163 f10 e9_0 f12 e13_163 f15 f16 f17 f20 f21 f22 f23 f26 f28 f31 f32 f33 f38 f41 f44 (Int64.ofNat 0) g15 g16 g17 g18 g19 g20 g21 g22 g23 g24 g25 g26 g27 g28 g29 g30 g31 g32 g33 g34 g35 g36 g37 g38 g39 g40 g41 g42 g43 g44 t), 0, 0))
          refine hR (t_add ?_)
          refine hR (t_c 48 (by decide) ?_)
          refine hR (t_sub ?_)
          refine hR (?_ : R (_, _, _, _, _, _))
          refine hR (?_ : R (_, _, _, (zMi c0 c1 c2 c3 c4 c5 c6 c7 c8 c9 c10 c11 c12 c13 f0 e9_163 f10 e9_0 f12 (((10 * e13_163) + v28) - 48) f15 f16 f17 f20 f21 f22 f23 f26 f28 f31 f32 f33 f38 f41 f44 (Int64.ofNat 0) g15 g16 g17 g18 g19 g20 g21 g22 g23 g24 g25 g26 g27 g28 g29 g30 g31 g32 g33 g34 g35 g36 g37 g38 g39 g40 g41 g42 g43 g44 t), _, _))
          iterate 4 refine hR (?_ : R (_, _, _, _, _, _))
          refine hR (t_add ?_)
          refine hR (?_ : R (_, _, _, (zMi c0 c1 c2 c3 c4 c5 c6 c7 c8 c9 c10 c11 c12 c13 f0 (e9_163 + 1) f10 e9_0 f12 (((10 * e13_163) + v28) - 48) f15 f16 f17 f20 f21 f22 f23 f26 f28 f31 f32 f33 f38 f41 f44 (Int64.ofNat 0) g15 g16 g17 g18 g19 g20 g21 g22 g23 g24 g25 g26 g27 g28 g29 g30 g31 g32 g33 g34 g35 g36 g37 g38 g39 g40 g41 g42 g43 g44 t), _, _))
          refine hR (t_inc ?_)
          refine hR (?_ : R (_, _, _, _, _, _))
          exact ih163 _ _ _ (by omega) (by omega) (by omega) (by omega) (by omega)
      exact lp163 400000000 _ _ _ (by omega) (by omega) (by omega) (by omega) (by omega)
  exact lp0 400000000 _ (by omega) (by omega)
theorem m_fails (d : Nat)  (Q : zQ) (h : ∀ (v : Int) (y15 : Int), (v = 0) → Q (some (.int (Int32.ofInt v))) (zMi c0 c1 c2 c3 c4 c5 c6 c7 c8 c9 c10 c11 c12 c13 f0 f9 f10 f11 f12 f13 y15 f16 f17 f20 f21 f22 f23 f26 f28 f31 f32 f33 f38 f41 f44 x14 g15 g16 g17 g18 g19 g20 g21 g22 g23 g24 g25 g26 g27 g28 g29 g30 g31 g32 g33 g34 g35 g36 g37 g38 g39 g40 g41 g42 g43 g44 t)) : zCl zTab (d + 1) iX12_fails [.ref 14] (zMi c0 c1 c2 c3 c4 c5 c6 c7 c8 c9 c10 c11 c12 c13 f0 f9 f10 f11 f12 f13 f15 f16 f17 f20 f21 f22 f23 f26 f28 f31 f32 f33 f38 f41 f44 x14 g15 g16 g17 g18 g19 g20 g21 g22 g23 g24 g25 g26 g27 g28 g29 g30 g31 g32 g33 g34 g35 g36 g37 g38 g39 g40 g41 g42 g43 g44 t) 0 0 Q := by
  refine zCl_i (M := kX12_fails) rfl (Nat.le_of_ble_eq_true rfl) fun R hR => ?_
  iterate 3 refine hR (?_ : R (_, _, _, _, _, _))
  refine hR (?_ : R (_, _, _, (zMi c0 c1 c2 c3 c4 c5 c6 c7 c8 c9 c10 c11 c12 c13 f0 f9 f10 f11 f12 f13 f11 f16 f17 f20 f21 f22 f23 f26 f28 f31 f32 f33 f38 f41 f44 x14 g15 g16 g17 g18 g19 g20 g21 g22 g23 g24 g25 g26 g27 g28 g29 g30 g31 g32 g33 g34 g35 g36 g37 g38 g39 g40 g41 g42 g43 g44 t), _, _))
  refine hR (?_ : R (_, _, _, _, _, _))
  exact hR (zret_i rfl (Nat.le_refl _) (zbo (by omega)) (h _ _ (by omega)))
theorem m_later (d : Nat) (a1 a2 : Int) (hr0 : 0 ≤ f16 ∧ f16 ≤ 4) (hr1 : 1 ≤ a1 ∧ a1 ≤ 4) (Q : zQ) (h : ∀ (y16 : Int) (y17 : Int), (1 ≤ y16 ∧ y16 ≤ 4) → Q (none) (zMi c0 c1 c2 c3 c4 c5 c6 c7 c8 c9 c10 c11 c12 c13 f0 f9 f10 f11 f12 f13 f15 y16 y17 f20 f21 f22 f23 f26 f28 f31 f32 f33 f38 f41 f44 x14 g15 g16 g17 g18 g19 g20 g21 g22 g23 g24 g25 g26 g27 g28 g29 g30 g31 g32 g33 g34 g35 g36 g37 g38 g39 g40 g41 g42 g43 g44 t)) : zCl zTab (d + 1) iX12_later [.ref 14, .int (Int32.ofInt a1), .int (Int32.ofInt a2)] (zMi c0 c1 c2 c3 c4 c5 c6 c7 c8 c9 c10 c11 c12 c13 f0 f9 f10 f11 f12 f13 f15 f16 f17 f20 f21 f22 f23 f26 f28 f31 f32 f33 f38 f41 f44 x14 g15 g16 g17 g18 g19 g20 g21 g22 g23 g24 g25 g26 g27 g28 g29 g30 g31 g32 g33 g34 g35 g36 g37 g38 g39 g40 g41 g42 g43 g44 t) 0 0 Q := by
  refine zCl_i (M := kX12_later) rfl (Nat.le_of_ble_eq_true rfl) fun R hR => ?_
  iterate 2 refine hR (?_ : R (_, _, _, _, _, _))
  refine hR (k_eq (by omega) (fun hc1 => ?_) (fun hc1 => ?_))
  · skip
    iterate 2 refine hR (?_ : R (_, _, _, _, _, _))
    refine hR (?_ : R (_, _, _, (zMi c0 c1 c2 c3 c4 c5 c6 c7 c8 c9 c10 c11 c12 c13 f0 f9 f10 f11 f12 f13 f15 a1 f17 f20 f21 f22 f23 f26 f28 f31 f32 f33 f38 f41 f44 x14 g15 g16 g17 g18 g19 g20 g21 g22 g23 g24 g25 g26 g27 g28 g29 g30 g31 g32 g33 g34 g35 g36 g37 g38 g39 g40 g41 g42 g43 g44 t), _, _))
    iterate 2 refine hR (?_ : R (_, _, _, _, _, _))
    refine hR (?_ : R (_, _, _, (zMi c0 c1 c2 c3 c4 c5 c6 c7 c8 c9 c10 c11 c12 c13 f0 f9 f10 f11 f12 f13 f15 a1 a2 f20 f21 f22 f23 f26 f28 f31 f32 f33 f38 f41 f44 x14 g15 g16 g17 g18 g19 g20 g21 g22 g23 g24 g25 g26 g27 g28 g29 g30 g31 g32 g33 g34 g35 g36 g37 g38 g39 g40 g41 g42 g43 g44 t), _, _))
    exact hR (zret_i rfl (Nat.le_refl _) rfl (h _ _ (by omega)))
  iterate 3 refine hR (?_ : R (_, _, _, _, _, _))
  refine hR (j_any ?_ ?_)
  · skip
    iterate 2 refine hR (?_ : R (_, _, _, _, _, _))
    refine hR (?_ : R (_, _, _, (zMi c0 c1 c2 c3 c4 c5 c6 c7 c8 c9 c10 c11 c12 c13 f0 f9 f10 f11 f12 f13 f15 a1 f17 f20 f21 f22 f23 f26 f28 f31 f32 f33 f38 f41 f44 x14 g15 g16 g17 g18 g19 g20 g21 g22 g23 g24 g25 g26 g27 g28 g29 g30 g31 g32 g33 g34 g35 g36 g37 g38 g39 g40 g41 g42 g43 g44 t), _, _))
    iterate 2 refine hR (?_ : R (_, _, _, _, _, _))
    refine hR (?_ : R (_, _, _, (zMi c0 c1 c2 c3 c4 c5 c6 c7 c8 c9 c10 c11 c12 c13 f0 f9 f10 f11 f12 f13 f15 a1 a2 f20 f21 f22 f23 f26 f28 f31 f32 f33 f38 f41 f44 x14 g15 g16 g17 g18 g19 g20 g21 g22 g23 g24 g25 g26 g27 g28 g29 g30 g31 g32 g33 g34 g35 g36 g37 g38 g39 g40 g41 g42 g43 g44 t), _, _))
    exact hR (zret_i rfl (Nat.le_refl _) rfl (h _ _ (by omega)))
  iterate 3 refine hR (?_ : R (_, _, _, _, _, _))
  refine hR (j_any ?_ ?_)
  · skip
    exact hR (zret_i rfl (Nat.le_refl _) rfl (h _ _ (by omega)))
  iterate 3 refine hR (?_ : R (_, _, _, _, _, _))
  refine hR (j_ge (by omega) (by omega) (fun hc2 => ?_) (fun hc2 => ?_))
  · skip
    exact hR (zret_i rfl (Nat.le_refl _) rfl (h _ _ (by omega)))
  iterate 2 refine hR (?_ : R (_, _, _, _, _, _))
  refine hR (?_ : R (_, _, _, (zMi c0 c1 c2 c3 c4 c5 c6 c7 c8 c9 c10 c11 c12 c13 f0 f9 f10 f11 f12 f13 f15 a1 f17 f20 f21 f22 f23 f26 f28 f31 f32 f33 f38 f41 f44 x14 g15 g16 g17 g18 g19 g20 g21 g22 g23 g24 g25 g26 g27 g28 g29 g30 g31 g32 g33 g34 g35 g36 g37 g38 g39 g40 g41 g42 g43 g44 t), _, _))
  iterate 2 refine hR (?_ : R (_, _, _, _, _, _))
  refine hR (?_ : R (_, _, _, (zMi c0 c1 c2 c3 c4 c5 c6 c7 c8 c9 c10 c11 c12 c13 f0 f9 f10 f11 f12 f13 f15 a1 a2 f20 f21 f22 f23 f26 f28 f31 f32 f33 f38 f41 f44 x14 g15 g16 g17 g18 g19 g20 g21 g22 g23 g24 g25 g26 g27 g28 g29 g30 g31 g32 g33 g34 g35 g36 g37 g38 g39 g40 g41 g42 g43 g44 t), _, _))
  exact hR (zret_i rfl (Nat.le_refl _) rfl (h _ _ (by omega)))
theorem m_takeBut0 (d : Nat) (a2 a3 a4 : Int) (hr0 : 0 ≤ f9 ∧ f9 ≤ f10 ∧ f10 ≤ 600) (hr1 : 0 ≤ f12 ∧ f12 ≤ 4 ∧ (f12 = 3 → 0 ≤ f13 ∧ f13 ≤ 99)) (hr2 : 0 ≤ f16 ∧ f16 ≤ 4) (hr3 : -2147483648 ≤ a2 ∧ a2 ≤ 2147483647) (hr4 : -2147483648 ≤ a3 ∧ a3 ≤ 2147483647) (hr5 : -2147483648 ≤ a4 ∧ a4 ≤ 2147483647) (Q : zQ) (h : ∀ (v : Int) (y9 : Int) (y11 : Int) (y12 : Int) (y13 : Int) (y14 : Int64) (y15 : Int) (y16 : Int) (y17 : Int) (k24 : Nat → Int32), (f9 ≤ y9 ∧ y9 ≤ f10) → (0 ≤ y12 ∧ y12 ≤ 4 ∧ (y12 = 3 → 0 ≤ y13 ∧ y13 ≤ 99)) → (0 ≤ y16 ∧ y16 ≤ 4) → ((v = 1 ∧ f12 = 3 ∧ (y12 = 0 ∨ f9 < y9) ∧ (y16 = 0 → f16 = 0 ∧ a2 ≤ f13 ∧ f13 ≤ a3 ∧ f13 ≠ a4) ∧ (k24 0).toInt = f13) ∨ (v = 0 ∧ f12 ≠ 3)) → ((k24 1).toInt = (g24 1).toInt) → ((k24 2).toInt = (g24 2).toInt) → Q (some (.int (Int32.ofInt v))) (zMi c0 c1 c2 c3 c4 c5 c6 c7 c8 c9 c10 c11 c12 c13 f0 y9 f10 y11 y12 y13 y15 y16 y17 f20 f21 f22 f23 f26 f28 f31 f32 f33 f38 f41 f44 y14 g15 g16 g17 g18 g19 g20 g21 g22 g23 k24 g25 g26 g27 g28 g29 g30 g31 g32 g33 g34 g35 g36 g37 g38 g39 g40 g41 g42 g43 g44 t)) : zCl zTab (d + 3) iX12_takeBut [.ref 14, .int (Int32.ofInt 0), .int (Int32.ofInt a2), .int (Int32.ofInt a3), .int (Int32.ofInt a4)] (zMi c0 c1 c2 c3 c4 c5 c6 c7 c8 c9 c10 c11 c12 c13 f0 f9 f10 f11 f12 f13 f15 f16 f17 f20 f21 f22 f23 f26 f28 f31 f32 f33 f38 f41 f44 x14 g15 g16 g17 g18 g19 g20 g21 g22 g23 g24 g25 g26 g27 g28 g29 g30 g31 g32 g33 g34 g35 g36 g37 g38 g39 g40 g41 g42 g43 g44 t) 0 0 Q := by
  refine zCl_i (M := kX12_takeBut) rfl (Nat.le_of_ble_eq_true rfl) fun R hR => ?_
  iterate 3 refine hR (?_ : R (_, _, _, _, _, _))
  refine hR (j_eq (by omega) (by omega) (fun hc1 => ?_) (fun hc1 => ?_))
  rotate_left
  · skip
    refine hR (?_ : R (_, _, _, _, _, _))
    refine hR (zcall_i 0 0 (Nat.le_of_ble_eq_true rfl) (Nat.le_of_ble_eq_true rfl) (m_fails _ _ fun v40 y15_41 hp42 => ?_))
    refine (?_ : R (_, _, (.int (Int32.ofInt v40)) :: [], (zMi c0 c1 c2 c3 c4 c5 c6 c7 c8 c9 c10 c11 c12 c13 f0 f9 f10 f11 f12 f13 y15_41 f16 f17 f20 f21 f22 f23 f26 f28 f31 f32 f33 f38 f41 f44 x14 g15 g16 g17 g18 g19 g20 g21 g22 g23 g24 g25 g26 g27 g28 g29 g30 g31 g32 g33 g34 g35 g36 g37 g38 g39 g40 g41 g42 g43 g44 t), 0, 0))
    exact hR (zret_i rfl (Nat.le_refl _) (zbo (by omega)) (h _ _ _ _ _ _ _ _ _ _ (by omega) (by omega) (by omega) (by omega) (by omega) (by omega)))
  iterate 5 refine hR (?_ : R (_, _, _, _, _, _))
  refine hR (t_stV 0 rfl (by omega) (by omega) (by omega) (by omega) (Nat.le_of_ble_eq_true rfl) fun k24_2 hvk24_2 hwk24_2 => (?_ : R (_, _, _, (zMi c0 c1 c2 c3 c4 c5 c6 c7 c8 c9 c10 c11 c12 c13 f0 f9 f10 f11 f12 f13 f15 f16 f17 f20 f21 f22 f23 f26 f28 f31 f32 f33 f38 f41 f44 x14 g15 g16 g17 g18 g19 g20 g21 g22 g23 k24_2 g25 g26 g27 g28 g29 g30 g31 g32 g33 g34 g35 g36 g37 g38 g39 g40 g41 g42 g43 g44 t), _, _)))
  have hxk24_2_1 : (k24_2 1).toInt = (g24 1).toInt := by rw [hwk24_2 1 (by decide)]
  have hxk24_2_2 : (k24_2 2).toInt = (g24 2).toInt := by rw [hwk24_2 2 (by decide)]
  iterate 4 refine hR (?_ : R (_, _, _, _, _, _))
  refine hR (zcall_i 0 0 (Nat.le_of_ble_eq_true rfl) (Nat.le_of_ble_eq_true rfl) (m_in _ f13 a2 a3 _ (by omega) (by omega) (by omega) _ fun v3 hp4 => ?_))
  refine (?_ : R (_, _, (.int (Int32.ofInt v3)) :: [], (zMi c0 c1 c2 c3 c4 c5 c6 c7 c8 c9 c10 c11 c12 c13 f0 f9 f10 f11 f12 f13 f15 f16 f17 f20 f21 f22 f23 f26 f28 f31 f32 f33 f38 f41 f44 x14 g15 g16 g17 g18 g19 g20 g21 g22 g23 k24_2 g25 g26 g27 g28 g29 g30 g31 g32 g33 g34 g35 g36 g37 g38 g39 g40 g41 g42 g43 g44 t), 0, 0))
  refine hR (k_eq (by omega) (fun hc5 => ?_) (fun hc5 => ?_))
  · skip
    iterate 4 refine hR (?_ : R (_, _, _, _, _, _))
    refine hR (zcall_i 0 0 (Nat.le_of_ble_eq_true rfl) (Nat.le_of_ble_eq_true rfl) (m_later _ 2 f11 (by omega) (by omega) _ fun y16_6 y17_7 hp8 => ?_))
    refine (?_ : R (_, _, [], (zMi c0 c1 c2 c3 c4 c5 c6 c7 c8 c9 c10 c11 c12 c13 f0 f9 f10 f11 f12 f13 f15 y16_6 y17_7 f20 f21 f22 f23 f26 f28 f31 f32 f33 f38 f41 f44 x14 g15 g16 g17 g18 g19 g20 g21 g22 g23 k24_2 g25 g26 g27 g28 g29 g30 g31 g32 g33 g34 g35 g36 g37 g38 g39 g40 g41 g42 g43 g44 t), 0, 0))
    refine hR (?_ : R (_, _, _, _, _, _))
    refine hR (zcall_i 0 0 (Nat.le_of_ble_eq_true rfl) (Nat.le_of_ble_eq_true rfl) (m_token _ (by omega) _ fun y9_9 y11_10 y12_11 y13_12 y14_13 hp14 hp15 hp16 hp17 => ?_))
    refine (?_ : R (_, _, [], (zMi c0 c1 c2 c3 c4 c5 c6 c7 c8 c9 c10 c11 c12 c13 f0 y9_9 f10 y11_10 y12_11 y13_12 f15 y16_6 y17_7 f20 f21 f22 f23 f26 f28 f31 f32 f33 f38 f41 f44 y14_13 g15 g16 g17 g18 g19 g20 g21 g22 g23 k24_2 g25 g26 g27 g28 g29 g30 g31 g32 g33 g34 g35 g36 g37 g38 g39 g40 g41 g42 g43 g44 t), 0, 0))
    refine hR (?_ : R (_, _, _, _, _, _))
    exact hR (zret_i rfl (Nat.le_refl _) (zbo (by omega)) (h _ _ _ _ _ _ _ _ _ _ (by omega) (by omega) (by omega) (by omega) (by omega) (by omega)))
  iterate 3 refine hR (?_ : R (_, _, _, _, _, _))
  refine hR (j_ne (by omega) (by omega) (fun hc18 => ?_) (fun hc18 => ?_))
  · skip
    refine hR (?_ : R (_, _, _, _, _, _))
    refine hR (zcall_i 0 0 (Nat.le_of_ble_eq_true rfl) (Nat.le_of_ble_eq_true rfl) (m_token _ (by omega) _ fun y9_19 y11_20 y12_21 y13_22 y14_23 hp24 hp25 hp26 hp27 => ?_))
    refine (?_ : R (_, _, [], (zMi c0 c1 c2 c3 c4 c5 c6 c7 c8 c9 c10 c11 c12 c13 f0 y9_19 f10 y11_20 y12_21 y13_22 f15 f16 f17 f20 f21 f22 f23 f26 f28 f31 f32 f33 f38 f41 f44 y14_23 g15 g16 g17 g18 g19 g20 g21 g22 g23 k24_2 g25 g26 g27 g28 g29 g30 g31 g32 g33 g34 g35 g36 g37 g38 g39 g40 g41 g42 g43 g44 t), 0, 0))
    refine hR (?_ : R (_, _, _, _, _, _))
    exact hR (zret_i rfl (Nat.le_refl _) (zbo (by omega)) (h _ _ _ _ _ _ _ _ _ _ (by omega) (by omega) (by omega) (by omega) (by omega) (by omega)))
  iterate 4 refine hR (?_ : R (_, _, _, _, _, _))
  refine hR (zcall_i 0 0 (Nat.le_of_ble_eq_true rfl) (Nat.le_of_ble_eq_true rfl) (m_later _ 2 f11 (by omega) (by omega) _ fun y16_28 y17_29 hp30 => ?_))
  refine (?_ : R (_, _, [], (zMi c0 c1 c2 c3 c4 c5 c6 c7 c8 c9 c10 c11 c12 c13 f0 f9 f10 f11 f12 f13 f15 y16_28 y17_29 f20 f21 f22 f23 f26 f28 f31 f32 f33 f38 f41 f44 x14 g15 g16 g17 g18 g19 g20 g21 g22 g23 k24_2 g25 g26 g27 g28 g29 g30 g31 g32 g33 g34 g35 g36 g37 g38 g39 g40 g41 g42 g43 g44 t), 0, 0))
  refine hR (?_ : R (_, _, _, _, _, _))
  refine hR (zcall_i 0 0 (Nat.le_of_ble_eq_true rfl) (Nat.le_of_ble_eq_true rfl) (m_token _ (by omega) _ fun y9_31 y11_32 y12_33 y13_34 y14_35 hp36 hp37 hp38 hp39 => ?_))
  refine (?_ : R (_, _, [], (zMi c0 c1 c2 c3 c4 c5 c6 c7 c8 c9 c10 c11 c12 c13 f0 y9_31 f10 y11_32 y12_33 y13_34 f15 y16_28 y17_29 f20 f21 f22 f23 f26 f28 f31 f32 f33 f38 f41 f44 y14_35 g15 g16 g17 g18 g19 g20 g21 g22 g23 k24_2 g25 g26 g27 g28 g29 g30 g31 g32 g33 g34 g35 g36 g37 g38 g39 g40 g41 g42 g43 g44 t), 0, 0))
  refine hR (?_ : R (_, _, _, _, _, _))
  exact hR (zret_i rfl (Nat.le_refl _) (zbo (by omega)) (h _ _ _ _ _ _ _ _ _ _ (by omega) (by omega) (by omega) (by omega) (by omega) (by omega)))
theorem m_takeBut1 (d : Nat) (a2 a3 a4 : Int) (hr0 : 0 ≤ f9 ∧ f9 ≤ f10 ∧ f10 ≤ 600) (hr1 : 0 ≤ f12 ∧ f12 ≤ 4 ∧ (f12 = 3 → 0 ≤ f13 ∧ f13 ≤ 99)) (hr2 : 0 ≤ f16 ∧ f16 ≤ 4) (hr3 : -2147483648 ≤ a2 ∧ a2 ≤ 2147483647) (hr4 : -2147483648 ≤ a3 ∧ a3 ≤ 2147483647) (hr5 : -2147483648 ≤ a4 ∧ a4 ≤ 2147483647) (Q : zQ) (h : ∀ (v : Int) (y9 : Int) (y11 : Int) (y12 : Int) (y13 : Int) (y14 : Int64) (y15 : Int) (y16 : Int) (y17 : Int) (k24 : Nat → Int32), (f9 ≤ y9 ∧ y9 ≤ f10) → (0 ≤ y12 ∧ y12 ≤ 4 ∧ (y12 = 3 → 0 ≤ y13 ∧ y13 ≤ 99)) → (0 ≤ y16 ∧ y16 ≤ 4) → ((v = 1 ∧ f12 = 3 ∧ (y12 = 0 ∨ f9 < y9) ∧ (y16 = 0 → f16 = 0 ∧ a2 ≤ f13 ∧ f13 ≤ a3 ∧ f13 ≠ a4) ∧ (k24 1).toInt = f13) ∨ (v = 0 ∧ f12 ≠ 3)) → ((k24 0).toInt = (g24 0).toInt) → ((k24 2).toInt = (g24 2).toInt) → Q (some (.int (Int32.ofInt v))) (zMi c0 c1 c2 c3 c4 c5 c6 c7 c8 c9 c10 c11 c12 c13 f0 y9 f10 y11 y12 y13 y15 y16 y17 f20 f21 f22 f23 f26 f28 f31 f32 f33 f38 f41 f44 y14 g15 g16 g17 g18 g19 g20 g21 g22 g23 k24 g25 g26 g27 g28 g29 g30 g31 g32 g33 g34 g35 g36 g37 g38 g39 g40 g41 g42 g43 g44 t)) : zCl zTab (d + 3) iX12_takeBut [.ref 14, .int (Int32.ofInt 1), .int (Int32.ofInt a2), .int (Int32.ofInt a3), .int (Int32.ofInt a4)] (zMi c0 c1 c2 c3 c4 c5 c6 c7 c8 c9 c10 c11 c12 c13 f0 f9 f10 f11 f12 f13 f15 f16 f17 f20 f21 f22 f23 f26 f28 f31 f32 f33 f38 f41 f44 x14 g15 g16 g17 g18 g19 g20 g21 g22 g23 g24 g25 g26 g27 g28 g29 g30 g31 g32 g33 g34 g35 g36 g37 g38 g39 g40 g41 g42 g43 g44 t) 0 0 Q := by
  refine zCl_i (M := kX12_takeBut) rfl (Nat.le_of_ble_eq_true rfl) fun R hR => ?_
  iterate 3 refine hR (?_ : R (_, _, _, _, _, _))
  refine hR (j_eq (by omega) (by omega) (fun hc1 => ?_) (fun hc1 => ?_))
  rotate_left
  · skip
    refine hR (?_ : R (_, _, _, _, _, _))
    refine hR (zcall_i 0 0 (Nat.le_of_ble_eq_true rfl) (Nat.le_of_ble_eq_true rfl) (m_fails _ _ fun v40 y15_41 hp42 => ?_))
    refine (?_ : R (_, _, (.int (Int32.ofInt v40)) :: [], (zMi c0 c1 c2 c3 c4 c5 c6 c7 c8 c9 c10 c11 c12 c13 f0 f9 f10 f11 f12 f13 y15_41 f16 f17 f20 f21 f22 f23 f26 f28 f31 f32 f33 f38 f41 f44 x14 g15 g16 g17 g18 g19 g20 g21 g22 g23 g24 g25 g26 g27 g28 g29 g30 g31 g32 g33 g34 g35 g36 g37 g38 g39 g40 g41 g42 g43 g44 t), 0, 0))
    exact hR (zret_i rfl (Nat.le_refl _) (zbo (by omega)) (h _ _ _ _ _ _ _ _ _ _ (by omega) (by omega) (by omega) (by omega) (by omega) (by omega)))
  iterate 5 refine hR (?_ : R (_, _, _, _, _, _))
  refine hR (t_stV 1 rfl (by omega) (by omega) (by omega) (by omega) (Nat.le_of_ble_eq_true rfl) fun k24_2 hvk24_2 hwk24_2 => (?_ : R (_, _, _, (zMi c0 c1 c2 c3 c4 c5 c6 c7 c8 c9 c10 c11 c12 c13 f0 f9 f10 f11 f12 f13 f15 f16 f17 f20 f21 f22 f23 f26 f28 f31 f32 f33 f38 f41 f44 x14 g15 g16 g17 g18 g19 g20 g21 g22 g23 k24_2 g25 g26 g27 g28 g29 g30 g31 g32 g33 g34 g35 g36 g37 g38 g39 g40 g41 g42 g43 g44 t), _, _)))
  have hxk24_2_0 : (k24_2 0).toInt = (g24 0).toInt := by rw [hwk24_2 0 (by decide)]
  have hxk24_2_2 : (k24_2 2).toInt = (g24 2).toInt := by rw [hwk24_2 2 (by decide)]
  iterate 4 refine hR (?_ : R (_, _, _, _, _, _))
  refine hR (zcall_i 0 0 (Nat.le_of_ble_eq_true rfl) (Nat.le_of_ble_eq_true rfl) (m_in _ f13 a2 a3 _ (by omega) (by omega) (by omega) _ fun v3 hp4 => ?_))
  refine (?_ : R (_, _, (.int (Int32.ofInt v3)) :: [], (zMi c0 c1 c2 c3 c4 c5 c6 c7 c8 c9 c10 c11 c12 c13 f0 f9 f10 f11 f12 f13 f15 f16 f17 f20 f21 f22 f23 f26 f28 f31 f32 f33 f38 f41 f44 x14 g15 g16 g17 g18 g19 g20 g21 g22 g23 k24_2 g25 g26 g27 g28 g29 g30 g31 g32 g33 g34 g35 g36 g37 g38 g39 g40 g41 g42 g43 g44 t), 0, 0))
  refine hR (k_eq (by omega) (fun hc5 => ?_) (fun hc5 => ?_))
  · skip
    iterate 4 refine hR (?_ : R (_, _, _, _, _, _))
    refine hR (zcall_i 0 0 (Nat.le_of_ble_eq_true rfl) (Nat.le_of_ble_eq_true rfl) (m_later _ 2 f11 (by omega) (by omega) _ fun y16_6 y17_7 hp8 => ?_))
    refine (?_ : R (_, _, [], (zMi c0 c1 c2 c3 c4 c5 c6 c7 c8 c9 c10 c11 c12 c13 f0 f9 f10 f11 f12 f13 f15 y16_6 y17_7 f20 f21 f22 f23 f26 f28 f31 f32 f33 f38 f41 f44 x14 g15 g16 g17 g18 g19 g20 g21 g22 g23 k24_2 g25 g26 g27 g28 g29 g30 g31 g32 g33 g34 g35 g36 g37 g38 g39 g40 g41 g42 g43 g44 t), 0, 0))
    refine hR (?_ : R (_, _, _, _, _, _))
    refine hR (zcall_i 0 0 (Nat.le_of_ble_eq_true rfl) (Nat.le_of_ble_eq_true rfl) (m_token _ (by omega) _ fun y9_9 y11_10 y12_11 y13_12 y14_13 hp14 hp15 hp16 hp17 => ?_))
    refine (?_ : R (_, _, [], (zMi c0 c1 c2 c3 c4 c5 c6 c7 c8 c9 c10 c11 c12 c13 f0 y9_9 f10 y11_10 y12_11 y13_12 f15 y16_6 y17_7 f20 f21 f22 f23 f26 f28 f31 f32 f33 f38 f41 f44 y14_13 g15 g16 g17 g18 g19 g20 g21 g22 g23 k24_2 g25 g26 g27 g28 g29 g30 g31 g32 g33 g34 g35 g36 g37 g38 g39 g40 g41 g42 g43 g44 t), 0, 0))
    refine hR (?_ : R (_, _, _, _, _, _))
    exact hR (zret_i rfl (Nat.le_refl _) (zbo (by omega)) (h _ _ _ _ _ _ _ _ _ _ (by omega) (by omega) (by omega) (by omega) (by omega) (by omega)))
  iterate 3 refine hR (?_ : R (_, _, _, _, _, _))
  refine hR (j_ne (by omega) (by omega) (fun hc18 => ?_) (fun hc18 => ?_))
  · skip
    refine hR (?_ : R (_, _, _, _, _, _))
    refine hR (zcall_i 0 0 (Nat.le_of_ble_eq_true rfl) (Nat.le_of_ble_eq_true rfl) (m_token _ (by omega) _ fun y9_19 y11_20 y12_21 y13_22 y14_23 hp24 hp25 hp26 hp27 => ?_))
    refine (?_ : R (_, _, [], (zMi c0 c1 c2 c3 c4 c5 c6 c7 c8 c9 c10 c11 c12 c13 f0 y9_19 f10 y11_20 y12_21 y13_22 f15 f16 f17 f20 f21 f22 f23 f26 f28 f31 f32 f33 f38 f41 f44 y14_23 g15 g16 g17 g18 g19 g20 g21 g22 g23 k24_2 g25 g26 g27 g28 g29 g30 g31 g32 g33 g34 g35 g36 g37 g38 g39 g40 g41 g42 g43 g44 t), 0, 0))
    refine hR (?_ : R (_, _, _, _, _, _))
    exact hR (zret_i rfl (Nat.le_refl _) (zbo (by omega)) (h _ _ _ _ _ _ _ _ _ _ (by omega) (by omega) (by omega) (by omega) (by omega) (by omega)))
  iterate 4 refine hR (?_ : R (_, _, _, _, _, _))
  refine hR (zcall_i 0 0 (Nat.le_of_ble_eq_true rfl) (Nat.le_of_ble_eq_true rfl) (m_later _ 2 f11 (by omega) (by omega) _ fun y16_28 y17_29 hp30 => ?_))
  refine (?_ : R (_, _, [], (zMi c0 c1 c2 c3 c4 c5 c6 c7 c8 c9 c10 c11 c12 c13 f0 f9 f10 f11 f12 f13 f15 y16_28 y17_29 f20 f21 f22 f23 f26 f28 f31 f32 f33 f38 f41 f44 x14 g15 g16 g17 g18 g19 g20 g21 g22 g23 k24_2 g25 g26 g27 g28 g29 g30 g31 g32 g33 g34 g35 g36 g37 g38 g39 g40 g41 g42 g43 g44 t), 0, 0))
  refine hR (?_ : R (_, _, _, _, _, _))
  refine hR (zcall_i 0 0 (Nat.le_of_ble_eq_true rfl) (Nat.le_of_ble_eq_true rfl) (m_token _ (by omega) _ fun y9_31 y11_32 y12_33 y13_34 y14_35 hp36 hp37 hp38 hp39 => ?_))
  refine (?_ : R (_, _, [], (zMi c0 c1 c2 c3 c4 c5 c6 c7 c8 c9 c10 c11 c12 c13 f0 y9_31 f10 y11_32 y12_33 y13_34 f15 y16_28 y17_29 f20 f21 f22 f23 f26 f28 f31 f32 f33 f38 f41 f44 y14_35 g15 g16 g17 g18 g19 g20 g21 g22 g23 k24_2 g25 g26 g27 g28 g29 g30 g31 g32 g33 g34 g35 g36 g37 g38 g39 g40 g41 g42 g43 g44 t), 0, 0))
  refine hR (?_ : R (_, _, _, _, _, _))
  exact hR (zret_i rfl (Nat.le_refl _) (zbo (by omega)) (h _ _ _ _ _ _ _ _ _ _ (by omega) (by omega) (by omega) (by omega) (by omega) (by omega)))
theorem m_takeBut2 (d : Nat) (a2 a3 a4 : Int) (hr0 : 0 ≤ f9 ∧ f9 ≤ f10 ∧ f10 ≤ 600) (hr1 : 0 ≤ f12 ∧ f12 ≤ 4 ∧ (f12 = 3 → 0 ≤ f13 ∧ f13 ≤ 99)) (hr2 : 0 ≤ f16 ∧ f16 ≤ 4) (hr3 : -2147483648 ≤ a2 ∧ a2 ≤ 2147483647) (hr4 : -2147483648 ≤ a3 ∧ a3 ≤ 2147483647) (hr5 : -2147483648 ≤ a4 ∧ a4 ≤ 2147483647) (Q : zQ) (h : ∀ (v : Int) (y9 : Int) (y11 : Int) (y12 : Int) (y13 : Int) (y14 : Int64) (y15 : Int) (y16 : Int) (y17 : Int) (k24 : Nat → Int32), (f9 ≤ y9 ∧ y9 ≤ f10) → (0 ≤ y12 ∧ y12 ≤ 4 ∧ (y12 = 3 → 0 ≤ y13 ∧ y13 ≤ 99)) → (0 ≤ y16 ∧ y16 ≤ 4) → ((v = 1 ∧ f12 = 3 ∧ (y12 = 0 ∨ f9 < y9) ∧ (y16 = 0 → f16 = 0 ∧ a2 ≤ f13 ∧ f13 ≤ a3 ∧ f13 ≠ a4) ∧ (k24 2).toInt = f13) ∨ (v = 0 ∧ f12 ≠ 3)) → ((k24 0).toInt = (g24 0).toInt) → ((k24 1).toInt = (g24 1).toInt) → Q (some (.int (Int32.ofInt v))) (zMi c0 c1 c2 c3 c4 c5 c6 c7 c8 c9 c10 c11 c12 c13 f0 y9 f10 y11 y12 y13 y15 y16 y17 f20 f21 f22 f23 f26 f28 f31 f32 f33 f38 f41 f44 y14 g15 g16 g17 g18 g19 g20 g21 g22 g23 k24 g25 g26 g27 g28 g29 g30 g31 g32 g33 g34 g35 g36 g37 g38 g39 g40 g41 g42 g43 g44 t)) : zCl zTab (d + 3) iX12_takeBut [.ref 14, .int (Int32.ofInt 2), .int (Int32.ofInt a2), .int (Int32.ofInt a3), .int (Int32.ofInt a4)] (zMi c0 c1 c2 c3 c4 c5 c6 c7 c8 c9 c10 c11 c12 c13 f0 f9 f10 f11 f12 f13 f15 f16 f17 f20 f21 f22 f23 f26 f28 f31 f32 f33 f38 f41 f44 x14 g15 g16 g17 g18 g19 g20 g21 g22 g23 g24 g25 g26 g27 g28 g29 g30 g31 g32 g33 g34 g35 g36 g37 g38 g39 g40 g41 g42 g43 g44 t) 0 0 Q := by
  refine zCl_i (M := kX12_takeBut) rfl (Nat.le_of_ble_eq_true rfl) fun R hR => ?_
  iterate 3 refine hR (?_ : R (_, _, _, _, _, _))
  refine hR (j_eq (by omega) (by omega) (fun hc1 => ?_) (fun hc1 => ?_))
  rotate_left
  · skip
    refine hR (?_ : R (_, _, _, _, _, _))
    refine hR (zcall_i 0 0 (Nat.le_of_ble_eq_true rfl) (Nat.le_of_ble_eq_true rfl) (m_fails _ _ fun v40 y15_41 hp42 => ?_))
    refine (?_ : R (_, _, (.int (Int32.ofInt v40)) :: [], (zMi c0 c1 c2 c3 c4 c5 c6 c7 c8 c9 c10 c11 c12 c13 f0 f9 f10 f11 f12 f13 y15_41 f16 f17 f20 f21 f22 f23 f26 f28 f31 f32 f33 f38 f41 f44 x14 g15 g16 g17 g18 g19 g20 g21 g22 g23 g24 g25 g26 g27 g28 g29 g30 g31 g32 g33 g34 g35 g36 g37 g38 g39 g40 g41 g42 g43 g44 t), 0, 0))
    exact hR (zret_i rfl (Nat.le_refl _) (zbo (by omega)) (h _ _ _ _ _ _ _ _ _ _ (by omega) (by omega) (by omega) (by omega) (by omega) (by omega)))
  iterate 5 refine hR (?_ : R (_, _, _, _, _, _))
  refine hR (t_stV 2 rfl (by omega) (by omega) (by omega) (by omega) (Nat.le_of_ble_eq_true rfl) fun k24_2 hvk24_2 hwk24_2 => (?_ : R (_, _, _, (zMi c0 c1 c2 c3 c4 c5 c6 c7 c8 c9 c10 c11 c12 c13 f0 f9 f10 f11 f12 f13 f15 f16 f17 f20 f21 f22 f23 f26 f28 f31 f32 f33 f38 f41 f44 x14 g15 g16 g17 g18 g19 g20 g21 g22 g23 k24_2 g25 g26 g27 g28 g29 g30 g31 g32 g33 g34 g35 g36 g37 g38 g39 g40 g41 g42 g43 g44 t), _, _)))
  have hxk24_2_0 : (k24_2 0).toInt = (g24 0).toInt := by rw [hwk24_2 0 (by decide)]
  have hxk24_2_1 : (k24_2 1).toInt = (g24 1).toInt := by rw [hwk24_2 1 (by decide)]
  iterate 4 refine hR (?_ : R (_, _, _, _, _, _))
  refine hR (zcall_i 0 0 (Nat.le_of_ble_eq_true rfl) (Nat.le_of_ble_eq_true rfl) (m_in _ f13 a2 a3 _ (by omega) (by omega) (by omega) _ fun v3 hp4 => ?_))
  refine (?_ : R (_, _, (.int (Int32.ofInt v3)) :: [], (zMi c0 c1 c2 c3 c4 c5 c6 c7 c8 c9 c10 c11 c12 c13 f0 f9 f10 f11 f12 f13 f15 f16 f17 f20 f21 f22 f23 f26 f28 f31 f32 f33 f38 f41 f44 x14 g15 g16 g17 g18 g19 g20 g21 g22 g23 k24_2 g25 g26 g27 g28 g29 g30 g31 g32 g33 g34 g35 g36 g37 g38 g39 g40 g41 g42 g43 g44 t), 0, 0))
  refine hR (k_eq (by omega) (fun hc5 => ?_) (fun hc5 => ?_))
  · skip
    iterate 4 refine hR (?_ : R (_, _, _, _, _, _))
    refine hR (zcall_i 0 0 (Nat.le_of_ble_eq_true rfl) (Nat.le_of_ble_eq_true rfl) (m_later _ 2 f11 (by omega) (by omega) _ fun y16_6 y17_7 hp8 => ?_))
    refine (?_ : R (_, _, [], (zMi c0 c1 c2 c3 c4 c5 c6 c7 c8 c9 c10 c11 c12 c13 f0 f9 f10 f11 f12 f13 f15 y16_6 y17_7 f20 f21 f22 f23 f26 f28 f31 f32 f33 f38 f41 f44 x14 g15 g16 g17 g18 g19 g20 g21 g22 g23 k24_2 g25 g26 g27 g28 g29 g30 g31 g32 g33 g34 g35 g36 g37 g38 g39 g40 g41 g42 g43 g44 t), 0, 0))
    refine hR (?_ : R (_, _, _, _, _, _))
    refine hR (zcall_i 0 0 (Nat.le_of_ble_eq_true rfl) (Nat.le_of_ble_eq_true rfl) (m_token _ (by omega) _ fun y9_9 y11_10 y12_11 y13_12 y14_13 hp14 hp15 hp16 hp17 => ?_))
    refine (?_ : R (_, _, [], (zMi c0 c1 c2 c3 c4 c5 c6 c7 c8 c9 c10 c11 c12 c13 f0 y9_9 f10 y11_10 y12_11 y13_12 f15 y16_6 y17_7 f20 f21 f22 f23 f26 f28 f31 f32 f33 f38 f41 f44 y14_13 g15 g16 g17 g18 g19 g20 g21 g22 g23 k24_2 g25 g26 g27 g28 g29 g30 g31 g32 g33 g34 g35 g36 g37 g38 g39 g40 g41 g42 g43 g44 t), 0, 0))
    refine hR (?_ : R (_, _, _, _, _, _))
    exact hR (zret_i rfl (Nat.le_refl _) (zbo (by omega)) (h _ _ _ _ _ _ _ _ _ _ (by omega) (by omega) (by omega) (by omega) (by omega) (by omega)))
  iterate 3 refine hR (?_ : R (_, _, _, _, _, _))
  refine hR (j_ne (by omega) (by omega) (fun hc18 => ?_) (fun hc18 => ?_))
  · skip
    refine hR (?_ : R (_, _, _, _, _, _))
    refine hR (zcall_i 0 0 (Nat.le_of_ble_eq_true rfl) (Nat.le_of_ble_eq_true rfl) (m_token _ (by omega) _ fun y9_19 y11_20 y12_21 y13_22 y14_23 hp24 hp25 hp26 hp27 => ?_))
    refine (?_ : R (_, _, [], (zMi c0 c1 c2 c3 c4 c5 c6 c7 c8 c9 c10 c11 c12 c13 f0 y9_19 f10 y11_20 y12_21 y13_22 f15 f16 f17 f20 f21 f22 f23 f26 f28 f31 f32 f33 f38 f41 f44 y14_23 g15 g16 g17 g18 g19 g20 g21 g22 g23 k24_2 g25 g26 g27 g28 g29 g30 g31 g32 g33 g34 g35 g36 g37 g38 g39 g40 g41 g42 g43 g44 t), 0, 0))
    refine hR (?_ : R (_, _, _, _, _, _))
    exact hR (zret_i rfl (Nat.le_refl _) (zbo (by omega)) (h _ _ _ _ _ _ _ _ _ _ (by omega) (by omega) (by omega) (by omega) (by omega) (by omega)))
  iterate 4 refine hR (?_ : R (_, _, _, _, _, _))
  refine hR (zcall_i 0 0 (Nat.le_of_ble_eq_true rfl) (Nat.le_of_ble_eq_true rfl) (m_later _ 2 f11 (by omega) (by omega) _ fun y16_28 y17_29 hp30 => ?_))
  refine (?_ : R (_, _, [], (zMi c0 c1 c2 c3 c4 c5 c6 c7 c8 c9 c10 c11 c12 c13 f0 f9 f10 f11 f12 f13 f15 y16_28 y17_29 f20 f21 f22 f23 f26 f28 f31 f32 f33 f38 f41 f44 x14 g15 g16 g17 g18 g19 g20 g21 g22 g23 k24_2 g25 g26 g27 g28 g29 g30 g31 g32 g33 g34 g35 g36 g37 g38 g39 g40 g41 g42 g43 g44 t), 0, 0))
  refine hR (?_ : R (_, _, _, _, _, _))
  refine hR (zcall_i 0 0 (Nat.le_of_ble_eq_true rfl) (Nat.le_of_ble_eq_true rfl) (m_token _ (by omega) _ fun y9_31 y11_32 y12_33 y13_34 y14_35 hp36 hp37 hp38 hp39 => ?_))
  refine (?_ : R (_, _, [], (zMi c0 c1 c2 c3 c4 c5 c6 c7 c8 c9 c10 c11 c12 c13 f0 y9_31 f10 y11_32 y12_33 y13_34 f15 y16_28 y17_29 f20 f21 f22 f23 f26 f28 f31 f32 f33 f38 f41 f44 y14_35 g15 g16 g17 g18 g19 g20 g21 g22 g23 k24_2 g25 g26 g27 g28 g29 g30 g31 g32 g33 g34 g35 g36 g37 g38 g39 g40 g41 g42 g43 g44 t), 0, 0))
  refine hR (?_ : R (_, _, _, _, _, _))
  exact hR (zret_i rfl (Nat.le_refl _) (zbo (by omega)) (h _ _ _ _ _ _ _ _ _ _ (by omega) (by omega) (by omega) (by omega) (by omega) (by omega)))
theorem m_take0 (d : Nat) (a2 a3 : Int) (hr0 : 0 ≤ f9 ∧ f9 ≤ f10 ∧ f10 ≤ 600) (hr1 : 0 ≤ f12 ∧ f12 ≤ 4 ∧ (f12 = 3 → 0 ≤ f13 ∧ f13 ≤ 99)) (hr2 : 0 ≤ f16 ∧ f16 ≤ 4) (hr3 : -2147483648 ≤ a2 ∧ a2 ≤ 2147483647) (hr4 : -2147483648 ≤ a3 ∧ a3 ≤ 2147483647) (Q : zQ) (h : ∀ (v : Int) (y9 : Int) (y11 : Int) (y12 : Int) (y13 : Int) (y14 : Int64) (y15 : Int) (y16 : Int) (y17 : Int) (k24 : Nat → Int32), (f9 ≤ y9 ∧ y9 ≤ f10) → (0 ≤ y12 ∧ y12 ≤ 4 ∧ (y12 = 3 → 0 ≤ y13 ∧ y13 ≤ 99)) → (0 ≤ y16 ∧ y16 ≤ 4) → ((v = 1 ∧ f12 = 3 ∧ (y12 = 0 ∨ f9 < y9) ∧ (y16 = 0 → f16 = 0 ∧ a2 ≤ f13 ∧ f13 ≤ a3) ∧ (k24 0).toInt = f13) ∨ (v = 0 ∧ f12 ≠ 3)) → ((k24 1).toInt = (g24 1).toInt) → ((k24 2).toInt = (g24 2).toInt) → Q (some (.int (Int32.ofInt v))) (zMi c0 c1 c2 c3 c4 c5 c6 c7 c8 c9 c10 c11 c12 c13 f0 y9 f10 y11 y12 y13 y15 y16 y17 f20 f21 f22 f23 f26 f28 f31 f32 f33 f38 f41 f44 y14 g15 g16 g17 g18 g19 g20 g21 g22 g23 k24 g25 g26 g27 g28 g29 g30 g31 g32 g33 g34 g35 g36 g37 g38 g39 g40 g41 g42 g43 g44 t)) : zCl zTab (d + 4) iX12_take [.ref 14, .int (Int32.ofInt 0), .int (Int32.ofInt a2), .int (Int32.ofInt a3)] (zMi c0 c1 c2 c3 c4 c5 c6 c7 c8 c9 c10 c11 c12 c13 f0 f9 f10 f11 f12 f13 f15 f16 f17 f20 f21 f22 f23 f26 f28 f31 f32 f33 f38 f41 f44 x14 g15 g16 g17 g18 g19 g20 g21 g22 g23 g24 g25 g26 g27 g28 g29 g30 g31 g32 g33 g34 g35 g36 g37 g38 g39 g40 g41 g42 g43 g44 t) 0 0 Q := by
  refine zCl_i (M := kX12_take) rfl (Nat.le_of_ble_eq_true rfl) fun R hR => ?_
  iterate 5 refine hR (?_ : R (_, _, _, _, _, _))
  refine hR (zcall_i 0 0 (Nat.le_of_ble_eq_true rfl) (Nat.le_of_ble_eq_true rfl) (m_takeBut0 _ a2 a3 ((-1)) (by omega) (by omega) (by omega) (by omega) (by omega) (by omega) _ fun v1 y9_2 y11_3 y12_4 y13_5 y14_6 y15_7 y16_8 y17_9 k24_10 hp11 hp12 hp13 hp14 hp15 hp16 => ?_))
  refine (?_ : R (_, _, (.int (Int32.ofInt v1)) :: [], (zMi c0 c1 c2 c3 c4 c5 c6 c7 c8 c9 c10 c11 c12 c13 f0 y9_2 f10 y11_3 y12_4 y13_5 y15_7 y16_8 y17_9 f20 f21 f22 f23 f26 f28 f31 f32 f33 f38 f41 f44 y14_6 g15 g16 g17 g18 g19 g20 g21 g22 g23 k24_10 g25 g26 g27 g28 g29 g30 g31 g32 g33 g34 g35 g36 g37 g38 g39 g40 g41 g42 g43 g44 t), 0, 0))
  exact hR (zret_i rfl (Nat.le_refl _) (zbo (by omega)) (h _ _ _ _ _ _ _ _ _ _ (by omega) (by omega) (by omega) (by omega) (by omega) (by omega)))
theorem m_take1 (d : Nat) (a2 a3 : Int) (hr0 : 0 ≤ f9 ∧ f9 ≤ f10 ∧ f10 ≤ 600) (hr1 : 0 ≤ f12 ∧ f12 ≤ 4 ∧ (f12 = 3 → 0 ≤ f13 ∧ f13 ≤ 99)) (hr2 : 0 ≤ f16 ∧ f16 ≤ 4) (hr3 : -2147483648 ≤ a2 ∧ a2 ≤ 2147483647) (hr4 : -2147483648 ≤ a3 ∧ a3 ≤ 2147483647) (Q : zQ) (h : ∀ (v : Int) (y9 : Int) (y11 : Int) (y12 : Int) (y13 : Int) (y14 : Int64) (y15 : Int) (y16 : Int) (y17 : Int) (k24 : Nat → Int32), (f9 ≤ y9 ∧ y9 ≤ f10) → (0 ≤ y12 ∧ y12 ≤ 4 ∧ (y12 = 3 → 0 ≤ y13 ∧ y13 ≤ 99)) → (0 ≤ y16 ∧ y16 ≤ 4) → ((v = 1 ∧ f12 = 3 ∧ (y12 = 0 ∨ f9 < y9) ∧ (y16 = 0 → f16 = 0 ∧ a2 ≤ f13 ∧ f13 ≤ a3) ∧ (k24 1).toInt = f13) ∨ (v = 0 ∧ f12 ≠ 3)) → ((k24 0).toInt = (g24 0).toInt) → ((k24 2).toInt = (g24 2).toInt) → Q (some (.int (Int32.ofInt v))) (zMi c0 c1 c2 c3 c4 c5 c6 c7 c8 c9 c10 c11 c12 c13 f0 y9 f10 y11 y12 y13 y15 y16 y17 f20 f21 f22 f23 f26 f28 f31 f32 f33 f38 f41 f44 y14 g15 g16 g17 g18 g19 g20 g21 g22 g23 k24 g25 g26 g27 g28 g29 g30 g31 g32 g33 g34 g35 g36 g37 g38 g39 g40 g41 g42 g43 g44 t)) : zCl zTab (d + 4) iX12_take [.ref 14, .int (Int32.ofInt 1), .int (Int32.ofInt a2), .int (Int32.ofInt a3)] (zMi c0 c1 c2 c3 c4 c5 c6 c7 c8 c9 c10 c11 c12 c13 f0 f9 f10 f11 f12 f13 f15 f16 f17 f20 f21 f22 f23 f26 f28 f31 f32 f33 f38 f41 f44 x14 g15 g16 g17 g18 g19 g20 g21 g22 g23 g24 g25 g26 g27 g28 g29 g30 g31 g32 g33 g34 g35 g36 g37 g38 g39 g40 g41 g42 g43 g44 t) 0 0 Q := by
  refine zCl_i (M := kX12_take) rfl (Nat.le_of_ble_eq_true rfl) fun R hR => ?_
  iterate 5 refine hR (?_ : R (_, _, _, _, _, _))
  refine hR (zcall_i 0 0 (Nat.le_of_ble_eq_true rfl) (Nat.le_of_ble_eq_true rfl) (m_takeBut1 _ a2 a3 ((-1)) (by omega) (by omega) (by omega) (by omega) (by omega) (by omega) _ fun v1 y9_2 y11_3 y12_4 y13_5 y14_6 y15_7 y16_8 y17_9 k24_10 hp11 hp12 hp13 hp14 hp15 hp16 => ?_))
  refine (?_ : R (_, _, (.int (Int32.ofInt v1)) :: [], (zMi c0 c1 c2 c3 c4 c5 c6 c7 c8 c9 c10 c11 c12 c13 f0 y9_2 f10 y11_3 y12_4 y13_5 y15_7 y16_8 y17_9 f20 f21 f22 f23 f26 f28 f31 f32 f33 f38 f41 f44 y14_6 g15 g16 g17 g18 g19 g20 g21 g22 g23 k24_10 g25 g26 g27 g28 g29 g30 g31 g32 g33 g34 g35 g36 g37 g38 g39 g40 g41 g42 g43 g44 t), 0, 0))
  exact hR (zret_i rfl (Nat.le_refl _) (zbo (by omega)) (h _ _ _ _ _ _ _ _ _ _ (by omega) (by omega) (by omega) (by omega) (by omega) (by omega)))
theorem m_take2 (d : Nat) (a2 a3 : Int) (hr0 : 0 ≤ f9 ∧ f9 ≤ f10 ∧ f10 ≤ 600) (hr1 : 0 ≤ f12 ∧ f12 ≤ 4 ∧ (f12 = 3 → 0 ≤ f13 ∧ f13 ≤ 99)) (hr2 : 0 ≤ f16 ∧ f16 ≤ 4) (hr3 : -2147483648 ≤ a2 ∧ a2 ≤ 2147483647) (hr4 : -2147483648 ≤ a3 ∧ a3 ≤ 2147483647) (Q : zQ) (h : ∀ (v : Int) (y9 : Int) (y11 : Int) (y12 : Int) (y13 : Int) (y14 : Int64) (y15 : Int) (y16 : Int) (y17 : Int) (k24 : Nat → Int32), (f9 ≤ y9 ∧ y9 ≤ f10) → (0 ≤ y12 ∧ y12 ≤ 4 ∧ (y12 = 3 → 0 ≤ y13 ∧ y13 ≤ 99)) → (0 ≤ y16 ∧ y16 ≤ 4) → ((v = 1 ∧ f12 = 3 ∧ (y12 = 0 ∨ f9 < y9) ∧ (y16 = 0 → f16 = 0 ∧ a2 ≤ f13 ∧ f13 ≤ a3) ∧ (k24 2).toInt = f13) ∨ (v = 0 ∧ f12 ≠ 3)) → ((k24 0).toInt = (g24 0).toInt) → ((k24 1).toInt = (g24 1).toInt) → Q (some (.int (Int32.ofInt v))) (zMi c0 c1 c2 c3 c4 c5 c6 c7 c8 c9 c10 c11 c12 c13 f0 y9 f10 y11 y12 y13 y15 y16 y17 f20 f21 f22 f23 f26 f28 f31 f32 f33 f38 f41 f44 y14 g15 g16 g17 g18 g19 g20 g21 g22 g23 k24 g25 g26 g27 g28 g29 g30 g31 g32 g33 g34 g35 g36 g37 g38 g39 g40 g41 g42 g43 g44 t)) : zCl zTab (d + 4) iX12_take [.ref 14, .int (Int32.ofInt 2), .int (Int32.ofInt a2), .int (Int32.ofInt a3)] (zMi c0 c1 c2 c3 c4 c5 c6 c7 c8 c9 c10 c11 c12 c13 f0 f9 f10 f11 f12 f13 f15 f16 f17 f20 f21 f22 f23 f26 f28 f31 f32 f33 f38 f41 f44 x14 g15 g16 g17 g18 g19 g20 g21 g22 g23 g24 g25 g26 g27 g28 g29 g30 g31 g32 g33 g34 g35 g36 g37 g38 g39 g40 g41 g42 g43 g44 t) 0 0 Q := by
  refine zCl_i (M := kX12_take) rfl (Nat.le_of_ble_eq_true rfl) fun R hR => ?_
  iterate 5 refine hR (?_ : R (_, _, _, _, _, _))
  refine hR (zcall_i 0 0 (Nat.le_of_ble_eq_true rfl) (Nat.le_of_ble_eq_true rfl) (m_takeBut2 _ a2 a3 ((-1)) (by omega) (by omega) (by omega) (by omega) (by omega) (by omega) _ fun v1 y9_2 y11_3 y12_4 y13_5 y14_6 y15_7 y16_8 y17_9 k24_10 hp11 hp12 hp13 hp14 hp15 hp16 => ?_))
  refine (?_ : R (_, _, (.int (Int32.ofInt v1)) :: [], (zMi c0 c1 c2 c3 c4 c5 c6 c7 c8 c9 c10 c11 c12 c13 f0 y9_2 f10 y11_3 y12_4 y13_5 y15_7 y16_8 y17_9 f20 f21 f22 f23 f26 f28 f31 f32 f33 f38 f41 f44 y14_6 g15 g16 g17 g18 g19 g20 g21 g22 g23 k24_10 g25 g26 g27 g28 g29 g30 g31 g32 g33 g34 g35 g36 g37 g38 g39 g40 g41 g42 g43 g44 t), 0, 0))
  exact hR (zret_i rfl (Nat.le_refl _) (zbo (by omega)) (h _ _ _ _ _ _ _ _ _ _ (by omega) (by omega) (by omega) (by omega) (by omega) (by omega)))
theorem m_full0 (d : Nat) (a2 a3 : Int) (hr0 : 0 ≤ f16 ∧ f16 ≤ 4) (hr1 : -2147483648 ≤ a2 ∧ a2 ≤ 2147483647) (Q : zQ) (h : ∀ (y16 : Int) (y17 : Int), (0 ≤ y16 ∧ y16 ≤ 4) → (y16 = 0 → f16 = 0 ∧ (g23 0).toInt ≠ a2) → Q (none) (zMi c0 c1 c2 c3 c4 c5 c6 c7 c8 c9 c10 c11 c12 c13 f0 f9 f10 f11 f12 f13 f15 y16 y17 f20 f21 f22 f23 f26 f28 f31 f32 f33 f38 f41 f44 x14 g15 g16 g17 g18 g19 g20 g21 g22 g23 g24 g25 g26 g27 g28 g29 g30 g31 g32 g33 g34 g35 g36 g37 g38 g39 g40 g41 g42 g43 g44 t)) : zCl zTab (d + 2) iX12_full [.ref 14, .int (Int32.ofInt 0), .int (Int32.ofInt a2), .int (Int32.ofInt a3)] (zMi c0 c1 c2 c3 c4 c5 c6 c7 c8 c9 c10 c11 c12 c13 f0 f9 f10 f11 f12 f13 f15 f16 f17 f20 f21 f22 f23 f26 f28 f31 f32 f33 f38 f41 f44 x14 g15 g16 g17 g18 g19 g20 g21 g22 g23 g24 g25 g26 g27 g28 g29 g30 g31 g32 g33 g34 g35 g36 g37 g38 g39 g40 g41 g42 g43 g44 t) 0 0 Q := by
  refine zCl_i (M := kX12_full) rfl (Nat.le_of_ble_eq_true rfl) fun R hR => ?_
  iterate 3 refine hR (?_ : R (_, _, _, _, _, _))
  refine hR (t_ldE (by omega) (by omega) (Nat.le_of_ble_eq_true rfl) fun v1 ev1 rv1 => ?_)
  have bv1 : v1 = (g23 0).toInt := ev1
  clear ev1
  refine hR (?_ : R (_, _, _, _, _, _))
  refine hR (j_ne (by omega) (by omega) (fun hc2 => ?_) (fun hc2 => ?_))
  · skip
    exact hR (zret_i rfl (Nat.le_refl _) rfl (h _ _ (by omega) (by omega)))
  iterate 3 refine hR (?_ : R (_, _, _, _, _, _))
  refine hR (zcall_i 0 0 (Nat.le_of_ble_eq_true rfl) (Nat.le_of_ble_eq_true rfl) (m_later _ 3 a3 (by omega) (by omega) _ fun y16_3 y17_4 hp5 => ?_))
  refine (?_ : R (_, _, [], (zMi c0 c1 c2 c3 c4 c5 c6 c7 c8 c9 c10 c11 c12 c13 f0 f9 f10 f11 f12 f13 f15 y16_3 y17_4 f20 f21 f22 f23 f26 f28 f31 f32 f33 f38 f41 f44 x14 g15 g16 g17 g18 g19 g20 g21 g22 g23 g24 g25 g26 g27 g28 g29 g30 g31 g32 g33 g34 g35 g36 g37 g38 g39 g40 g41 g42 g43 g44 t), 0, 0))
  exact hR (zret_i rfl (Nat.le_refl _) rfl (h _ _ (by omega) (by omega)))
theorem m_full1 (d : Nat) (a2 a3 : Int) (hr0 : 0 ≤ f16 ∧ f16 ≤ 4) (hr1 : -2147483648 ≤ a2 ∧ a2 ≤ 2147483647) (Q : zQ) (h : ∀ (y16 : Int) (y17 : Int), (0 ≤ y16 ∧ y16 ≤ 4) → (y16 = 0 → f16 = 0 ∧ (g23 1).toInt ≠ a2) → Q (none) (zMi c0 c1 c2 c3 c4 c5 c6 c7 c8 c9 c10 c11 c12 c13 f0 f9 f10 f11 f12 f13 f15 y16 y17 f20 f21 f22 f23 f26 f28 f31 f32 f33 f38 f41 f44 x14 g15 g16 g17 g18 g19 g20 g21 g22 g23 g24 g25 g26 g27 g28 g29 g30 g31 g32 g33 g34 g35 g36 g37 g38 g39 g40 g41 g42 g43 g44 t)) : zCl zTab (d + 2) iX12_full [.ref 14, .int (Int32.ofInt 1), .int (Int32.ofInt a2), .int (Int32.ofInt a3)] (zMi c0 c1 c2 c3 c4 c5 c6 c7 c8 c9 c10 c11 c12 c13 f0 f9 f10 f11 f12 f13 f15 f16 f17 f20 f21 f22 f23 f26 f28 f31 f32 f33 f38 f41 f44 x14 g15 g16 g17 g18 g19 g20 g21 g22 g23 g24 g25 g26 g27 g28 g29 g30 g31 g32 g33 g34 g35 g36 g37 g38 g39 g40 g41 g42 g43 g44 t) 0 0 Q := by
  refine zCl_i (M := kX12_full) rfl (Nat.le_of_ble_eq_true rfl) fun R hR => ?_
  iterate 3 refine hR (?_ : R (_, _, _, _, _, _))
  refine hR (t_ldE (by omega) (by omega) (Nat.le_of_ble_eq_true rfl) fun v1 ev1 rv1 => ?_)
  have bv1 : v1 = (g23 1).toInt := ev1
  clear ev1
  refine hR (?_ : R (_, _, _, _, _, _))
  refine hR (j_ne (by omega) (by omega) (fun hc2 => ?_) (fun hc2 => ?_))
  · skip
    exact hR (zret_i rfl (Nat.le_refl _) rfl (h _ _ (by omega) (by omega)))
  iterate 3 refine hR (?_ : R (_, _, _, _, _, _))
  refine hR (zcall_i 0 0 (Nat.le_of_ble_eq_true rfl) (Nat.le_of_ble_eq_true rfl) (m_later _ 3 a3 (by omega) (by omega) _ fun y16_3 y17_4 hp5 => ?_))
  refine (?_ : R (_, _, [], (zMi c0 c1 c2 c3 c4 c5 c6 c7 c8 c9 c10 c11 c12 c13 f0 f9 f10 f11 f12 f13 f15 y16_3 y17_4 f20 f21 f22 f23 f26 f28 f31 f32 f33 f38 f41 f44 x14 g15 g16 g17 g18 g19 g20 g21 g22 g23 g24 g25 g26 g27 g28 g29 g30 g31 g32 g33 g34 g35 g36 g37 g38 g39 g40 g41 g42 g43 g44 t), 0, 0))
  exact hR (zret_i rfl (Nat.le_refl _) rfl (h _ _ (by omega) (by omega)))
theorem m_takeText0 (d : Nat) (hr0 : 0 ≤ f9 ∧ f9 ≤ f10 ∧ f10 ≤ 600) (hr1 : 0 ≤ f12 ∧ f12 ≤ 4 ∧ (f12 = 3 → 0 ≤ f13 ∧ f13 ≤ 99)) (hr2 : 0 ≤ f16 ∧ f16 ≤ 4) (Q : zQ) (h : ∀ (y9 : Int) (y11 : Int) (y12 : Int) (y13 : Int) (y14 : Int64) (y15 : Int) (y16 : Int) (y17 : Int) (k24 : Nat → Int32), (f9 ≤ y9 ∧ y9 ≤ f10) → (0 ≤ y12 ∧ y12 ≤ 4 ∧ (y12 = 3 → 0 ≤ y13 ∧ y13 ≤ 99)) → (0 ≤ y16 ∧ y16 ≤ 4) → (y16 = 0 → f16 = 0 ∧ 0 ≤ (k24 0).toInt ∧ (k24 0).toInt ≤ 5460) → ((k24 1).toInt = (g24 1).toInt) → (y12 = 0 ∨ f9 < y9 ∨ y12 = f12) → Q (none) (zMi c0 c1 c2 c3 c4 c5 c6 c7 c8 c9 c10 c11 c12 c13 f0 y9 f10 y11 y12 y13 y15 y16 y17 f20 f21 f22 f23 f26 f28 f31 f32 f33 f38 f41 f44 y14 g15 g16 g17 g18 g19 g20 g21 g22 g23 k24 g25 g26 g27 g28 g29 g30 g31 g32 g33 g34 g35 g36 g37 g38 g39 g40 g41 g42 g43 g44 t)) : zCl zTab (d + 5) iX12_takeText [.ref 14, .int (Int32.ofInt 0)] (zMi c0 c1 c2 c3 c4 c5 c6 c7 c8 c9 c10 c11 c12 c13 f0 f9 f10 f11 f12 f13 f15 f16 f17 f20 f21 f22 f23 f26 f28 f31 f32 f33 f38 f41 f44 x14 g15 g16 g17 g18 g19 g20 g21 g22 g23 g24 g25 g26 g27 g28 g29 g30 g31 g32 g33 g34 g35 g36 g37 g38 g39 g40 g41 g42 g43 g44 t) 0 0 Q := by
  refine zCl_i (M := kX12_takeText) rfl (Nat.le_of_ble_eq_true rfl) fun R hR => ?_
  iterate 4 refine hR (?_ : R (_, _, _, _, _, _))
  have lp4 : ∀ (N : Nat) (n : Int) (fg : Int) (e9_4 : Int) (e11_4 : Int) (e12_4 : Int) (e13_4 : Int) (e14_4 : Int64) (e15_4 : Int) (e16_4 : Int) (e17_4 : Int) (q24_4 : Nat → Int32), (0 ≤ n ∧ n ≤ 6) → (0 ≤ fg ∧ fg ≤ 1000000) → (f9 ≤ e9_4 ∧ e9_4 ≤ f10) → (0 ≤ e12_4 ∧ e12_4 ≤ 4 ∧ (e12_4 = 3 → 0 ≤ e13_4 ∧ e13_4 ≤ 99)) → (0 ≤ e16_4 ∧ e16_4 ≤ 4) → (e16_4 = 0 → f16 = 0 ∧ fg < 4 ^ n.toNat) → (fg ≤ 33 * (4 ^ n.toNat - 1)) → ((q24_4 1).toInt = (g24 1).toInt) → (e12_4 = 0 ∨ f9 < e9_4 ∨ e12_4 = f12) → (5 * (f10 - e9_4) + e12_4 < N) → R (4, [some (.ref 14), some (.int (Int32.ofInt 0)), some (.int (Int32.ofInt n)), some (.int (Int32.ofInt fg))], [], (zMi c0 c1 c2 c3 c4 c5 c6 c7 c8 c9 c10 c11 c12 c13 f0 e9_4 f10 e11_4 e12_4 e13_4 e15_4 e16_4 e17_4 f20 f21 f22 f23 f26 f28 f31 f32 f33 f38 f41 f44 e14_4 g15 g16 g17 g18 g19 g20 g21 g22 g23 q24_4 g25 g26 g27 g28 g29 g30 g31 g32 g33 g34 g35 g36 g37 g38 g39 g40 g41 g42 g43 g44 t), 0, 0) := by
    intro N
    induction N with
    | zero => intros; omega
    | succ N ih4 =>
      intro n fg e9_4 e11_4 e12_4 e13_4 e14_4 e15_4 e16_4 e17_4 q24_4 hf0_4 hf1_4 hp0_4 hp1_4 hp2_4 hp3_4 hp4_4 hp5_4 hp6_4 hN4
      iterate 3 refine hR (?_ : R (_, _, _, _, _, _))
      refine hR (j_ne (by omega) (by omega) (fun hc1 => ?_) (fun hc1 => ?_))
      · skip
        iterate 4 refine hR (?_ : R (_, _, _, _, _, _))
        refine hR (zcall_i 0 0 (Nat.le_of_ble_eq_true rfl) (Nat.le_of_ble_eq_true rfl) (m_shorter _ n _ (by omega) _ fun v2 hp3 hp4 => ?_))
        refine (?_ : R (_, _, (.int (Int32.ofInt v2)) :: (.int (Int32.ofInt 0)) :: (.ref 24) :: [], (zMi c0 c1 c2 c3 c4 c5 c6 c7 c8 c9 c10 c11 c12 c13 f0 e9_4 f10 e11_4 e12_4 e13_4 e15_4 e16_4 e17_4 f20 f21 f22 f23 f26 f28 f31 f32 f33 f38 f41 f44 e14_4 g15 g16 g17 g18 g19 g20 g21 g22 g23 q24_4 g25 g26 g27 g28 g29 g30 g31 g32 g33 g34 g35 g36 g37 g38 g39 g40 g41 g42 g43 g44 t), 0, 0))
        have hz1 := tSh_b (i := n) (by omega) (by omega)
        have hz2 := zp4_b (i := n) (by omega) (by omega)
        refine hR (?_ : R (_, _, _, _, _, _))
        refine hR (t_add ?_)
        refine hR (t_stV 0 rfl (by omega) (by omega) (by omega) (by omega) (Nat.le_of_ble_eq_true rfl) fun k24_5 hvk24_5 hwk24_5 => (?_ : R (_, _, _, (zMi c0 c1 c2 c3 c4 c5 c6 c7 c8 c9 c10 c11 c12 c13 f0 e9_4 f10 e11_4 e12_4 e13_4 e15_4 e16_4 e17_4 f20 f21 f22 f23 f26 f28 f31 f32 f33 f38 f41 f44 e14_4 g15 g16 g17 g18 g19 g20 g21 g22 g23 k24_5 g25 g26 g27 g28 g29 g30 g31 g32 g33 g34 g35 g36 g37 g38 g39 g40 g41 g42 g43 g44 t), _, _)))
        have hxk24_5_1 : (k24_5 1).toInt = (q24_4 1).toInt := by rw [hwk24_5 1 (by decide)]
        have hxk24_5_2 : (k24_5 2).toInt = (q24_4 2).toInt := by rw [hwk24_5 2 (by decide)]
        exact hR (zret_i rfl (Nat.le_refl _) rfl (h _ _ _ _ _ _ _ _ _ (by omega) (by omega) (by omega) (by omega) (by omega) (by omega)))
      have hz0 := zp4_b (i := n) (by omega) (by omega)
      refine hR (?_ : R (_, _, _, _, _, _))
      refine hR (t_c 6 (by decide) ?_)
      refine hR (j_ne (by omega) (by omega) (fun hc6 => ?_) (fun hc6 => ?_))
      · skip
        iterate 4 refine hR (?_ : R (_, _, _, _, _, _))
        refine hR (zcall_i 0 0 (Nat.le_of_ble_eq_true rfl) (Nat.le_of_ble_eq_true rfl) (m_take2 _ 0 3 (by omega) (by omega) (by omega) (by omega) (by omega) _ fun v7 y9_8 y11_9 y12_10 y13_11 y14_12 y15_13 y16_14 y17_15 k24_16 hp17 hp18 hp19 hp20 hp21 hp22 => ?_))
        refine (?_ : R (_, _, (.int (Int32.ofInt v7)) :: [], (zMi c0 c1 c2 c3 c4 c5 c6 c7 c8 c9 c10 c11 c12 c13 f0 y9_8 f10 y11_9 y12_10 y13_11 y15_13 y16_14 y17_15 f20 f21 f22 f23 f26 f28 f31 f32 f33 f38 f41 f44 y14_12 g15 g16 g17 g18 g19 g20 g21 g22 g23 k24_16 g25 g26 g27 g28 g29 g30 g31 g32 g33 g34 g35 g36 g37 g38 g39 g40 g41 g42 g43 g44 t), 0, 0))
        iterate 2 refine hR (?_ : R (_, _, _, _, _, _))
        refine hR (t_c 6 (by decide) ?_)
        refine hR (j_ge (by omega) (by omega) (fun hc23 => ?_) (fun hc23 => ?_))
        · skip
          exact ih4 _ _ _ _ _ _ _ _ _ _ _ (by omega) (by omega) (by omega) (by omega) (by omega) (fun h => hp3_4 (by omega)) hp4_4 (by omega) (by omega) (by omega)
        iterate 2 refine hR (?_ : R (_, _, _, _, _, _))
        refine hR (t_mul ?_)
        iterate 3 refine hR (?_ : R (_, _, _, _, _, _))
        refine hR (t_ldE (by omega) (by omega) (Nat.le_of_ble_eq_true rfl) fun v24 ev24 rv24 => ?_)
        have bv24 : v24 = (k24_16 2).toInt := ev24
        clear ev24
        refine hR (t_add ?_)
        refine hR (?_ : R (_, _, _, _, _, _))
        refine hR (t_inc ?_)
        refine hR (?_ : R (_, _, _, _, _, _))
        exact ih4 _ _ _ _ _ _ _ _ _ _ _ (by omega) (by omega) (by omega) (by omega) (by omega) (fun h => tt_s (hp3_4 (by omega)).1 (hp3_4 (by omega)).2 (by omega) (by omega)) (tt_b (by omega) hp4_4 (by omega)) (by omega) (by omega) (by omega)
      iterate 4 refine hR (?_ : R (_, _, _, _, _, _))
      refine hR (zcall_i 0 0 (Nat.le_of_ble_eq_true rfl) (Nat.le_of_ble_eq_true rfl) (m_later _ 3 e11_4 (by omega) (by omega) _ fun y16_25 y17_26 hp27 => ?_))
      refine (?_ : R (_, _, [], (zMi c0 c1 c2 c3 c4 c5 c6 c7 c8 c9 c10 c11 c12 c13 f0 e9_4 f10 e11_4 e12_4 e13_4 e15_4 y16_25 y17_26 f20 f21 f22 f23 f26 f28 f31 f32 f33 f38 f41 f44 e14_4 g15 g16 g17 g18 g19 g20 g21 g22 g23 q24_4 g25 g26 g27 g28 g29 g30 g31 g32 g33 g34 g35 g36 g37 g38 g39 g40 g41 g42 g43 g44 t), 0, 0))
      iterate 4 refine hR (?_ : R (_, _, _, _, _, _))
      refine hR (zcall_i 0 0 (Nat.le_of_ble_eq_true rfl) (Nat.le_of_ble_eq_true rfl) (m_take2 _ 0 3 (by omega) (by omega) (by omega) (by omega) (by omega) _ fun v28 y9_29 y11_30 y12_31 y13_32 y14_33 y15_34 y16_35 y17_36 k24_37 hp38 hp39 hp40 hp41 hp42 hp43 => ?_))
      refine (?_ : R (_, _, (.int (Int32.ofInt v28)) :: [], (zMi c0 c1 c2 c3 c4 c5 c6 c7 c8 c9 c10 c11 c12 c13 f0 y9_29 f10 y11_30 y12_31 y13_32 y15_34 y16_35 y17_36 f20 f21 f22 f23 f26 f28 f31 f32 f33 f38 f41 f44 y14_33 g15 g16 g17 g18 g19 g20 g21 g22 g23 k24_37 g25 g26 g27 g28 g29 g30 g31 g32 g33 g34 g35 g36 g37 g38 g39 g40 g41 g42 g43 g44 t), 0, 0))
      iterate 2 refine hR (?_ : R (_, _, _, _, _, _))
      refine hR (t_c 6 (by decide) ?_)
      refine hR (j_ge (by omega) (by omega) (fun hc44 => ?_) (fun hc44 => ?_))
      · skip
        exact ih4 _ _ _ _ _ _ _ _ _ _ _ (by omega) (by omega) (by omega) (by omega) (by omega) (fun h => hp3_4 (by omega)) hp4_4 (by omega) (by omega) (by omega)
      iterate 2 refine hR (?_ : R (_, _, _, _, _, _))
      refine hR (t_mul ?_)
      iterate 3 refine hR (?_ : R (_, _, _, _, _, _))
      refine hR (t_ldE (by omega) (by omega) (Nat.le_of_ble_eq_true rfl) fun v45 ev45 rv45 => ?_)
      have bv45 : v45 = (k24_37 2).toInt := ev45
      clear ev45
      refine hR (t_add ?_)
      refine hR (?_ : R (_, _, _, _, _, _))
      refine hR (t_inc ?_)
      refine hR (?_ : R (_, _, _, _, _, _))
      exact ih4 _ _ _ _ _ _ _ _ _ _ _ (by omega) (by omega) (by omega) (by omega) (by omega) (fun h => tt_s (hp3_4 (by omega)).1 (hp3_4 (by omega)).2 (by omega) (by omega)) (tt_b (by omega) hp4_4 (by omega)) (by omega) (by omega) (by omega)
  exact lp4 400000000 _ _ _ _ _ _ _ _ _ _ _ (by omega) (by omega) (by omega) (by omega) (by omega) (fun h => ⟨by omega, by decide⟩) (by decide) (by omega) (by omega) (by omega)
theorem m_takeText1 (d : Nat) (hr0 : 0 ≤ f9 ∧ f9 ≤ f10 ∧ f10 ≤ 600) (hr1 : 0 ≤ f12 ∧ f12 ≤ 4 ∧ (f12 = 3 → 0 ≤ f13 ∧ f13 ≤ 99)) (hr2 : 0 ≤ f16 ∧ f16 ≤ 4) (Q : zQ) (h : ∀ (y9 : Int) (y11 : Int) (y12 : Int) (y13 : Int) (y14 : Int64) (y15 : Int) (y16 : Int) (y17 : Int) (k24 : Nat → Int32), (f9 ≤ y9 ∧ y9 ≤ f10) → (0 ≤ y12 ∧ y12 ≤ 4 ∧ (y12 = 3 → 0 ≤ y13 ∧ y13 ≤ 99)) → (0 ≤ y16 ∧ y16 ≤ 4) → (y16 = 0 → f16 = 0 ∧ 0 ≤ (k24 1).toInt ∧ (k24 1).toInt ≤ 5460) → ((k24 0).toInt = (g24 0).toInt) → (y12 = 0 ∨ f9 < y9 ∨ y12 = f12) → Q (none) (zMi c0 c1 c2 c3 c4 c5 c6 c7 c8 c9 c10 c11 c12 c13 f0 y9 f10 y11 y12 y13 y15 y16 y17 f20 f21 f22 f23 f26 f28 f31 f32 f33 f38 f41 f44 y14 g15 g16 g17 g18 g19 g20 g21 g22 g23 k24 g25 g26 g27 g28 g29 g30 g31 g32 g33 g34 g35 g36 g37 g38 g39 g40 g41 g42 g43 g44 t)) : zCl zTab (d + 5) iX12_takeText [.ref 14, .int (Int32.ofInt 1)] (zMi c0 c1 c2 c3 c4 c5 c6 c7 c8 c9 c10 c11 c12 c13 f0 f9 f10 f11 f12 f13 f15 f16 f17 f20 f21 f22 f23 f26 f28 f31 f32 f33 f38 f41 f44 x14 g15 g16 g17 g18 g19 g20 g21 g22 g23 g24 g25 g26 g27 g28 g29 g30 g31 g32 g33 g34 g35 g36 g37 g38 g39 g40 g41 g42 g43 g44 t) 0 0 Q := by
  refine zCl_i (M := kX12_takeText) rfl (Nat.le_of_ble_eq_true rfl) fun R hR => ?_
  iterate 4 refine hR (?_ : R (_, _, _, _, _, _))
  have lp4 : ∀ (N : Nat) (n : Int) (fg : Int) (e9_4 : Int) (e11_4 : Int) (e12_4 : Int) (e13_4 : Int) (e14_4 : Int64) (e15_4 : Int) (e16_4 : Int) (e17_4 : Int) (q24_4 : Nat → Int32), (0 ≤ n ∧ n ≤ 6) → (0 ≤ fg ∧ fg ≤ 1000000) → (f9 ≤ e9_4 ∧ e9_4 ≤ f10) → (0 ≤ e12_4 ∧ e12_4 ≤ 4 ∧ (e12_4 = 3 → 0 ≤ e13_4 ∧ e13_4 ≤ 99)) → (0 ≤ e16_4 ∧ e16_4 ≤ 4) → (e16_4 = 0 → f16 = 0 ∧ fg < 4 ^ n.toNat) → (fg ≤ 33 * (4 ^ n.toNat - 1)) → ((q24_4 0).toInt = (g24 0).toInt) → (e12_4 = 0 ∨ f9 < e9_4 ∨ e12_4 = f12) → (5 * (f10 - e9_4) + e12_4 < N) → R (4, [some (.ref 14), some (.int (Int32.ofInt 1)), some (.int (Int32.ofInt n)), some (.int (Int32.ofInt fg))], [], (zMi c0 c1 c2 c3 c4 c5 c6 c7 c8 c9 c10 c11 c12 c13 f0 e9_4 f10 e11_4 e12_4 e13_4 e15_4 e16_4 e17_4 f20 f21 f22 f23 f26 f28 f31 f32 f33 f38 f41 f44 e14_4 g15 g16 g17 g18 g19 g20 g21 g22 g23 q24_4 g25 g26 g27 g28 g29 g30 g31 g32 g33 g34 g35 g36 g37 g38 g39 g40 g41 g42 g43 g44 t), 0, 0) := by
    intro N
    induction N with
    | zero => intros; omega
    | succ N ih4 =>
      intro n fg e9_4 e11_4 e12_4 e13_4 e14_4 e15_4 e16_4 e17_4 q24_4 hf0_4 hf1_4 hp0_4 hp1_4 hp2_4 hp3_4 hp4_4 hp5_4 hp6_4 hN4
      iterate 3 refine hR (?_ : R (_, _, _, _, _, _))
      refine hR (j_ne (by omega) (by omega) (fun hc1 => ?_) (fun hc1 => ?_))
      · skip
        iterate 4 refine hR (?_ : R (_, _, _, _, _, _))
        refine hR (zcall_i 0 0 (Nat.le_of_ble_eq_true rfl) (Nat.le_of_ble_eq_true rfl) (m_shorter _ n _ (by omega) _ fun v2 hp3 hp4 => ?_))
        refine (?_ : R (_, _, (.int (Int32.ofInt v2)) :: (.int (Int32.ofInt 1)) :: (.ref 24) :: [], (zMi c0 c1 c2 c3 c4 c5 c6 c7 c8 c9 c10 c11 c12 c13 f0 e9_4 f10 e11_4 e12_4 e13_4 e15_4 e16_4 e17_4 f20 f21 f22 f23 f26 f28 f31 f32 f33 f38 f41 f44 e14_4 g15 g16 g17 g18 g19 g20 g21 g22 g23 q24_4 g25 g26 g27 g28 g29 g30 g31 g32 g33 g34 g35 g36 g37 g38 g39 g40 g41 g42 g43 g44 t), 0, 0))
        have hz1 := tSh_b (i := n) (by omega) (by omega)
        have hz2 := zp4_b (i := n) (by omega) (by omega)
        refine hR (?_ : R (_, _, _, _, _, _))
        refine hR (t_add ?_)
        refine hR (t_stV 1 rfl (by omega) (by omega) (by omega) (by omega) (Nat.le_of_ble_eq_true rfl) fun k24_5 hvk24_5 hwk24_5 => (?_ : R (_, _, _, (zMi c0 c1 c2 c3 c4 c5 c6 c7 c8 c9 c10 c11 c12 c13 f0 e9_4 f10 e11_4 e12_4 e13_4 e15_4 e16_4 e17_4 f20 f21 f22 f23 f26 f28 f31 f32 f33 f38 f41 f44 e14_4 g15 g16 g17 g18 g19 g20 g21 g22 g23 k24_5 g25 g26 g27 g28 g29 g30 g31 g32 g33 g34 g35 g36 g37 g38 g39 g40 g41 g42 g43 g44 t), _, _)))
        have hxk24_5_0 : (k24_5 0).toInt = (q24_4 0).toInt := by rw [hwk24_5 0 (by decide)]
        have hxk24_5_2 : (k24_5 2).toInt = (q24_4 2).toInt := by rw [hwk24_5 2 (by decide)]
        exact hR (zret_i rfl (Nat.le_refl _) rfl (h _ _ _ _ _ _ _ _ _ (by omega) (by omega) (by omega) (by omega) (by omega) (by omega)))
      have hz0 := zp4_b (i := n) (by omega) (by omega)
      refine hR (?_ : R (_, _, _, _, _, _))
      refine hR (t_c 6 (by decide) ?_)
      refine hR (j_ne (by omega) (by omega) (fun hc6 => ?_) (fun hc6 => ?_))
      · skip
        iterate 4 refine hR (?_ : R (_, _, _, _, _, _))
        refine hR (zcall_i 0 0 (Nat.le_of_ble_eq_true rfl) (Nat.le_of_ble_eq_true rfl) (m_take2 _ 0 3 (by omega) (by omega) (by omega) (by omega) (by omega) _ fun v7 y9_8 y11_9 y12_10 y13_11 y14_12 y15_13 y16_14 y17_15 k24_16 hp17 hp18 hp19 hp20 hp21 hp22 => ?_))
        refine (?_ : R (_, _, (.int (Int32.ofInt v7)) :: [], (zMi c0 c1 c2 c3 c4 c5 c6 c7 c8 c9 c10 c11 c12 c13 f0 y9_8 f10 y11_9 y12_10 y13_11 y15_13 y16_14 y17_15 f20 f21 f22 f23 f26 f28 f31 f32 f33 f38 f41 f44 y14_12 g15 g16 g17 g18 g19 g20 g21 g22 g23 k24_16 g25 g26 g27 g28 g29 g30 g31 g32 g33 g34 g35 g36 g37 g38 g39 g40 g41 g42 g43 g44 t), 0, 0))
        iterate 2 refine hR (?_ : R (_, _, _, _, _, _))
        refine hR (t_c 6 (by decide) ?_)
        refine hR (j_ge (by omega) (by omega) (fun hc23 => ?_) (fun hc23 => ?_))
        · skip
          exact ih4 _ _ _ _ _ _ _ _ _ _ _ (by omega) (by omega) (by omega) (by omega) (by omega) (fun h => hp3_4 (by omega)) hp4_4 (by omega) (by omega) (by omega)
        iterate 2 refine hR (?_ : R (_, _, _, _, _, _))
        refine hR (t_mul ?_)
        iterate 3 refine hR (?_ : R (_, _, _, _, _, _))
        refine hR (t_ldE (by omega) (by omega) (Nat.le_of_ble_eq_true rfl) fun v24 ev24 rv24 => ?_)
        have bv24 : v24 = (k24_16 2).toInt := ev24
        clear ev24
        refine hR (t_add ?_)
        refine hR (?_ : R (_, _, _, _, _, _))
        refine hR (t_inc ?_)
        refine hR (?_ : R (_, _, _, _, _, _))
        exact ih4 _ _ _ _ _ _ _ _ _ _ _ (by omega) (by omega) (by omega) (by omega) (by omega) (fun h => tt_s (hp3_4 (by omega)).1 (hp3_4 (by omega)).2 (by omega) (by omega)) (tt_b (by omega) hp4_4 (by omega)) (by omega) (by omega) (by omega)
      iterate 4 refine hR (?_ : R (_, _, _, _, _, _))
      refine hR (zcall_i 0 0 (Nat.le_of_ble_eq_true rfl) (Nat.le_of_ble_eq_true rfl) (m_later _ 3 e11_4 (by omega) (by omega) _ fun y16_25 y17_26 hp27 => ?_))
      refine (?_ : R (_, _, [], (zMi c0 c1 c2 c3 c4 c5 c6 c7 c8 c9 c10 c11 c12 c13 f0 e9_4 f10 e11_4 e12_4 e13_4 e15_4 y16_25 y17_26 f20 f21 f22 f23 f26 f28 f31 f32 f33 f38 f41 f44 e14_4 g15 g16 g17 g18 g19 g20 g21 g22 g23 q24_4 g25 g26 g27 g28 g29 g30 g31 g32 g33 g34 g35 g36 g37 g38 g39 g40 g41 g42 g43 g44 t), 0, 0))
      iterate 4 refine hR (?_ : R (_, _, _, _, _, _))
      refine hR (zcall_i 0 0 (Nat.le_of_ble_eq_true rfl) (Nat.le_of_ble_eq_true rfl) (m_take2 _ 0 3 (by omega) (by omega) (by omega) (by omega) (by omega) _ fun v28 y9_29 y11_30 y12_31 y13_32 y14_33 y15_34 y16_35 y17_36 k24_37 hp38 hp39 hp40 hp41 hp42 hp43 => ?_))
      refine (?_ : R (_, _, (.int (Int32.ofInt v28)) :: [], (zMi c0 c1 c2 c3 c4 c5 c6 c7 c8 c9 c10 c11 c12 c13 f0 y9_29 f10 y11_30 y12_31 y13_32 y15_34 y16_35 y17_36 f20 f21 f22 f23 f26 f28 f31 f32 f33 f38 f41 f44 y14_33 g15 g16 g17 g18 g19 g20 g21 g22 g23 k24_37 g25 g26 g27 g28 g29 g30 g31 g32 g33 g34 g35 g36 g37 g38 g39 g40 g41 g42 g43 g44 t), 0, 0))
      iterate 2 refine hR (?_ : R (_, _, _, _, _, _))
      refine hR (t_c 6 (by decide) ?_)
      refine hR (j_ge (by omega) (by omega) (fun hc44 => ?_) (fun hc44 => ?_))
      · skip
        exact ih4 _ _ _ _ _ _ _ _ _ _ _ (by omega) (by omega) (by omega) (by omega) (by omega) (fun h => hp3_4 (by omega)) hp4_4 (by omega) (by omega) (by omega)
      iterate 2 refine hR (?_ : R (_, _, _, _, _, _))
      refine hR (t_mul ?_)
      iterate 3 refine hR (?_ : R (_, _, _, _, _, _))
      refine hR (t_ldE (by omega) (by omega) (Nat.le_of_ble_eq_true rfl) fun v45 ev45 rv45 => ?_)
      have bv45 : v45 = (k24_37 2).toInt := ev45
      clear ev45
      refine hR (t_add ?_)
      refine hR (?_ : R (_, _, _, _, _, _))
      refine hR (t_inc ?_)
      refine hR (?_ : R (_, _, _, _, _, _))
      exact ih4 _ _ _ _ _ _ _ _ _ _ _ (by omega) (by omega) (by omega) (by omega) (by omega) (fun h => tt_s (hp3_4 (by omega)).1 (hp3_4 (by omega)).2 (by omega) (by omega)) (tt_b (by omega) hp4_4 (by omega)) (by omega) (by omega) (by omega)
  exact lp4 400000000 _ _ _ _ _ _ _ _ _ _ _ (by omega) (by omega) (by omega) (by omega) (by omega) (fun h => ⟨by omega, by decide⟩) (by decide) (by omega) (by omega) (by omega)
theorem m_stepBy (d : Nat) (lw : Int64) (w : zW)  (Q : zQ) (h : ∀ (v : Int), (-1 ≤ v ∧ v ≤ 4) → Q (some (.int (Int32.ofInt v))) w) : zCl zTab (d + 1) iX12_stepBy [.long lw] w 0 0 Q := by
  refine zCl_i (M := kX12_stepBy) rfl (Nat.le_of_ble_eq_true rfl) fun R hR => ?_
  iterate 2 refine hR (?_ : R (_, _, _, _, _, _))
  refine hR (t_o fun v1 rv1 => ?_)
  refine hR (j_any ?_ ?_)
  rotate_left
  · skip
    iterate 2 refine hR (?_ : R (_, _, _, _, _, _))
    exact hR (zret_i rfl (Nat.le_refl _) trivial (h _ (by omega)))
  iterate 2 refine hR (?_ : R (_, _, _, _, _, _))
  refine hR (t_o fun v2 rv2 => ?_)
  refine hR (j_any ?_ ?_)
  rotate_left
  · skip
    iterate 2 refine hR (?_ : R (_, _, _, _, _, _))
    exact hR (zret_i rfl (Nat.le_refl _) trivial (h _ (by omega)))
  iterate 2 refine hR (?_ : R (_, _, _, _, _, _))
  refine hR (t_o fun v3 rv3 => ?_)
  refine hR (j_any ?_ ?_)
  rotate_left
  · skip
    iterate 2 refine hR (?_ : R (_, _, _, _, _, _))
    exact hR (zret_i rfl (Nat.le_refl _) trivial (h _ (by omega)))
  iterate 2 refine hR (?_ : R (_, _, _, _, _, _))
  refine hR (t_o fun v4 rv4 => ?_)
  refine hR (j_any ?_ ?_)
  rotate_left
  · skip
    iterate 2 refine hR (?_ : R (_, _, _, _, _, _))
    exact hR (zret_i rfl (Nat.le_refl _) trivial (h _ (by omega)))
  iterate 2 refine hR (?_ : R (_, _, _, _, _, _))
  refine hR (t_o fun v5 rv5 => ?_)
  refine hR (j_any ?_ ?_)
  · skip
    refine hR (?_ : R (_, _, _, _, _, _))
    exact hR (zret_i rfl (Nat.le_refl _) trivial (h _ (by omega)))
  iterate 2 refine hR (?_ : R (_, _, _, _, _, _))
  exact hR (zret_i rfl (Nat.le_refl _) trivial (h _ (by omega)))
theorem m_deedBy (d : Nat) (lw : Int64) (w : zW)  (Q : zQ) (h : ∀ (v : Int), (-1 ≤ v ∧ v ≤ 5) → Q (some (.int (Int32.ofInt v))) w) : zCl zTab (d + 1) iX12_deedBy [.long lw] w 0 0 Q := by
  refine zCl_i (M := kX12_deedBy) rfl (Nat.le_of_ble_eq_true rfl) fun R hR => ?_
  iterate 2 refine hR (?_ : R (_, _, _, _, _, _))
  refine hR (t_o fun v1 rv1 => ?_)
  refine hR (j_any ?_ ?_)
  rotate_left
  · skip
    iterate 2 refine hR (?_ : R (_, _, _, _, _, _))
    exact hR (zret_i rfl (Nat.le_refl _) trivial (h _ (by omega)))
  iterate 2 refine hR (?_ : R (_, _, _, _, _, _))
  refine hR (t_o fun v2 rv2 => ?_)
  refine hR (j_any ?_ ?_)
  rotate_left
  · skip
    iterate 2 refine hR (?_ : R (_, _, _, _, _, _))
    exact hR (zret_i rfl (Nat.le_refl _) trivial (h _ (by omega)))
  iterate 2 refine hR (?_ : R (_, _, _, _, _, _))
  refine hR (t_o fun v3 rv3 => ?_)
  refine hR (j_any ?_ ?_)
  rotate_left
  · skip
    iterate 2 refine hR (?_ : R (_, _, _, _, _, _))
    exact hR (zret_i rfl (Nat.le_refl _) trivial (h _ (by omega)))
  iterate 2 refine hR (?_ : R (_, _, _, _, _, _))
  refine hR (t_o fun v4 rv4 => ?_)
  refine hR (j_any ?_ ?_)
  rotate_left
  · skip
    iterate 2 refine hR (?_ : R (_, _, _, _, _, _))
    exact hR (zret_i rfl (Nat.le_refl _) trivial (h _ (by omega)))
  iterate 2 refine hR (?_ : R (_, _, _, _, _, _))
  refine hR (t_o fun v5 rv5 => ?_)
  refine hR (j_any ?_ ?_)
  rotate_left
  · skip
    iterate 2 refine hR (?_ : R (_, _, _, _, _, _))
    exact hR (zret_i rfl (Nat.le_refl _) trivial (h _ (by omega)))
  iterate 2 refine hR (?_ : R (_, _, _, _, _, _))
  refine hR (t_o fun v6 rv6 => ?_)
  refine hR (j_any ?_ ?_)
  · skip
    refine hR (?_ : R (_, _, _, _, _, _))
    exact hR (zret_i rfl (Nat.le_refl _) trivial (h _ (by omega)))
  iterate 2 refine hR (?_ : R (_, _, _, _, _, _))
  exact hR (zret_i rfl (Nat.le_refl _) trivial (h _ (by omega)))
end MZ
