noncomputable def fbA (D : Nat → Int32) : Prop := zNb 5461 0 1000000 D
noncomputable def fbW (D M : Nat → Int32) (rd : Int) : Prop := ∀ t, t < 5461 → (D t).toInt = 1000000 ∨ (D t).toInt = 0 ∨ ∃ r : Nat, (r : Int) < rd ∧ (D (M (5461 * r + t)).toInt.toNat).toInt < (D t).toInt
noncomputable def fbC (D M : Nat → Int32) (n : Nat) : Prop := ∀ k, k < n → (D (k % 5461)).toInt ≤ (D (M k).toInt.toNat).toInt + 1
theorem fb_i {D : Nat → Int32} {i x : Int} (h : ∀ j : Nat, (j : Int) < i → (D j).toInt = 0 ∨ (D j).toInt = 1000000) (h0 : 0 ≤ i) (hx : x = 0 ∨ x = 1000000) : ∀ j : Nat, (j : Int) < i + 1 → (upd D i.toNat (Int32.ofInt x) j).toInt = 0 ∨ (upd D i.toNat (Int32.ofInt x) j).toInt = 1000000 := by
  intro j hj
  by_cases e : j = i.toNat
  · subst e; rw [pk_us, zti (by omega) (by omega)]; exact hx
  · rw [pk_un e]; exact h j (by omega)
theorem fb_1 {D : Nat → Int32} {i : Int} (h : ∀ j : Nat, (j : Int) < i → (D j).toInt = 0 ∨ (D j).toInt = 1000000) (hi : 5461 ≤ i) : fbA D ∧ ∀ M rd, fbW D M rd := by
  refine ⟨fun t ht => ?_, fun M rd t ht => ?_⟩
  · have := h t (by omega); omega
  · have := h t (by omega)
    rcases this with q | q
    · exact Or.inr (Or.inl q)
    · exact Or.inl q
theorem fb_sb {D : Nat → Int32} (h : fbA D) : 0 ≤ sumI D 5461 ∧ sumI D 5461 ≤ 5461000000 := by
  have := sumI_b D 5461 h
  omega
theorem fb_sum : ∃ S : (Nat → Int32) → Int, (∀ D t (x : Int32), t < 5461 → S (upd D t x) = S D - (D t).toInt + x.toInt) ∧ (∀ D, fbA D → 0 ≤ S D ∧ S D ≤ 5461000000) :=
  ⟨fun D => sumI D 5461, fun D _ _ h => sumI_u D 5461 h, fun _ h => fb_sb h⟩
theorem fb_W {D M : Nat → Int32} {rd k v1 v2 v3 b : Int} (h : fbW D M rd) (hM : zB 0 5460 M) (h0 : 0 ≤ k) (hk : k < 5461 * rd) (e1 : v1 = (M k.toNat).toInt) (e2 : v2 = (D v1.toNat).toInt) (e3 : v3 = (D (k % 5461).toNat).toInt) (hb : b = v2 + 1) (hlt : b < v3) : fbW (upd D (k % 5461).toNat (Int32.ofInt b)) M rd := by
  have hv1 := hM k.toNat
  have r2 := zrg (D v1.toNat)
  have r3 := zrg (D (k % 5461).toNat)
  have eb : (Int32.ofInt b).toInt = b := zti (by omega) (by omega)
  have hle : ∀ s, (upd D (k % 5461).toNat (Int32.ofInt b) s).toInt ≤ (D s).toInt := by
    intro s
    by_cases e : s = (k % 5461).toNat
    · subst e; rw [pk_us, eb]; omega
    · rw [pk_un e]; exact Int.le_refl _
  intro t ht
  by_cases e : t = (k % 5461).toNat
  · subst e
    refine Or.inr (Or.inr ⟨(k / 5461).toNat, by omega, ?_⟩)
    have ek : 5461 * (k / 5461).toNat + (k % 5461).toNat = k.toNat := by omega
    rw [ek, pk_us, eb, ← e1]
    have hne : v1.toNat ≠ (k % 5461).toNat := by
      intro z
      rw [z] at e2
      omega
    rw [pk_un hne]
    omega
  · rw [pk_un e]
    rcases h t ht with q | q | ⟨r, hr, q⟩
    · exact Or.inl q
    · exact Or.inr (Or.inl q)
    · refine Or.inr (Or.inr ⟨r, hr, ?_⟩)
      have := hle (M (5461 * r + t)).toInt.toNat
      omega
theorem fb_C {D M : Nat → Int32} {k v1 v2 v3 : Int} (h : fbC D M k.toNat) (h0 : 0 ≤ k) (e1 : v1 = (M k.toNat).toInt) (e2 : v2 = (D v1.toNat).toInt) (e3 : v3 = (D (k % 5461).toNat).toInt) (hle : ¬ v2 + 1 < v3) : fbC D M (k + 1).toNat := by
  intro j hj
  by_cases e : j = k.toNat
  · subst e
    have ek : (k % 5461).toNat = k.toNat % 5461 := by omega
    rw [← ek, ← e1]
    omega
  · exact h j (by omega)
theorem fb_e {D M : Nat → Int32} {k : Int} {rd : Int} (h : fbC D M k.toNat) (hk : 5461 * rd ≤ k) : fbC D M (5461 * rd).toNat := fun j hj => h j (by omega)
theorem fb_wit {D M : Nat → Int32} {rd : Int} (hA : fbA D) (hW : fbW D M rd) (hC : fbC D M (5461 * rd).toNat) {t : Nat} (ht : t < 5461) (h1 : 1 ≤ (D t).toInt) (h2 : (D t).toInt < 1000000) : ∃ r0 : Nat, (r0 : Int) < rd ∧ (D (M (5461 * r0 + t)).toInt.toNat).toInt = (D t).toInt - 1 := by
  rcases hW t ht with q | q | ⟨r, hr, q⟩
  · omega
  · omega
  · refine ⟨r, hr, ?_⟩
    have := hC (5461 * r + t) (by omega)
    rw [show (5461 * r + t) % 5461 = t by omega] at this
    omega
theorem mk_ne {D M : Nat → Int32} {la a v1 v2 v3 : Int} {r0 : Nat} (h0 : 0 ≤ la) (ha : 0 ≤ a) (e1 : v1 = (M (5461 * la + a).toNat).toInt) (e2 : v2 = (D v1.toNat).toInt) (e3 : v3 = (D a.toNat).toInt) (hr : (D (M (5461 * r0 + a.toNat)).toInt.toNat).toInt = (D a.toNat).toInt - 1) (hc : ¬ v2 = v3 - 1) : la ≠ r0 := by
  intro e
  apply hc
  rw [e2, e1, e3, ← hr, show (5461 * la + a).toNat = 5461 * r0 + a.toNat by omega]
theorem mk_nx {D M : Nat → Int32} {la a v1 v2 v3 v4 n i : Int} (h0 : 0 ≤ la) (ha : 0 ≤ a) (e1 : v1 = (M (5461 * la + a).toNat).toInt) (e2 : v2 = (D v1.toNat).toInt) (e3 : v3 = (D a.toNat).toInt) (e4 : v4 = (M (5461 * la + a).toNat).toInt) (hc : v2 = v3 - 1) (hn : (D a.toNat).toInt = n - i) : (D v4.toNat).toInt = n - (i + 1) := by
  rw [e4, ← e1, ← e2]
  omega
theorem fc_i {D : Nat → Int32} {i : Int} (h : ∀ j : Nat, (j : Int) < i → (D j).toInt = 0) (h0 : 0 ≤ i) : ∀ j : Nat, (j : Int) < i + 1 → (upd D i.toNat (Int32.ofInt 0) j).toInt = 0 := by
  intro j hj
  by_cases e : j = i.toNat
  · subst e; rw [pk_us]; rfl
  · rw [pk_un e]; exact h j (by omega)
theorem fc_0 {D : Nat → Int32} {i : Int} (h : ∀ j : Nat, (j : Int) < i → (D j).toInt = 0) (hi : 5461 ≤ i) : zNb 5461 0 0 D := fun t ht => by
  have := h t (by omega); omega
theorem fa_1 {D : Nat → Int32} {en en' i v : Int} (h : en ≤ cP D i.toNat) (h0 : 0 ≤ i) (e : v = (D i.toNat).toInt) (hv : en' = en ∨ (en' = en + 1 ∧ v = 0)) : en' ≤ cP D (i + 1).toNat := by
  rw [show (i + 1).toNat = i.toNat + 1 by omega, cP_s, ← e]
  split <;> omega
theorem fa_2 {D : Nat → Int32} {en i : Int} (h : en ≤ cP D i.toNat) (h0 : 5461 ≤ i) (h1 : i ≤ 5461) : en ≤ cP D 5461 := by
  rw [show i.toNat = 5461 by omega] at h; exact h
theorem fa_3 {D : Nat → Int32} {en en' t v : Int} (h : en ≤ cP D 5461) (h0 : 0 ≤ t) (ht : t ≤ 5460) (e : v = (D t.toNat).toInt) (hr : -2147483647 ≤ v) (hv : (en' = en ∧ v - 1 ≠ 0) ∨ (en' = en + 1 ∧ v - 1 = 0)) : en' ≤ cP (upd D t.toNat (Int32.ofInt (v - 1))) 5461 := by
  have r := zrg (D t.toNat)
  have e1 : (Int32.ofInt (v - 1)).toInt = v - 1 := zti (by omega) (by omega)
  rcases hv with ⟨q1, q2⟩ | ⟨q1, q2⟩
  · rw [cP_same 5461 (by omega)]; omega
  · rw [cP_up (by omega) (by omega) (by omega)]; omega
section MZ
variable {c0 c1 c2 c3 c4 c5 c6 c7 c8 c9 c10 c11 c12 c13 : va_E} {f0 f9 f10 f11 f12 f13 f15 f16 f17 f20 f21 f22 f23 f26 f28 f31 f32 f33 f38 f41 f44 : Int} {x14 : Int64} {g15 g16 g17 g18 g19 g20 g21 g22 g23 g24 g25 g26 g27 g28 g29 g30 g31 g32 g33 g34 g35 g36 g37 g38 g39 g40 g41 g42 g43 g44 : Nat → Int32} {t : zW}
theorem m_findBack (d : Nat) (a1 : Int) (hb30 : zB 0 5460 g30) (hr1 : 0 ≤ f23 ∧ f23 ≤ 5) (hr2 : 0 ≤ a1 ∧ a1 ≤ 5460) (Q : zQ) (h : ∀ (k32 : Nat → Int32), (fbA k32) → (fbW k32 g30 f23) → (fbC k32 g30 (5461 * f23).toNat) → Q (none) (zMi c0 c1 c2 c3 c4 c5 c6 c7 c8 c9 c10 c11 c12 c13 f0 f9 f10 f11 f12 f13 f15 f16 f17 f20 f21 f22 f23 f26 f28 f31 f32 f33 f38 f41 f44 x14 g15 g16 g17 g18 g19 g20 g21 g22 g23 g24 g25 g26 g27 g28 g29 g30 g31 k32 g33 g34 g35 g36 g37 g38 g39 g40 g41 g42 g43 g44 t)) : zCl zTab (d + 1) iX12_findBack [.ref 14, .int (Int32.ofInt a1)] (zMi c0 c1 c2 c3 c4 c5 c6 c7 c8 c9 c10 c11 c12 c13 f0 f9 f10 f11 f12 f13 f15 f16 f17 f20 f21 f22 f23 f26 f28 f31 f32 f33 f38 f41 f44 x14 g15 g16 g17 g18 g19 g20 g21 g22 g23 g24 g25 g26 g27 g28 g29 g30 g31 g32 g33 g34 g35 g36 g37 g38 g39 g40 g41 g42 g43 g44 t) 0 0 Q := by
  refine zCl_i (M := kX12_findBack) rfl (Nat.le_of_ble_eq_true rfl) fun R hR => ?_
  obtain ⟨S, hS1, hS2⟩ := fb_sum
  iterate 2 refine hR (?_ : R (_, _, _, _, _, _))
  have lp2 : ∀ (N : Nat) (i : Int) (q32_2 : Nat → Int32), (0 ≤ i ∧ i ≤ 5461) → (∀ j : Nat, (j : Int) < i → (q32_2 j).toInt = 0 ∨ (q32_2 j).toInt = 1000000) → (5461 - i < N) → R (2, [some (.ref 14), some (.int (Int32.ofInt a1)), some (.int (Int32.ofInt i)), none, none], [], (zMi c0 c1 c2 c3 c4 c5 c6 c7 c8 c9 c10 c11 c12 c13 f0 f9 f10 f11 f12 f13 f15 f16 f17 f20 f21 f22 f23 f26 f28 f31 f32 f33 f38 f41 f44 x14 g15 g16 g17 g18 g19 g20 g21 g22 g23 g24 g25 g26 g27 g28 g29 g30 g31 q32_2 g33 g34 g35 g36 g37 g38 g39 g40 g41 g42 g43 g44 t), 0, 0) := by
    intro N
    induction N with
    | zero => intros; omega
    | succ N ih2 =>
      intro i q32_2 hf0_2 hp0_2 hN2
      refine hR (?_ : R (_, _, _, _, _, _))
      refine hR (t_c 5461 (by decide) ?_)
      refine hR (j_ge (by omega) (by omega) (fun hc1 => ?_) (fun hc1 => ?_))
      rotate_left
      · skip
        iterate 5 refine hR (?_ : R (_, _, _, _, _, _))
        refine hR (j_ne (by omega) (by omega) (fun hc9 => ?_) (fun hc9 => ?_))
        · skip
          refine hR (t_c 1000000 (by decide) ?_)
          refine hR (t_st (by omega) (by omega) (Nat.le_of_ble_eq_true rfl) (?_ : R (_, _, _, (zMi c0 c1 c2 c3 c4 c5 c6 c7 c8 c9 c10 c11 c12 c13 f0 f9 f10 f11 f12 f13 f15 f16 f17 f20 f21 f22 f23 f26 f28 f31 f32 f33 f38 f41 f44 x14 g15 g16 g17 g18 g19 g20 g21 g22 g23 g24 g25 g26 g27 g28 g29 g30 g31 (upd q32_2 i.toNat (Int32.ofInt 1000000)) g33 g34 g35 g36 g37 g38 g39 g40 g41 g42 g43 g44 t), _, _)))
          refine hR (t_inc ?_)
          refine hR (?_ : R (_, _, _, _, _, _))
          exact ih2 _ _ (by omega) (fb_i hp0_2 (by omega) (by omega)) (by omega)
        iterate 2 refine hR (?_ : R (_, _, _, _, _, _))
        refine hR (t_st (by omega) (by omega) (Nat.le_of_ble_eq_true rfl) (?_ : R (_, _, _, (zMi c0 c1 c2 c3 c4 c5 c6 c7 c8 c9 c10 c11 c12 c13 f0 f9 f10 f11 f12 f13 f15 f16 f17 f20 f21 f22 f23 f26 f28 f31 f32 f33 f38 f41 f44 x14 g15 g16 g17 g18 g19 g20 g21 g22 g23 g24 g25 g26 g27 g28 g29 g30 g31 (upd q32_2 i.toNat (Int32.ofInt 0)) g33 g34 g35 g36 g37 g38 g39 g40 g41 g42 g43 g44 t), _, _)))
        refine hR (t_inc ?_)
        refine hR (?_ : R (_, _, _, _, _, _))
        exact ih2 _ _ (by omega) (fb_i hp0_2 (by omega) (by omega)) (by omega)
      iterate 2 refine hR (?_ : R (_, _, _, _, _, _))
      have lp35 : ∀ (N : Nat) (mo : Int) (o3_35 : Option Value) (o4_35 : Option Value) (q32_35 : Nat → Int32), (zc2 o3_35 = false) → (zc2 o4_35 = false) → (0 ≤ mo ∧ mo ≤ 1) → (fbA q32_35) → (fbW q32_35 g30 f23) → (mo = 0 → fbC q32_35 g30 (5461 * f23).toNat) → (0 ≤ S q32_35 ∧ S q32_35 ≤ 5461000000) → (2 * S q32_35 + mo < N) → R (35, [some (.ref 14), some (.int (Int32.ofInt a1)), some (.int (Int32.ofInt mo)), o3_35, o4_35], [], (zMi c0 c1 c2 c3 c4 c5 c6 c7 c8 c9 c10 c11 c12 c13 f0 f9 f10 f11 f12 f13 f15 f16 f17 f20 f21 f22 f23 f26 f28 f31 f32 f33 f38 f41 f44 x14 g15 g16 g17 g18 g19 g20 g21 g22 g23 g24 g25 g26 g27 g28 g29 g30 g31 q32_35 g33 g34 g35 g36 g37 g38 g39 g40 g41 g42 g43 g44 t), 0, 0) := by
        intro N
        induction N with
        | zero => intros; omega
        | succ N ih35 =>
          intro mo o3_35 o4_35 q32_35 hzo3_35 hzo4_35 hf0_35 hp0_35 hp1_35 hp2_35 hp3_35 hN35
          refine hR (?_ : R (_, _, _, _, _, _))
          refine hR (k_eq (by omega) (fun hc2 => ?_) (fun hc2 => ?_))
          · skip
            exact hR (zret_i rfl (Nat.le_refl _) rfl (h _ hp0_35 hp1_35 (hp2_35 (by omega))))
          iterate 4 refine hR (?_ : R (_, _, _, _, _, _))
          have lp43 : ∀ (N : Nat) (mi : Int) (k : Int) (o4_43 : Option Value) (q32_43 : Nat → Int32), (zc2 o4_43 = false) → (0 ≤ mi ∧ mi ≤ 1) → (0 ≤ k ∧ k ≤ 5461 * f23) → (fbA q32_43) → (fbW q32_43 g30 f23) → (mi = 0 → fbC q32_43 g30 k.toNat) → ((mi = 0 ∧ S q32_43 = S q32_35) ∨ (mi = 1 ∧ S q32_43 < S q32_35)) → (0 ≤ S q32_43 ∧ S q32_43 ≤ 5461000000) → (5461 * f23 - k < N) → R (43, [some (.ref 14), some (.int (Int32.ofInt a1)), some (.int (Int32.ofInt mi)), some (.int (Int32.ofInt k)), o4_43], [], (zMi c0 c1 c2 c3 c4 c5 c6 c7 c8 c9 c10 c11 c12 c13 f0 f9 f10 f11 f12 f13 f15 f16 f17 f20 f21 f22 f23 f26 f28 f31 f32 f33 f38 f41 f44 x14 g15 g16 g17 g18 g19 g20 g21 g22 g23 g24 g25 g26 g27 g28 g29 g30 g31 q32_43 g33 g34 g35 g36 g37 g38 g39 g40 g41 g42 g43 g44 t), 0, 0) := by
            intro N
            induction N with
            | zero => intros; omega
            | succ N ih43 =>
              intro mi k o4_43 q32_43 hzo4_43 hf0_43 hf1_43 hp0_43 hp1_43 hp2_43 hp3_43 hp4_43 hN43
              refine hR (?_ : R (_, _, _, _, _, _))
              refine hR (t_c 5461 (by decide) ?_)
              iterate 2 refine hR (?_ : R (_, _, _, _, _, _))
              refine hR (t_mul ?_)
              refine hR (j_ge (by omega) (by omega) (fun hc3 => ?_) (fun hc3 => ?_))
              · skip
                refine hR (?_ : R (_, _, _, _, _, _))
                exact ih35 _ _ _ _ (by rfl) hzo4_43 (by omega) hp0_43 hp1_43 (fun h => fb_e (hp2_43 h) (by omega)) hp4_43 (by omega)
              iterate 5 refine hR (?_ : R (_, _, _, _, _, _))
              refine hR (t_ldB hb30 (by omega) (by omega) (Nat.le_of_ble_eq_true rfl) fun v4 ev4 lv4 uv4 => ?_)
              refine hR (t_ldE (by omega) (by omega) (Nat.le_of_ble_eq_true rfl) fun v5 ev5 rv5 => ?_)
              have bv5 := hp0_43 v4.toNat (by omega)
              rw [← ev5] at bv5
              refine hR (?_ : R (_, _, _, _, _, _))
              refine hR (t_add ?_)
              iterate 5 refine hR (?_ : R (_, _, _, _, _, _))
              refine hR (t_c 5461 (by decide) ?_)
              refine hR (t_rem (by omega) (by omega) (by omega) (by omega) ?_)
              refine hR (t_ldE (by omega) (by omega) (Nat.le_of_ble_eq_true rfl) fun v6 ev6 rv6 => ?_)
              have bv6 := hp0_43 (k % 5461).toNat (by omega)
              rw [← ev6] at bv6
              refine hR (j_ge (by omega) (by omega) (fun hc7 => ?_) (fun hc7 => ?_))
              · skip
                refine hR (t_inc ?_)
                refine hR (?_ : R (_, _, _, _, _, _))
                exact ih43 _ _ _ _ (by rfl) (by omega) (by omega) hp0_43 hp1_43 (fun h => fb_C (hp2_43 h) (by omega) ev4 ev5 ev6 (by omega)) (by omega) hp4_43 (by omega)
              iterate 3 refine hR (?_ : R (_, _, _, _, _, _))
              refine hR (t_c 5461 (by decide) ?_)
              refine hR (t_rem (by omega) (by omega) (by omega) (by omega) ?_)
              refine hR (?_ : R (_, _, _, _, _, _))
              refine hR (t_st (by omega) (by omega) (Nat.le_of_ble_eq_true rfl) (?_ : R (_, _, _, (zMi c0 c1 c2 c3 c4 c5 c6 c7 c8 c9 c10 c11 c12 c13 f0 f9 f10 f11 f12 f13 f15 f16 f17 f20 f21 f22 f23 f26 f28 f31 f32 f33 f38 f41 f44 x14 g15 g16 g17 g18 g19 g20 g21 g22 g23 g24 g25 g26 g27 g28 g29 g30 g31 (upd q32_43 (k % 5461).toNat (Int32.ofInt (v5 + 1))) g33 g34 g35 g36 g37 g38 g39 g40 g41 g42 g43 g44 t), _, _)))
              have hsu := hS1 q32_43 (k % 5461).toNat (Int32.ofInt (v5 + 1)) (by omega)
              rw [zti (e := v5 + 1) (by omega) (by omega), ← ev6] at hsu
              iterate 2 refine hR (?_ : R (_, _, _, _, _, _))
              refine hR (t_inc ?_)
              refine hR (?_ : R (_, _, _, _, _, _))
              exact ih43 _ _ _ _ (by rfl) (by omega) (by omega) (zNb_u hp0_43 (by omega) (by omega) (by omega) (by omega)) (fb_W hp1_43 hb30 (by omega) (by omega) ev4 ev5 ev6 (by omega) (by omega)) (fun h => by omega) (by omega) (hS2 _ (zNb_u hp0_43 (by omega) (by omega) (by omega) (by omega))) (by omega)
          exact lp43 400000000 _ _ _ _ hzo4_35 (by omega) (by omega) hp0_35 hp1_35 (fun _ k hk => absurd hk (Nat.not_lt_zero k)) (by omega) hp3_35 (by omega)
      have hent := hS2 _ (fb_1 hp0_2 (by omega)).1
      exact lp35 20000000000 _ _ _ _ (by rfl) (by rfl) (by omega) (fb_1 hp0_2 (by omega)).1 ((fb_1 hp0_2 (by omega)).2 _ _) (fun h => by omega) (hS2 _ (fb_1 hp0_2 (by omega)).1) (by omega)
  exact lp2 400000000 _ _ (by omega) (fun j hj => by omega) (by omega)
theorem m_making (d : Nat) (a1 a2 a3 a4 : Int) (hb19 : zB 0 2 g19) (hb25 : zB 0 3 g25) (hb30 : zB 0 5460 g30) (hr3 : bkOK g20) (hr4 : -2147483648 ≤ a1 ∧ a1 ≤ 2147483647) (hr5 : -2147483648 ≤ a2 ∧ a2 ≤ 2147483647) (hr6 : -2147483648 ≤ a3 ∧ a3 ≤ 2147483647) (hr7 : -2147483648 ≤ a4 ∧ a4 ≤ 2147483647) (hr8 : -1 ≤ f21 ∧ f21 ≤ 1) (hr9 : RMD g30 g20 f21) (Q : zQ) (h : ∀ (v : Int) (y0 : Int) (y20 : Int) (y21 : Int) (y22 : Int) (y23 : Int) (y26 : Int) (k25 : Nat → Int32) (k30 : Nat → Int32) (k32 : Nat → Int32), zB 0 3 k25 → zB 0 5460 k30 → (-1 ≤ y21 ∧ y21 ≤ 1) → (RMD k30 g20 y21) → Q (some (.int (Int32.ofInt v))) (zMi c0 c1 c2 c3 c4 c5 c6 c7 c8 c9 c10 c11 c12 c13 y0 f9 f10 f11 f12 f13 f15 f16 f17 y20 y21 y22 y23 y26 f28 f31 f32 f33 f38 f41 f44 x14 g15 g16 g17 g18 g19 g20 g21 g22 g23 g24 k25 g26 g27 g28 g29 k30 g31 k32 g33 g34 g35 g36 g37 g38 g39 g40 g41 g42 g43 g44 t)) : zCl zTab (d + 7) iX12_making [.ref 14, .int (Int32.ofInt a1), .int (Int32.ofInt a2), .int (Int32.ofInt a3), .int (Int32.ofInt a4)] (zMi c0 c1 c2 c3 c4 c5 c6 c7 c8 c9 c10 c11 c12 c13 f0 f9 f10 f11 f12 f13 f15 f16 f17 f20 f21 f22 f23 f26 f28 f31 f32 f33 f38 f41 f44 x14 g15 g16 g17 g18 g19 g20 g21 g22 g23 g24 g25 g26 g27 g28 g29 g30 g31 g32 g33 g34 g35 g36 g37 g38 g39 g40 g41 g42 g43 g44 t) 0 0 Q := by
  refine zCl_i (M := kX12_making) rfl (Nat.le_of_ble_eq_true rfl) fun R hR => ?_
  iterate 2 refine hR (?_ : R (_, _, _, _, _, _))
  refine hR (?_ : R (_, _, _, (zMi c0 c1 c2 c3 c4 c5 c6 c7 c8 c9 c10 c11 c12 c13 0 f9 f10 f11 f12 f13 f15 f16 f17 f20 f21 f22 f23 f26 f28 f31 f32 f33 f38 f41 f44 x14 g15 g16 g17 g18 g19 g20 g21 g22 g23 g24 g25 g26 g27 g28 g29 g30 g31 g32 g33 g34 g35 g36 g37 g38 g39 g40 g41 g42 g43 g44 t), _, _))
  refine hR (?_ : R (_, _, _, _, _, _))
  refine hR (zcall_i 0 0 (Nat.le_of_ble_eq_true rfl) (Nat.le_of_ble_eq_true rfl) (m_isText _ a2 _ (by omega) _ fun v1 hp2 => ?_))
  refine (?_ : R (_, _, (.int (Int32.ofInt v1)) :: [], (zMi c0 c1 c2 c3 c4 c5 c6 c7 c8 c9 c10 c11 c12 c13 0 f9 f10 f11 f12 f13 f15 f16 f17 f20 f21 f22 f23 f26 f28 f31 f32 f33 f38 f41 f44 x14 g15 g16 g17 g18 g19 g20 g21 g22 g23 g24 g25 g26 g27 g28 g29 g30 g31 g32 g33 g34 g35 g36 g37 g38 g39 g40 g41 g42 g43 g44 t), 0, 0))
  refine hR (k_eq (by omega) (fun hc3 => ?_) (fun hc3 => ?_))
  · skip
    refine hR (?_ : R (_, _, _, _, _, _))
    exact hR (zret_i rfl (Nat.le_refl _) trivial (h _ _ _ _ _ _ _ _ _ _ hb25 hb30 (by omega) hr9))
  refine hR (?_ : R (_, _, _, _, _, _))
  refine hR (zcall_i 0 0 (Nat.le_of_ble_eq_true rfl) (Nat.le_of_ble_eq_true rfl) (m_isText _ a3 _ (by omega) _ fun v4 hp5 => ?_))
  refine (?_ : R (_, _, (.int (Int32.ofInt v4)) :: [], (zMi c0 c1 c2 c3 c4 c5 c6 c7 c8 c9 c10 c11 c12 c13 0 f9 f10 f11 f12 f13 f15 f16 f17 f20 f21 f22 f23 f26 f28 f31 f32 f33 f38 f41 f44 x14 g15 g16 g17 g18 g19 g20 g21 g22 g23 g24 g25 g26 g27 g28 g29 g30 g31 g32 g33 g34 g35 g36 g37 g38 g39 g40 g41 g42 g43 g44 t), 0, 0))
  refine hR (k_eq (by omega) (fun hc6 => ?_) (fun hc6 => ?_))
  · skip
    refine hR (?_ : R (_, _, _, _, _, _))
    exact hR (zret_i rfl (Nat.le_refl _) trivial (h _ _ _ _ _ _ _ _ _ _ hb25 hb30 (by omega) hr9))
  iterate 2 refine hR (?_ : R (_, _, _, _, _, _))
  refine hR (zcall_i 0 0 (Nat.le_of_ble_eq_true rfl) (Nat.le_of_ble_eq_true rfl) (m_handAll _ a1 hb19 hb25 hb30 hr3 (by omega) (by omega) hr9 _ fun v7 y20_8 y21_9 y22_10 y23_11 y26_12 k25_13 k30_14 hp15 hp16 hp17 hp18 hp19 => ?_))
  refine (?_ : R (_, _, (.int (Int32.ofInt v7)) :: [], (zMi c0 c1 c2 c3 c4 c5 c6 c7 c8 c9 c10 c11 c12 c13 0 f9 f10 f11 f12 f13 f15 f16 f17 y20_8 y21_9 y22_10 y23_11 y26_12 f28 f31 f32 f33 f38 f41 f44 x14 g15 g16 g17 g18 g19 g20 g21 g22 g23 g24 k25_13 g26 g27 g28 g29 k30_14 g31 g32 g33 g34 g35 g36 g37 g38 g39 g40 g41 g42 g43 g44 t), 0, 0))
  refine hR (k_ne (by omega) (fun hc20 => ?_) (fun hc20 => ?_))
  rotate_left
  · skip
    refine hR (?_ : R (_, _, _, _, _, _))
    exact hR (zret_i rfl (Nat.le_refl _) trivial (h _ _ _ _ _ _ _ _ _ _ hp15 hp16 (by omega) hp18))
  iterate 2 refine hR (?_ : R (_, _, _, _, _, _))
  refine hR (zcall_i 0 0 (Nat.le_of_ble_eq_true rfl) (Nat.le_of_ble_eq_true rfl) (m_findBack _ a3 hp16 (by omega) (by omega) _ fun k32_21 hp22 hp23 hp24 => ?_))
  refine (?_ : R (_, _, [], (zMi c0 c1 c2 c3 c4 c5 c6 c7 c8 c9 c10 c11 c12 c13 0 f9 f10 f11 f12 f13 f15 f16 f17 y20_8 y21_9 y22_10 y23_11 y26_12 f28 f31 f32 f33 f38 f41 f44 x14 g15 g16 g17 g18 g19 g20 g21 g22 g23 g24 k25_13 g26 g27 g28 g29 k30_14 g31 k32_21 g33 g34 g35 g36 g37 g38 g39 g40 g41 g42 g43 g44 t), 0, 0))
  iterate 3 refine hR (?_ : R (_, _, _, _, _, _))
  refine hR (t_ldE (by omega) (by omega) (Nat.le_of_ble_eq_true rfl) fun v25 ev25 rv25 => ?_)
  have bv25 := hp22 a2.toNat (by omega)
  rw [← ev25] at bv25
  iterate 2 refine hR (?_ : R (_, _, _, _, _, _))
  refine hR (t_c 1000000 (by decide) ?_)
  refine hR (j_ge (by omega) (by omega) (fun hc26 => ?_) (fun hc26 => ?_))
  · skip
    refine hR (?_ : R (_, _, _, _, _, _))
    exact hR (zret_i rfl (Nat.le_refl _) trivial (h _ _ _ _ _ _ _ _ _ _ hp15 hp16 (by omega) hp18))
  iterate 4 refine hR (?_ : R (_, _, _, _, _, _))
  refine hR (t_sub ?_)
  refine hR (zcall_i 0 0 (Nat.le_of_ble_eq_true rfl) (Nat.le_of_ble_eq_true rfl) (m_in _ a4 ((-1)) (v25 - 1) _ (by omega) (by omega) (by omega) _ fun v27 hp28 => ?_))
  refine (?_ : R (_, _, (.int (Int32.ofInt v27)) :: [], (zMi c0 c1 c2 c3 c4 c5 c6 c7 c8 c9 c10 c11 c12 c13 0 f9 f10 f11 f12 f13 f15 f16 f17 y20_8 y21_9 y22_10 y23_11 y26_12 f28 f31 f32 f33 f38 f41 f44 x14 g15 g16 g17 g18 g19 g20 g21 g22 g23 g24 k25_13 g26 g27 g28 g29 k30_14 g31 k32_21 g33 g34 g35 g36 g37 g38 g39 g40 g41 g42 g43 g44 t), 0, 0))
  refine hR (k_ne (by omega) (fun hc29 => ?_) (fun hc29 => ?_))
  rotate_left
  · skip
    refine hR (?_ : R (_, _, _, _, _, _))
    exact hR (zret_i rfl (Nat.le_refl _) trivial (h _ _ _ _ _ _ _ _ _ _ hp15 hp16 (by omega) hp18))
  iterate 2 refine hR (?_ : R (_, _, _, _, _, _))
  refine hR (j_ne (by omega) (by omega) (fun hc30 => ?_) (fun hc30 => ?_))
  rotate_left
  · skip
    refine hR (?_ : R (_, _, _, _, _, _))
    exact hR (zret_i rfl (Nat.le_refl _) trivial (h _ _ _ _ _ _ _ _ _ _ hp15 hp16 (by omega) hp18))
  iterate 4 refine hR (?_ : R (_, _, _, _, _, _))
  have hz0 : (k32_21 a2.toNat).toInt = v25 - 0 := by omega
  iterate 2 refine hR (?_ : R (_, _, _, _, _, _))
  have lp83 : ∀ (N : Nat) (at_ : Int) (la : Int) (i : Int), (0 ≤ at_ ∧ at_ ≤ 5460) → (0 ≤ i ∧ i ≤ a4 + 1) → ((k32_21 at_.toNat).toInt = v25 - i) → (a4 + 1 - i < N) → R (83, [some (.ref 14), some (.int (Int32.ofInt a1)), some (.int (Int32.ofInt a2)), some (.int (Int32.ofInt a3)), some (.int (Int32.ofInt a4)), some (.int (Int32.ofInt v25)), some (.int (Int32.ofInt at_)), some (.int (Int32.ofInt la)), some (.int (Int32.ofInt i))], [], (zMi c0 c1 c2 c3 c4 c5 c6 c7 c8 c9 c10 c11 c12 c13 0 f9 f10 f11 f12 f13 f15 f16 f17 y20_8 y21_9 y22_10 y23_11 y26_12 f28 f31 f32 f33 f38 f41 f44 x14 g15 g16 g17 g18 g19 g20 g21 g22 g23 g24 k25_13 g26 g27 g28 g29 k30_14 g31 k32_21 g33 g34 g35 g36 g37 g38 g39 g40 g41 g42 g43 g44 t), 0, 0) := by
    intro N
    induction N with
    | zero => intros; omega
    | succ N ih83 =>
      intro at_ la i hf0_83 hf1_83 hp0_83 hN83
      iterate 2 refine hR (?_ : R (_, _, _, _, _, _))
      refine hR (j_gt (by omega) (by omega) (fun hc31 => ?_) (fun hc31 => ?_))
      · skip
        refine hR (?_ : R (_, _, _, _, _, _))
        exact hR (zret_i rfl (Nat.le_refl _) trivial (h _ _ _ _ _ _ _ _ _ _ hp15 hp16 (by omega) hp18))
      obtain ⟨r0, hr0, hr1⟩ := fb_wit hp22 hp23 hp24 (t := at_.toNat) (by omega) (by omega) (by omega)
      iterate 2 refine hR (?_ : R (_, _, _, _, _, _))
      have lp93 : ∀ (N : Nat) (la : Int), (0 ≤ la ∧ la ≤ r0) → (r0 - la < N) → R (93, [some (.ref 14), some (.int (Int32.ofInt a1)), some (.int (Int32.ofInt a2)), some (.int (Int32.ofInt a3)), some (.int (Int32.ofInt a4)), some (.int (Int32.ofInt v25)), some (.int (Int32.ofInt at_)), some (.int (Int32.ofInt la)), some (.int (Int32.ofInt i))], [], (zMi c0 c1 c2 c3 c4 c5 c6 c7 c8 c9 c10 c11 c12 c13 0 f9 f10 f11 f12 f13 f15 f16 f17 y20_8 y21_9 y22_10 y23_11 y26_12 f28 f31 f32 f33 f38 f41 f44 x14 g15 g16 g17 g18 g19 g20 g21 g22 g23 g24 k25_13 g26 g27 g28 g29 k30_14 g31 k32_21 g33 g34 g35 g36 g37 g38 g39 g40 g41 g42 g43 g44 t), 0, 0) := by
        intro N
        induction N with
        | zero => intros; omega
        | succ N ih93 =>
          intro la hf0_93 hN93
          iterate 4 refine hR (?_ : R (_, _, _, _, _, _))
          refine hR (t_c 5461 (by decide) ?_)
          refine hR (?_ : R (_, _, _, _, _, _))
          refine hR (t_mul ?_)
          refine hR (?_ : R (_, _, _, _, _, _))
          refine hR (t_add ?_)
          refine hR (t_ldB hp16 (by omega) (by omega) (Nat.le_of_ble_eq_true rfl) fun v32 ev32 lv32 uv32 => ?_)
          refine hR (t_ldE (by omega) (by omega) (Nat.le_of_ble_eq_true rfl) fun v33 ev33 rv33 => ?_)
          iterate 3 refine hR (?_ : R (_, _, _, _, _, _))
          refine hR (t_ldE (by omega) (by omega) (Nat.le_of_ble_eq_true rfl) fun v34 ev34 rv34 => ?_)
          refine hR (?_ : R (_, _, _, _, _, _))
          refine hR (t_sub ?_)
          refine hR (j_eq (by omega) (by omega) (fun hc35 => ?_) (fun hc35 => ?_))
          rotate_left
          · skip
            have hne : la ≠ r0 := mk_ne (by omega) (by omega) ev32 ev33 ev34 hr1 (by omega)
            refine hR (t_inc ?_)
            refine hR (?_ : R (_, _, _, _, _, _))
            exact ih93 _ (by omega) (by omega)
          iterate 2 refine hR (?_ : R (_, _, _, _, _, _))
          refine hR (t_c 5461 (by decide) ?_)
          refine hR (?_ : R (_, _, _, _, _, _))
          refine hR (t_mul ?_)
          refine hR (?_ : R (_, _, _, _, _, _))
          refine hR (t_add ?_)
          refine hR (t_ldB hp16 (by omega) (by omega) (Nat.le_of_ble_eq_true rfl) fun v36 ev36 lv36 uv36 => ?_)
          have hnx : (k32_21 v36.toNat).toInt = (v25) - (i + 1) := mk_nx (by omega) (by omega) ev32 ev33 ev34 ev36 (by omega) (by omega)
          refine hR (?_ : R (_, _, _, _, _, _))
          refine hR (t_inc ?_)
          refine hR (?_ : R (_, _, _, _, _, _))
          exact ih83 _ _ _ (by omega) (by omega) hnx (by omega)
      exact lp93 400000000 _ (by omega) (by omega)
  exact lp83 400000000 _ _ _ (by omega) (by omega) (by omega) (by omega)
theorem m_findComesT (d : Nat) (a1 : Int) (hb30 : zB 0 5460 g30) (hr1 : 0 ≤ a1 ∧ a1 ≤ 4) (Q : zQ) (h : ∀ (k34 : Nat → Int32), (zNb 5461 0 5461 k34) → Q (none) (zMi c0 c1 c2 c3 c4 c5 c6 c7 c8 c9 c10 c11 c12 c13 f0 f9 f10 f11 f12 f13 f15 f16 f17 f20 f21 f22 f23 f26 f28 f31 f32 f33 f38 f41 f44 x14 g15 g16 g17 g18 g19 g20 g21 g22 g23 g24 g25 g26 g27 g28 g29 g30 g31 g32 g33 k34 g35 g36 g37 g38 g39 g40 g41 g42 g43 g44 t)) : zCl zTab (d + 1) iX12_findComes [.ref 14, .int (Int32.ofInt a1)] (zMi c0 c1 c2 c3 c4 c5 c6 c7 c8 c9 c10 c11 c12 c13 f0 f9 f10 f11 f12 f13 f15 f16 f17 f20 f21 f22 f23 f26 f28 f31 f32 f33 f38 f41 f44 x14 g15 g16 g17 g18 g19 g20 g21 g22 g23 g24 g25 g26 g27 g28 g29 g30 g31 g32 g33 g34 g35 g36 g37 g38 g39 g40 g41 g42 g43 g44 t) 0 0 Q := by
  refine zCl_i (M := kX12_findComes) rfl (Nat.le_of_ble_eq_true rfl) fun R hR => ?_
  iterate 2 refine hR (?_ : R (_, _, _, _, _, _))
  have lp2 : ∀ (N : Nat) (i : Int) (q34_2 : Nat → Int32), (0 ≤ i ∧ i ≤ 5461) → (∀ j : Nat, (j : Int) < i → (q34_2 j).toInt = 0) → (5461 - i < N) → R (2, [some (.ref 14), some (.int (Int32.ofInt a1)), some (.int (Int32.ofInt i))], [], (zMi c0 c1 c2 c3 c4 c5 c6 c7 c8 c9 c10 c11 c12 c13 f0 f9 f10 f11 f12 f13 f15 f16 f17 f20 f21 f22 f23 f26 f28 f31 f32 f33 f38 f41 f44 x14 g15 g16 g17 g18 g19 g20 g21 g22 g23 g24 g25 g26 g27 g28 g29 g30 g31 g32 g33 q34_2 g35 g36 g37 g38 g39 g40 g41 g42 g43 g44 t), 0, 0) := by
    intro N
    induction N with
    | zero => intros; omega
    | succ N ih2 =>
      intro i q34_2 hf0_2 hp0_2 hN2
      refine hR (?_ : R (_, _, _, _, _, _))
      refine hR (t_c 5461 (by decide) ?_)
      refine hR (j_ge (by omega) (by omega) (fun hc1 => ?_) (fun hc1 => ?_))
      rotate_left
      · skip
        iterate 4 refine hR (?_ : R (_, _, _, _, _, _))
        refine hR (t_st (by omega) (by omega) (Nat.le_of_ble_eq_true rfl) (?_ : R (_, _, _, (zMi c0 c1 c2 c3 c4 c5 c6 c7 c8 c9 c10 c11 c12 c13 f0 f9 f10 f11 f12 f13 f15 f16 f17 f20 f21 f22 f23 f26 f28 f31 f32 f33 f38 f41 f44 x14 g15 g16 g17 g18 g19 g20 g21 g22 g23 g24 g25 g26 g27 g28 g29 g30 g31 g32 g33 (upd q34_2 i.toNat (Int32.ofInt 0)) g35 g36 g37 g38 g39 g40 g41 g42 g43 g44 t), _, _)))
        refine hR (t_inc ?_)
        refine hR (?_ : R (_, _, _, _, _, _))
        exact ih2 _ _ (by omega) (fc_i hp0_2 (by omega)) (by omega)
      iterate 2 refine hR (?_ : R (_, _, _, _, _, _))
      have lp24 : ∀ (N : Nat) (i : Int) (q34_24 : Nat → Int32), (0 ≤ i ∧ i ≤ 5461) → (zNb 5461 0 i q34_24) → (5461 - i < N) → R (24, [some (.ref 14), some (.int (Int32.ofInt a1)), some (.int (Int32.ofInt i))], [], (zMi c0 c1 c2 c3 c4 c5 c6 c7 c8 c9 c10 c11 c12 c13 f0 f9 f10 f11 f12 f13 f15 f16 f17 f20 f21 f22 f23 f26 f28 f31 f32 f33 f38 f41 f44 x14 g15 g16 g17 g18 g19 g20 g21 g22 g23 g24 g25 g26 g27 g28 g29 g30 g31 g32 g33 q34_24 g35 g36 g37 g38 g39 g40 g41 g42 g43 g44 t), 0, 0) := by
        intro N
        induction N with
        | zero => intros; omega
        | succ N ih24 =>
          intro i q34_24 hf0_24 hp0_24 hN24
          refine hR (?_ : R (_, _, _, _, _, _))
          refine hR (t_c 5461 (by decide) ?_)
          refine hR (j_ge (by omega) (by omega) (fun hc2 => ?_) (fun hc2 => ?_))
          · skip
            exact hR (zret_i rfl (Nat.le_refl _) rfl (h _ (zNb_w hp0_24 (by omega) (by omega))))
          iterate 4 refine hR (?_ : R (_, _, _, _, _, _))
          refine hR (t_c 5461 (by decide) ?_)
          refine hR (?_ : R (_, _, _, _, _, _))
          refine hR (t_mul ?_)
          refine hR (?_ : R (_, _, _, _, _, _))
          refine hR (t_add ?_)
          refine hR (t_ldB hb30 (by omega) (by omega) (Nat.le_of_ble_eq_true rfl) fun v3 ev3 lv3 uv3 => ?_)
          clear ev3
          refine hR (?_ : R (_, _, _, _, _, _))
          refine hR (t_ldE (by omega) (by omega) (Nat.le_of_ble_eq_true rfl) fun v4 ev4 rv4 => ?_)
          have bv4 := hp0_24 v3.toNat (by omega)
          rw [← ev4] at bv4
          refine hR (?_ : R (_, _, _, _, _, _))
          refine hR (t_add ?_)
          refine hR (t_st (by omega) (by omega) (Nat.le_of_ble_eq_true rfl) (?_ : R (_, _, _, (zMi c0 c1 c2 c3 c4 c5 c6 c7 c8 c9 c10 c11 c12 c13 f0 f9 f10 f11 f12 f13 f15 f16 f17 f20 f21 f22 f23 f26 f28 f31 f32 f33 f38 f41 f44 x14 g15 g16 g17 g18 g19 g20 g21 g22 g23 g24 g25 g26 g27 g28 g29 g30 g31 g32 g33 (upd q34_24 v3.toNat (Int32.ofInt (v4 + 1))) g35 g36 g37 g38 g39 g40 g41 g42 g43 g44 t), _, _)))
          refine hR (t_inc ?_)
          refine hR (?_ : R (_, _, _, _, _, _))
          exact ih24 _ _ (by omega) (zNb_u (zNb_w hp0_24 (by omega) (by omega)) (by omega) (by omega) (by omega) (by omega)) (by omega)
      exact lp24 400000000 _ _ (by omega) (fc_0 hp0_2 (by omega)) (by omega)
  exact lp2 400000000 _ _ (by omega) (fun j hj => by omega) (by omega)
theorem m_fallAway (d : Nat) (a1 : Int) (hb30 : zB 0 5460 g30) (hb33 : zB 0 5460 g33) (hr2 : 0 ≤ a1 ∧ a1 ≤ 4) (Q : zQ) (h : ∀ (v : Int) (k33 : Nat → Int32) (k34 : Nat → Int32), zB 0 5460 k33 → (0 ≤ v ∧ v ≤ 5461) → Q (some (.int (Int32.ofInt v))) (zMi c0 c1 c2 c3 c4 c5 c6 c7 c8 c9 c10 c11 c12 c13 f0 f9 f10 f11 f12 f13 f15 f16 f17 f20 f21 f22 f23 f26 f28 f31 f32 f33 f38 f41 f44 x14 g15 g16 g17 g18 g19 g20 g21 g22 g23 g24 g25 g26 g27 g28 g29 g30 g31 g32 k33 k34 g35 g36 g37 g38 g39 g40 g41 g42 g43 g44 t)) : zCl zTab (d + 2) iX12_fallAway [.ref 14, .int (Int32.ofInt a1)] (zMi c0 c1 c2 c3 c4 c5 c6 c7 c8 c9 c10 c11 c12 c13 f0 f9 f10 f11 f12 f13 f15 f16 f17 f20 f21 f22 f23 f26 f28 f31 f32 f33 f38 f41 f44 x14 g15 g16 g17 g18 g19 g20 g21 g22 g23 g24 g25 g26 g27 g28 g29 g30 g31 g32 g33 g34 g35 g36 g37 g38 g39 g40 g41 g42 g43 g44 t) 0 0 Q := by
  refine zCl_i (M := kX12_fallAway) rfl (Nat.le_of_ble_eq_true rfl) fun R hR => ?_
  iterate 2 refine hR (?_ : R (_, _, _, _, _, _))
  refine hR (zcall_i 0 0 (Nat.le_of_ble_eq_true rfl) (Nat.le_of_ble_eq_true rfl) (m_findComesT _ a1 hb30 (by omega) _ fun k34_1 hp2 => ?_))
  refine (?_ : R (_, _, [], (zMi c0 c1 c2 c3 c4 c5 c6 c7 c8 c9 c10 c11 c12 c13 f0 f9 f10 f11 f12 f13 f15 f16 f17 f20 f21 f22 f23 f26 f28 f31 f32 f33 f38 f41 f44 x14 g15 g16 g17 g18 g19 g20 g21 g22 g23 g24 g25 g26 g27 g28 g29 g30 g31 g32 g33 k34_1 g35 g36 g37 g38 g39 g40 g41 g42 g43 g44 t), 0, 0))
  iterate 4 refine hR (?_ : R (_, _, _, _, _, _))
  have lp9 : ∀ (N : Nat) (en : Int) (i : Int) (q33_9 : Nat → Int32), (0 ≤ en ∧ en ≤ i) → (0 ≤ i ∧ i ≤ 5461) → (en ≤ cP k34_1 i.toNat) → (zB 0 5460 q33_9) → (5461 - i < N) → R (9, [some (.ref 14), some (.int (Int32.ofInt a1)), some (.int (Int32.ofInt en)), some (.int (Int32.ofInt i)), none], [], (zMi c0 c1 c2 c3 c4 c5 c6 c7 c8 c9 c10 c11 c12 c13 f0 f9 f10 f11 f12 f13 f15 f16 f17 f20 f21 f22 f23 f26 f28 f31 f32 f33 f38 f41 f44 x14 g15 g16 g17 g18 g19 g20 g21 g22 g23 g24 g25 g26 g27 g28 g29 g30 g31 g32 q33_9 k34_1 g35 g36 g37 g38 g39 g40 g41 g42 g43 g44 t), 0, 0) := by
    intro N
    induction N with
    | zero => intros; omega
    | succ N ih9 =>
      intro en i q33_9 hf0_9 hf1_9 hp0_9 hq33_9 hN9
      refine hR (?_ : R (_, _, _, _, _, _))
      refine hR (t_c 5461 (by decide) ?_)
      refine hR (j_ge (by omega) (by omega) (fun hc3 => ?_) (fun hc3 => ?_))
      rotate_left
      · skip
        iterate 3 refine hR (?_ : R (_, _, _, _, _, _))
        refine hR (t_ldE (by omega) (by omega) (Nat.le_of_ble_eq_true rfl) fun v12 ev12 rv12 => ?_)
        refine hR (k_ne (by omega) (fun hc13 => ?_) (fun hc13 => ?_))
        · skip
          refine hR (t_inc ?_)
          refine hR (?_ : R (_, _, _, _, _, _))
          exact ih9 _ _ _ (by omega) (by omega) (fa_1 hp0_9 (by omega) ev12 (by omega)) hq33_9 (by omega)
        iterate 4 refine hR (?_ : R (_, _, _, _, _, _))
        refine hR (t_stB hq33_9 (by omega) (by omega) (by omega) (by omega) (by omega) (by omega) (Nat.le_of_ble_eq_true rfl) fun k33_14 hk33_14 => (?_ : R (_, _, _, (zMi c0 c1 c2 c3 c4 c5 c6 c7 c8 c9 c10 c11 c12 c13 f0 f9 f10 f11 f12 f13 f15 f16 f17 f20 f21 f22 f23 f26 f28 f31 f32 f33 f38 f41 f44 x14 g15 g16 g17 g18 g19 g20 g21 g22 g23 g24 g25 g26 g27 g28 g29 g30 g31 g32 k33_14 k34_1 g35 g36 g37 g38 g39 g40 g41 g42 g43 g44 t), _, _)))
        refine hR (t_inc ?_)
        refine hR (t_inc ?_)
        refine hR (?_ : R (_, _, _, _, _, _))
        exact ih9 _ _ _ (by omega) (by omega) (fa_1 hp0_9 (by omega) ev12 (by omega)) hk33_14 (by omega)
      iterate 2 refine hR (?_ : R (_, _, _, _, _, _))
      have lp43 : ∀ (N : Nat) (en : Int) (k : Int) (o4_43 : Option Value) (q33_43 : Nat → Int32) (q34_43 : Nat → Int32), (zc2 o4_43 = false) → (0 ≤ en ∧ en ≤ 5461) → (0 ≤ k ∧ k ≤ 5461) → (en ≤ cP q34_43 5461) → (zNb 5461 (-k) 5461 q34_43) → (k ≤ en) → (zB 0 5460 q33_43) → (5461 - k < N) → R (43, [some (.ref 14), some (.int (Int32.ofInt a1)), some (.int (Int32.ofInt en)), some (.int (Int32.ofInt k)), o4_43], [], (zMi c0 c1 c2 c3 c4 c5 c6 c7 c8 c9 c10 c11 c12 c13 f0 f9 f10 f11 f12 f13 f15 f16 f17 f20 f21 f22 f23 f26 f28 f31 f32 f33 f38 f41 f44 x14 g15 g16 g17 g18 g19 g20 g21 g22 g23 g24 g25 g26 g27 g28 g29 g30 g31 g32 q33_43 q34_43 g35 g36 g37 g38 g39 g40 g41 g42 g43 g44 t), 0, 0) := by
        intro N
        induction N with
        | zero => intros; omega
        | succ N ih43 =>
          intro en k o4_43 q33_43 q34_43 hzo4_43 hf0_43 hf1_43 hp0_43 hp1_43 hp2_43 hq33_43 hN43
          iterate 2 refine hR (?_ : R (_, _, _, _, _, _))
          refine hR (j_ge (by omega) (by omega) (fun hc4 => ?_) (fun hc4 => ?_))
          · skip
            refine hR (?_ : R (_, _, _, _, _, _))
            exact hR (zret_i rfl (Nat.le_refl _) trivial (h _ _ _ hq33_43 (by omega)))
          iterate 2 refine hR (?_ : R (_, _, _, _, _, _))
          refine hR (t_c 5461 (by decide) ?_)
          refine hR (?_ : R (_, _, _, _, _, _))
          refine hR (t_mul ?_)
          iterate 3 refine hR (?_ : R (_, _, _, _, _, _))
          refine hR (t_ldB hq33_43 (by omega) (by omega) (Nat.le_of_ble_eq_true rfl) fun v5 ev5 lv5 uv5 => ?_)
          clear ev5
          refine hR (t_add ?_)
          refine hR (t_ldB hb30 (by omega) (by omega) (Nat.le_of_ble_eq_true rfl) fun v6 ev6 lv6 uv6 => ?_)
          clear ev6
          iterate 5 refine hR (?_ : R (_, _, _, _, _, _))
          refine hR (t_ldE (by omega) (by omega) (Nat.le_of_ble_eq_true rfl) fun v7 ev7 rv7 => ?_)
          have bv7 := hp1_43 v6.toNat (by omega)
          rw [← ev7] at bv7
          refine hR (?_ : R (_, _, _, _, _, _))
          refine hR (t_sub ?_)
          refine hR (t_st (by omega) (by omega) (Nat.le_of_ble_eq_true rfl) (?_ : R (_, _, _, (zMi c0 c1 c2 c3 c4 c5 c6 c7 c8 c9 c10 c11 c12 c13 f0 f9 f10 f11 f12 f13 f15 f16 f17 f20 f21 f22 f23 f26 f28 f31 f32 f33 f38 f41 f44 x14 g15 g16 g17 g18 g19 g20 g21 g22 g23 g24 g25 g26 g27 g28 g29 g30 g31 g32 q33_43 (upd q34_43 v6.toNat (Int32.ofInt (v7 - 1))) g35 g36 g37 g38 g39 g40 g41 g42 g43 g44 t), _, _)))
          iterate 3 refine hR (?_ : R (_, _, _, _, _, _))
          refine hR (t_ldE (by omega) (by omega) (Nat.le_of_ble_eq_true rfl) fun v9 ev9 rv9 => ?_)
          have bv9 : v9 = v7 - 1 := by rw [ev9, pk_us]; exact zti (by omega) (by omega)
          clear ev9
          refine hR (k_ne (by omega) (fun hc10 => ?_) (fun hc10 => ?_))
          · skip
            refine hR (t_inc ?_)
            refine hR (?_ : R (_, _, _, _, _, _))
            exact ih43 _ _ _ _ _ (by rfl) (by omega) (by omega) (fa_3 hp0_43 (by omega) (by omega) ev7 (by omega) (by omega)) (zNb_u (zNb_w hp1_43 (by omega) (by omega)) (by omega) (by omega) (by omega) (by omega)) (by omega) hq33_43 (by omega)
          have hlt := cP_lt (D := q34_43) (t := v6.toNat) (by omega) (by omega)
          iterate 4 refine hR (?_ : R (_, _, _, _, _, _))
          refine hR (t_stB hq33_43 (by omega) (by omega) (by omega) (by omega) (by omega) (by omega) (Nat.le_of_ble_eq_true rfl) fun k33_11 hk33_11 => (?_ : R (_, _, _, (zMi c0 c1 c2 c3 c4 c5 c6 c7 c8 c9 c10 c11 c12 c13 f0 f9 f10 f11 f12 f13 f15 f16 f17 f20 f21 f22 f23 f26 f28 f31 f32 f33 f38 f41 f44 x14 g15 g16 g17 g18 g19 g20 g21 g22 g23 g24 g25 g26 g27 g28 g29 g30 g31 g32 k33_11 (upd q34_43 v6.toNat (Int32.ofInt (v7 - 1))) g35 g36 g37 g38 g39 g40 g41 g42 g43 g44 t), _, _)))
          refine hR (t_inc ?_)
          refine hR (t_inc ?_)
          refine hR (?_ : R (_, _, _, _, _, _))
          exact ih43 _ _ _ _ _ (by rfl) (by omega) (by omega) (fa_3 hp0_43 (by omega) (by omega) ev7 (by omega) (by omega)) (zNb_u (zNb_w hp1_43 (by omega) (by omega)) (by omega) (by omega) (by omega) (by omega)) (by omega) hk33_11 (by omega)
      exact lp43 400000000 _ _ _ _ _ (by rfl) (by omega) (by omega) (fa_2 hp0_9 (by omega) (by omega)) (zNb_w hp2 (by omega) (by omega)) (by omega) hq33_9 (by omega)
  exact lp9 400000000 _ _ _ (by omega) (by omega) (cP_le _ _).1 hb33 (by omega)
theorem m_longest (d : Nat) (a1 a2 : Int) (hb30 : zB 0 5460 g30) (hr1 : 0 ≤ a1 ∧ a1 ≤ 4) (hr2 : 0 ≤ a2 ∧ a2 ≤ 1) (Q : zQ) (h : ∀ (v : Int) (k34 : Nat → Int32), Q (some (.int (Int32.ofInt v))) (zMi c0 c1 c2 c3 c4 c5 c6 c7 c8 c9 c10 c11 c12 c13 f0 f9 f10 f11 f12 f13 f15 f16 f17 f20 f21 f22 f23 f26 f28 f31 f32 f33 f38 f41 f44 x14 g15 g16 g17 g18 g19 g20 g21 g22 g23 g24 g25 g26 g27 g28 g29 g30 g31 g32 g33 k34 g35 g36 g37 g38 g39 g40 g41 g42 g43 g44 t)) : zCl zTab (d + 2) iX12_longest [.ref 14, .int (Int32.ofInt a1), .int (Int32.ofInt a2)] (zMi c0 c1 c2 c3 c4 c5 c6 c7 c8 c9 c10 c11 c12 c13 f0 f9 f10 f11 f12 f13 f15 f16 f17 f20 f21 f22 f23 f26 f28 f31 f32 f33 f38 f41 f44 x14 g15 g16 g17 g18 g19 g20 g21 g22 g23 g24 g25 g26 g27 g28 g29 g30 g31 g32 g33 g34 g35 g36 g37 g38 g39 g40 g41 g42 g43 g44 t) 0 0 Q := by
  refine zCl_i (M := kX12_longest) rfl (Nat.le_of_ble_eq_true rfl) fun R hR => ?_
  iterate 6 refine hR (?_ : R (_, _, _, _, _, _))
  have lp8 : ∀ (N : Nat) (n : Int) (mo : Int) (i : Int) (o6_8 : Option Value) (o7_8 : Option Value) (q34_8 : Nat → Int32), (zc2 o6_8 = false) → (zc2 o7_8 = false) → (0 ≤ i ∧ i ≤ 5461) → (5461 - i < N) → R (8, [some (.ref 14), some (.int (Int32.ofInt a1)), some (.int (Int32.ofInt a2)), some (.int (Int32.ofInt n)), some (.int (Int32.ofInt mo)), some (.int (Int32.ofInt i)), o6_8, o7_8], [], (zMi c0 c1 c2 c3 c4 c5 c6 c7 c8 c9 c10 c11 c12 c13 f0 f9 f10 f11 f12 f13 f15 f16 f17 f20 f21 f22 f23 f26 f28 f31 f32 f33 f38 f41 f44 x14 g15 g16 g17 g18 g19 g20 g21 g22 g23 g24 g25 g26 g27 g28 g29 g30 g31 g32 g33 q34_8 g35 g36 g37 g38 g39 g40 g41 g42 g43 g44 t), 0, 0) := by
    intro N
    induction N with
    | zero => intros; omega
    | succ N ih8 =>
      intro n mo i o6_8 o7_8 q34_8 hzo6_8 hzo7_8 hf0_8 hN8
      refine hR (?_ : R (_, _, _, _, _, _))
      refine hR (t_c 5461 (by decide) ?_)
      refine hR (j_ge (by omega) (by omega) (fun hc1 => ?_) (fun hc1 => ?_))
      · skip
        refine hR (?_ : R (_, _, _, _, _, _))
        refine hR (k_eq (by omega) (fun hc2 => ?_) (fun hc2 => ?_))
        · skip
          refine hR (?_ : R (_, _, _, _, _, _))
          exact hR (zret_i rfl (Nat.le_refl _) trivial (h _ _))
        iterate 2 refine hR (?_ : R (_, _, _, _, _, _))
        exact hR (zret_i rfl (Nat.le_refl _) trivial (h _ _))
      iterate 4 refine hR (?_ : R (_, _, _, _, _, _))
      have lp23 : ∀ (N : Nat) (sz : Int) (at_ : Int) (q34_23 : Nat → Int32), (0 ≤ at_ ∧ at_ ≤ 5460) → (0 ≤ cP q34_23 5461 ∧ cP q34_23 5461 ≤ 5461) → (5461 - cP q34_23 5461 < N) → R (23, [some (.ref 14), some (.int (Int32.ofInt a1)), some (.int (Int32.ofInt a2)), some (.int (Int32.ofInt n)), some (.int (Int32.ofInt mo)), some (.int (Int32.ofInt i)), some (.int (Int32.ofInt sz)), some (.int (Int32.ofInt at_))], [], (zMi c0 c1 c2 c3 c4 c5 c6 c7 c8 c9 c10 c11 c12 c13 f0 f9 f10 f11 f12 f13 f15 f16 f17 f20 f21 f22 f23 f26 f28 f31 f32 f33 f38 f41 f44 x14 g15 g16 g17 g18 g19 g20 g21 g22 g23 g24 g25 g26 g27 g28 g29 g30 g31 g32 g33 q34_23 g35 g36 g37 g38 g39 g40 g41 g42 g43 g44 t), 0, 0) := by
        intro N
        induction N with
        | zero => intros; omega
        | succ N ih23 =>
          intro sz at_ q34_23 hf0_23 hp0_23 hN23
          iterate 3 refine hR (?_ : R (_, _, _, _, _, _))
          refine hR (t_ldE (by omega) (by omega) (Nat.le_of_ble_eq_true rfl) fun v3 ev3 rv3 => ?_)
          refine hR (k_le (by omega) (fun hc4 => ?_) (fun hc4 => ?_))
          rotate_left
          · skip
            iterate 4 refine hR (?_ : R (_, _, _, _, _, _))
            refine hR (t_st (by omega) (by omega) (Nat.le_of_ble_eq_true rfl) (?_ : R (_, _, _, (zMi c0 c1 c2 c3 c4 c5 c6 c7 c8 c9 c10 c11 c12 c13 f0 f9 f10 f11 f12 f13 f15 f16 f17 f20 f21 f22 f23 f26 f28 f31 f32 f33 f38 f41 f44 x14 g15 g16 g17 g18 g19 g20 g21 g22 g23 g24 g25 g26 g27 g28 g29 g30 g31 g32 g33 (upd q34_23 at_.toNat (Int32.ofInt 0)) g35 g36 g37 g38 g39 g40 g41 g42 g43 g44 t), _, _)))
            have hcp := cP_up (D := q34_23) (t := at_.toNat) (x := Int32.ofInt 0) (by omega) (by omega) (by decide)
            refine hR (t_inc ?_)
            iterate 2 refine hR (?_ : R (_, _, _, _, _, _))
            refine hR (t_c 5461 (by decide) ?_)
            refine hR (?_ : R (_, _, _, _, _, _))
            refine hR (t_mul ?_)
            refine hR (?_ : R (_, _, _, _, _, _))
            refine hR (t_add ?_)
            refine hR (t_ldB hb30 (by omega) (by omega) (Nat.le_of_ble_eq_true rfl) fun v8 ev8 lv8 uv8 => ?_)
            clear ev8
            iterate 2 refine hR (?_ : R (_, _, _, _, _, _))
            exact ih23 _ _ _ (by omega) (cP_le _ _) (by omega)
          iterate 2 refine hR (?_ : R (_, _, _, _, _, _))
          refine hR (j_any ?_ ?_)
          · skip
            refine hR (?_ : R (_, _, _, _, _, _))
            refine hR (t_add ?_)
            iterate 3 refine hR (?_ : R (_, _, _, _, _, _))
            refine hR (zcall_i 0 0 (Nat.le_of_ble_eq_true rfl) (Nat.le_of_ble_eq_true rfl) (m_greaterx _ mo sz _ _ fun v5 => ?_))
            refine (?_ : R (_, _, (.int (Int32.ofInt v5)) :: [], (zMi c0 c1 c2 c3 c4 c5 c6 c7 c8 c9 c10 c11 c12 c13 f0 f9 f10 f11 f12 f13 f15 f16 f17 f20 f21 f22 f23 f26 f28 f31 f32 f33 f38 f41 f44 x14 g15 g16 g17 g18 g19 g20 g21 g22 g23 g24 g25 g26 g27 g28 g29 g30 g31 g32 g33 q34_23 g35 g36 g37 g38 g39 g40 g41 g42 g43 g44 t), 0, 0))
            refine hR (?_ : R (_, _, _, _, _, _))
            refine hR (t_inc ?_)
            refine hR (?_ : R (_, _, _, _, _, _))
            exact ih8 _ _ _ _ _ _ (by rfl) (by rfl) (by omega) (by omega)
          iterate 2 refine hR (?_ : R (_, _, _, _, _, _))
          refine hR (t_add ?_)
          iterate 3 refine hR (?_ : R (_, _, _, _, _, _))
          refine hR (zcall_i 0 0 (Nat.le_of_ble_eq_true rfl) (Nat.le_of_ble_eq_true rfl) (m_greaterx _ mo sz _ _ fun v6 => ?_))
          refine (?_ : R (_, _, (.int (Int32.ofInt v6)) :: [], (zMi c0 c1 c2 c3 c4 c5 c6 c7 c8 c9 c10 c11 c12 c13 f0 f9 f10 f11 f12 f13 f15 f16 f17 f20 f21 f22 f23 f26 f28 f31 f32 f33 f38 f41 f44 x14 g15 g16 g17 g18 g19 g20 g21 g22 g23 g24 g25 g26 g27 g28 g29 g30 g31 g32 g33 q34_23 g35 g36 g37 g38 g39 g40 g41 g42 g43 g44 t), 0, 0))
          refine hR (?_ : R (_, _, _, _, _, _))
          refine hR (t_inc ?_)
          refine hR (?_ : R (_, _, _, _, _, _))
          exact ih8 _ _ _ _ _ _ (by rfl) (by rfl) (by omega) (by omega)
      have hent := cP_le q34_8 5461
      exact lp23 400000000 _ _ _ (by omega) (cP_le _ _) (by omega)
  exact lp8 400000000 _ _ _ _ _ _ (by rfl) (by rfl) (by omega) (by omega)
theorem m_orbits (d : Nat) (a1 a2 a3 : Int) (hb19 : zB 0 2 g19) (hb25 : zB 0 3 g25) (hb30 : zB 0 5460 g30) (hb33 : zB 0 5460 g33) (hr4 : bkOK g20) (hr5 : -2147483648 ≤ a1 ∧ a1 ≤ 2147483647) (hr6 : -2147483648 ≤ a2 ∧ a2 ≤ 2147483647) (hr7 : -2147483648 ≤ a3 ∧ a3 ≤ 2147483647) (hr8 : -1 ≤ f21 ∧ f21 ≤ 1) (hr9 : RMD g30 g20 f21) (Q : zQ) (h : ∀ (v : Int) (y0 : Int) (y20 : Int) (y21 : Int) (y22 : Int) (y23 : Int) (y26 : Int) (k25 : Nat → Int32) (k30 : Nat → Int32) (k31 : Nat → Int32) (k33 : Nat → Int32) (k34 : Nat → Int32), zB 0 3 k25 → zB 0 5460 k30 → zB 0 5460 k33 → (-1 ≤ y21 ∧ y21 ≤ 1) → (RMD k30 g20 y21) → Q (some (.int (Int32.ofInt v))) (zMi c0 c1 c2 c3 c4 c5 c6 c7 c8 c9 c10 c11 c12 c13 y0 f9 f10 f11 f12 f13 f15 f16 f17 y20 y21 y22 y23 y26 f28 f31 f32 f33 f38 f41 f44 x14 g15 g16 g17 g18 g19 g20 g21 g22 g23 g24 k25 g26 g27 g28 g29 k30 k31 g32 k33 k34 g35 g36 g37 g38 g39 g40 g41 g42 g43 g44 t)) : zCl zTab (d + 6) iX12_orbits [.ref 14, .int (Int32.ofInt a1), .int (Int32.ofInt a2), .int (Int32.ofInt a3)] (zMi c0 c1 c2 c3 c4 c5 c6 c7 c8 c9 c10 c11 c12 c13 f0 f9 f10 f11 f12 f13 f15 f16 f17 f20 f21 f22 f23 f26 f28 f31 f32 f33 f38 f41 f44 x14 g15 g16 g17 g18 g19 g20 g21 g22 g23 g24 g25 g26 g27 g28 g29 g30 g31 g32 g33 g34 g35 g36 g37 g38 g39 g40 g41 g42 g43 g44 t) 0 0 Q := by
  refine zCl_i (M := kX12_orbits) rfl (Nat.le_of_ble_eq_true rfl) fun R hR => ?_
  iterate 2 refine hR (?_ : R (_, _, _, _, _, _))
  refine hR (?_ : R (_, _, _, (zMi c0 c1 c2 c3 c4 c5 c6 c7 c8 c9 c10 c11 c12 c13 0 f9 f10 f11 f12 f13 f15 f16 f17 f20 f21 f22 f23 f26 f28 f31 f32 f33 f38 f41 f44 x14 g15 g16 g17 g18 g19 g20 g21 g22 g23 g24 g25 g26 g27 g28 g29 g30 g31 g32 g33 g34 g35 g36 g37 g38 g39 g40 g41 g42 g43 g44 t), _, _))
  iterate 2 refine hR (?_ : R (_, _, _, _, _, _))
  refine hR (zcall_i 0 0 (Nat.le_of_ble_eq_true rfl) (Nat.le_of_ble_eq_true rfl) (m_handX _ a1 hb19 hr4 (by omega) _ fun v1 y20_2 y22_3 y23_4 hp5 hp6 hp7 => ?_))
  refine (?_ : R (_, _, (.int (Int32.ofInt v1)) :: [], (zMi c0 c1 c2 c3 c4 c5 c6 c7 c8 c9 c10 c11 c12 c13 0 f9 f10 f11 f12 f13 f15 f16 f17 y20_2 f21 y22_3 y23_4 f26 f28 f31 f32 f33 f38 f41 f44 x14 g15 g16 g17 g18 g19 g20 g21 g22 g23 g24 g25 g26 g27 g28 g29 g30 g31 g32 g33 g34 g35 g36 g37 g38 g39 g40 g41 g42 g43 g44 t), 0, 0))
  refine hR (k_eq (by omega) (fun hc8 => ?_) (fun hc8 => ?_))
  · skip
    refine hR (?_ : R (_, _, _, _, _, _))
    exact hR (zret_i rfl (Nat.le_refl _) trivial (h _ _ _ _ _ _ _ _ _ _ _ _ hb25 hb30 hb33 (by omega) hr9))
  iterate 2 refine hR (?_ : R (_, _, _, _, _, _))
  refine hR (zcall_i 0 0 (Nat.le_of_ble_eq_true rfl) (Nat.le_of_ble_eq_true rfl) (m_isReader _ a2 (by omega) (by omega) _ fun v9 hp10 => ?_))
  refine (?_ : R (_, _, (.int (Int32.ofInt v9)) :: [], (zMi c0 c1 c2 c3 c4 c5 c6 c7 c8 c9 c10 c11 c12 c13 0 f9 f10 f11 f12 f13 f15 f16 f17 y20_2 f21 y22_3 y23_4 f26 f28 f31 f32 f33 f38 f41 f44 x14 g15 g16 g17 g18 g19 g20 g21 g22 g23 g24 g25 g26 g27 g28 g29 g30 g31 g32 g33 g34 g35 g36 g37 g38 g39 g40 g41 g42 g43 g44 t), 0, 0))
  refine hR (k_eq (by omega) (fun hc11 => ?_) (fun hc11 => ?_))
  · skip
    refine hR (?_ : R (_, _, _, _, _, _))
    exact hR (zret_i rfl (Nat.le_refl _) trivial (h _ _ _ _ _ _ _ _ _ _ _ _ hb25 hb30 hb33 (by omega) hr9))
  iterate 3 refine hR (?_ : R (_, _, _, _, _, _))
  refine hR (zcall_i 0 0 (Nat.le_of_ble_eq_true rfl) (Nat.le_of_ble_eq_true rfl) (m_in _ a3 0 5 _ (by omega) (by omega) (by omega) _ fun v12 hp13 => ?_))
  refine (?_ : R (_, _, (.int (Int32.ofInt v12)) :: [], (zMi c0 c1 c2 c3 c4 c5 c6 c7 c8 c9 c10 c11 c12 c13 0 f9 f10 f11 f12 f13 f15 f16 f17 y20_2 f21 y22_3 y23_4 f26 f28 f31 f32 f33 f38 f41 f44 x14 g15 g16 g17 g18 g19 g20 g21 g22 g23 g24 g25 g26 g27 g28 g29 g30 g31 g32 g33 g34 g35 g36 g37 g38 g39 g40 g41 g42 g43 g44 t), 0, 0))
  refine hR (k_ne (by omega) (fun hc14 => ?_) (fun hc14 => ?_))
  rotate_left
  · skip
    refine hR (?_ : R (_, _, _, _, _, _))
    exact hR (zret_i rfl (Nat.le_refl _) trivial (h _ _ _ _ _ _ _ _ _ _ _ _ hb25 hb30 hb33 (by omega) hr9))
  refine hR (?_ : R (_, _, _, _, _, _))
  refine hR (zcall_i 0 0 (Nat.le_of_ble_eq_true rfl) (Nat.le_of_ble_eq_true rfl) (m_layMade _ hb25 hr4 (by omega) (by omega) hb30 (by omega) (by omega) hr9 _ fun y21_15 y26_16 k25_17 k30_18 hp19 hp20 hp21 hp22 hp23 => ?_))
  refine (?_ : R (_, _, [], (zMi c0 c1 c2 c3 c4 c5 c6 c7 c8 c9 c10 c11 c12 c13 0 f9 f10 f11 f12 f13 f15 f16 f17 y20_2 y21_15 y22_3 y23_4 y26_16 f28 f31 f32 f33 f38 f41 f44 x14 g15 g16 g17 g18 g19 g20 g21 g22 g23 g24 k25_17 g26 g27 g28 g29 k30_18 g31 g32 g33 g34 g35 g36 g37 g38 g39 g40 g41 g42 g43 g44 t), 0, 0))
  iterate 2 refine hR (?_ : R (_, _, _, _, _, _))
  refine hR (j_le (by omega) (by omega) (fun hc24 => ?_) (fun hc24 => ?_))
  rotate_left
  · skip
    iterate 2 refine hR (?_ : R (_, _, _, _, _, _))
    refine hR (j_ne (by omega) (by omega) (fun hc39 => ?_) (fun hc39 => ?_))
    · skip
      iterate 2 refine hR (?_ : R (_, _, _, _, _, _))
      refine hR (zcall_i 0 0 (Nat.le_of_ble_eq_true rfl) (Nat.le_of_ble_eq_true rfl) (m_stays _ a2 hp20 (by omega) _ fun v40 => ?_))
      refine (?_ : R (_, _, (.int (Int32.ofInt v40)) :: [], (zMi c0 c1 c2 c3 c4 c5 c6 c7 c8 c9 c10 c11 c12 c13 0 f9 f10 f11 f12 f13 f15 f16 f17 y20_2 y21_15 y22_3 y23_4 y26_16 f28 f31 f32 f33 f38 f41 f44 x14 g15 g16 g17 g18 g19 g20 g21 g22 g23 g24 k25_17 g26 g27 g28 g29 k30_18 g31 g32 g33 g34 g35 g36 g37 g38 g39 g40 g41 g42 g43 g44 t), 0, 0))
      exact hR (zret_i rfl (Nat.le_refl _) trivial (h _ _ _ _ _ _ _ _ _ _ _ _ hp19 hp20 hb33 (by omega) hp22))
    iterate 2 refine hR (?_ : R (_, _, _, _, _, _))
    refine hR (zcall_i 0 0 (Nat.le_of_ble_eq_true rfl) (Nat.le_of_ble_eq_true rfl) (m_unread _ a2 hp20 (by omega) _ fun v41 k34_42 => ?_))
    refine (?_ : R (_, _, (.int (Int32.ofInt v41)) :: [], (zMi c0 c1 c2 c3 c4 c5 c6 c7 c8 c9 c10 c11 c12 c13 0 f9 f10 f11 f12 f13 f15 f16 f17 y20_2 y21_15 y22_3 y23_4 y26_16 f28 f31 f32 f33 f38 f41 f44 x14 g15 g16 g17 g18 g19 g20 g21 g22 g23 g24 k25_17 g26 g27 g28 g29 k30_18 g31 g32 g33 k34_42 g35 g36 g37 g38 g39 g40 g41 g42 g43 g44 t), 0, 0))
    refine hR (?_ : R (_, _, _, _, _, _))
    exact hR (zret_i rfl (Nat.le_refl _) trivial (h _ _ _ _ _ _ _ _ _ _ _ _ hp19 hp20 hb33 (by omega) hp22))
  iterate 2 refine hR (?_ : R (_, _, _, _, _, _))
  refine hR (zcall_i 0 0 (Nat.le_of_ble_eq_true rfl) (Nat.le_of_ble_eq_true rfl) (m_fallAway _ a2 hp20 hb33 (by omega) _ fun v25 k33_26 k34_27 hp28 hp29 => ?_))
  refine (?_ : R (_, _, (.int (Int32.ofInt v25)) :: [], (zMi c0 c1 c2 c3 c4 c5 c6 c7 c8 c9 c10 c11 c12 c13 0 f9 f10 f11 f12 f13 f15 f16 f17 y20_2 y21_15 y22_3 y23_4 y26_16 f28 f31 f32 f33 f38 f41 f44 x14 g15 g16 g17 g18 g19 g20 g21 g22 g23 g24 k25_17 g26 g27 g28 g29 k30_18 g31 g32 k33_26 k34_27 g35 g36 g37 g38 g39 g40 g41 g42 g43 g44 t), 0, 0))
  iterate 3 refine hR (?_ : R (_, _, _, _, _, _))
  refine hR (j_ne (by omega) (by omega) (fun hc30 => ?_) (fun hc30 => ?_))
  rotate_left
  · skip
    refine hR (t_c 5461 (by decide) ?_)
    refine hR (?_ : R (_, _, _, _, _, _))
    refine hR (t_sub ?_)
    refine hR (?_ : R (_, _, _, _, _, _))
    exact hR (zret_i rfl (Nat.le_refl _) trivial (h _ _ _ _ _ _ _ _ _ _ _ _ hp19 hp20 hp28 (by omega) hp22))
  iterate 2 refine hR (?_ : R (_, _, _, _, _, _))
  refine hR (j_ne (by omega) (by omega) (fun hc31 => ?_) (fun hc31 => ?_))
  rotate_left
  · skip
    iterate 3 refine hR (?_ : R (_, _, _, _, _, _))
    refine hR (zcall_i 0 0 (Nat.le_of_ble_eq_true rfl) (Nat.le_of_ble_eq_true rfl) (m_tail _ a2 v25 hp20 hp28 (by omega) (by omega) _ fun v37 k31_38 => ?_))
    refine (?_ : R (_, _, (.int (Int32.ofInt v37)) :: [], (zMi c0 c1 c2 c3 c4 c5 c6 c7 c8 c9 c10 c11 c12 c13 0 f9 f10 f11 f12 f13 f15 f16 f17 y20_2 y21_15 y22_3 y23_4 y26_16 f28 f31 f32 f33 f38 f41 f44 x14 g15 g16 g17 g18 g19 g20 g21 g22 g23 g24 k25_17 g26 g27 g28 g29 k30_18 k31_38 g32 k33_26 k34_27 g35 g36 g37 g38 g39 g40 g41 g42 g43 g44 t), 0, 0))
    refine hR (?_ : R (_, _, _, _, _, _))
    exact hR (zret_i rfl (Nat.le_refl _) trivial (h _ _ _ _ _ _ _ _ _ _ _ _ hp19 hp20 hp28 (by omega) hp22))
  iterate 3 refine hR (?_ : R (_, _, _, _, _, _))
  refine hR (k_ne (by omega) (fun hc32 => ?_) (fun hc32 => ?_))
  · skip
    refine hR (?_ : R (_, _, _, _, _, _))
    refine hR (zcall_i 0 0 (Nat.le_of_ble_eq_true rfl) (Nat.le_of_ble_eq_true rfl) (m_longest _ a2 0 hp20 (by omega) (by omega) _ fun v33 k34_34 => ?_))
    refine (?_ : R (_, _, (.int (Int32.ofInt v33)) :: [], (zMi c0 c1 c2 c3 c4 c5 c6 c7 c8 c9 c10 c11 c12 c13 0 f9 f10 f11 f12 f13 f15 f16 f17 y20_2 y21_15 y22_3 y23_4 y26_16 f28 f31 f32 f33 f38 f41 f44 x14 g15 g16 g17 g18 g19 g20 g21 g22 g23 g24 k25_17 g26 g27 g28 g29 k30_18 g31 g32 k33_26 k34_34 g35 g36 g37 g38 g39 g40 g41 g42 g43 g44 t), 0, 0))
    exact hR (zret_i rfl (Nat.le_refl _) trivial (h _ _ _ _ _ _ _ _ _ _ _ _ hp19 hp20 hp28 (by omega) hp22))
  iterate 2 refine hR (?_ : R (_, _, _, _, _, _))
  refine hR (zcall_i 0 0 (Nat.le_of_ble_eq_true rfl) (Nat.le_of_ble_eq_true rfl) (m_longest _ a2 1 hp20 (by omega) (by omega) _ fun v35 k34_36 => ?_))
  refine (?_ : R (_, _, (.int (Int32.ofInt v35)) :: [], (zMi c0 c1 c2 c3 c4 c5 c6 c7 c8 c9 c10 c11 c12 c13 0 f9 f10 f11 f12 f13 f15 f16 f17 y20_2 y21_15 y22_3 y23_4 y26_16 f28 f31 f32 f33 f38 f41 f44 x14 g15 g16 g17 g18 g19 g20 g21 g22 g23 g24 k25_17 g26 g27 g28 g29 k30_18 g31 g32 k33_26 k34_36 g35 g36 g37 g38 g39 g40 g41 g42 g43 g44 t), 0, 0))
  exact hR (zret_i rfl (Nat.le_refl _) trivial (h _ _ _ _ _ _ _ _ _ _ _ _ hp19 hp20 hp28 (by omega) hp22))
end MZ
