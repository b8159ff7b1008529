theorem lb_i {D : Nat → Int32} {i : Int} (h : ∀ j : Nat, (j : Int) < i → (D j).toInt = -1) (h0 : 0 ≤ i) : ∀ j : Nat, (j : Int) < i + 1 → (upd D i.toNat (Int32.ofInt (-1)) j).toInt = -1 := by
  intro j hj
  by_cases e : j = i.toNat
  · subst e; rw [pk_us]; rfl
  · rw [pk_un e]; exact h j (by omega)
theorem lb_0 {D : Nat → Int32} {i : Int} (h : ∀ j : Nat, (j : Int) < i → (D j).toInt = -1) (hi : 5461 ≤ i) : zNb 5461 (-1) (0 - 1) D := fun t ht => by
  have := h t (by omega); omega
theorem lb_z {D : Nat → Int32} (h : ∀ j : Nat, (j : Int) < 5461 → (D j).toInt = -1) : zNb 5461 (-1) 5460 D := fun t ht => by
  have := h t (by omega); omega
theorem lb_n {D : Nat → Int32} {i x : Int} (h : ∀ e : Nat, (e : Int) < i → -1 ≤ (D e).toInt ∧ (D e).toInt < e) (h0 : 0 ≤ i) (h1 : i ≤ 27305) (hx : -1 ≤ x) (hx2 : x < i) : ∀ e : Nat, (e : Int) < i + 1 → -1 ≤ (upd D i.toNat (Int32.ofInt x) e).toInt ∧ (upd D i.toNat (Int32.ofInt x) e).toInt < e := by
  intro j hj
  by_cases e : j = i.toNat
  · subst e; rw [pk_us, zti (by omega) (by omega)]; omega
  · rw [pk_un e]; exact h j (by omega)
noncomputable def gdI (T U O : Nat → Int32) (rd de dn : Int) : Prop := zNb 5461 (-1) rd T ∧ cN (-1) T = de + dn ∧ (∀ i : Nat, (i : Int) < de → 0 ≤ (T (U i).toInt.toNat).toInt) ∧ (∀ t : Nat, t < 5461 → (T t).toInt ≠ -1 → (∃ i : Nat, (i : Int) < de ∧ (U i).toInt = t) ∨ (∃ i : Nat, (i : Int) < dn ∧ (O i).toInt = t))
theorem gd_00 {T U O : Nat → Int32} {rd : Int} (h : ∀ j : Nat, (j : Int) < 5461 → (T j).toInt = -1) (hr : 0 ≤ rd := by omega) : gdI T U O rd 0 0 := by
  refine ⟨fun t ht => ?_, ?_, fun i hi => by omega, fun t ht h1 => absurd (h t (by omega)) h1⟩
  · have := h t (by omega); omega
  · rw [cN_0 (fun t ht => h t (by omega))]; rfl
theorem gd_c {T U O : Nat → Int32} {rd de dn : Int} (h : gdI T U O rd de dn) : de + dn ≤ 5461 := by
  have := cN_le (-1) T
  rw [h.2.1] at this
  omega
theorem gd_z {T U O : Nat → Int32} {rd de dn : Int} (h : gdI T U O rd de dn) (hd : de = 0) : gdI T U O rd 0 dn := by rw [hd] at h; exact h
theorem gd_push {T U O : Nat → Int32} {rd de dn t : Int} (h : gdI T U O rd de dn) (h0 : 0 ≤ t ∧ t ≤ 5460) (ht : (T t.toNat).toInt = -1) (hd : 0 ≤ de) (hr : 0 ≤ rd) : gdI (upd T t.toNat (Int32.ofInt 0)) (upd U de.toNat (Int32.ofInt t)) O rd (de + 1) dn := by
  obtain ⟨h1, h2, h3, h4⟩ := h
  have e0 : (Int32.ofInt 0).toInt = 0 := by decide
  have e1 : (Int32.ofInt t).toInt = t := zti (by omega) (by omega)
  refine ⟨fun s hs => ?_, ?_, fun i hi => ?_, fun s hs hne => ?_⟩
  · by_cases e : s = t.toNat
    · subst e; rw [pk_us, e0]; omega
    · rw [pk_un e]; exact h1 s hs
  · rw [cN_up (by omega) ht (by omega), h2]; omega
  · by_cases e : i = de.toNat
    · subst e; rw [pk_us, e1, pk_us, e0]; omega
    · rw [pk_un e]
      by_cases e2 : (U i).toInt.toNat = t.toNat
      · rw [e2, pk_us, e0]; omega
      · rw [pk_un e2]; exact h3 i (by omega)
  · by_cases e : s = t.toNat
    · refine Or.inl ⟨de.toNat, by omega, ?_⟩
      rw [pk_us, e1]; omega
    · rw [pk_un e] at hne
      rcases h4 s hs hne with ⟨i, hi, q⟩ | q
      · refine Or.inl ⟨i, by omega, ?_⟩
        rw [pk_un (by omega)]; exact q
      · exact Or.inr q
theorem gd_inc {T U O : Nat → Int32} {rd de dn t v : Int} (h : gdI T U O rd de dn) (h0 : 0 ≤ t) (h5 : rd ≤ 5) (e : v = (T t.toNat).toInt) (hv : 0 ≤ v) (hv2 : v < rd) : gdI (upd T t.toNat (Int32.ofInt (v + 1))) U O rd de dn := by
  obtain ⟨h1, h2, h3, h4⟩ := h
  have e1 : (Int32.ofInt (v + 1)).toInt = v + 1 := zti (by omega) (by omega)
  refine ⟨fun s hs => ?_, ?_, fun i hi => ?_, fun s hs hne => ?_⟩
  · by_cases q : s = t.toNat
    · subst q; rw [pk_us, e1]; omega
    · rw [pk_un q]; exact h1 s hs
  · rw [cN_same (by omega) (by omega), h2]
  · by_cases q : (U i).toInt.toNat = t.toNat
    · rw [q, pk_us, e1]; omega
    · rw [pk_un q]; exact h3 i hi
  · by_cases q : s = t.toNat
    · exact h4 s hs (by rw [q]; omega)
    · rw [pk_un q] at hne
      exact h4 s hs hne
theorem gd_pop {T U O : Nat → Int32} {rd de dn v : Int} (h : gdI T U O rd de dn) (hU : zB 0 5460 U) (hd : 1 ≤ de) (hn : 0 ≤ dn) (e : v = (U (de - 1).toNat).toInt) : gdI T U (upd O dn.toNat (Int32.ofInt v)) rd (de + (-1)) (dn + 1) := by
  obtain ⟨h1, h2, h3, h4⟩ := h
  have hu := hU (de - 1).toNat
  have e1 : (Int32.ofInt v).toInt = v := zti (by omega) (by omega)
  refine ⟨h1, by omega, fun i hi => h3 i (by omega), fun s hs hne => ?_⟩
  rcases h4 s hs hne with ⟨i, hi, q⟩ | ⟨i, hi, q⟩
  · by_cases z : i = (de - 1).toNat
    · refine Or.inr ⟨dn.toNat, by omega, ?_⟩
      rw [pk_us, e1, e, ← z]; exact q
    · exact Or.inl ⟨i, by omega, q⟩
  · refine Or.inr ⟨i, by omega, ?_⟩
    rw [pk_un (by omega)]; exact q
theorem gd_ge {T U O : Nat → Int32} {rd de dn v x : Int} (h : gdI T U O rd de dn) (hd : 1 ≤ de) (hv : 0 ≤ v ∧ v ≤ 5460) (e : v = (U (de - 1).toNat).toInt) (ex : x = (T v.toNat).toInt) : 0 ≤ x ∧ x ≤ rd := by
  have q1 := h.2.2.1 (de - 1).toNat (by omega)
  have q2 := h.1 v.toNat (by omega)
  rw [← e] at q1
  omega
theorem gd_sum : ∃ S : (Nat → Int32) → Int, (∀ D t (x : Int32), t < 5461 → S (upd D t x) = S D - (D t).toInt + x.toInt) ∧ (∀ D rd, zNb 5461 (-1) rd D → -5461 ≤ S D ∧ S D ≤ 5461 * rd) :=
  ⟨fun D => sumI D 5461, fun D _ _ h => sumI_u D 5461 h, fun D rd h => by
    have := sumI_b D 5461 h
    dsimp only
    omega⟩
theorem gd_sb {S : (Nat → Int32) → Int} (hS : ∀ D rd, zNb 5461 (-1) rd D → -5461 ≤ S D ∧ S D ≤ 5461 * rd) {T U O : Nat → Int32} {rd de dn : Int} (h : gdI T U O rd de dn) : -5461 ≤ S T ∧ S T ≤ 5461 * rd := hS T rd h.1
theorem gm_0 {g : Nat → Int32} {a : Int} (h : 0 ≤ a) : ∀ t : Nat, ((g t).toInt ≠ -1 ∨ t = a.toNat) → (upd g a.toNat (Int32.ofInt 0) t).toInt ≠ -1 := by
  intro t ht
  by_cases q : t = a.toNat
  · subst q; rw [pk_us]; decide
  · rw [pk_un q]; exact ht.elim id (fun z => absurd z q)
theorem gm_1 {g : Nat → Int32} {a b : Int} (h : 0 ≤ b) (h2 : b ≤ 5460) : ∀ t : Nat, ((g t).toInt ≠ -1 ∨ t = a.toNat) → (upd g a.toNat (Int32.ofInt b) t).toInt ≠ -1 := by
  intro t ht
  by_cases q : t = a.toNat
  · subst q; rw [pk_us, zti (by omega) (by omega)]; omega
  · rw [pk_un q]; exact ht.elim id (fun z => absurd z q)
theorem gm_s {g T : Nat → Int32} {a t x : Int} (h : ∀ t : Nat, ((g t).toInt ≠ -1 ∨ t = a.toNat) → (T t).toInt ≠ -1) (hx : 0 ≤ x) (hx2 : x ≤ 5461) : ∀ s : Nat, ((g s).toInt ≠ -1 ∨ s = a.toNat) → (upd T t.toNat (Int32.ofInt x) s).toInt ≠ -1 := by
  intro s hs
  by_cases q : s = t.toNat
  · subst q; rw [pk_us, zti (by omega) (by omega)]; omega
  · rw [pk_un q]; exact h s hs
theorem gb_1 {g : Nat → Int32} {a b : Int} (ha : 0 ≤ a ∧ a ≤ 5460) (hb : 0 ≤ b ∧ b ≤ 5460) : 1 ≤ cN (-1) (upd g a.toNat (Int32.ofInt b)) :=
  cN_pos (t := a.toNat) (by omega) (by rw [pk_us, zti (by omega) (by omega)]; omega)
theorem gb_s {D : Nat → Int32} {en t v b : Int} (h : en ≤ cN (-1) D) (h0 : 0 ≤ t) (ht : t ≤ 5460) (e : v = (D t.toNat).toInt) (hv : v = -1) (hb : 0 ≤ b ∧ b ≤ 5460) : en + 1 ≤ cN (-1) (upd D t.toNat (Int32.ofInt b)) := by
  rw [cN_up (by omega) (by omega) (by rw [zti (by omega) (by omega)]; omega)]; omega
theorem fm_1 {T : Nat → Int32} {i v : Int} (h : ∀ j : Nat, (j : Int) < i → (T j).toInt ≠ -1) (h0 : 0 ≤ i) (e : v = (T i.toNat).toInt) (hv : ¬ v = -1) : ∀ j : Nat, (j : Int) < i + 1 → (T j).toInt ≠ -1 := by
  intro j hj
  by_cases q : j = i.toNat
  · subst q; rw [← e]; exact hv
  · exact h j (by omega)
theorem fm_2 {T T' : Nat → Int32} {i : Int} (h : ∀ j : Nat, (j : Int) < i → (T j).toInt ≠ -1) (hm : ∀ t : Nat, ((T t).toInt ≠ -1 ∨ t = i.toNat) → (T' t).toInt ≠ -1) (h0 : 0 ≤ i) : ∀ j : Nat, (j : Int) < i + 1 → (T' j).toInt ≠ -1 := by
  intro j hj
  by_cases q : j = i.toNat
  · exact hm j (Or.inr q)
  · exact hm j (Or.inl (h j (by omega)))
theorem fo_1 {C O : Nat → Int32} {k v1 v2 : Int} (h : ∀ j : Nat, k < j → (j : Int) < 5461 → (C (O j).toInt.toNat).toInt ≠ -1) (h0 : 0 ≤ k) (e1 : v1 = (O k.toNat).toInt) (e2 : v2 = (C v1.toNat).toInt) (hv : ¬ v2 = -1) : ∀ j : Nat, k + (-1) < j → (j : Int) < 5461 → (C (O j).toInt.toNat).toInt ≠ -1 := by
  intro j h1 h2
  by_cases q : j = k.toNat
  · subst q; rw [← e1, ← e2]; exact hv
  · exact h j (by omega) h2
theorem fo_2 {C C' O : Nat → Int32} {k v1 : Int} (h : ∀ j : Nat, k < j → (j : Int) < 5461 → (C (O j).toInt.toNat).toInt ≠ -1) (hm : ∀ t : Nat, ((C t).toInt ≠ -1 ∨ t = v1.toNat) → (C' t).toInt ≠ -1) (h0 : 0 ≤ k) (e1 : v1 = (O k.toNat).toInt) : ∀ j : Nat, k + (-1) < j → (j : Int) < 5461 → (C' (O j).toInt.toNat).toInt ≠ -1 := by
  intro j h1 h2
  by_cases q : j = k.toNat
  · subst q; exact hm _ (Or.inr (by rw [← e1]))
  · exact hm _ (Or.inl (h j (by omega) h2))
theorem fo_e {C T U O : Nat → Int32} {rd k dn : Int} (h : ∀ j : Nat, k < j → (j : Int) < 5461 → (C (O j).toInt.toNat).toInt ≠ -1) (hz : zNb 5461 (-1) 5460 C) (hg : gdI T U O rd 0 dn) (hT : ∀ j : Nat, (j : Int) < 5461 → (T j).toInt ≠ -1) (hk : k < 0) : zNb 5461 0 5460 C := by
  intro t ht
  have hc := gd_c hg
  rcases hg.2.2.2 t ht (hT t (by omega)) with ⟨i, hi, -⟩ | ⟨i, hi, q⟩
  · omega
  · have q2 := h i (by omega) (by omega)
    have q3 := hz t ht
    rw [q, Int.toNat_natCast] at q2
    omega
section MZ
variable {c0 c1 c2 c3 c4 c5 c6 c7 c8 c9 c10 c11 c12 c13 : va_E} {f0 f9 f10 f11 f12 f13 f15 f16 f17 f20 f21 f22 f23 f26 f28 f31 f32 f33 f38 f41 f44 : Int} {x14 : Int64} {g15 g16 g17 g18 g19 g20 g21 g22 g23 g24 g25 g26 g27 g28 g29 g30 g31 g32 g33 g34 g35 g36 g37 g38 g39 g40 g41 g42 g43 g44 : Nat → Int32} {t : zW}
theorem m_layBack (d : Nat) (hb30 : zB 0 5460 g30) (hr1 : 0 ≤ f23 ∧ f23 ≤ 5) (Q : zQ) (h : ∀ (k39 : Nat → Int32) (k40 : Nat → Int32) (k41 : Nat → Int32) (k42 : Nat → Int32) (k43 : Nat → Int32), (∀ j : Nat, (j : Int) < 5461 → (k39 j).toInt = -1) → (∀ j : Nat, (j : Int) < 5461 → (k40 j).toInt = -1) → (zNb 5461 (-1) (5461 * f23 - 1) k42) → (∀ e : Nat, (e : Int) < 5461 * f23 → -1 ≤ (k43 e).toInt ∧ (k43 e).toInt < e) → Q (none) (zMi c0 c1 c2 c3 c4 c5 c6 c7 c8 c9 c10 c11 c12 c13 f0 f9 f10 f11 f12 f13 f15 f16 f17 f20 f21 f22 f23 f26 f28 f31 f32 f33 f38 f41 f44 x14 g15 g16 g17 g18 g19 g20 g21 g22 g23 g24 g25 g26 g27 g28 g29 g30 g31 g32 g33 g34 g35 g36 g37 g38 k39 k40 k41 k42 k43 g44 t)) : zCl zTab (d + 1) iX12_layBack [.ref 14] (zMi c0 c1 c2 c3 c4 c5 c6 c7 c8 c9 c10 c11 c12 c13 f0 f9 f10 f11 f12 f13 f15 f16 f17 f20 f21 f22 f23 f26 f28 f31 f32 f33 f38 f41 f44 x14 g15 g16 g17 g18 g19 g20 g21 g22 g23 g24 g25 g26 g27 g28 g29 g30 g31 g32 g33 g34 g35 g36 g37 g38 g39 g40 g41 g42 g43 g44 t) 0 0 Q := by
  refine zCl_i (M := kX12_layBack) rfl (Nat.le_of_ble_eq_true rfl) fun R hR => ?_
  iterate 2 refine hR (?_ : R (_, _, _, _, _, _))
  have lp2 : ∀ (N : Nat) (i : Int) (q39_2 : Nat → Int32) (q40_2 : Nat → Int32) (q41_2 : Nat → Int32) (q42_2 : Nat → Int32), (0 ≤ i ∧ i ≤ 5461) → (∀ j : Nat, (j : Int) < i → (q39_2 j).toInt = -1) → (∀ j : Nat, (j : Int) < i → (q40_2 j).toInt = -1) → (∀ j : Nat, (j : Int) < i → (q42_2 j).toInt = -1) → (5461 - i < N) → R (2, [some (.ref 14), some (.int (Int32.ofInt i))], [], (zMi c0 c1 c2 c3 c4 c5 c6 c7 c8 c9 c10 c11 c12 c13 f0 f9 f10 f11 f12 f13 f15 f16 f17 f20 f21 f22 f23 f26 f28 f31 f32 f33 f38 f41 f44 x14 g15 g16 g17 g18 g19 g20 g21 g22 g23 g24 g25 g26 g27 g28 g29 g30 g31 g32 g33 g34 g35 g36 g37 g38 q39_2 q40_2 q41_2 q42_2 g43 g44 t), 0, 0) := by
    intro N
    induction N with
    | zero => intros; omega
    | succ N ih2 =>
      intro i q39_2 q40_2 q41_2 q42_2 hf0_2 hp0_2 hp1_2 hp2_2 hN2
      refine hR (?_ : R (_, _, _, _, _, _))
      refine hR (t_c 5461 (by decide) ?_)
      refine hR (j_ge (by omega) (by omega) (fun hc1 => ?_) (fun hc1 => ?_))
      rotate_left
      · skip
        iterate 4 refine hR (?_ : R (_, _, _, _, _, _))
        refine hR (t_st (by omega) (by omega) (Nat.le_of_ble_eq_true rfl) (?_ : R (_, _, _, (zMi c0 c1 c2 c3 c4 c5 c6 c7 c8 c9 c10 c11 c12 c13 f0 f9 f10 f11 f12 f13 f15 f16 f17 f20 f21 f22 f23 f26 f28 f31 f32 f33 f38 f41 f44 x14 g15 g16 g17 g18 g19 g20 g21 g22 g23 g24 g25 g26 g27 g28 g29 g30 g31 g32 g33 g34 g35 g36 g37 g38 q39_2 q40_2 q41_2 (upd q42_2 i.toNat (Int32.ofInt ((-1)))) g43 g44 t), _, _)))
        iterate 4 refine hR (?_ : R (_, _, _, _, _, _))
        refine hR (t_st (by omega) (by omega) (Nat.le_of_ble_eq_true rfl) (?_ : R (_, _, _, (zMi c0 c1 c2 c3 c4 c5 c6 c7 c8 c9 c10 c11 c12 c13 f0 f9 f10 f11 f12 f13 f15 f16 f17 f20 f21 f22 f23 f26 f28 f31 f32 f33 f38 f41 f44 x14 g15 g16 g17 g18 g19 g20 g21 g22 g23 g24 g25 g26 g27 g28 g29 g30 g31 g32 g33 g34 g35 g36 g37 g38 q39_2 (upd q40_2 i.toNat (Int32.ofInt ((-1)))) q41_2 (upd q42_2 i.toNat (Int32.ofInt ((-1)))) g43 g44 t), _, _)))
        iterate 4 refine hR (?_ : R (_, _, _, _, _, _))
        refine hR (t_st (by omega) (by omega) (Nat.le_of_ble_eq_true rfl) (?_ : R (_, _, _, (zMi c0 c1 c2 c3 c4 c5 c6 c7 c8 c9 c10 c11 c12 c13 f0 f9 f10 f11 f12 f13 f15 f16 f17 f20 f21 f22 f23 f26 f28 f31 f32 f33 f38 f41 f44 x14 g15 g16 g17 g18 g19 g20 g21 g22 g23 g24 g25 g26 g27 g28 g29 g30 g31 g32 g33 g34 g35 g36 g37 g38 (upd q39_2 i.toNat (Int32.ofInt ((-1)))) (upd q40_2 i.toNat (Int32.ofInt ((-1)))) q41_2 (upd q42_2 i.toNat (Int32.ofInt ((-1)))) g43 g44 t), _, _)))
        iterate 4 refine hR (?_ : R (_, _, _, _, _, _))
        refine hR (t_stx (by omega) (by omega) (Nat.le_of_ble_eq_true rfl) fun k41_11 => (?_ : R (_, _, _, (zMi c0 c1 c2 c3 c4 c5 c6 c7 c8 c9 c10 c11 c12 c13 f0 f9 f10 f11 f12 f13 f15 f16 f17 f20 f21 f22 f23 f26 f28 f31 f32 f33 f38 f41 f44 x14 g15 g16 g17 g18 g19 g20 g21 g22 g23 g24 g25 g26 g27 g28 g29 g30 g31 g32 g33 g34 g35 g36 g37 g38 (upd q39_2 i.toNat (Int32.ofInt ((-1)))) (upd q40_2 i.toNat (Int32.ofInt ((-1)))) k41_11 (upd q42_2 i.toNat (Int32.ofInt ((-1)))) g43 g44 t), _, _)))
        refine hR (t_inc ?_)
        refine hR (?_ : R (_, _, _, _, _, _))
        exact ih2 _ _ _ _ _ (by omega) (lb_i hp0_2 (by omega)) (lb_i hp1_2 (by omega)) (lb_i hp2_2 (by omega)) (by omega)
      iterate 2 refine hR (?_ : R (_, _, _, _, _, _))
      have lp45 : ∀ (N : Nat) (i : Int) (q42_45 : Nat → Int32) (q43_45 : Nat → Int32), (0 ≤ i ∧ i ≤ 5461 * f23) → (zNb 5461 (-1) (i - 1) q42_45) → (∀ e : Nat, (e : Int) < i → -1 ≤ (q43_45 e).toInt ∧ (q43_45 e).toInt < e) → (5461 * f23 - i < N) → R (45, [some (.ref 14), some (.int (Int32.ofInt i))], [], (zMi c0 c1 c2 c3 c4 c5 c6 c7 c8 c9 c10 c11 c12 c13 f0 f9 f10 f11 f12 f13 f15 f16 f17 f20 f21 f22 f23 f26 f28 f31 f32 f33 f38 f41 f44 x14 g15 g16 g17 g18 g19 g20 g21 g22 g23 g24 g25 g26 g27 g28 g29 g30 g31 g32 g33 g34 g35 g36 g37 g38 q39_2 q40_2 q41_2 q42_45 q43_45 g44 t), 0, 0) := by
        intro N
        induction N with
        | zero => intros; omega
        | succ N ih45 =>
          intro i q42_45 q43_45 hf0_45 hp0_45 hp1_45 hN45
          refine hR (?_ : R (_, _, _, _, _, _))
          refine hR (t_c 5461 (by decide) ?_)
          iterate 2 refine hR (?_ : R (_, _, _, _, _, _))
          refine hR (t_mul ?_)
          refine hR (j_ge (by omega) (by omega) (fun hc2 => ?_) (fun hc2 => ?_))
          · skip
            exact hR (zret_i rfl (Nat.le_refl _) rfl (h _ _ _ _ _ (fun j hj => hp0_2 j (by omega)) (fun j hj => hp1_2 j (by omega)) (zNb_w hp0_45 (by omega) (by omega)) (fun e he => hp1_45 e (by omega))))
          iterate 8 refine hR (?_ : R (_, _, _, _, _, _))
          refine hR (t_ldB hb30 (by omega) (by omega) (Nat.le_of_ble_eq_true rfl) fun v3 ev3 lv3 uv3 => ?_)
          clear ev3
          refine hR (t_ldE (by omega) (by omega) (Nat.le_of_ble_eq_true rfl) fun v4 ev4 rv4 => ?_)
          have bv4 := hp0_45 v3.toNat (by omega)
          rw [← ev4] at bv4
          refine hR (t_st (by omega) (by omega) (Nat.le_of_ble_eq_true rfl) (?_ : R (_, _, _, (zMi c0 c1 c2 c3 c4 c5 c6 c7 c8 c9 c10 c11 c12 c13 f0 f9 f10 f11 f12 f13 f15 f16 f17 f20 f21 f22 f23 f26 f28 f31 f32 f33 f38 f41 f44 x14 g15 g16 g17 g18 g19 g20 g21 g22 g23 g24 g25 g26 g27 g28 g29 g30 g31 g32 g33 g34 g35 g36 g37 g38 q39_2 q40_2 q41_2 q42_45 (upd q43_45 i.toNat (Int32.ofInt v4)) g44 t), _, _)))
          iterate 5 refine hR (?_ : R (_, _, _, _, _, _))
          refine hR (t_ldB hb30 (by omega) (by omega) (Nat.le_of_ble_eq_true rfl) fun v6 ev6 lv6 uv6 => ?_)
          clear ev6
          refine hR (?_ : R (_, _, _, _, _, _))
          refine hR (t_st (by omega) (by omega) (Nat.le_of_ble_eq_true rfl) (?_ : R (_, _, _, (zMi c0 c1 c2 c3 c4 c5 c6 c7 c8 c9 c10 c11 c12 c13 f0 f9 f10 f11 f12 f13 f15 f16 f17 f20 f21 f22 f23 f26 f28 f31 f32 f33 f38 f41 f44 x14 g15 g16 g17 g18 g19 g20 g21 g22 g23 g24 g25 g26 g27 g28 g29 g30 g31 g32 g33 g34 g35 g36 g37 g38 q39_2 q40_2 q41_2 (upd q42_45 v6.toNat (Int32.ofInt i)) (upd q43_45 i.toNat (Int32.ofInt v4)) g44 t), _, _)))
          refine hR (t_inc ?_)
          refine hR (?_ : R (_, _, _, _, _, _))
          exact ih45 _ _ _ (by omega) (zNb_u (zNb_w hp0_45 (by omega) (by omega)) (by omega) (by omega) (by omega) (by omega)) (lb_n hp1_45 (by omega) (by omega) (by omega) (by omega)) (by omega)
      exact lp45 400000000 _ _ _ (by omega) (lb_0 hp2_2 (by omega)) (fun e he => by omega) (by omega)
  exact lp2 400000000 _ _ _ _ _ (by omega) (fun j hj => by omega) (fun j hj => by omega) (fun j hj => by omega) (by omega)
theorem m_goDeep (d : Nat) (a1 a2 : Int) (hb30 : zB 0 5460 g30) (hr1 : 0 ≤ f23 ∧ f23 ≤ 5) (hr2 : gdI g39 g38 g33 f23 0 a2) (hr3 : (g39 a1.toNat).toInt = -1) (hr4 : 0 ≤ a1 ∧ a1 ≤ 5460) (hr5 : 0 ≤ a2) (hr6 : zB 0 5460 g33) (hr7 : zB 0 5460 g38) (Q : zQ) (h : ∀ (v : Int) (k33 : Nat → Int32) (k38 : Nat → Int32) (k39 : Nat → Int32), zB 0 5460 k33 → zB 0 5460 k38 → (gdI k39 k38 k33 f23 0 v) → (0 ≤ v ∧ v ≤ 5461) → (∀ t : Nat, ((g39 t).toInt ≠ -1 ∨ t = a1.toNat) → (k39 t).toInt ≠ -1) → Q (some (.int (Int32.ofInt v))) (zMi c0 c1 c2 c3 c4 c5 c6 c7 c8 c9 c10 c11 c12 c13 f0 f9 f10 f11 f12 f13 f15 f16 f17 f20 f21 f22 f23 f26 f28 f31 f32 f33 f38 f41 f44 x14 g15 g16 g17 g18 g19 g20 g21 g22 g23 g24 g25 g26 g27 g28 g29 g30 g31 g32 k33 g34 g35 g36 g37 k38 k39 g40 g41 g42 g43 g44 t)) : zCl zTab (d + 1) iX12_goDeep [.ref 14, .int (Int32.ofInt a1), .int (Int32.ofInt a2)] (zMi c0 c1 c2 c3 c4 c5 c6 c7 c8 c9 c10 c11 c12 c13 f0 f9 f10 f11 f12 f13 f15 f16 f17 f20 f21 f22 f23 f26 f28 f31 f32 f33 f38 f41 f44 x14 g15 g16 g17 g18 g19 g20 g21 g22 g23 g24 g25 g26 g27 g28 g29 g30 g31 g32 g33 g34 g35 g36 g37 g38 g39 g40 g41 g42 g43 g44 t) 0 0 Q := by
  refine zCl_i (M := kX12_goDeep) rfl (Nat.le_of_ble_eq_true rfl) fun R hR => ?_
  obtain ⟨S, hS1, hS2⟩ := gd_sum
  have hb33x := hr6
  have hb38x := hr7
  iterate 8 refine hR (?_ : R (_, _, _, _, _, _))
  refine hR (t_st (by omega) (by omega) (Nat.le_of_ble_eq_true rfl) (?_ : R (_, _, _, (zMi c0 c1 c2 c3 c4 c5 c6 c7 c8 c9 c10 c11 c12 c13 f0 f9 f10 f11 f12 f13 f15 f16 f17 f20 f21 f22 f23 f26 f28 f31 f32 f33 f38 f41 f44 x14 g15 g16 g17 g18 g19 g20 g21 g22 g23 g24 g25 g26 g27 g28 g29 g30 g31 g32 g33 g34 g35 g36 g37 (upd g38 (0 : Int).toNat (Int32.ofInt a1)) g39 g40 g41 g42 g43 g44 t), _, _)))
  iterate 4 refine hR (?_ : R (_, _, _, _, _, _))
  refine hR (t_st (by omega) (by omega) (Nat.le_of_ble_eq_true rfl) (?_ : R (_, _, _, (zMi c0 c1 c2 c3 c4 c5 c6 c7 c8 c9 c10 c11 c12 c13 f0 f9 f10 f11 f12 f13 f15 f16 f17 f20 f21 f22 f23 f26 f28 f31 f32 f33 f38 f41 f44 x14 g15 g16 g17 g18 g19 g20 g21 g22 g23 g24 g25 g26 g27 g28 g29 g30 g31 g32 g33 g34 g35 g36 g37 (upd g38 (0 : Int).toNat (Int32.ofInt a1)) (upd g39 a1.toNat (Int32.ofInt 0)) g40 g41 g42 g43 g44 t), _, _)))
  have lp19 : ∀ (N : Nat) (dn : Int) (de : Int) (o5_19 : Option Value) (o6_19 : Option Value) (q33_19 : Nat → Int32) (q38_19 : Nat → Int32) (q39_19 : Nat → Int32), (zc2 o5_19 = false) → (zc2 o6_19 = false) → (0 ≤ dn ∧ dn ≤ 5461) → (0 ≤ de ∧ de ≤ 5461) → (gdI q39_19 q38_19 q33_19 f23 de dn) → (zB 0 5460 q33_19) → (zB 0 5460 q38_19) → (∀ t : Nat, ((g39 t).toInt ≠ -1 ∨ t = a1.toNat) → (q39_19 t).toInt ≠ -1) → (-5461 ≤ S q39_19 ∧ S q39_19 ≤ 5461 * f23) → (5461 * f23 - S q39_19 + de < N) → R (19, [some (.ref 14), some (.int (Int32.ofInt a1)), some (.int (Int32.ofInt a2)), some (.int (Int32.ofInt dn)), some (.int (Int32.ofInt de)), o5_19, o6_19], [], (zMi c0 c1 c2 c3 c4 c5 c6 c7 c8 c9 c10 c11 c12 c13 f0 f9 f10 f11 f12 f13 f15 f16 f17 f20 f21 f22 f23 f26 f28 f31 f32 f33 f38 f41 f44 x14 g15 g16 g17 g18 g19 g20 g21 g22 g23 g24 g25 g26 g27 g28 g29 g30 g31 g32 q33_19 g34 g35 g36 g37 q38_19 q39_19 g40 g41 g42 g43 g44 t), 0, 0) := by
    intro N
    induction N with
    | zero => intros; omega
    | succ N ih19 =>
      intro dn de o5_19 o6_19 q33_19 q38_19 q39_19 hzo5_19 hzo6_19 hf0_19 hf1_19 hp0_19 hp1_19 hp2_19 hp3_19 hp4_19 hN19
      refine hR (?_ : R (_, _, _, _, _, _))
      refine hR (k_le (by omega) (fun hc3 => ?_) (fun hc3 => ?_))
      · skip
        refine hR (?_ : R (_, _, _, _, _, _))
        exact hR (zret_i rfl (Nat.le_refl _) trivial (h _ _ _ _ hp1_19 hp2_19 (gd_z hp0_19 (by omega)) (by omega) hp3_19))
      iterate 4 refine hR (?_ : R (_, _, _, _, _, _))
      refine hR (t_sub ?_)
      refine hR (t_ldE (by omega) (by omega) (Nat.le_of_ble_eq_true rfl) fun v4 ev4 rv4 => ?_)
      have bv4 := hp2_19 (de - 1).toNat
      rw [← ev4] at bv4
      iterate 4 refine hR (?_ : R (_, _, _, _, _, _))
      refine hR (t_ldE (by omega) (by omega) (Nat.le_of_ble_eq_true rfl) fun v5 ev5 rv5 => ?_)
      have bv5 := gd_ge hp0_19 (by omega) (by omega) ev4 ev5
      have dv5 := (gd_c hp0_19)
      iterate 2 refine hR (?_ : R (_, _, _, _, _, _))
      refine hR (j_ne (by omega) (by omega) (fun hc6 => ?_) (fun hc6 => ?_))
      rotate_left
      · skip
        iterate 4 refine hR (?_ : R (_, _, _, _, _, _))
        refine hR (t_st (by omega) (by omega) (Nat.le_of_ble_eq_true rfl) (?_ : R (_, _, _, (zMi c0 c1 c2 c3 c4 c5 c6 c7 c8 c9 c10 c11 c12 c13 f0 f9 f10 f11 f12 f13 f15 f16 f17 f20 f21 f22 f23 f26 f28 f31 f32 f33 f38 f41 f44 x14 g15 g16 g17 g18 g19 g20 g21 g22 g23 g24 g25 g26 g27 g28 g29 g30 g31 g32 (upd q33_19 dn.toNat (Int32.ofInt v4)) g34 g35 g36 g37 q38_19 q39_19 g40 g41 g42 g43 g44 t), _, _)))
        refine hR (t_inc ?_)
        refine hR (t_inc ?_)
        iterate 2 refine hR (?_ : R (_, _, _, _, _, _))
        exact ih19 _ _ _ _ _ _ _ (by rfl) hzo6_19 (by omega) (by omega) (gd_pop hp0_19 hp2_19 (by omega) (by omega) ev4) (zB_u hp1_19 (by omega) (by omega) (by omega) (by omega)) hp2_19 hp3_19 hp4_19 (by omega)
      iterate 2 refine hR (?_ : R (_, _, _, _, _, _))
      refine hR (t_c 5461 (by decide) ?_)
      iterate 3 refine hR (?_ : R (_, _, _, _, _, _))
      refine hR (t_ldE (by omega) (by omega) (Nat.le_of_ble_eq_true rfl) fun v7 ev7 rv7 => ?_)
      refine hR (t_mul ?_)
      refine hR (?_ : R (_, _, _, _, _, _))
      refine hR (t_add ?_)
      refine hR (t_ldB hb30 (by omega) (by omega) (Nat.le_of_ble_eq_true rfl) fun v8 ev8 lv8 uv8 => ?_)
      clear ev8
      iterate 5 refine hR (?_ : R (_, _, _, _, _, _))
      refine hR (t_ldE (by omega) (by omega) (Nat.le_of_ble_eq_true rfl) fun v9 ev9 rv9 => ?_)
      refine hR (?_ : R (_, _, _, _, _, _))
      refine hR (t_add ?_)
      refine hR (t_st (by omega) (by omega) (Nat.le_of_ble_eq_true rfl) (?_ : R (_, _, _, (zMi c0 c1 c2 c3 c4 c5 c6 c7 c8 c9 c10 c11 c12 c13 f0 f9 f10 f11 f12 f13 f15 f16 f17 f20 f21 f22 f23 f26 f28 f31 f32 f33 f38 f41 f44 x14 g15 g16 g17 g18 g19 g20 g21 g22 g23 g24 g25 g26 g27 g28 g29 g30 g31 g32 q33_19 g34 g35 g36 g37 q38_19 (upd q39_19 v4.toNat (Int32.ofInt (v9 + 1))) g40 g41 g42 g43 g44 t), _, _)))
      have hgi := gd_inc hp0_19 (by omega) (by omega) ev9 (by omega) (by omega)
      have hsi := hS1 q39_19 v4.toNat (Int32.ofInt (v9 + 1)) (by omega)
      rw [zti (e := v9 + 1) (by omega) (by omega), ← ev9] at hsi
      iterate 3 refine hR (?_ : R (_, _, _, _, _, _))
      refine hR (t_ldE (by omega) (by omega) (Nat.le_of_ble_eq_true rfl) fun v11 ev11 rv11 => ?_)
      have dv11 := (gd_c hgi)
      refine hR (?_ : R (_, _, _, _, _, _))
      refine hR (j_ne (by omega) (by omega) (fun hc12 => ?_) (fun hc12 => ?_))
      · skip
        refine hR (?_ : R (_, _, _, _, _, _))
        exact ih19 _ _ _ _ _ _ _ (by rfl) (by rfl) (by omega) (by omega) hgi hp1_19 hp2_19 (gm_s hp3_19 (by omega) (by omega)) (gd_sb hS2 hgi) (by omega)
      iterate 4 refine hR (?_ : R (_, _, _, _, _, _))
      refine hR (t_st (by omega) (by omega) (Nat.le_of_ble_eq_true rfl) (?_ : R (_, _, _, (zMi c0 c1 c2 c3 c4 c5 c6 c7 c8 c9 c10 c11 c12 c13 f0 f9 f10 f11 f12 f13 f15 f16 f17 f20 f21 f22 f23 f26 f28 f31 f32 f33 f38 f41 f44 x14 g15 g16 g17 g18 g19 g20 g21 g22 g23 g24 g25 g26 g27 g28 g29 g30 g31 g32 q33_19 g34 g35 g36 g37 q38_19 (upd (upd q39_19 v4.toNat (Int32.ofInt (v9 + 1))) v8.toNat (Int32.ofInt 0)) g40 g41 g42 g43 g44 t), _, _)))
      have hsj := hS1 (upd q39_19 v4.toNat (Int32.ofInt (v9 + 1))) v8.toNat (Int32.ofInt 0) (by omega)
      rw [zti (e := 0) (by omega) (by omega), ← ev11] at hsj
      have hlt := cN_lt (v := -1) (D := upd q39_19 v4.toNat (Int32.ofInt (v9 + 1))) (t := v8.toNat) (by omega) (by omega)
      have hcn := hgi.2.1
      iterate 4 refine hR (?_ : R (_, _, _, _, _, _))
      refine hR (t_st (by omega) (by omega) (Nat.le_of_ble_eq_true rfl) (?_ : R (_, _, _, (zMi c0 c1 c2 c3 c4 c5 c6 c7 c8 c9 c10 c11 c12 c13 f0 f9 f10 f11 f12 f13 f15 f16 f17 f20 f21 f22 f23 f26 f28 f31 f32 f33 f38 f41 f44 x14 g15 g16 g17 g18 g19 g20 g21 g22 g23 g24 g25 g26 g27 g28 g29 g30 g31 g32 q33_19 g34 g35 g36 g37 (upd q38_19 de.toNat (Int32.ofInt v8)) (upd (upd q39_19 v4.toNat (Int32.ofInt (v9 + 1))) v8.toNat (Int32.ofInt 0)) g40 g41 g42 g43 g44 t), _, _)))
      refine hR (t_inc ?_)
      refine hR (?_ : R (_, _, _, _, _, _))
      exact ih19 _ _ _ _ _ _ _ (by rfl) (by rfl) (by omega) (by omega) (gd_push hgi (by omega) (by omega) (by omega) (by omega)) hp1_19 (zB_u hp2_19 (by omega) (by omega) (by omega) (by omega)) (gm_s (gm_s hp3_19 (by omega) (by omega)) (by omega) (by omega)) (gd_sb hS2 (gd_push hgi (by omega) (by omega) (by omega) (by omega))) (by omega)
  have hgp := gd_push hr2 (t := a1) (by omega) (by omega) (by omega) (by omega)
  have hent := gd_sb hS2 hgp
  have hcd := gd_c hgp
  exact lp19 400000000 _ _ _ _ _ _ _ (by rfl) (by rfl) (by omega) (by omega) (gd_push hr2 (by omega) (by omega) (by omega) (by omega)) hb33x (zB_u hb38x (by omega) (by omega) (by omega) (by omega)) (gm_0 (by omega)) hent (by omega)
theorem m_goBack (d : Nat) (a1 a2 : Int) (hb38 : zB 0 5460 g38) (hr1 : 0 ≤ f23 ∧ f23 ≤ 5) (hr2 : 0 ≤ a1 ∧ a1 ≤ 5460) (hr3 : 0 ≤ a2 ∧ a2 ≤ 5460) (hr4 : zNb 5461 (-1) 5460 g40) (hr5 : zNb 5461 (-1) (5461 * f23 - 1) g42) (hr6 : ∀ e : Nat, (e : Int) < 5461 * f23 → -1 ≤ (g43 e).toInt ∧ (g43 e).toInt < e) (Q : zQ) (h : ∀ (k38 : Nat → Int32) (k40 : Nat → Int32) (k41 : Nat → Int32), zB 0 5460 k38 → (zNb 5461 (-1) 5460 k40) → (∀ t : Nat, ((g40 t).toInt ≠ -1 ∨ t = a1.toNat) → (k40 t).toInt ≠ -1) → Q (none) (zMi c0 c1 c2 c3 c4 c5 c6 c7 c8 c9 c10 c11 c12 c13 f0 f9 f10 f11 f12 f13 f15 f16 f17 f20 f21 f22 f23 f26 f28 f31 f32 f33 f38 f41 f44 x14 g15 g16 g17 g18 g19 g20 g21 g22 g23 g24 g25 g26 g27 g28 g29 g30 g31 g32 g33 g34 g35 g36 g37 k38 g39 k40 k41 g42 g43 g44 t)) : zCl zTab (d + 1) iX12_goBack [.ref 14, .int (Int32.ofInt a1), .int (Int32.ofInt a2)] (zMi c0 c1 c2 c3 c4 c5 c6 c7 c8 c9 c10 c11 c12 c13 f0 f9 f10 f11 f12 f13 f15 f16 f17 f20 f21 f22 f23 f26 f28 f31 f32 f33 f38 f41 f44 x14 g15 g16 g17 g18 g19 g20 g21 g22 g23 g24 g25 g26 g27 g28 g29 g30 g31 g32 g33 g34 g35 g36 g37 g38 g39 g40 g41 g42 g43 g44 t) 0 0 Q := by
  refine zCl_i (M := kX12_goBack) rfl (Nat.le_of_ble_eq_true rfl) fun R hR => ?_
  iterate 6 refine hR (?_ : R (_, _, _, _, _, _))
  refine hR (t_stB hb38 (by omega) (by omega) (by omega) (by omega) (by omega) (by omega) (Nat.le_of_ble_eq_true rfl) fun k38_1 hk38_1 => (?_ : R (_, _, _, (zMi c0 c1 c2 c3 c4 c5 c6 c7 c8 c9 c10 c11 c12 c13 f0 f9 f10 f11 f12 f13 f15 f16 f17 f20 f21 f22 f23 f26 f28 f31 f32 f33 f38 f41 f44 x14 g15 g16 g17 g18 g19 g20 g21 g22 g23 g24 g25 g26 g27 g28 g29 g30 g31 g32 g33 g34 g35 g36 g37 k38_1 g39 g40 g41 g42 g43 g44 t), _, _)))
  iterate 4 refine hR (?_ : R (_, _, _, _, _, _))
  refine hR (t_st (by omega) (by omega) (Nat.le_of_ble_eq_true rfl) (?_ : R (_, _, _, (zMi c0 c1 c2 c3 c4 c5 c6 c7 c8 c9 c10 c11 c12 c13 f0 f9 f10 f11 f12 f13 f15 f16 f17 f20 f21 f22 f23 f26 f28 f31 f32 f33 f38 f41 f44 x14 g15 g16 g17 g18 g19 g20 g21 g22 g23 g24 g25 g26 g27 g28 g29 g30 g31 g32 g33 g34 g35 g36 g37 k38_1 g39 (upd g40 a1.toNat (Int32.ofInt a2)) g41 g42 g43 g44 t), _, _)))
  iterate 2 refine hR (?_ : R (_, _, _, _, _, _))
  have lp19 : ∀ (N : Nat) (en : Int) (k : Int) (o5_19 : Option Value) (o6_19 : Option Value) (q38_19 : Nat → Int32) (q40_19 : Nat → Int32), (zc2 o5_19 = false) → (zc2 o6_19 = false) → (1 ≤ en ∧ en ≤ 5461) → (0 ≤ k ∧ k ≤ en) → (en ≤ cN (-1) q40_19) → (zNb 5461 (-1) 5460 q40_19) → (∀ t : Nat, ((g40 t).toInt ≠ -1 ∨ t = a1.toNat) → (q40_19 t).toInt ≠ -1) → (zB 0 5460 q38_19) → (5461 - k < N) → R (19, [some (.ref 14), some (.int (Int32.ofInt a1)), some (.int (Int32.ofInt a2)), some (.int (Int32.ofInt en)), some (.int (Int32.ofInt k)), o5_19, o6_19], [], (zMi c0 c1 c2 c3 c4 c5 c6 c7 c8 c9 c10 c11 c12 c13 f0 f9 f10 f11 f12 f13 f15 f16 f17 f20 f21 f22 f23 f26 f28 f31 f32 f33 f38 f41 f44 x14 g15 g16 g17 g18 g19 g20 g21 g22 g23 g24 g25 g26 g27 g28 g29 g30 g31 g32 g33 g34 g35 g36 g37 q38_19 g39 q40_19 g41 g42 g43 g44 t), 0, 0) := by
    intro N
    induction N with
    | zero => intros; omega
    | succ N ih19 =>
      intro en k o5_19 o6_19 q38_19 q40_19 hzo5_19 hzo6_19 hf0_19 hf1_19 hp0_19 hp1_19 hp2_19 hq38_19 hN19
      iterate 2 refine hR (?_ : R (_, _, _, _, _, _))
      refine hR (j_ge (by omega) (by omega) (fun hc3 => ?_) (fun hc3 => ?_))
      · skip
        iterate 4 refine hR (?_ : R (_, _, _, _, _, _))
        refine hR (t_stx (by omega) (by omega) (Nat.le_of_ble_eq_true rfl) fun k41_4 => (?_ : R (_, _, _, (zMi c0 c1 c2 c3 c4 c5 c6 c7 c8 c9 c10 c11 c12 c13 f0 f9 f10 f11 f12 f13 f15 f16 f17 f20 f21 f22 f23 f26 f28 f31 f32 f33 f38 f41 f44 x14 g15 g16 g17 g18 g19 g20 g21 g22 g23 g24 g25 g26 g27 g28 g29 g30 g31 g32 g33 g34 g35 g36 g37 q38_19 g39 q40_19 k41_4 g42 g43 g44 t), _, _)))
        exact hR (zret_i rfl (Nat.le_refl _) rfl (h _ _ _ hq38_19 hp1_19 hp2_19))
      iterate 5 refine hR (?_ : R (_, _, _, _, _, _))
      refine hR (t_ldB hq38_19 (by omega) (by omega) (Nat.le_of_ble_eq_true rfl) fun v5 ev5 lv5 uv5 => ?_)
      clear ev5
      refine hR (t_ldE (by omega) (by omega) (Nat.le_of_ble_eq_true rfl) fun v6 ev6 rv6 => ?_)
      have bv6 := hr5 v5.toNat (by omega)
      rw [← ev6] at bv6
      refine hR (?_ : R (_, _, _, _, _, _))
      have lp39 : ∀ (N : Nat) (en : Int) (e : Int) (o6_39 : Option Value) (q38_39 : Nat → Int32) (q40_39 : Nat → Int32), (zc2 o6_39 = false) → (1 ≤ en ∧ en ≤ 5461) → (-1 ≤ e ∧ e ≤ 5461 * f23 - 1) → (en ≤ cN (-1) q40_39) → (zNb 5461 (-1) 5460 q40_39) → (∀ t : Nat, ((g40 t).toInt ≠ -1 ∨ t = a1.toNat) → (q40_39 t).toInt ≠ -1) → (k < en) → (zB 0 5460 q38_39) → (e + 1 < N) → R (39, [some (.ref 14), some (.int (Int32.ofInt a1)), some (.int (Int32.ofInt a2)), some (.int (Int32.ofInt en)), some (.int (Int32.ofInt k)), some (.int (Int32.ofInt e)), o6_39], [], (zMi c0 c1 c2 c3 c4 c5 c6 c7 c8 c9 c10 c11 c12 c13 f0 f9 f10 f11 f12 f13 f15 f16 f17 f20 f21 f22 f23 f26 f28 f31 f32 f33 f38 f41 f44 x14 g15 g16 g17 g18 g19 g20 g21 g22 g23 g24 g25 g26 g27 g28 g29 g30 g31 g32 g33 g34 g35 g36 g37 q38_39 g39 q40_39 g41 g42 g43 g44 t), 0, 0) := by
        intro N
        induction N with
        | zero => intros; omega
        | succ N ih39 =>
          intro en e o6_39 q38_39 q40_39 hzo6_39 hf0_39 hf1_39 hp0_39 hp1_39 hp2_39 hp3_39 hq38_39 hN39
          iterate 2 refine hR (?_ : R (_, _, _, _, _, _))
          refine hR (j_eq (by omega) (by omega) (fun hc7 => ?_) (fun hc7 => ?_))
          · skip
            refine hR (t_inc ?_)
            refine hR (?_ : R (_, _, _, _, _, _))
            exact ih19 _ _ _ _ _ _ (by rfl) hzo6_39 (by omega) (by omega) hp0_39 hp1_39 hp2_39 hq38_39 (by omega)
          refine hR (?_ : R (_, _, _, _, _, _))
          refine hR (t_c 5461 (by decide) ?_)
          refine hR (t_rem (by omega) (by omega) (by omega) (by omega) ?_)
          iterate 4 refine hR (?_ : R (_, _, _, _, _, _))
          refine hR (t_ldE (by omega) (by omega) (Nat.le_of_ble_eq_true rfl) fun v8 ev8 rv8 => ?_)
          refine hR (?_ : R (_, _, _, _, _, _))
          refine hR (j_ne (by omega) (by omega) (fun hc9 => ?_) (fun hc9 => ?_))
          · skip
            iterate 3 refine hR (?_ : R (_, _, _, _, _, _))
            refine hR (t_ldE (by omega) (by omega) (Nat.le_of_ble_eq_true rfl) fun v10 ev10 rv10 => ?_)
            have bv10 := hr6 e.toNat (by omega)
            rw [← ev10] at bv10
            iterate 2 refine hR (?_ : R (_, _, _, _, _, _))
            exact ih39 _ _ _ _ _ (by rfl) (by omega) (by omega) hp0_39 hp1_39 hp2_39 (by omega) hq38_39 (by omega)
          have hlt := cN_lt (v := -1) (D := q40_39) (t := (e % 5461).toNat) (by omega) (by omega)
          iterate 4 refine hR (?_ : R (_, _, _, _, _, _))
          refine hR (t_st (by omega) (by omega) (Nat.le_of_ble_eq_true rfl) (?_ : R (_, _, _, (zMi c0 c1 c2 c3 c4 c5 c6 c7 c8 c9 c10 c11 c12 c13 f0 f9 f10 f11 f12 f13 f15 f16 f17 f20 f21 f22 f23 f26 f28 f31 f32 f33 f38 f41 f44 x14 g15 g16 g17 g18 g19 g20 g21 g22 g23 g24 g25 g26 g27 g28 g29 g30 g31 g32 g33 g34 g35 g36 g37 q38_39 g39 (upd q40_39 (e % 5461).toNat (Int32.ofInt a2)) g41 g42 g43 g44 t), _, _)))
          iterate 4 refine hR (?_ : R (_, _, _, _, _, _))
          refine hR (t_stB hq38_39 (by omega) (by omega) (by omega) (by omega) (by omega) (by omega) (Nat.le_of_ble_eq_true rfl) fun k38_12 hk38_12 => (?_ : R (_, _, _, (zMi c0 c1 c2 c3 c4 c5 c6 c7 c8 c9 c10 c11 c12 c13 f0 f9 f10 f11 f12 f13 f15 f16 f17 f20 f21 f22 f23 f26 f28 f31 f32 f33 f38 f41 f44 x14 g15 g16 g17 g18 g19 g20 g21 g22 g23 g24 g25 g26 g27 g28 g29 g30 g31 g32 g33 g34 g35 g36 g37 k38_12 g39 (upd q40_39 (e % 5461).toNat (Int32.ofInt a2)) g41 g42 g43 g44 t), _, _)))
          refine hR (t_inc ?_)
          iterate 3 refine hR (?_ : R (_, _, _, _, _, _))
          refine hR (t_ldE (by omega) (by omega) (Nat.le_of_ble_eq_true rfl) fun v13 ev13 rv13 => ?_)
          have bv13 := hr6 e.toNat (by omega)
          rw [← ev13] at bv13
          iterate 2 refine hR (?_ : R (_, _, _, _, _, _))
          exact ih39 _ _ _ _ _ (by rfl) (by omega) (by omega) (gb_s hp0_39 (by omega) (by omega) ev8 (by omega) (by omega)) (zNb_u hp1_39 (by omega) (by omega) (by omega) (by omega)) (gm_s hp2_39 (by omega) (by omega)) (by omega) hk38_12 (by omega)
      exact lp39 400000000 _ _ _ _ _ hzo6_19 (by omega) (by omega) hp0_19 hp1_19 hp2_19 (by omega) hq38_19 (by omega)
  exact lp19 400000000 _ _ _ _ _ _ (by rfl) (by rfl) (by omega) (by omega) (gb_1 (by omega) (by omega)) (zNb_u hr4 (by omega) (by omega) (by omega) (by omega)) (gm_1 (by omega) (by omega)) hk38_1 (by omega)
theorem m_findCircles (d : Nat) (hb30 : zB 0 5460 g30) (hb33 : zB 0 5460 g33) (hb38 : zB 0 5460 g38) (hr3 : 0 ≤ f23 ∧ f23 ≤ 5) (Q : zQ) (h : ∀ (v : Int) (k33 : Nat → Int32) (k38 : Nat → Int32) (k39 : Nat → Int32) (k40 : Nat → Int32) (k41 : Nat → Int32) (k42 : Nat → Int32) (k43 : Nat → Int32), zB 0 5460 k33 → zB 0 5460 k38 → (0 ≤ v ∧ v ≤ 5461) → (zNb 5461 0 5460 k40) → Q (some (.int (Int32.ofInt v))) (zMi c0 c1 c2 c3 c4 c5 c6 c7 c8 c9 c10 c11 c12 c13 f0 f9 f10 f11 f12 f13 f15 f16 f17 f20 f21 f22 f23 f26 f28 f31 f32 f33 f38 f41 f44 x14 g15 g16 g17 g18 g19 g20 g21 g22 g23 g24 g25 g26 g27 g28 g29 g30 g31 g32 k33 g34 g35 g36 g37 k38 k39 k40 k41 k42 k43 g44 t)) : zCl zTab (d + 2) iX12_findCircles [.ref 14] (zMi c0 c1 c2 c3 c4 c5 c6 c7 c8 c9 c10 c11 c12 c13 f0 f9 f10 f11 f12 f13 f15 f16 f17 f20 f21 f22 f23 f26 f28 f31 f32 f33 f38 f41 f44 x14 g15 g16 g17 g18 g19 g20 g21 g22 g23 g24 g25 g26 g27 g28 g29 g30 g31 g32 g33 g34 g35 g36 g37 g38 g39 g40 g41 g42 g43 g44 t) 0 0 Q := by
  refine zCl_i (M := kX12_findCircles) rfl (Nat.le_of_ble_eq_true rfl) fun R hR => ?_
  refine hR (?_ : R (_, _, _, _, _, _))
  refine hR (zcall_i 0 0 (Nat.le_of_ble_eq_true rfl) (Nat.le_of_ble_eq_true rfl) (m_layBack _ hb30 (by omega) _ fun k39_1 k40_2 k41_3 k42_4 k43_5 hp6 hp7 hp8 hp9 => ?_))
  refine (?_ : R (_, _, [], (zMi c0 c1 c2 c3 c4 c5 c6 c7 c8 c9 c10 c11 c12 c13 f0 f9 f10 f11 f12 f13 f15 f16 f17 f20 f21 f22 f23 f26 f28 f31 f32 f33 f38 f41 f44 x14 g15 g16 g17 g18 g19 g20 g21 g22 g23 g24 g25 g26 g27 g28 g29 g30 g31 g32 g33 g34 g35 g36 g37 g38 k39_1 k40_2 k41_3 k42_4 k43_5 g44 t), 0, 0))
  iterate 4 refine hR (?_ : R (_, _, _, _, _, _))
  have lp8 : ∀ (N : Nat) (dn : Int) (i : Int) (q33_8 : Nat → Int32) (q38_8 : Nat → Int32) (q39_8 : Nat → Int32), (0 ≤ dn ∧ dn ≤ 5461) → (0 ≤ i ∧ i ≤ 5461) → (gdI q39_8 q38_8 q33_8 f23 0 dn) → (∀ j : Nat, (j : Int) < i → (q39_8 j).toInt ≠ -1) → (zB 0 5460 q33_8) → (zB 0 5460 q38_8) → (5461 - i < N) → R (8, [some (.ref 14), some (.int (Int32.ofInt dn)), some (.int (Int32.ofInt i)), none], [], (zMi c0 c1 c2 c3 c4 c5 c6 c7 c8 c9 c10 c11 c12 c13 f0 f9 f10 f11 f12 f13 f15 f16 f17 f20 f21 f22 f23 f26 f28 f31 f32 f33 f38 f41 f44 x14 g15 g16 g17 g18 g19 g20 g21 g22 g23 g24 g25 g26 g27 g28 g29 g30 g31 g32 q33_8 g34 g35 g36 g37 q38_8 q39_8 k40_2 k41_3 k42_4 k43_5 g44 t), 0, 0) := by
    intro N
    induction N with
    | zero => intros; omega
    | succ N ih8 =>
      intro dn i q33_8 q38_8 q39_8 hf0_8 hf1_8 hp0_8 hp1_8 hq33_8 hq38_8 hN8
      refine hR (?_ : R (_, _, _, _, _, _))
      refine hR (t_c 5461 (by decide) ?_)
      refine hR (j_ge (by omega) (by omega) (fun hc10 => ?_) (fun hc10 => ?_))
      rotate_left
      · skip
        iterate 3 refine hR (?_ : R (_, _, _, _, _, _))
        refine hR (t_ldE (by omega) (by omega) (Nat.le_of_ble_eq_true rfl) fun v22 ev22 rv22 => ?_)
        refine hR (?_ : R (_, _, _, _, _, _))
        refine hR (j_ne (by omega) (by omega) (fun hc23 => ?_) (fun hc23 => ?_))
        · skip
          iterate 2 refine hR (?_ : R (_, _, _, _, _, _))
          refine hR (t_inc ?_)
          refine hR (?_ : R (_, _, _, _, _, _))
          exact ih8 _ _ _ _ _ (by omega) (by omega) hp0_8 (fm_1 hp1_8 (by omega) ev22 (by omega)) hq33_8 hq38_8 (by omega)
        iterate 3 refine hR (?_ : R (_, _, _, _, _, _))
        refine hR (zcall_i 0 0 (Nat.le_of_ble_eq_true rfl) (Nat.le_of_ble_eq_true rfl) (m_goDeep _ i dn hb30 (by omega) hp0_8 (by omega) (by omega) (by omega) hq33_8 hq38_8 _ fun v24 k33_25 k38_26 k39_27 hp28 hp29 hp30 hp31 hp32 => ?_))
        refine (?_ : R (_, _, (.int (Int32.ofInt v24)) :: [], (zMi c0 c1 c2 c3 c4 c5 c6 c7 c8 c9 c10 c11 c12 c13 f0 f9 f10 f11 f12 f13 f15 f16 f17 f20 f21 f22 f23 f26 f28 f31 f32 f33 f38 f41 f44 x14 g15 g16 g17 g18 g19 g20 g21 g22 g23 g24 g25 g26 g27 g28 g29 g30 g31 g32 k33_25 g34 g35 g36 g37 k38_26 k39_27 k40_2 k41_3 k42_4 k43_5 g44 t), 0, 0))
        iterate 2 refine hR (?_ : R (_, _, _, _, _, _))
        refine hR (t_inc ?_)
        refine hR (?_ : R (_, _, _, _, _, _))
        exact ih8 _ _ _ _ _ (by omega) (by omega) hp30 (fm_2 hp1_8 hp32 (by omega)) hp28 hp29 (by omega)
      iterate 2 refine hR (?_ : R (_, _, _, _, _, _))
      refine hR (t_c 5460 (by decide) ?_)
      refine hR (?_ : R (_, _, _, _, _, _))
      have lp48 : ∀ (N : Nat) (mn : Int) (k : Int) (q38_48 : Nat → Int32) (q40_48 : Nat → Int32) (q41_48 : Nat → Int32), (0 ≤ mn ∧ mn ≤ 5460 - k) → (-1 ≤ k ∧ k ≤ 5460) → (∀ j : Nat, k < j → (j : Int) < 5461 → (q40_48 (q33_8 j).toInt.toNat).toInt ≠ -1) → (zNb 5461 (-1) 5460 q40_48) → (zB 0 5460 q38_48) → (k + 1 < N) → R (48, [some (.ref 14), some (.int (Int32.ofInt dn)), some (.int (Int32.ofInt mn)), some (.int (Int32.ofInt k))], [], (zMi c0 c1 c2 c3 c4 c5 c6 c7 c8 c9 c10 c11 c12 c13 f0 f9 f10 f11 f12 f13 f15 f16 f17 f20 f21 f22 f23 f26 f28 f31 f32 f33 f38 f41 f44 x14 g15 g16 g17 g18 g19 g20 g21 g22 g23 g24 g25 g26 g27 g28 g29 g30 g31 g32 q33_8 g34 g35 g36 g37 q38_48 q39_8 q40_48 q41_48 k42_4 k43_5 g44 t), 0, 0) := by
        intro N
        induction N with
        | zero => intros; omega
        | succ N ih48 =>
          intro mn k q38_48 q40_48 q41_48 hf0_48 hf1_48 hp0_48 hp1_48 hq38_48 hN48
          refine hR (?_ : R (_, _, _, _, _, _))
          refine hR (k_lt (by omega) (fun hc11 => ?_) (fun hc11 => ?_))
          · skip
            refine hR (?_ : R (_, _, _, _, _, _))
            exact hR (zret_i rfl (Nat.le_refl _) trivial (h _ _ _ _ _ _ _ _ hq33_8 hq38_48 (by omega) (fo_e hp0_48 hp1_48 hp0_8 (fun j hj => hp1_8 j (by omega))  (by omega))))
          iterate 5 refine hR (?_ : R (_, _, _, _, _, _))
          refine hR (t_ldB hq33_8 (by omega) (by omega) (Nat.le_of_ble_eq_true rfl) fun v12 ev12 lv12 uv12 => ?_)
          refine hR (t_ldE (by omega) (by omega) (Nat.le_of_ble_eq_true rfl) fun v13 ev13 rv13 => ?_)
          refine hR (?_ : R (_, _, _, _, _, _))
          refine hR (j_ne (by omega) (by omega) (fun hc14 => ?_) (fun hc14 => ?_))
          · skip
            refine hR (t_inc ?_)
            refine hR (?_ : R (_, _, _, _, _, _))
            exact ih48 _ _ _ _ _ (by omega) (by omega) (fo_1 hp0_48 (by omega) ev12 ev13 (by omega)) hp1_48 hq38_48 (by omega)
          iterate 4 refine hR (?_ : R (_, _, _, _, _, _))
          refine hR (t_ldB hq33_8 (by omega) (by omega) (Nat.le_of_ble_eq_true rfl) fun v15 ev15 lv15 uv15 => ?_)
          refine hR (?_ : R (_, _, _, _, _, _))
          refine hR (zcall_i 0 0 (Nat.le_of_ble_eq_true rfl) (Nat.le_of_ble_eq_true rfl) (m_goBack _ v15 mn hq38_48 (by omega) (by omega) (by omega) hp1_48 hp8 hp9 _ fun k38_16 k40_17 k41_18 hp19 hp20 hp21 => ?_))
          refine (?_ : R (_, _, [], (zMi c0 c1 c2 c3 c4 c5 c6 c7 c8 c9 c10 c11 c12 c13 f0 f9 f10 f11 f12 f13 f15 f16 f17 f20 f21 f22 f23 f26 f28 f31 f32 f33 f38 f41 f44 x14 g15 g16 g17 g18 g19 g20 g21 g22 g23 g24 g25 g26 g27 g28 g29 g30 g31 g32 q33_8 g34 g35 g36 g37 k38_16 q39_8 k40_17 k41_18 k42_4 k43_5 g44 t), 0, 0))
          refine hR (t_inc ?_)
          refine hR (t_inc ?_)
          refine hR (?_ : R (_, _, _, _, _, _))
          exact ih48 _ _ _ _ _ (by omega) (by omega) (fo_2 hp0_48 hp21 (by omega) ev15) hp20 hp19 (by omega)
      exact lp48 400000000 _ _ _ _ _ (by omega) (by omega) (fun j h1 h2 => by omega) (lb_z hp7) hq38_8 (by omega)
  exact lp8 400000000 _ _ _ _ _ (by omega) (by omega) (gd_00 hp6) (fun j hj => by omega) hb33 hb38 (by omega)
theorem m_circles (d : Nat) (a1 a2 : Int) (hb19 : zB 0 2 g19) (hb25 : zB 0 3 g25) (hb30 : zB 0 5460 g30) (hb33 : zB 0 5460 g33) (hb38 : zB 0 5460 g38) (hr5 : bkOK g20) (hr6 : -2147483648 ≤ a1 ∧ a1 ≤ 2147483647) (hr7 : -2147483648 ≤ a2 ∧ a2 ≤ 2147483647) (hr8 : -1 ≤ f21 ∧ f21 ≤ 1) (hr9 : RMD g30 g20 f21) (Q : zQ) (h : ∀ (v : Int) (y0 : Int) (y20 : Int) (y21 : Int) (y22 : Int) (y23 : Int) (y26 : Int) (k25 : Nat → Int32) (k30 : Nat → Int32) (k33 : Nat → Int32) (k38 : Nat → Int32) (k39 : Nat → Int32) (k40 : Nat → Int32) (k41 : Nat → Int32) (k42 : Nat → Int32) (k43 : Nat → Int32), zB 0 3 k25 → zB 0 5460 k30 → zB 0 5460 k33 → zB 0 5460 k38 → (-1 ≤ y21 ∧ y21 ≤ 1) → (RMD k30 g20 y21) → Q (some (.int (Int32.ofInt v))) (zMi c0 c1 c2 c3 c4 c5 c6 c7 c8 c9 c10 c11 c12 c13 y0 f9 f10 f11 f12 f13 f15 f16 f17 y20 y21 y22 y23 y26 f28 f31 f32 f33 f38 f41 f44 x14 g15 g16 g17 g18 g19 g20 g21 g22 g23 g24 k25 g26 g27 g28 g29 k30 g31 g32 k33 g34 g35 g36 g37 k38 k39 k40 k41 k42 k43 g44 t)) : zCl zTab (d + 7) iX12_circles [.ref 14, .int (Int32.ofInt a1), .int (Int32.ofInt a2)] (zMi c0 c1 c2 c3 c4 c5 c6 c7 c8 c9 c10 c11 c12 c13 f0 f9 f10 f11 f12 f13 f15 f16 f17 f20 f21 f22 f23 f26 f28 f31 f32 f33 f38 f41 f44 x14 g15 g16 g17 g18 g19 g20 g21 g22 g23 g24 g25 g26 g27 g28 g29 g30 g31 g32 g33 g34 g35 g36 g37 g38 g39 g40 g41 g42 g43 g44 t) 0 0 Q := by
  refine zCl_i (M := kX12_circles) rfl (Nat.le_of_ble_eq_true rfl) fun R hR => ?_
  iterate 2 refine hR (?_ : R (_, _, _, _, _, _))
  refine hR (?_ : R (_, _, _, (zMi c0 c1 c2 c3 c4 c5 c6 c7 c8 c9 c10 c11 c12 c13 0 f9 f10 f11 f12 f13 f15 f16 f17 f20 f21 f22 f23 f26 f28 f31 f32 f33 f38 f41 f44 x14 g15 g16 g17 g18 g19 g20 g21 g22 g23 g24 g25 g26 g27 g28 g29 g30 g31 g32 g33 g34 g35 g36 g37 g38 g39 g40 g41 g42 g43 g44 t), _, _))
  refine hR (?_ : R (_, _, _, _, _, _))
  refine hR (t_c (-2) (by decide) ?_)
  refine hR (t_c 5460 (by decide) ?_)
  refine hR (zcall_i 0 0 (Nat.le_of_ble_eq_true rfl) (Nat.le_of_ble_eq_true rfl) (m_in _ a2 ((-2)) 5460 _ (by omega) (by omega) (by omega) _ fun v1 hp2 => ?_))
  refine (?_ : R (_, _, (.int (Int32.ofInt v1)) :: [], (zMi c0 c1 c2 c3 c4 c5 c6 c7 c8 c9 c10 c11 c12 c13 0 f9 f10 f11 f12 f13 f15 f16 f17 f20 f21 f22 f23 f26 f28 f31 f32 f33 f38 f41 f44 x14 g15 g16 g17 g18 g19 g20 g21 g22 g23 g24 g25 g26 g27 g28 g29 g30 g31 g32 g33 g34 g35 g36 g37 g38 g39 g40 g41 g42 g43 g44 t), 0, 0))
  refine hR (k_eq (by omega) (fun hc3 => ?_) (fun hc3 => ?_))
  · skip
    refine hR (?_ : R (_, _, _, _, _, _))
    exact hR (zret_i rfl (Nat.le_refl _) trivial (h _ _ _ _ _ _ _ _ _ _ _ _ _ _ _ _ hb25 hb30 hb33 hb38 (by omega) hr9))
  iterate 2 refine hR (?_ : R (_, _, _, _, _, _))
  refine hR (zcall_i 0 0 (Nat.le_of_ble_eq_true rfl) (Nat.le_of_ble_eq_true rfl) (m_handAll _ a1 hb19 hb25 hb30 hr5 (by omega) (by omega) hr9 _ fun v4 y20_5 y21_6 y22_7 y23_8 y26_9 k25_10 k30_11 hp12 hp13 hp14 hp15 hp16 => ?_))
  refine (?_ : R (_, _, (.int (Int32.ofInt v4)) :: [], (zMi c0 c1 c2 c3 c4 c5 c6 c7 c8 c9 c10 c11 c12 c13 0 f9 f10 f11 f12 f13 f15 f16 f17 y20_5 y21_6 y22_7 y23_8 y26_9 f28 f31 f32 f33 f38 f41 f44 x14 g15 g16 g17 g18 g19 g20 g21 g22 g23 g24 k25_10 g26 g27 g28 g29 k30_11 g31 g32 g33 g34 g35 g36 g37 g38 g39 g40 g41 g42 g43 g44 t), 0, 0))
  refine hR (k_ne (by omega) (fun hc17 => ?_) (fun hc17 => ?_))
  rotate_left
  · skip
    refine hR (?_ : R (_, _, _, _, _, _))
    exact hR (zret_i rfl (Nat.le_refl _) trivial (h _ _ _ _ _ _ _ _ _ _ _ _ _ _ _ _ hp12 hp13 hb33 hb38 (by omega) hp15))
  refine hR (?_ : R (_, _, _, _, _, _))
  refine hR (zcall_i 0 0 (Nat.le_of_ble_eq_true rfl) (Nat.le_of_ble_eq_true rfl) (m_findCircles _ hp13 hb33 hb38 (by omega) _ fun v18 k33_19 k38_20 k39_21 k40_22 k41_23 k42_24 k43_25 hp26 hp27 hp28 hp29 => ?_))
  refine (?_ : R (_, _, (.int (Int32.ofInt v18)) :: [], (zMi c0 c1 c2 c3 c4 c5 c6 c7 c8 c9 c10 c11 c12 c13 0 f9 f10 f11 f12 f13 f15 f16 f17 y20_5 y21_6 y22_7 y23_8 y26_9 f28 f31 f32 f33 f38 f41 f44 x14 g15 g16 g17 g18 g19 g20 g21 g22 g23 g24 k25_10 g26 g27 g28 g29 k30_11 g31 g32 k33_19 g34 g35 g36 g37 k38_20 k39_21 k40_22 k41_23 k42_24 k43_25 g44 t), 0, 0))
  iterate 3 refine hR (?_ : R (_, _, _, _, _, _))
  refine hR (j_ne (by omega) (by omega) (fun hc30 => ?_) (fun hc30 => ?_))
  rotate_left
  · skip
    refine hR (?_ : R (_, _, _, _, _, _))
    exact hR (zret_i rfl (Nat.le_refl _) trivial (h _ _ _ _ _ _ _ _ _ _ _ _ _ _ _ _ hp12 hp13 hp26 hp27 (by omega) hp15))
  iterate 4 refine hR (?_ : R (_, _, _, _, _, _))
  have lp45 : ∀ (N : Nat) (mo : Int) (i : Int), (0 ≤ i ∧ i ≤ 5461) → (5461 - i < N) → R (45, [some (.ref 14), some (.int (Int32.ofInt a1)), some (.int (Int32.ofInt a2)), some (.int (Int32.ofInt v18)), some (.int (Int32.ofInt mo)), some (.int (Int32.ofInt i))], [], (zMi c0 c1 c2 c3 c4 c5 c6 c7 c8 c9 c10 c11 c12 c13 0 f9 f10 f11 f12 f13 f15 f16 f17 y20_5 y21_6 y22_7 y23_8 y26_9 f28 f31 f32 f33 f38 f41 f44 x14 g15 g16 g17 g18 g19 g20 g21 g22 g23 g24 k25_10 g26 g27 g28 g29 k30_11 g31 g32 k33_19 g34 g35 g36 g37 k38_20 k39_21 k40_22 k41_23 k42_24 k43_25 g44 t), 0, 0) := by
    intro N
    induction N with
    | zero => intros; omega
    | succ N ih45 =>
      intro mo i hf0_45 hN45
      iterate 2 refine hR (?_ : R (_, _, _, _, _, _))
      refine hR (j_ge (by omega) (by omega) (fun hc31 => ?_) (fun hc31 => ?_))
      rotate_left
      · skip
        iterate 4 refine hR (?_ : R (_, _, _, _, _, _))
        refine hR (t_ldo (by omega) (by omega) (Nat.le_of_ble_eq_true rfl) fun v35 rv35 => ?_)
        refine hR (zcall_i 0 0 (Nat.le_of_ble_eq_true rfl) (Nat.le_of_ble_eq_true rfl) (m_greaterx _ mo v35 _ _ fun v36 => ?_))
        refine (?_ : R (_, _, (.int (Int32.ofInt v36)) :: [], (zMi c0 c1 c2 c3 c4 c5 c6 c7 c8 c9 c10 c11 c12 c13 0 f9 f10 f11 f12 f13 f15 f16 f17 y20_5 y21_6 y22_7 y23_8 y26_9 f28 f31 f32 f33 f38 f41 f44 x14 g15 g16 g17 g18 g19 g20 g21 g22 g23 g24 k25_10 g26 g27 g28 g29 k30_11 g31 g32 k33_19 g34 g35 g36 g37 k38_20 k39_21 k40_22 k41_23 k42_24 k43_25 g44 t), 0, 0))
        refine hR (?_ : R (_, _, _, _, _, _))
        refine hR (t_inc ?_)
        refine hR (?_ : R (_, _, _, _, _, _))
        exact ih45 _ _ (by omega) (by omega)
      refine hR (?_ : R (_, _, _, _, _, _))
      refine hR (t_c (-2) (by decide) ?_)
      refine hR (j_ne (by omega) (by omega) (fun hc32 => ?_) (fun hc32 => ?_))
      rotate_left
      · skip
        iterate 2 refine hR (?_ : R (_, _, _, _, _, _))
        exact hR (zret_i rfl (Nat.le_refl _) trivial (h _ _ _ _ _ _ _ _ _ _ _ _ _ _ _ _ hp12 hp13 hp26 hp27 (by omega) hp15))
      iterate 5 refine hR (?_ : R (_, _, _, _, _, _))
      refine hR (t_ldE (by omega) (by omega) (Nat.le_of_ble_eq_true rfl) fun v33 ev33 rv33 => ?_)
      have bv33 := hp29 a2.toNat (by omega)
      rw [← ev33] at bv33
      refine hR (t_ldo (by omega) (by omega) (Nat.le_of_ble_eq_true rfl) fun v34 rv34 => ?_)
      exact hR (zret_i rfl (Nat.le_refl _) trivial (h _ _ _ _ _ _ _ _ _ _ _ _ _ _ _ _ hp12 hp13 hp26 hp27 (by omega) hp15))
  exact lp45 400000000 _ _ (by omega) (by omega)
end MZ
