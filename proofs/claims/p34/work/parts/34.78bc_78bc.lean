theorem x_spellR (w : zW) (d : Nat) (q : Nat) (a1 : Int) (g : Nat → Int32) (hK0 : zix w q = some (.inl (1, 7, .inl g))) (hr0 : 0 ≤ a1 ∧ a1 ≤ 5460) (Q : zQ) (h : ∀ (T' : Nat → Int32) (w' : zW), wfM (fun j => j ≠ q) w w' → zix w' q = some (.inl (1, 7, .inl T')) → (∀ i : Int, 0 ≤ i → i < (tLen a1.toNat : Int) → tBy T' i = ((dg (tB a1.toNat) (tLen a1.toNat - 1 - i.toNat) : Nat) : Int)) → Q (none) w') : zCl zTab (d + 3) iX12_spell [.int (Int32.ofInt a1), .ref q] w 0 0 Q := by
  refine zCl_i (M := kX12_spell) rfl (Nat.le_of_ble_eq_true rfl) fun R hR => ?_
  have fr0 : wfM (fun j => j ≠ q) w w := wfM_rf _ w
  have h6 := tLen_le a1.toNat
  have hs6 := tSh_le a1.toNat (by omega)
  have nX0 : FX (∀ j : Nat, (j ≠ q) → j ≠ q) := fun j hj => by omega
  refine hR (?_ : R (_, _, _, _, _, _))
  refine hR (zcall_i 0 0 (Nat.le_of_ble_eq_true rfl) (Nat.le_of_ble_eq_true rfl) (m_sizeOf _ a1 _ (by omega) _ fun v1 hp2 hhp2 => ?_))
  refine (?_ : R (_, _, .int (Int32.ofInt v1) :: [], w, 0, 0))
  iterate 3 refine hR (?_ : R (_, _, _, _, _, _))
  refine hR (zcall_i 0 0 (Nat.le_of_ble_eq_true rfl) (Nat.le_of_ble_eq_true rfl) (m_shorter _ v1 _ (by omega) _ fun v3 hp4 hhp4 => ?_))
  refine (?_ : R (_, _, .int (Int32.ofInt v3) :: .int (Int32.ofInt a1) :: [], w, 0, 0))
  have hsv : v3 = ((tSh (tLen a1.toNat) : Nat) : Int) := by rw [hp4, hp2, Int.toNat_natCast]
  have hh7 := hs6.1
  refine hR (t_sub ?_)
  iterate 3 refine hR (?_ : R (_, _, _, _, _, _))
  refine hR (t_sub ?_)
  refine hR (?_ : R (_, _, _, _, _, _))
  have lp17 : ∀ (N : Nat) (lf : Int) (kk : Int) (T2 : Nat → Int32) (w_17 : zW), (wfM (fun j => j ≠ q) w w_17) → (zix w_17 q = some (.inl (1, 7, .inl T2))) → (0 ≤ lf ∧ lf ≤ 5460) → (-1 ≤ kk ∧ kk ≤ 5) → (lf = ((tF a1.toNat / 4 ^ ((tLen a1.toNat : Int) - 1 - kk).toNat : Nat) : Int)) → (∀ i : Int, kk < i → i < (tLen a1.toNat : Int) → tBy T2 i = ((dg (tB a1.toNat) (tLen a1.toNat - 1 - i.toNat) : Nat) : Int)) → (kk < (tLen a1.toNat : Int)) → (kk + 2 < N) → R (17, [some (.int (Int32.ofInt a1)), some (.ref q), some (.int (Int32.ofInt v1)), some (.int (Int32.ofInt lf)), some (.int (Int32.ofInt kk))], [], w_17, 0, 0) := by
    intro N
    induction N with
    | zero => intros; omega
    | succ N ih17 =>
      intro lf kk T2 w_17 fr_17 hCq_17 hf0_17 hf1_17 hp0_17 hp1_17 hp2_17 hN17
      refine hR (?_ : R (_, _, _, _, _, _))
      refine hR (k_lt (by omega) (fun hc5 => ?_) (fun hc5 => ?_))
      · skip
        exact hR (zret_i rfl (Nat.le_refl _) rfl (h _ _ fr_17 hCq_17 (fun i i0 i1 => hp1_17 i (by omega) i1)))
      iterate 4 refine hR (?_ : R (_, _, _, _, _, _))
      refine hR (t_rem (by omega) (by omega) (by omega) (by omega) ?_)
      refine hR (x_ast hCq_17 (by omega) (by omega) (Nat.le_of_ble_eq_true rfl) fun w6 ff6 hC6 => ?_)
      have fr7 := wfM_st fr_17 ff6 nX0
      iterate 2 refine hR (?_ : R (_, _, _, _, _, _))
      refine hR (t_div (by omega) (by omega) (by omega) (by omega) ?_)
      refine hR (?_ : R (_, _, _, _, _, _))
      refine hR (t_inc ?_)
      refine hR (?_ : R (_, _, _, _, _, _))
      exact ih17 _ _ _ _ fr7 hC6 (by omega) (by omega) ((sp_st (by omega) (by omega) hp0_17).1) (fun i i0 i1 => by rw [zupI (by first | exact tBy_r _ _ | exact ⟨by omega, by omega⟩) (by omega) (by omega)]; by_cases c1 : i = kk; (· rw [if_pos c1, (sp_st (by omega) (by omega) hp0_17).2, c1]); rw [if_neg c1]; exact hp1_17 i (by omega) i1) (by omega) (by omega)
  exact lp17 400000000 _ _ _ _ fr0 hK0 (by omega) (by omega) (by rw [hsv, show ((tLen a1.toNat : Int) - 1 - (v1 - 1)).toNat = 0 by omega, Nat.pow_zero, Nat.div_one]; unfold tF; omega) (fun i i0 i1 => by omega) (by omega) (by omega)
theorem x_numberOfR (w : zW) (d : Nat) (a1 : Int) (f0 f9 f10 f11 f12 f13 f15 f16 f17 f20 f21 f22 f23 f26 f28 f31 f32 f33 f38 f41 f44 : Int) (x14 : Int64) (g25 : Nat → Int32) (B l : Nat) (hK0 : zix w 14 = some (.inr (11, [.int (Int32.ofInt f0), .ref 15, .ref 16, .ref 17, .ref 18, .ref 19, .ref 20, .ref 21, .ref 22, .int (Int32.ofInt f9), .int (Int32.ofInt f10), .int (Int32.ofInt f11), .int (Int32.ofInt f12), .int (Int32.ofInt f13), .long x14, .int (Int32.ofInt f15), .int (Int32.ofInt f16), .int (Int32.ofInt f17), .ref 23, .ref 24, .int (Int32.ofInt f20), .int (Int32.ofInt f21), .int (Int32.ofInt f22), .int (Int32.ofInt f23), .ref 25, .ref 26, .int (Int32.ofInt f26), .ref 27, .int (Int32.ofInt f28), .ref 28, .ref 29, .int (Int32.ofInt f31), .int (Int32.ofInt f32), .int (Int32.ofInt f33), .ref 30, .ref 31, .ref 32, .ref 33, .int (Int32.ofInt f38), .ref 34, .ref 35, .int (Int32.ofInt f41), .ref 36, .ref 37, .int (Int32.ofInt f44), .ref 38, .ref 39, .ref 40, .ref 41, .ref 42, .ref 43, .ref 44]))) (hK1 : zix w 25 = some (.inl (1, 7, .inl g25))) (hr0 : a1 = (l : Int)) (hr1 : WD g25 B l) (Q : zQ) (h : ∀ (v : Int), (v = ((fNo B l : Nat) : Int)) → Q (some (.int (Int32.ofInt v))) w) : zCl zTab (d + 2) iX12_numberOf [.ref 14, .int (Int32.ofInt a1)] w 0 0 Q := by
  refine zCl_i (M := kX12_numberOf) rfl (Nat.le_of_ble_eq_true rfl) fun R hR => ?_
  have h6 := hr1.1.1
  iterate 4 refine hR (?_ : R (_, _, _, _, _, _))
  have lp4 : ∀ (N : Nat) (fg : Int) (kk : Int), (0 ≤ fg ∧ fg ≤ 8191) → (0 ≤ kk ∧ kk ≤ 6) → (fg + ((4 ^ kk.toNat : Nat) : Int) = ((B / 4 ^ (l - kk.toNat) : Nat) : Int)) → (kk ≤ (l : Int)) → (7 - kk < N) → R (4, [some (.ref 14), some (.int (Int32.ofInt a1)), some (.int (Int32.ofInt fg)), some (.int (Int32.ofInt kk))], [], w, 0, 0) := by
    intro N
    induction N with
    | zero => intros; omega
    | succ N ih4 =>
      intro fg kk hf0_4 hf1_4 hp0_4 hp1_4 hN4
      iterate 2 refine hR (?_ : R (_, _, _, _, _, _))
      refine hR (j_ge (by omega) (by omega) (fun hc1 => ?_) (fun hc1 => ?_))
      · skip
        refine hR (?_ : R (_, _, _, _, _, _))
        refine hR (zcall_i 0 0 (Nat.le_of_ble_eq_true rfl) (Nat.le_of_ble_eq_true rfl) (m_shorter _ a1 _ (by omega) _ fun v2 hp3 hhp3 => ?_))
        refine (?_ : R (_, _, .int (Int32.ofInt v2) :: [], w, 0, 0))
        refine hR (?_ : R (_, _, _, _, _, _))
        refine hR (t_add ?_)
        exact hR (zret_i rfl (Nat.le_refl _) trivial (h _ (by unfold fNo; have hne := nb_e (B := B) (l := l) (kk := kk) hr1.1 (by omega) hp0_4; rw [hp3, show a1.toNat = l by omega]; exact hne)))
      have hst := nb_st hr1 (by omega) (by omega) hp0_4
      have hdg := WD_at hr1 (j := kk) (i := l - 1 - kk.toNat) (by omega) (by omega) (by omega)
      have hdl := dg_lt B (l - 1 - kk.toNat)
      iterate 2 refine hR (?_ : R (_, _, _, _, _, _))
      refine hR (t_mul ?_)
      refine hR (?_ : R (_, _, _, _, _, _))
      refine hR (c_get hK0 rfl ?_)
      refine hR (?_ : R (_, _, _, _, _, _))
      refine hR (c_aldE hK1 (by omega) (by omega) (Nat.le_of_ble_eq_true rfl) fun v4 ev4 rv4 => ?_)
      replace ev4 : v4 = tBy g25 kk := ev4
      subst ev4
      refine hR (t_add ?_)
      refine hR (?_ : R (_, _, _, _, _, _))
      have hnb := nb_b hr1.1 (by omega) hst
      refine hR (t_inc ?_)
      refine hR (?_ : R (_, _, _, _, _, _))
      exact ih4 _ _ (by omega) (by omega) hst (by omega) (by omega)
  exact lp4 400000000 _ _ (by omega) (by omega) (by rw [show (0 : Int).toNat = 0 from rfl, Nat.sub_zero, hr1.1.2]; rfl) (by omega) (by omega)
theorem x_swapR (w : zW) (d : Nat) (a1 a2 : Int) (f0 f9 f10 f11 f12 f13 f15 f16 f17 f20 f21 f22 f23 f26 f28 f31 f32 f33 f38 f41 f44 : Int) (x14 : Int64) (g25 : Nat → Int32) (hK0 : zix w 14 = some (.inr (11, [.int (Int32.ofInt f0), .ref 15, .ref 16, .ref 17, .ref 18, .ref 19, .ref 20, .ref 21, .ref 22, .int (Int32.ofInt f9), .int (Int32.ofInt f10), .int (Int32.ofInt f11), .int (Int32.ofInt f12), .int (Int32.ofInt f13), .long x14, .int (Int32.ofInt f15), .int (Int32.ofInt f16), .int (Int32.ofInt f17), .ref 23, .ref 24, .int (Int32.ofInt f20), .int (Int32.ofInt f21), .int (Int32.ofInt f22), .int (Int32.ofInt f23), .ref 25, .ref 26, .int (Int32.ofInt f26), .ref 27, .int (Int32.ofInt f28), .ref 28, .ref 29, .int (Int32.ofInt f31), .int (Int32.ofInt f32), .int (Int32.ofInt f33), .ref 30, .ref 31, .ref 32, .ref 33, .int (Int32.ofInt f38), .ref 34, .ref 35, .int (Int32.ofInt f41), .ref 36, .ref 37, .int (Int32.ofInt f44), .ref 38, .ref 39, .ref 40, .ref 41, .ref 42, .ref 43, .ref 44]))) (hK1 : zix w 25 = some (.inl (1, 7, .inl g25))) (hr0 : 0 ≤ a1 ∧ a1 ≤ 5) (hr1 : 0 ≤ a2 ∧ a2 ≤ 5) (Q : zQ) (h : ∀ (T' : Nat → Int32) (w' : zW), wfM (fun j => j ≠ 25) w w' → zix w' 25 = some (.inl (1, 7, .inl T')) → (∀ j : Int, 0 ≤ j → tBy T' j = if j = a2 then tBy g25 a1 else if j = a1 then tBy g25 a2 else tBy g25 j) → Q (none) w') : zCl zTab (d + 1) iX12_swap [.ref 14, .int (Int32.ofInt a1), .int (Int32.ofInt a2)] w 0 0 Q := by
  refine zCl_i (M := kX12_swap) rfl (Nat.le_of_ble_eq_true rfl) fun R hR => ?_
  have fr0 : wfM (fun j => j ≠ 25) w w := wfM_rf _ w
  have nX0 : FX (∀ j : Nat, (j ≠ 25) → j ≠ 25) := fun j hj => by omega
  refine hR (?_ : R (_, _, _, _, _, _))
  refine hR (c_get hK0 rfl ?_)
  refine hR (?_ : R (_, _, _, _, _, _))
  refine hR (c_aldE hK1 (by omega) (by omega) (Nat.le_of_ble_eq_true rfl) fun v1 ev1 rv1 => ?_)
  replace ev1 : v1 = tBy g25 a1 := ev1
  subst ev1
  iterate 2 refine hR (?_ : R (_, _, _, _, _, _))
  refine hR (c_get hK0 rfl ?_)
  iterate 2 refine hR (?_ : R (_, _, _, _, _, _))
  refine hR (c_get hK0 rfl ?_)
  refine hR (?_ : R (_, _, _, _, _, _))
  refine hR (c_aldE hK1 (by omega) (by omega) (Nat.le_of_ble_eq_true rfl) fun v2 ev2 rv2 => ?_)
  replace ev2 : v2 = tBy g25 a2 := ev2
  subst ev2
  refine hR (x_ast hK1 (by omega) (by omega) (Nat.le_of_ble_eq_true rfl) fun w3 ff3 hC3 => ?_)
  have fr4 := wfM_st fr0 ff3 nX0
  have hC5 := (ff3.2 14 (by (try dsimp only); decide)).trans hK0
  refine hR (?_ : R (_, _, _, _, _, _))
  refine hR (c_get hC5 rfl ?_)
  iterate 2 refine hR (?_ : R (_, _, _, _, _, _))
  refine hR (x_ast hC3 (by omega) (by omega) (Nat.le_of_ble_eq_true rfl) fun w6 ff6 hC6 => ?_)
  have fr7 := wfM_st fr4 ff6 nX0
  have hC8 := (ff6.2 14 (by (try dsimp only); decide)).trans hC5
  exact hR (zret_i rfl (Nat.le_refl _) rfl (h _ _ fr7 hC6 (fun j h0 => by rw [zupI (by first | exact tBy_r _ _ | exact ⟨by omega, by omega⟩) (by omega) h0, zupI (by first | exact tBy_r _ _ | exact ⟨by omega, by omega⟩) (by omega) h0])))
theorem x_shiftR (w : zW) (d : Nat) (a1 : Int) (f0 f9 f10 f11 f12 f13 f15 f16 f17 f20 f21 f22 f23 f26 f28 f31 f32 f33 f38 f41 f44 : Int) (x14 : Int64) (g20 g25 : Nat → Int32) (hK0 : zix w 14 = some (.inr (11, [.int (Int32.ofInt f0), .ref 15, .ref 16, .ref 17, .ref 18, .ref 19, .ref 20, .ref 21, .ref 22, .int (Int32.ofInt f9), .int (Int32.ofInt f10), .int (Int32.ofInt f11), .int (Int32.ofInt f12), .int (Int32.ofInt f13), .long x14, .int (Int32.ofInt f15), .int (Int32.ofInt f16), .int (Int32.ofInt f17), .ref 23, .ref 24, .int (Int32.ofInt f20), .int (Int32.ofInt f21), .int (Int32.ofInt f22), .int (Int32.ofInt f23), .ref 25, .ref 26, .int (Int32.ofInt f26), .ref 27, .int (Int32.ofInt f28), .ref 28, .ref 29, .int (Int32.ofInt f31), .int (Int32.ofInt f32), .int (Int32.ofInt f33), .ref 30, .ref 31, .ref 32, .ref 33, .int (Int32.ofInt f38), .ref 34, .ref 35, .int (Int32.ofInt f41), .ref 36, .ref 37, .int (Int32.ofInt f44), .ref 38, .ref 39, .ref 40, .ref 41, .ref 42, .ref 43, .ref 44]))) (hK1 : zix w 20 = some (.inl (1, 408, .inl g20))) (hK2 : zix w 25 = some (.inl (1, 7, .inl g25))) (hr0 : 0 ≤ f20 ∧ f20 ≤ 1) (hr1 : 0 ≤ a1 ∧ a1 ≤ 3) (hr2 : 0 ≤ f26 ∧ f26 ≤ 6) (Q : zQ) (h : ∀ (T' : Nat → Int32) (w' : zW), wfM (fun j => j ≠ 25) w w' → zix w' 25 = some (.inl (1, 7, .inl T')) → (∀ j : Int, 0 ≤ j → tBy T' j = if j < f26 ∧ tBy g25 j = a1 then tBy g20 (51 * f20 + (2 + a1)) else tBy g25 j) → Q (none) w') : zCl zTab (d + 2) iX12_shift [.ref 14, .int (Int32.ofInt a1)] w 0 0 Q := by
  refine zCl_i (M := kX12_shift) rfl (Nat.le_of_ble_eq_true rfl) fun R hR => ?_
  have fr0 : wfM (fun j => j ≠ 25) w w := wfM_rf _ w
  have nX0 : FX (∀ j : Nat, (j ≠ 25) → j ≠ 25) := fun j hj => by omega
  iterate 2 refine hR (?_ : R (_, _, _, _, _, _))
  have lp2 : ∀ (N : Nat) (kk : Int) (T2 : Nat → Int32) (w_2 : zW), (wfM (fun j => j ≠ 25) w w_2) → (zix w_2 14 = some (.inr (11, [.int (Int32.ofInt f0), .ref 15, .ref 16, .ref 17, .ref 18, .ref 19, .ref 20, .ref 21, .ref 22, .int (Int32.ofInt f9), .int (Int32.ofInt f10), .int (Int32.ofInt f11), .int (Int32.ofInt f12), .int (Int32.ofInt f13), .long x14, .int (Int32.ofInt f15), .int (Int32.ofInt f16), .int (Int32.ofInt f17), .ref 23, .ref 24, .int (Int32.ofInt f20), .int (Int32.ofInt f21), .int (Int32.ofInt f22), .int (Int32.ofInt f23), .ref 25, .ref 26, .int (Int32.ofInt f26), .ref 27, .int (Int32.ofInt f28), .ref 28, .ref 29, .int (Int32.ofInt f31), .int (Int32.ofInt f32), .int (Int32.ofInt f33), .ref 30, .ref 31, .ref 32, .ref 33, .int (Int32.ofInt f38), .ref 34, .ref 35, .int (Int32.ofInt f41), .ref 36, .ref 37, .int (Int32.ofInt f44), .ref 38, .ref 39, .ref 40, .ref 41, .ref 42, .ref 43, .ref 44]))) → (zix w_2 20 = some (.inl (1, 408, .inl g20))) → (zix w_2 25 = some (.inl (1, 7, .inl T2))) → (0 ≤ kk ∧ kk ≤ 6) → (∀ j : Int, 0 ≤ j → tBy T2 j = if j < kk ∧ tBy g25 j = a1 then tBy g20 (51 * f20 + (2 + a1)) else tBy g25 j) → (kk ≤ f26) → (7 - kk < N) → R (2, [some (.ref 14), some (.int (Int32.ofInt a1)), some (.int (Int32.ofInt kk))], [], w_2, 0, 0) := by
    intro N
    induction N with
    | zero => intros; omega
    | succ N ih2 =>
      intro kk T2 w_2 fr_2 hC14_2 hC20_2 hC25_2 hf0_2 hp0_2 hp1_2 hN2
      iterate 2 refine hR (?_ : R (_, _, _, _, _, _))
      refine hR (c_get hC14_2 rfl ?_)
      refine hR (j_ge (by omega) (by omega) (fun hc1 => ?_) (fun hc1 => ?_))
      · skip
        exact hR (zret_i rfl (Nat.le_refl _) rfl (h _ _ fr_2 hC25_2 (fun j h0 => by rw [hp0_2 j h0, show kk = f26 by omega])))
      have hh := hp0_2 kk (by omega)
      rw [if_neg (by omega)] at hh
      refine hR (?_ : R (_, _, _, _, _, _))
      refine hR (c_get hC14_2 rfl ?_)
      iterate 2 refine hR (?_ : R (_, _, _, _, _, _))
      refine hR (c_get hC14_2 rfl ?_)
      refine hR (?_ : R (_, _, _, _, _, _))
      refine hR (c_aldE hC25_2 (by omega) (by omega) (Nat.le_of_ble_eq_true rfl) fun v2 ev2 rv2 => ?_)
      replace ev2 : v2 = tBy T2 kk := ev2
      subst ev2
      refine hR (?_ : R (_, _, _, _, _, _))
      refine hR (j_ne (by omega) (by omega) (fun hc3 => ?_) (fun hc3 => ?_))
      · skip
        refine hR (?_ : R (_, _, _, _, _, _))
        refine hR (c_get hC14_2 rfl ?_)
        refine hR (?_ : R (_, _, _, _, _, _))
        refine hR (c_aldE hC25_2 (by omega) (by omega) (Nat.le_of_ble_eq_true rfl) fun v4 ev4 rv4 => ?_)
        replace ev4 : v4 = tBy T2 kk := ev4
        subst ev4
        refine hR (x_ast hC25_2 (by omega) (by omega) (Nat.le_of_ble_eq_true rfl) fun w5 ff5 hC5 => ?_)
        have fr6 := wfM_st fr_2 ff5 nX0
        have hC7 := (ff5.2 14 (by (try dsimp only); decide)).trans hC14_2
        have hC8 := (ff5.2 20 (by (try dsimp only); decide)).trans hC20_2
        refine hR (t_inc ?_)
        refine hR (?_ : R (_, _, _, _, _, _))
        exact ih2 _ _ _ fr6 hC7 hC8 hC5 (by omega) (fun j h0 => by rw [zupI (by first | exact tBy_r _ _ | exact ⟨by omega, by omega⟩) (by omega) h0]; by_cases c1 : j = kk; (· rw [if_pos c1, c1]; first | (rw [if_pos (by omega)]) | (rw [if_neg (by omega)]; exact hh)); rw [if_neg c1, hp0_2 j h0]; by_cases c2 : j < kk ∧ tBy g25 j = a1; (· rw [if_pos c2, if_pos (by omega)]); rw [if_neg c2, if_neg (by omega)]) (by omega) (by omega)
      iterate 3 refine hR (?_ : R (_, _, _, _, _, _))
      refine hR (t_add ?_)
      refine hR (c_obj hC14_2 (zcall_i 0 0 (Nat.le_of_ble_eq_true rfl) (Nat.le_of_ble_eq_true rfl) (x_ofR _ _ _ _ _ _ _ _ _ _ _ _ _ _ _ _ _ _ _ _ _ _ _ _ _ _ hC14_2 hC20_2 (by omega) (by omega) _ fun v9 hp10 => ?_)))
      subst hp10
      refine (?_ : R (_, _, .int (Int32.ofInt (tBy g20 (51 * f20 + (2 + a1)))) :: .int (Int32.ofInt kk) :: .ref 25 :: [], w_2, 0, 0))
      refine hR (?_ : R (_, _, _, _, _, _))
      refine hR (x_ast hC25_2 (by omega) (by omega) (Nat.le_of_ble_eq_true rfl) fun w11 ff11 hC11 => ?_)
      have fr12 := wfM_st fr_2 ff11 nX0
      have hC13 := (ff11.2 14 (by (try dsimp only); decide)).trans hC14_2
      have hC14 := (ff11.2 20 (by (try dsimp only); decide)).trans hC20_2
      refine hR (t_inc ?_)
      refine hR (?_ : R (_, _, _, _, _, _))
      exact ih2 _ _ _ fr12 hC13 hC14 hC11 (by omega) (fun j h0 => by rw [zupI (by first | exact tBy_r _ _ | exact ⟨by omega, by omega⟩) (by omega) h0]; by_cases c1 : j = kk; (· rw [if_pos c1, c1]; first | (rw [if_pos (by omega)]) | (rw [if_neg (by omega)]; exact hh)); rw [if_neg c1, hp0_2 j h0]; by_cases c2 : j < kk ∧ tBy g25 j = a1; (· rw [if_pos c2, if_pos (by omega)]); rw [if_neg c2, if_neg (by omega)]) (by omega) (by omega)
  exact lp2 400000000 _ _ _ fr0 hK0 hK1 hK2 (by omega) (fun j h0 => (if_neg (by omega)).symm) (by omega) (by omega)
theorem x_dropR (w : zW) (d : Nat) (a1 : Int) (f0 f9 f10 f11 f12 f13 f15 f16 f17 f20 f21 f22 f23 f26 f28 f31 f32 f33 f38 f41 f44 : Int) (x14 : Int64) (g25 : Nat → Int32) (hK0 : zix w 14 = some (.inr (11, [.int (Int32.ofInt f0), .ref 15, .ref 16, .ref 17, .ref 18, .ref 19, .ref 20, .ref 21, .ref 22, .int (Int32.ofInt f9), .int (Int32.ofInt f10), .int (Int32.ofInt f11), .int (Int32.ofInt f12), .int (Int32.ofInt f13), .long x14, .int (Int32.ofInt f15), .int (Int32.ofInt f16), .int (Int32.ofInt f17), .ref 23, .ref 24, .int (Int32.ofInt f20), .int (Int32.ofInt f21), .int (Int32.ofInt f22), .int (Int32.ofInt f23), .ref 25, .ref 26, .int (Int32.ofInt f26), .ref 27, .int (Int32.ofInt f28), .ref 28, .ref 29, .int (Int32.ofInt f31), .int (Int32.ofInt f32), .int (Int32.ofInt f33), .ref 30, .ref 31, .ref 32, .ref 33, .int (Int32.ofInt f38), .ref 34, .ref 35, .int (Int32.ofInt f41), .ref 36, .ref 37, .int (Int32.ofInt f44), .ref 38, .ref 39, .ref 40, .ref 41, .ref 42, .ref 43, .ref 44]))) (hK1 : zix w 25 = some (.inl (1, 7, .inl g25))) (hr0 : 1 ≤ a1 ∧ a1 ≤ 6) (hr1 : 0 ≤ f26 ∧ f26 ≤ 6) (Q : zQ) (h : ∀ (y26 : Int) (T' : Nat → Int32) (w' : zW), wfM (fun j => j ≠ 14 ∧ j ≠ 25) w w' → zix w' 14 = some (.inr (11, [.int (Int32.ofInt f0), .ref 15, .ref 16, .ref 17, .ref 18, .ref 19, .ref 20, .ref 21, .ref 22, .int (Int32.ofInt f9), .int (Int32.ofInt f10), .int (Int32.ofInt f11), .int (Int32.ofInt f12), .int (Int32.ofInt f13), .long x14, .int (Int32.ofInt f15), .int (Int32.ofInt f16), .int (Int32.ofInt f17), .ref 23, .ref 24, .int (Int32.ofInt f20), .int (Int32.ofInt f21), .int (Int32.ofInt f22), .int (Int32.ofInt f23), .ref 25, .ref 26, .int (Int32.ofInt y26), .ref 27, .int (Int32.ofInt f28), .ref 28, .ref 29, .int (Int32.ofInt f31), .int (Int32.ofInt f32), .int (Int32.ofInt f33), .ref 30, .ref 31, .ref 32, .ref 33, .int (Int32.ofInt f38), .ref 34, .ref 35, .int (Int32.ofInt f41), .ref 36, .ref 37, .int (Int32.ofInt f44), .ref 38, .ref 39, .ref 40, .ref 41, .ref 42, .ref 43, .ref 44])) → zix w' 25 = some (.inl (1, 7, .inl T')) → ((f26 < a1 ∧ y26 = f26 ∧ T' = g25) ∨ (a1 ≤ f26 ∧ y26 = f26 - 1 ∧ ∀ j : Int, 0 ≤ j → tBy T' j = if a1 ≤ j + 1 ∧ j + 1 < f26 then tBy g25 (j + 1) else tBy g25 j)) → Q (none) w') : zCl zTab (d + 1) iX12_drop [.ref 14, .int (Int32.ofInt a1)] w 0 0 Q := by
  refine zCl_i (M := kX12_drop) rfl (Nat.le_of_ble_eq_true rfl) fun R hR => ?_
  have fr0 : wfM (fun j => j ≠ 14 ∧ j ≠ 25) w w := wfM_rf _ w
  have nX0 : FX (∀ j : Nat, (j ≠ 14 ∧ j ≠ 25) → j ≠ 14) := fun j hj => by omega
  have nX1 : FX (∀ j : Nat, (j ≠ 14 ∧ j ≠ 25) → j ≠ 25) := fun j hj => by omega
  iterate 2 refine hR (?_ : R (_, _, _, _, _, _))
  refine hR (c_get hK0 rfl ?_)
  refine hR (j_gt (by omega) (by omega) (fun hc1 => ?_) (fun hc1 => ?_))
  · skip
    exact hR (zret_i rfl (Nat.le_refl _) rfl (h _ _ _ fr0 hK0 hK1 (Or.inl ⟨by omega, rfl, rfl⟩)))
  iterate 2 refine hR (?_ : R (_, _, _, _, _, _))
  have lp10 : ∀ (N : Nat) (kk : Int) (T2 : Nat → Int32) (w_10 : zW), (wfM (fun j => j ≠ 14 ∧ j ≠ 25) w w_10) → (zix w_10 14 = some (.inr (11, [.int (Int32.ofInt f0), .ref 15, .ref 16, .ref 17, .ref 18, .ref 19, .ref 20, .ref 21, .ref 22, .int (Int32.ofInt f9), .int (Int32.ofInt f10), .int (Int32.ofInt f11), .int (Int32.ofInt f12), .int (Int32.ofInt f13), .long x14, .int (Int32.ofInt f15), .int (Int32.ofInt f16), .int (Int32.ofInt f17), .ref 23, .ref 24, .int (Int32.ofInt f20), .int (Int32.ofInt f21), .int (Int32.ofInt f22), .int (Int32.ofInt f23), .ref 25, .ref 26, .int (Int32.ofInt f26), .ref 27, .int (Int32.ofInt f28), .ref 28, .ref 29, .int (Int32.ofInt f31), .int (Int32.ofInt f32), .int (Int32.ofInt f33), .ref 30, .ref 31, .ref 32, .ref 33, .int (Int32.ofInt f38), .ref 34, .ref 35, .int (Int32.ofInt f41), .ref 36, .ref 37, .int (Int32.ofInt f44), .ref 38, .ref 39, .ref 40, .ref 41, .ref 42, .ref 43, .ref 44]))) → (zix w_10 25 = some (.inl (1, 7, .inl T2))) → (1 ≤ kk ∧ kk ≤ 6) → (∀ j : Int, 0 ≤ j → tBy T2 j = if a1 ≤ j + 1 ∧ j + 1 < kk then tBy g25 (j + 1) else tBy g25 j) → (a1 ≤ kk ∧ kk ≤ f26) → (7 - kk < N) → R (10, [some (.ref 14), some (.int (Int32.ofInt a1)), some (.int (Int32.ofInt kk))], [], w_10, 0, 0) := by
    intro N
    induction N with
    | zero => intros; omega
    | succ N ih10 =>
      intro kk T2 w_10 fr_10 hC14_10 hC25_10 hf0_10 hp0_10 hp1_10 hN10
      iterate 2 refine hR (?_ : R (_, _, _, _, _, _))
      refine hR (c_get hC14_10 rfl ?_)
      refine hR (j_ge (by omega) (by omega) (fun hc2 => ?_) (fun hc2 => ?_))
      · skip
        iterate 2 refine hR (?_ : R (_, _, _, _, _, _))
        refine hR (c_get hC14_10 rfl ?_)
        refine hR (?_ : R (_, _, _, _, _, _))
        refine hR (t_sub ?_)
        refine hR (c_put hC14_10 rfl rfl fun w3 ff3 hC3 => ?_)
        have fr4 := wfM_st fr_10 ff3 nX0
        have hC5 := (ff3.2 25 (by (try dsimp only); decide)).trans hC25_10
        replace hC3 : zix w3 14 = some (.inr (11, [.int (Int32.ofInt f0), .ref 15, .ref 16, .ref 17, .ref 18, .ref 19, .ref 20, .ref 21, .ref 22, .int (Int32.ofInt f9), .int (Int32.ofInt f10), .int (Int32.ofInt f11), .int (Int32.ofInt f12), .int (Int32.ofInt f13), .long x14, .int (Int32.ofInt f15), .int (Int32.ofInt f16), .int (Int32.ofInt f17), .ref 23, .ref 24, .int (Int32.ofInt f20), .int (Int32.ofInt f21), .int (Int32.ofInt f22), .int (Int32.ofInt f23), .ref 25, .ref 26, .int (Int32.ofInt (f26 - 1)), .ref 27, .int (Int32.ofInt f28), .ref 28, .ref 29, .int (Int32.ofInt f31), .int (Int32.ofInt f32), .int (Int32.ofInt f33), .ref 30, .ref 31, .ref 32, .ref 33, .int (Int32.ofInt f38), .ref 34, .ref 35, .int (Int32.ofInt f41), .ref 36, .ref 37, .int (Int32.ofInt f44), .ref 38, .ref 39, .ref 40, .ref 41, .ref 42, .ref 43, .ref 44])) := hC3
        exact hR (zret_i rfl (Nat.le_refl _) rfl (h _ _ _ fr4 hC3 hC5 (Or.inr ⟨by omega, rfl, fun j h0 => by rw [hp0_10 j h0, show kk = f26 by omega]⟩)))
      have hh := hp0_10 kk (by omega)
      rw [if_neg (by omega)] at hh
      refine hR (?_ : R (_, _, _, _, _, _))
      refine hR (c_get hC14_10 rfl ?_)
      iterate 2 refine hR (?_ : R (_, _, _, _, _, _))
      refine hR (t_sub ?_)
      refine hR (?_ : R (_, _, _, _, _, _))
      refine hR (c_get hC14_10 rfl ?_)
      refine hR (?_ : R (_, _, _, _, _, _))
      refine hR (c_aldE hC25_10 (by omega) (by omega) (Nat.le_of_ble_eq_true rfl) fun v6 ev6 rv6 => ?_)
      replace ev6 : v6 = tBy T2 kk := ev6
      subst ev6
      refine hR (x_ast hC25_10 (by omega) (by omega) (Nat.le_of_ble_eq_true rfl) fun w7 ff7 hC7 => ?_)
      have fr8 := wfM_st fr_10 ff7 nX1
      have hC9 := (ff7.2 14 (by (try dsimp only); decide)).trans hC14_10
      refine hR (t_inc ?_)
      refine hR (?_ : R (_, _, _, _, _, _))
      exact ih10 _ _ _ fr8 hC9 hC7 (by omega) (fun j h0 => by rw [zupI (by first | exact tBy_r _ _ | exact ⟨by omega, by omega⟩) (by omega) h0]; by_cases c1 : j = kk - 1; (· rw [if_pos c1, if_pos (by omega), show j + 1 = kk by omega]; exact hh); rw [if_neg c1, hp0_10 j h0]; by_cases c2 : a1 ≤ j + 1 ∧ j + 1 < kk; (· rw [if_pos c2, if_pos (by omega)]); rw [if_neg c2, if_neg (by omega)]) (by omega) (by omega)
  exact lp10 400000000 _ _ _ fr0 hK0 hK1 (by omega) (fun j h0 => (if_neg (by omega)).symm) (by omega) (by omega)
theorem x_twiceR (w : zW) (d : Nat) (a1 : Int) (f0 f9 f10 f11 f12 f13 f15 f16 f17 f20 f21 f22 f23 f26 f28 f31 f32 f33 f38 f41 f44 : Int) (x14 : Int64) (g25 : Nat → Int32) (hK0 : zix w 14 = some (.inr (11, [.int (Int32.ofInt f0), .ref 15, .ref 16, .ref 17, .ref 18, .ref 19, .ref 20, .ref 21, .ref 22, .int (Int32.ofInt f9), .int (Int32.ofInt f10), .int (Int32.ofInt f11), .int (Int32.ofInt f12), .int (Int32.ofInt f13), .long x14, .int (Int32.ofInt f15), .int (Int32.ofInt f16), .int (Int32.ofInt f17), .ref 23, .ref 24, .int (Int32.ofInt f20), .int (Int32.ofInt f21), .int (Int32.ofInt f22), .int (Int32.ofInt f23), .ref 25, .ref 26, .int (Int32.ofInt f26), .ref 27, .int (Int32.ofInt f28), .ref 28, .ref 29, .int (Int32.ofInt f31), .int (Int32.ofInt f32), .int (Int32.ofInt f33), .ref 30, .ref 31, .ref 32, .ref 33, .int (Int32.ofInt f38), .ref 34, .ref 35, .int (Int32.ofInt f41), .ref 36, .ref 37, .int (Int32.ofInt f44), .ref 38, .ref 39, .ref 40, .ref 41, .ref 42, .ref 43, .ref 44]))) (hK1 : zix w 25 = some (.inl (1, 7, .inl g25))) (hr0 : 1 ≤ a1 ∧ a1 ≤ 6) (hr1 : 0 ≤ f26 ∧ f26 ≤ 6) (Q : zQ) (h : ∀ (y26 : Int) (T' : Nat → Int32) (w' : zW), wfM (fun j => j ≠ 14 ∧ j ≠ 25) w w' → zix w' 14 = some (.inr (11, [.int (Int32.ofInt f0), .ref 15, .ref 16, .ref 17, .ref 18, .ref 19, .ref 20, .ref 21, .ref 22, .int (Int32.ofInt f9), .int (Int32.ofInt f10), .int (Int32.ofInt f11), .int (Int32.ofInt f12), .int (Int32.ofInt f13), .long x14, .int (Int32.ofInt f15), .int (Int32.ofInt f16), .int (Int32.ofInt f17), .ref 23, .ref 24, .int (Int32.ofInt f20), .int (Int32.ofInt f21), .int (Int32.ofInt f22), .int (Int32.ofInt f23), .ref 25, .ref 26, .int (Int32.ofInt y26), .ref 27, .int (Int32.ofInt f28), .ref 28, .ref 29, .int (Int32.ofInt f31), .int (Int32.ofInt f32), .int (Int32.ofInt f33), .ref 30, .ref 31, .ref 32, .ref 33, .int (Int32.ofInt f38), .ref 34, .ref 35, .int (Int32.ofInt f41), .ref 36, .ref 37, .int (Int32.ofInt f44), .ref 38, .ref 39, .ref 40, .ref 41, .ref 42, .ref 43, .ref 44])) → zix w' 25 = some (.inl (1, 7, .inl T')) → (((f26 < a1 ∨ 6 ≤ f26) ∧ y26 = f26 ∧ T' = g25) ∨ (a1 ≤ f26 ∧ f26 < 6 ∧ y26 = f26 + 1 ∧ ∀ j : Int, 0 ≤ j → tBy T' j = if a1 - 1 < j ∧ j ≤ f26 then tBy g25 (j - 1) else tBy g25 j)) → Q (none) w') : zCl zTab (d + 1) iX12_twice [.ref 14, .int (Int32.ofInt a1)] w 0 0 Q := by
  refine zCl_i (M := kX12_twice) rfl (Nat.le_of_ble_eq_true rfl) fun R hR => ?_
  have fr0 : wfM (fun j => j ≠ 14 ∧ j ≠ 25) w w := wfM_rf _ w
  have nX0 : FX (∀ j : Nat, (j ≠ 14 ∧ j ≠ 25) → j ≠ 14) := fun j hj => by omega
  have nX1 : FX (∀ j : Nat, (j ≠ 14 ∧ j ≠ 25) → j ≠ 25) := fun j hj => by omega
  iterate 2 refine hR (?_ : R (_, _, _, _, _, _))
  refine hR (c_get hK0 rfl ?_)
  refine hR (j_gt (by omega) (by omega) (fun hc1 => ?_) (fun hc1 => ?_))
  · skip
    exact hR (zret_i rfl (Nat.le_refl _) rfl (h _ _ _ fr0 hK0 hK1 (Or.inl ⟨by omega, rfl, rfl⟩)))
  refine hR (?_ : R (_, _, _, _, _, _))
  refine hR (c_get hK0 rfl ?_)
  refine hR (t_c 6 (by decide) ?_)
  refine hR (j_ge (by omega) (by omega) (fun hc2 => ?_) (fun hc2 => ?_))
  · skip
    exact hR (zret_i rfl (Nat.le_refl _) rfl (h _ _ _ fr0 hK0 hK1 (Or.inl ⟨by omega, rfl, rfl⟩)))
  refine hR (?_ : R (_, _, _, _, _, _))
  refine hR (c_get hK0 rfl ?_)
  refine hR (?_ : R (_, _, _, _, _, _))
  have lp22 : ∀ (N : Nat) (kk : Int) (T2 : Nat → Int32) (w_22 : zW), (wfM (fun j => j ≠ 14 ∧ j ≠ 25) w w_22) → (zix w_22 14 = some (.inr (11, [.int (Int32.ofInt f0), .ref 15, .ref 16, .ref 17, .ref 18, .ref 19, .ref 20, .ref 21, .ref 22, .int (Int32.ofInt f9), .int (Int32.ofInt f10), .int (Int32.ofInt f11), .int (Int32.ofInt f12), .int (Int32.ofInt f13), .long x14, .int (Int32.ofInt f15), .int (Int32.ofInt f16), .int (Int32.ofInt f17), .ref 23, .ref 24, .int (Int32.ofInt f20), .int (Int32.ofInt f21), .int (Int32.ofInt f22), .int (Int32.ofInt f23), .ref 25, .ref 26, .int (Int32.ofInt f26), .ref 27, .int (Int32.ofInt f28), .ref 28, .ref 29, .int (Int32.ofInt f31), .int (Int32.ofInt f32), .int (Int32.ofInt f33), .ref 30, .ref 31, .ref 32, .ref 33, .int (Int32.ofInt f38), .ref 34, .ref 35, .int (Int32.ofInt f41), .ref 36, .ref 37, .int (Int32.ofInt f44), .ref 38, .ref 39, .ref 40, .ref 41, .ref 42, .ref 43, .ref 44]))) → (zix w_22 25 = some (.inl (1, 7, .inl T2))) → (0 ≤ kk ∧ kk ≤ 5) → (∀ j : Int, 0 ≤ j → tBy T2 j = if kk < j ∧ j ≤ f26 then tBy g25 (j - 1) else tBy g25 j) → (a1 - 1 ≤ kk ∧ kk ≤ f26) → (kk + 1 < N) → R (22, [some (.ref 14), some (.int (Int32.ofInt a1)), some (.int (Int32.ofInt kk))], [], w_22, 0, 0) := by
    intro N
    induction N with
    | zero => intros; omega
    | succ N ih22 =>
      intro kk T2 w_22 fr_22 hC14_22 hC25_22 hf0_22 hp0_22 hp1_22 hN22
      iterate 2 refine hR (?_ : R (_, _, _, _, _, _))
      refine hR (j_lt (by omega) (by omega) (fun hc3 => ?_) (fun hc3 => ?_))
      · skip
        iterate 2 refine hR (?_ : R (_, _, _, _, _, _))
        refine hR (c_get hC14_22 rfl ?_)
        refine hR (?_ : R (_, _, _, _, _, _))
        refine hR (t_add ?_)
        refine hR (c_put hC14_22 rfl rfl fun w4 ff4 hC4 => ?_)
        have fr5 := wfM_st fr_22 ff4 nX0
        have hC6 := (ff4.2 25 (by (try dsimp only); decide)).trans hC25_22
        replace hC4 : zix w4 14 = some (.inr (11, [.int (Int32.ofInt f0), .ref 15, .ref 16, .ref 17, .ref 18, .ref 19, .ref 20, .ref 21, .ref 22, .int (Int32.ofInt f9), .int (Int32.ofInt f10), .int (Int32.ofInt f11), .int (Int32.ofInt f12), .int (Int32.ofInt f13), .long x14, .int (Int32.ofInt f15), .int (Int32.ofInt f16), .int (Int32.ofInt f17), .ref 23, .ref 24, .int (Int32.ofInt f20), .int (Int32.ofInt f21), .int (Int32.ofInt f22), .int (Int32.ofInt f23), .ref 25, .ref 26, .int (Int32.ofInt (f26 + 1)), .ref 27, .int (Int32.ofInt f28), .ref 28, .ref 29, .int (Int32.ofInt f31), .int (Int32.ofInt f32), .int (Int32.ofInt f33), .ref 30, .ref 31, .ref 32, .ref 33, .int (Int32.ofInt f38), .ref 34, .ref 35, .int (Int32.ofInt f41), .ref 36, .ref 37, .int (Int32.ofInt f44), .ref 38, .ref 39, .ref 40, .ref 41, .ref 42, .ref 43, .ref 44])) := hC4
        exact hR (zret_i rfl (Nat.le_refl _) rfl (h _ _ _ fr5 hC4 hC6 (Or.inr ⟨by omega, by omega, rfl, fun j h0 => by rw [hp0_22 j h0, show kk = a1 - 1 by omega]⟩)))
      have hh := hp0_22 (kk - 1) (by omega)
      rw [if_neg (by omega)] at hh
      refine hR (?_ : R (_, _, _, _, _, _))
      refine hR (c_get hC14_22 rfl ?_)
      iterate 2 refine hR (?_ : R (_, _, _, _, _, _))
      refine hR (c_get hC14_22 rfl ?_)
      iterate 2 refine hR (?_ : R (_, _, _, _, _, _))
      refine hR (t_sub ?_)
      refine hR (c_aldE hC25_22 (by omega) (by omega) (Nat.le_of_ble_eq_true rfl) fun v7 ev7 rv7 => ?_)
      replace ev7 : v7 = tBy T2 (kk - 1) := ev7
      subst ev7
      refine hR (x_ast hC25_22 (by omega) (by omega) (Nat.le_of_ble_eq_true rfl) fun w8 ff8 hC8 => ?_)
      have fr9 := wfM_st fr_22 ff8 nX1
      have hC10 := (ff8.2 14 (by (try dsimp only); decide)).trans hC14_22
      refine hR (t_inc ?_)
      refine hR (?_ : R (_, _, _, _, _, _))
      exact ih22 _ _ _ fr9 hC10 hC8 (by omega) (fun j h0 => by rw [zupI (by first | exact tBy_r _ _ | exact ⟨by omega, by omega⟩) (by omega) h0]; by_cases c1 : j = kk; (· rw [if_pos c1, if_pos (by omega), show j - 1 = kk - 1 by omega]; exact hh); rw [if_neg c1, hp0_22 j h0]; by_cases c2 : kk < j ∧ j ≤ f26; (· rw [if_pos c2, if_pos (by omega)]); rw [if_neg c2, if_neg (by omega)]) (by omega) (by omega)
  exact lp22 400000000 _ _ _ fr0 hK0 hK1 (by omega) (fun j h0 => (if_neg (by omega)).symm) (by omega) (by omega)
theorem x_stepR (w : zW) (d : Nat) (a1 a2 : Int) (f0 f9 f10 f11 f12 f13 f15 f16 f17 f20 f21 f22 f23 f26 f28 f31 f32 f33 f38 f41 f44 : Int) (x14 : Int64) (g20 g25 : Nat → Int32) (hK0 : zix w 14 = some (.inr (11, [.int (Int32.ofInt f0), .ref 15, .ref 16, .ref 17, .ref 18, .ref 19, .ref 20, .ref 21, .ref 22, .int (Int32.ofInt f9), .int (Int32.ofInt f10), .int (Int32.ofInt f11), .int (Int32.ofInt f12), .int (Int32.ofInt f13), .long x14, .int (Int32.ofInt f15), .int (Int32.ofInt f16), .int (Int32.ofInt f17), .ref 23, .ref 24, .int (Int32.ofInt f20), .int (Int32.ofInt f21), .int (Int32.ofInt f22), .int (Int32.ofInt f23), .ref 25, .ref 26, .int (Int32.ofInt f26), .ref 27, .int (Int32.ofInt f28), .ref 28, .ref 29, .int (Int32.ofInt f31), .int (Int32.ofInt f32), .int (Int32.ofInt f33), .ref 30, .ref 31, .ref 32, .ref 33, .int (Int32.ofInt f38), .ref 34, .ref 35, .int (Int32.ofInt f41), .ref 36, .ref 37, .int (Int32.ofInt f44), .ref 38, .ref 39, .ref 40, .ref 41, .ref 42, .ref 43, .ref 44]))) (hK1 : zix w 20 = some (.inl (1, 408, .inl g20))) (hK2 : zix w 25 = some (.inl (1, 7, .inl g25))) (hr0 : 0 ≤ f20 ∧ f20 ≤ 1) (hr1 : 0 ≤ a1 ∧ a1 ≤ 4) (hr2 : 0 ≤ a2 ∧ a2 ≤ 6 ∧ (a1 = 0 → a2 ≤ 3) ∧ (1 ≤ a1 → a1 ≤ 3 → 1 ≤ a2)) (hr3 : 0 ≤ f26 ∧ f26 ≤ 6) (Q : zQ) (h : ∀ (y26 : Int) (T' : Nat → Int32) (w' : zW), wfM (fun j => j ≠ 14 ∧ j ≠ 25) w w' → zix w' 14 = some (.inr (11, [.int (Int32.ofInt f0), .ref 15, .ref 16, .ref 17, .ref 18, .ref 19, .ref 20, .ref 21, .ref 22, .int (Int32.ofInt f9), .int (Int32.ofInt f10), .int (Int32.ofInt f11), .int (Int32.ofInt f12), .int (Int32.ofInt f13), .long x14, .int (Int32.ofInt f15), .int (Int32.ofInt f16), .int (Int32.ofInt f17), .ref 23, .ref 24, .int (Int32.ofInt f20), .int (Int32.ofInt f21), .int (Int32.ofInt f22), .int (Int32.ofInt f23), .ref 25, .ref 26, .int (Int32.ofInt y26), .ref 27, .int (Int32.ofInt f28), .ref 28, .ref 29, .int (Int32.ofInt f31), .int (Int32.ofInt f32), .int (Int32.ofInt f33), .ref 30, .ref 31, .ref 32, .ref 33, .int (Int32.ofInt f38), .ref 34, .ref 35, .int (Int32.ofInt f41), .ref 36, .ref 37, .int (Int32.ofInt f44), .ref 38, .ref 39, .ref 40, .ref 41, .ref 42, .ref 43, .ref 44])) → zix w' 25 = some (.inl (1, 7, .inl T')) → (STQ a1 a2 (tBy g20 (51 * f20 + (2 + a2))) f26 g25 y26 T') → Q (none) w') : zCl zTab (d + 3) iX12_step [.ref 14, .int (Int32.ofInt a1), .int (Int32.ofInt a2)] w 0 0 Q := by
  refine zCl_i (M := kX12_step) rfl (Nat.le_of_ble_eq_true rfl) fun R hR => ?_
  have fr0 : wfM (fun j => j ≠ 14 ∧ j ≠ 25) w w := wfM_rf _ w
  have nX0 : FX (∀ j : Nat, (j ≠ 14 ∧ j ≠ 25) → (j ≠ 25)) := fun j hj => by omega
  have nX1 : FX (∀ j : Nat, (j ≠ 14 ∧ j ≠ 25) → (j ≠ 14 ∧ j ≠ 25)) := fun j hj => by omega
  refine hR (?_ : R (_, _, _, _, _, _))
  have hl1 : a1 = 0 ∨ a1 = 1 ∨ a1 = 2 ∨ a1 = 3 ∨ (a1 ≠ 0 ∧ a1 ≠ 1 ∧ a1 ≠ 2 ∧ a1 ≠ 3) := by omega
  rcases hl1 with hl1 | hl1 | hl1 | hl1 | hl1
  · refine hR (?_ : _ ∧ _)
    rw [zti (e := a1) (by omega) (by omega)]
    refine ⟨fun hx => by omega, fun _ => ⟨31, by rw [hl1]; rfl, (?_ : R (_, _, _, _, _, _))⟩⟩
    iterate 2 refine hR (?_ : R (_, _, _, _, _, _))
    refine hR (c_obj hK0 (zcall_i 0 0 (Nat.le_of_ble_eq_true rfl) (Nat.le_of_ble_eq_true rfl) (x_shiftR _ _ _ _ _ _ _ _ _ _ _ _ _ _ _ _ _ _ _ _ _ _ _ _ _ _ _ hK0 hK1 hK2 (by omega) (by omega) (by omega) _ fun T'_2 w3 gg4 hC5 hp6 => ?_)))
    have fr7 := wfM_tr fr0 gg4 nX0
    have hC8 := (gg4.2 14 (by (try dsimp only); decide)).trans hK0
    have hC9 := (gg4.2 20 (by (try dsimp only); decide)).trans hK1
    refine (?_ : R (_, _, [], w3, 0, 0))
    exact hR (zret_i rfl (Nat.le_refl _) rfl (h _ _ _ fr7 hC8 hC5 (Or.inl ⟨by omega, rfl, hp6⟩)))
  · refine hR (?_ : _ ∧ _)
    rw [zti (e := a1) (by omega) (by omega)]
    refine ⟨fun hx => by omega, fun _ => ⟨37, by rw [hl1]; rfl, (?_ : R (_, _, _, _, _, _))⟩⟩
    iterate 2 refine hR (?_ : R (_, _, _, _, _, _))
    refine hR (c_obj hK0 (zcall_i 0 0 (Nat.le_of_ble_eq_true rfl) (Nat.le_of_ble_eq_true rfl) (x_dropR _ _ _ _ _ _ _ _ _ _ _ _ _ _ _ _ _ _ _ _ _ _ _ _ _ _ hK0 hK2 (by omega) (by omega) _ fun y26_10 T'_11 w12 gg13 hC14 hC15 hp16 => ?_)))
    have fr17 := wfM_tr fr0 gg13 nX1
    have hC18 := (gg13.2 20 (by (try dsimp only); decide)).trans hK1
    refine (?_ : R (_, _, [], w12, 0, 0))
    exact hR (zret_i rfl (Nat.le_refl _) rfl (h _ _ _ fr17 hC14 hC15 (Or.inr (Or.inl ⟨by omega, hp16⟩))))
  · refine hR (?_ : _ ∧ _)
    rw [zti (e := a1) (by omega) (by omega)]
    refine ⟨fun hx => by omega, fun _ => ⟨43, by rw [hl1]; rfl, (?_ : R (_, _, _, _, _, _))⟩⟩
    iterate 2 refine hR (?_ : R (_, _, _, _, _, _))
    refine hR (c_obj hK0 (zcall_i 0 0 (Nat.le_of_ble_eq_true rfl) (Nat.le_of_ble_eq_true rfl) (x_twiceR _ _ _ _ _ _ _ _ _ _ _ _ _ _ _ _ _ _ _ _ _ _ _ _ _ _ hK0 hK2 (by omega) (by omega) _ fun y26_19 T'_20 w21 gg22 hC23 hC24 hp25 => ?_)))
    have fr26 := wfM_tr fr0 gg22 nX1
    have hC27 := (gg22.2 20 (by (try dsimp only); decide)).trans hK1
    refine (?_ : R (_, _, [], w21, 0, 0))
    exact hR (zret_i rfl (Nat.le_refl _) rfl (h _ _ _ fr26 hC23 hC24 (Or.inr (Or.inr (Or.inl ⟨by omega, hp25⟩)))))
  · refine hR (?_ : _ ∧ _)
    rw [zti (e := a1) (by omega) (by omega)]
    refine ⟨fun hx => by omega, fun _ => ⟨49, by rw [hl1]; rfl, (?_ : R (_, _, _, _, _, _))⟩⟩
    iterate 2 refine hR (?_ : R (_, _, _, _, _, _))
    refine hR (c_get hK0 rfl ?_)
    refine hR (j_ge (by omega) (by omega) (fun hc28 => ?_) (fun hc28 => ?_))
    · skip
      exact hR (zret_i rfl (Nat.le_refl _) rfl (h _ _ _ fr0 hK0 hK2 (Or.inr (Or.inr (Or.inr (Or.inl ⟨by omega, Or.inl ⟨by omega, rfl, rfl⟩⟩))))))
    iterate 3 refine hR (?_ : R (_, _, _, _, _, _))
    refine hR (t_sub ?_)
    refine hR (?_ : R (_, _, _, _, _, _))
    refine hR (c_obj hK0 (zcall_i 0 0 (Nat.le_of_ble_eq_true rfl) (Nat.le_of_ble_eq_true rfl) (x_swapR _ _ _ _ _ _ _ _ _ _ _ _ _ _ _ _ _ _ _ _ _ _ _ _ _ _ _ hK0 hK2 (by omega) (by omega) _ fun T'_29 w30 gg31 hC32 hp33 => ?_)))
    have fr34 := wfM_tr fr0 gg31 nX0
    have hC35 := (gg31.2 14 (by (try dsimp only); decide)).trans hK0
    have hC36 := (gg31.2 20 (by (try dsimp only); decide)).trans hK1
    refine (?_ : R (_, _, [], w30, 0, 0))
    exact hR (zret_i rfl (Nat.le_refl _) rfl (h _ _ _ fr34 hC35 hC32 (Or.inr (Or.inr (Or.inr (Or.inl ⟨by omega, Or.inr ⟨by omega, rfl, hp33⟩⟩))))))
  · refine hR (?_ : _ ∧ _)
    rw [zti (e := a1) (by omega) (by omega)]
    refine ⟨fun _ => (?_ : R (_, _, _, _, _, _)), fun hx => by omega⟩
    iterate 3 refine hR (?_ : R (_, _, _, _, _, _))
    refine hR (c_get hK0 rfl ?_)
    refine hR (?_ : R (_, _, _, _, _, _))
    refine hR (t_sub ?_)
    refine hR (?_ : R (_, _, _, _, _, _))
    have lp77 : ∀ (N : Nat) (ii : Int) (jj : Int) (T2 : Nat → Int32) (w_77 : zW), (wfM (fun j => j ≠ 14 ∧ j ≠ 25) w w_77) → (zix w_77 14 = some (.inr (11, [.int (Int32.ofInt f0), .ref 15, .ref 16, .ref 17, .ref 18, .ref 19, .ref 20, .ref 21, .ref 22, .int (Int32.ofInt f9), .int (Int32.ofInt f10), .int (Int32.ofInt f11), .int (Int32.ofInt f12), .int (Int32.ofInt f13), .long x14, .int (Int32.ofInt f15), .int (Int32.ofInt f16), .int (Int32.ofInt f17), .ref 23, .ref 24, .int (Int32.ofInt f20), .int (Int32.ofInt f21), .int (Int32.ofInt f22), .int (Int32.ofInt f23), .ref 25, .ref 26, .int (Int32.ofInt f26), .ref 27, .int (Int32.ofInt f28), .ref 28, .ref 29, .int (Int32.ofInt f31), .int (Int32.ofInt f32), .int (Int32.ofInt f33), .ref 30, .ref 31, .ref 32, .ref 33, .int (Int32.ofInt f38), .ref 34, .ref 35, .int (Int32.ofInt f41), .ref 36, .ref 37, .int (Int32.ofInt f44), .ref 38, .ref 39, .ref 40, .ref 41, .ref 42, .ref 43, .ref 44]))) → (zix w_77 20 = some (.inl (1, 408, .inl g20))) → (zix w_77 25 = some (.inl (1, 7, .inl T2))) → (0 ≤ ii ∧ ii ≤ 6) → (-1 ≤ jj ∧ jj ≤ 5) → (∀ j : Int, 0 ≤ j → tBy T2 j = if (j < ii ∨ jj < j) ∧ j < f26 then tBy g25 (f26 - 1 - j) else tBy g25 j) → (ii + jj = f26 - 1 ∧ ii ≤ jj + 1) → (jj - ii + 8 < N) → R (77, [some (.ref 14), some (.int (Int32.ofInt a1)), some (.int (Int32.ofInt a2)), some (.int (Int32.ofInt ii)), some (.int (Int32.ofInt jj))], [], w_77, 0, 0) := by
      intro N
      induction N with
      | zero => intros; omega
      | succ N ih77 =>
        intro ii jj T2 w_77 fr_77 hC14_77 hC20_77 hC25_77 hf0_77 hf1_77 hp0_77 hp1_77 hN77
        iterate 2 refine hR (?_ : R (_, _, _, _, _, _))
        refine hR (j_ge (by omega) (by omega) (fun hc37 => ?_) (fun hc37 => ?_))
        · skip
          exact hR (zret_i rfl (Nat.le_refl _) rfl (h _ _ _ fr_77 hC14_77 hC25_77 (Or.inr (Or.inr (Or.inr (Or.inr ⟨by omega, rfl, fun j h0 => by rw [hp0_77 j h0]; by_cases c1 : (j < ii ∨ jj < j) ∧ j < f26; (· rw [if_pos c1, if_pos c1.2]); rw [if_neg c1]; by_cases c2 : j < f26; (· rw [if_pos c2, show f26 - 1 - j = j by omega]); rw [if_neg c2]⟩))))))
        have e1 := hp0_77 ii (by omega)
        have e2 := hp0_77 jj (by omega)
        rw [if_neg (by omega)] at e1 e2
        iterate 3 refine hR (?_ : R (_, _, _, _, _, _))
        refine hR (c_obj hC14_77 (zcall_i 0 0 (Nat.le_of_ble_eq_true rfl) (Nat.le_of_ble_eq_true rfl) (x_swapR _ _ _ _ _ _ _ _ _ _ _ _ _ _ _ _ _ _ _ _ _ _ _ _ _ _ _ hC14_77 hC25_77 (by omega) (by omega) _ fun T'_38 w39 gg40 hC41 hp42 => ?_)))
        have fr43 := wfM_tr fr_77 gg40 nX0
        have hC44 := (gg40.2 14 (by (try dsimp only); decide)).trans hC14_77
        have hC45 := (gg40.2 20 (by (try dsimp only); decide)).trans hC20_77
        refine (?_ : R (_, _, [], w39, 0, 0))
        refine hR (t_inc ?_)
        refine hR (t_inc ?_)
        refine hR (?_ : R (_, _, _, _, _, _))
        exact ih77 _ _ _ _ fr43 hC44 hC45 hC41 (by omega) (by omega) (fun j h0 => by rw [hp42 j h0]; by_cases c1 : j = jj; (· rw [if_pos c1, if_pos (by omega), show f26 - 1 - j = ii by omega]; exact e1); rw [if_neg c1]; by_cases c2 : j = ii; (· rw [if_pos c2, if_pos (by omega), show f26 - 1 - j = jj by omega]; exact e2); rw [if_neg c2, hp0_77 j h0]; by_cases c3 : (j < ii ∨ jj < j) ∧ j < f26; (· rw [if_pos c3, if_pos (by omega)]); rw [if_neg c3, if_neg (by omega)]) (by omega) (by omega)
    exact lp77 400000000 _ _ _ _ fr0 hK0 hK1 hK2 (by omega) (by omega) (fun j h0 => (if_neg (by omega)).symm) (by omega) (by omega)
theorem x_readByR (w : zW) (d : Nat) (a1 a2 : Int) (f0 f9 f10 f11 f12 f13 f15 f16 f17 f20 f21 f22 f23 f26 f28 f31 f32 f33 f38 f41 f44 : Int) (x14 : Int64) (g20 g25 : Nat → Int32) (hK0 : zix w 14 = some (.inr (11, [.int (Int32.ofInt f0), .ref 15, .ref 16, .ref 17, .ref 18, .ref 19, .ref 20, .ref 21, .ref 22, .int (Int32.ofInt f9), .int (Int32.ofInt f10), .int (Int32.ofInt f11), .int (Int32.ofInt f12), .int (Int32.ofInt f13), .long x14, .int (Int32.ofInt f15), .int (Int32.ofInt f16), .int (Int32.ofInt f17), .ref 23, .ref 24, .int (Int32.ofInt f20), .int (Int32.ofInt f21), .int (Int32.ofInt f22), .int (Int32.ofInt f23), .ref 25, .ref 26, .int (Int32.ofInt f26), .ref 27, .int (Int32.ofInt f28), .ref 28, .ref 29, .int (Int32.ofInt f31), .int (Int32.ofInt f32), .int (Int32.ofInt f33), .ref 30, .ref 31, .ref 32, .ref 33, .int (Int32.ofInt f38), .ref 34, .ref 35, .int (Int32.ofInt f41), .ref 36, .ref 37, .int (Int32.ofInt f44), .ref 38, .ref 39, .ref 40, .ref 41, .ref 42, .ref 43, .ref 44]))) (hK1 : zix w 20 = some (.inl (1, 408, .inl g20))) (hK2 : zix w 25 = some (.inl (1, 7, .inl g25))) (hr0 : 0 ≤ a1 ∧ a1 ≤ 5460) (hr1 : bkOK g20) (hr2 : 0 ≤ f20 ∧ f20 ≤ 1) (hr3 : 0 ≤ a2 ∧ a2 ≤ 4) (Q : zQ) (h : ∀ (v : Int) (y26 : Int) (T' : Nat → Int32) (w' : zW), wfM (fun j => j ≠ 14 ∧ j ≠ 25) w w' → zix w' 14 = some (.inr (11, [.int (Int32.ofInt f0), .ref 15, .ref 16, .ref 17, .ref 18, .ref 19, .ref 20, .ref 21, .ref 22, .int (Int32.ofInt f9), .int (Int32.ofInt f10), .int (Int32.ofInt f11), .int (Int32.ofInt f12), .int (Int32.ofInt f13), .long x14, .int (Int32.ofInt f15), .int (Int32.ofInt f16), .int (Int32.ofInt f17), .ref 23, .ref 24, .int (Int32.ofInt f20), .int (Int32.ofInt f21), .int (Int32.ofInt f22), .int (Int32.ofInt f23), .ref 25, .ref 26, .int (Int32.ofInt y26), .ref 27, .int (Int32.ofInt f28), .ref 28, .ref 29, .int (Int32.ofInt f31), .int (Int32.ofInt f32), .int (Int32.ofInt f33), .ref 30, .ref 31, .ref 32, .ref 33, .int (Int32.ofInt f38), .ref 34, .ref 35, .int (Int32.ofInt f41), .ref 36, .ref 37, .int (Int32.ofInt f44), .ref 38, .ref 39, .ref 40, .ref 41, .ref 42, .ref 43, .ref 44])) → zix w' 25 = some (.inl (1, 7, .inl T')) → (v = rBY g20 (51 * f20) a2 a1) → Q (some (.int (Int32.ofInt v))) w') : zCl zTab (d + 4) iX12_readBy [.ref 14, .int (Int32.ofInt a1), .int (Int32.ofInt a2)] w 0 0 Q := by
  refine zCl_i (M := kX12_readBy) rfl (Nat.le_of_ble_eq_true rfl) fun R hR => ?_
  have fr0 : wfM (fun j => j ≠ 14 ∧ j ≠ 25) w w := wfM_rf _ w
  have hm := rb_m hr1 hr2.1 hr2.2 hr3.1 hr3.2
  have h6 := tLen_le a1.toNat
  have nX0 : FX (∀ j : Nat, (j ≠ 14 ∧ j ≠ 25) → (j ≠ 25)) := fun j hj => by omega
  have nX1 : FX (∀ j : Nat, (j ≠ 14 ∧ j ≠ 25) → j ≠ 14) := fun j hj => by omega
  have nX2 : FX (∀ j : Nat, (j ≠ 14 ∧ j ≠ 25) → (j ≠ 14 ∧ j ≠ 25)) := fun j hj => by omega
  iterate 2 refine hR (?_ : R (_, _, _, _, _, _))
  refine hR (c_get hK0 rfl ?_)
  refine hR (zcall_i 0 0 (Nat.le_of_ble_eq_true rfl) (Nat.le_of_ble_eq_true rfl) (x_spellR _ _ _ _ _ hK2 (by omega) _ fun T'_1 w2 gg3 hC4 hp5 => ?_))
  have fr6 := wfM_tr fr0 gg3 nX0
  have hC7 := (gg3.2 14 (by (try dsimp only); decide)).trans hK0
  have hC8 := (gg3.2 20 (by (try dsimp only); decide)).trans hK1
  refine (?_ : R (_, _, [], w2, 0, 0))
  iterate 2 refine hR (?_ : R (_, _, _, _, _, _))
  refine hR (zcall_i 0 0 (Nat.le_of_ble_eq_true rfl) (Nat.le_of_ble_eq_true rfl) (m_sizeOf _ a1 _ (by omega) _ fun v9 hp10 hhp10 => ?_))
  refine (?_ : R (_, _, .int (Int32.ofInt v9) :: .ref 14 :: [], w2, 0, 0))
  refine hR (c_put hC7 rfl rfl fun w11 ff11 hC11 => ?_)
  have fr12 := wfM_st fr6 ff11 nX1
  have hC13 := (ff11.2 20 (by (try dsimp only); decide)).trans hC8
  have hC14 := (ff11.2 25 (by (try dsimp only); decide)).trans hC4
  replace hC11 : zix w11 14 = some (.inr (11, [.int (Int32.ofInt f0), .ref 15, .ref 16, .ref 17, .ref 18, .ref 19, .ref 20, .ref 21, .ref 22, .int (Int32.ofInt f9), .int (Int32.ofInt f10), .int (Int32.ofInt f11), .int (Int32.ofInt f12), .int (Int32.ofInt f13), .long x14, .int (Int32.ofInt f15), .int (Int32.ofInt f16), .int (Int32.ofInt f17), .ref 23, .ref 24, .int (Int32.ofInt f20), .int (Int32.ofInt f21), .int (Int32.ofInt f22), .int (Int32.ofInt f23), .ref 25, .ref 26, .int (Int32.ofInt v9), .ref 27, .int (Int32.ofInt f28), .ref 28, .ref 29, .int (Int32.ofInt f31), .int (Int32.ofInt f32), .int (Int32.ofInt f33), .ref 30, .ref 31, .ref 32, .ref 33, .int (Int32.ofInt f38), .ref 34, .ref 35, .int (Int32.ofInt f41), .ref 36, .ref 37, .int (Int32.ofInt f44), .ref 38, .ref 39, .ref 40, .ref 41, .ref 42, .ref 43, .ref 44])) := hC11
  iterate 2 refine hR (?_ : R (_, _, _, _, _, _))
  have lp18 : ∀ (N : Nat) (kk : Int) (o4_18 : Option Value) (T2 : Nat → Int32) (ll : Int) (w_18 : zW), (zc2 o4_18 = false) → (wfM (fun j => j ≠ 14 ∧ j ≠ 25) w w_18) → (zix w_18 14 = some (.inr (11, [.int (Int32.ofInt f0), .ref 15, .ref 16, .ref 17, .ref 18, .ref 19, .ref 20, .ref 21, .ref 22, .int (Int32.ofInt f9), .int (Int32.ofInt f10), .int (Int32.ofInt f11), .int (Int32.ofInt f12), .int (Int32.ofInt f13), .long x14, .int (Int32.ofInt f15), .int (Int32.ofInt f16), .int (Int32.ofInt f17), .ref 23, .ref 24, .int (Int32.ofInt f20), .int (Int32.ofInt f21), .int (Int32.ofInt f22), .int (Int32.ofInt f23), .ref 25, .ref 26, .int (Int32.ofInt ll), .ref 27, .int (Int32.ofInt f28), .ref 28, .ref 29, .int (Int32.ofInt f31), .int (Int32.ofInt f32), .int (Int32.ofInt f33), .ref 30, .ref 31, .ref 32, .ref 33, .int (Int32.ofInt f38), .ref 34, .ref 35, .int (Int32.ofInt f41), .ref 36, .ref 37, .int (Int32.ofInt f44), .ref 38, .ref 39, .ref 40, .ref 41, .ref 42, .ref 43, .ref 44]))) → (zix w_18 20 = some (.inl (1, 408, .inl g20))) → (zix w_18 25 = some (.inl (1, 7, .inl T2))) → (0 ≤ kk ∧ kk ≤ 4) → (WD T2 (rRd g20 (51 * f20) a2 a1 kk).1 (rRd g20 (51 * f20) a2 a1 kk).2) → (ll = ((rRd g20 (51 * f20) a2 a1 kk).2 : Int)) → (kk ≤ tBy g20 (51 * f20 + (6 + a2))) → (5 - kk < N) → R (18, [some (.ref 14), some (.int (Int32.ofInt a1)), some (.int (Int32.ofInt a2)), some (.int (Int32.ofInt kk)), o4_18], [], w_18, 0, 0) := by
    intro N
    induction N with
    | zero => intros; omega
    | succ N ih18 =>
      intro kk o4_18 T2 ll w_18 hzo4_18 fr_18 hC14_18 hC20_18 hC25_18 hf0_18 hp0_18 hp1_18 hp2_18 hN18
      iterate 2 refine hR (?_ : R (_, _, _, _, _, _))
      refine hR (t_c 6 (by decide) ?_)
      refine hR (?_ : R (_, _, _, _, _, _))
      refine hR (t_add ?_)
      refine hR (c_obj hC14_18 (zcall_i 0 0 (Nat.le_of_ble_eq_true rfl) (Nat.le_of_ble_eq_true rfl) (x_ofR _ _ _ _ _ _ _ _ _ _ _ _ _ _ _ _ _ _ _ _ _ _ _ _ _ _ hC14_18 hC20_18 (by omega) (by omega) _ fun v15 hp16 => ?_)))
      subst hp16
      refine (?_ : R (_, _, .int (Int32.ofInt (tBy g20 (51 * f20 + (6 + a2)))) :: .int (Int32.ofInt kk) :: [], w_18, 0, 0))
      refine hR (j_ge (by omega) (by omega) (fun hc17 => ?_) (fun hc17 => ?_))
      · skip
        iterate 2 refine hR (?_ : R (_, _, _, _, _, _))
        refine hR (c_get hC14_18 rfl ?_)
        refine hR (c_obj hC14_18 (zcall_i 0 0 (Nat.le_of_ble_eq_true rfl) (Nat.le_of_ble_eq_true rfl) (x_numberOfR _ _ _ _ _ _ _ _ _ _ _ _ _ _ _ _ _ _ _ _ _ _ _ _ _ _ _ _ hC14_18 hC25_18 hp1_18 hp0_18 _ fun v18 hp19 => ?_)))
        refine (?_ : R (_, _, .int (Int32.ofInt v18) :: [], w_18, 0, 0))
        exact hR (zret_i rfl (Nat.le_refl _) trivial (h _ _ _ _ fr_18 hC14_18 hC25_18 (rd_v (kk := kk) hr1 hr2.1 hr2.2 hr3.1 hr3.2 (by omega) hp19)))
      have hf := rb_f (kk := kk) hr1 hr2.1 hr2.2 hr3.1 hr3.2 (by omega) (by omega)
      have hv6 := hp0_18.1.1
      refine hR (t_c 11 (by decide) ?_)
      refine hR (t_c 8 (by decide) ?_)
      refine hR (?_ : R (_, _, _, _, _, _))
      refine hR (t_mul ?_)
      refine hR (t_add ?_)
      iterate 2 refine hR (?_ : R (_, _, _, _, _, _))
      refine hR (t_mul ?_)
      refine hR (t_add ?_)
      iterate 4 refine hR (?_ : R (_, _, _, _, _, _))
      refine hR (c_obj hC14_18 (zcall_i 0 0 (Nat.le_of_ble_eq_true rfl) (Nat.le_of_ble_eq_true rfl) (x_ofR _ _ _ _ _ _ _ _ _ _ _ _ _ _ _ _ _ _ _ _ _ _ _ _ _ _ hC14_18 hC20_18 (by omega) (by omega) _ fun v20 hp21 => ?_)))
      subst hp21
      refine (?_ : R (_, _, .int (Int32.ofInt (tBy g20 (51 * f20 + ((11 + (8 * a2)) + (2 * kk))))) :: .ref 14 :: [], w_18, 0, 0))
      iterate 3 refine hR (?_ : R (_, _, _, _, _, _))
      refine hR (t_add ?_)
      refine hR (c_obj hC14_18 (zcall_i 0 0 (Nat.le_of_ble_eq_true rfl) (Nat.le_of_ble_eq_true rfl) (x_ofR _ _ _ _ _ _ _ _ _ _ _ _ _ _ _ _ _ _ _ _ _ _ _ _ _ _ hC14_18 hC20_18 (by omega) (by omega) _ fun v22 hp23 => ?_)))
      subst hp23
      refine (?_ : R (_, _, .int (Int32.ofInt (tBy g20 (51 * f20 + (((11 + (8 * a2)) + (2 * kk)) + 1)))) :: .int (Int32.ofInt (tBy g20 (51 * f20 + ((11 + (8 * a2)) + (2 * kk))))) :: .ref 14 :: [], w_18, 0, 0))
      refine hR (c_obj hC14_18 (zcall_i 0 0 (Nat.le_of_ble_eq_true rfl) (Nat.le_of_ble_eq_true rfl) (x_stepR _ _ _ _ _ _ _ _ _ _ _ _ _ _ _ _ _ _ _ _ _ _ _ _ _ _ _ _ hC14_18 hC20_18 hC25_18 (by omega) (by omega) (by omega) (by omega) _ fun y26_24 T'_25 w26 gg27 hC28 hC29 hp30 => ?_)))
      have fr31 := wfM_tr fr_18 gg27 nX2
      have hC32 := (gg27.2 20 (by (try dsimp only); decide)).trans hC20_18
      refine (?_ : R (_, _, [], w26, 0, 0))
      have hrd := rd_st hr1 hr2.1 hr2.2 hr3.1 hr3.2 (by omega) (by omega) hp0_18 hp1_18 hp30
      have hv7 := hrd.2.1.1
      refine hR (t_inc ?_)
      refine hR (?_ : R (_, _, _, _, _, _))
      exact ih18 _ _ _ _ _ (by rfl) fr31 hC28 hC32 hC29 (by omega) hrd.2 hrd.1 (by omega) (by omega)
  exact lp18 400000000 _ _ _ _ _ (by rfl) fr12 hC11 hC13 hC14 (by omega) ⟨vB_tB (by omega), fun k hk => (hp5 (k : Int) (by omega) (by have hk2 : k < tLen a1.toNat := hk; omega)).trans (by rw [Int.toNat_natCast]; rfl)⟩ (by first | rfl | (show _ = ((tLen a1.toNat : Nat) : Int); omega)) (by omega) (by omega)
