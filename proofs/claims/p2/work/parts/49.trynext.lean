theorem TJ_eq {w w1 : zW} {p : Nat} {fo op de : Int} {gO gP gW : Nat → Int32} (e0 : zix w1 p = zix w p) (e5 : zix w1 (p + 5) = zix w (p + 5)) (e6 : zix w1 (p + 6) = zix w (p + 6)) (e7 : zix w1 (p + 7) = zix w (p + 7)) (h : TJ w p fo op de gO gP gW) : TJ w1 p fo op de gO gP gW := by
  obtain ⟨⟨ci, la, a, b⟩, c, d, e, f, g⟩ := h
  exact ⟨⟨ci, la, a, e0.trans b⟩, c, e7.trans d, e6.trans e, e5.trans f, g⟩
theorem c_tryNext {ρ : Nat → Nat} {w : zW} (d p rd : Nat) (a1 : Int) (fo op de : Int) (gO gP gW gT : Nat → Int32) (hw : CI ρ w) (hρp : ρ p = 80) (hρrd : ρ rd = 50) (hr0 : 0 ≤ a1 ∧ a1 ≤ 5460) (hr1 : TJ w p fo op de gO gP gW) (hr2 : zix w (p + 9) = some (.inl (1, 5461, .inl gT))) (hr3 : (gT a1.toNat).toInt ≤ 4) (Q : zQ) (h : ∀ (w' : zW), CI ρ w' → wfR [51, 80, 85, 86, 87, 88, 89, 90] ρ w w' → TK w' p → Q none w') : zCl zTab (d + 5) iX5_tryNext [.ref p, .ref rd, .int (Int32.ofInt a1)] w 0 0 Q := by
  obtain ⟨_, _, _, _, _, kO, e81, _, _, _, _, _, e82, e83, e84, e85, e86, e87, e88, e89, e90⟩ := CI_o80 hw hρp
  obtain ⟨rb, z2, z3, kR, _⟩ := CI_o50 hw hρrd
  obtain ⟨g, k, bT⟩ := CI_ar hw (q := p + 9) (by rw [e89]; rfl)
  rw [hr2] at k
  cases k
  have hb := bT a1.toNat
  refine zCl_i (M := kX5_tryNext) rfl (Nat.le_of_ble_eq_true rfl) fun R hR => ?_
  iterate 2 refine hR (?_ : R (_, _, _, _, _, _))
  refine hR (c_get kO rfl ?_)
  refine hR (?_ : R (_, _, _, _, _, _))
  refine hR (c_aldE hr2 (by omega) (by omega) (by omega) fun v ev hv => ?_)
  refine hR (?_ : R (_, _, _, _, _, _))
  refine hR (c_obj kR (zcall_i 0 0 (Nat.le_of_ble_eq_true rfl) (Nat.le_of_ble_eq_true rfl) (c_after _ rd v a1 hw hρrd (by omega) hr0 _ fun m w1 hw1 g1 hm => ?_)))
  refine (?_ : R (_, _, .int (Int32.ofInt m) :: [], w1, 0, 0))
  have fr1 := wfR_tr (wfR_rf [51, 80, 85, 86, 87, 88, 89, 90] ρ w) g1 (by decide)
  have o1 := (g1.2 p (by rw [hρp]; decide)).trans kO
  have t1 := (g1.2 (p + 9) (by rw [e89]; decide)).trans hr2
  have J1 := TJ_eq (g1.2 p (by rw [hρp]; decide)) (g1.2 (p + 5) (by rw [e85]; decide)) (g1.2 (p + 6) (by rw [e86]; decide)) (g1.2 (p + 7) (by rw [e87]; decide)) hr1
  iterate 2 refine hR (?_ : R (_, _, _, _, _, _))
  refine hR (c_get o1 rfl ?_)
  iterate 2 refine hR (?_ : R (_, _, _, _, _, _))
  refine hR (c_aldE t1 (by omega) (by omega) (by omega) fun v2 ev2 hv2 => ?_)
  refine hR (?_ : R (_, _, _, _, _, _))
  refine hR (t_add ?_)
  refine hR (c_ast hw1 (by rw [e89]; rfl) ⟨by rw [e89]; decide, by rw [e89]; decide⟩ (by omega) (by omega) (by omega) (by omega) (by omega) (by omega) (by omega) fun w2 hw2 f2 => ?_)
  have fr2 := wfR_st fr1 f2 (by rw [e89]; decide)
  have o2 := (f2.2 p (by omega)).trans o1
  have J2 := TJ_eq (f2.2 p (by omega)) (f2.2 (p + 5) (by omega)) (f2.2 (p + 6) (by omega)) (f2.2 (p + 7) (by omega)) J1
  have kOr := J2.2.2.1
  refine hR (?_ : R (_, _, _, _, _, _))
  refine hR (c_get o2 rfl ?_)
  refine hR (?_ : R (_, _, _, _, _, _))
  refine hR (c_aldE kOr (by omega) (by omega) (by omega) fun v3 ev3 hv3 => ?_)
  refine hR (?_ : R (_, _, _, _, _, _))
  have out : ∀ w3, CI ρ w3 → wfR [51, 80, 85, 86, 87, 88, 89, 90] ρ w w3 → TK w3 p → R (70, [some (.ref p), some (.ref rd), some (.int (Int32.ofInt a1)), some (.int (Int32.ofInt m))], [], w3, 0, 0) := fun w3 x1 x2 x3 => hR (zret_i rfl (Nat.le_refl _) rfl (h w3 x1 x2 x3))
  refine hR (j_ne (by omega) (by omega) (fun hc => ?_) (fun hc => ?_))
  · refine hR (?_ : R (_, _, _, _, _, _))
    refine hR (c_get o2 rfl ?_)
    refine hR (?_ : R (_, _, _, _, _, _))
    refine hR (c_ald hw2 (by rw [e90]; rfl) (by omega) (by omega) (by omega) fun v4 l4 u4 => ?_)
    refine hR (j_any (out w2 hw2 fr2 ⟨_, _, _, _, _, _, J2⟩) ?_)
    refine hR (?_ : R (_, _, _, _, _, _))
    refine hR (c_get o2 rfl ?_)
    iterate 2 refine hR (?_ : R (_, _, _, _, _, _))
    refine hR (c_get o2 rfl ?_)
    refine hR (?_ : R (_, _, _, _, _, _))
    refine hR (c_ald hw2 (by rw [e88]; rfl) (by omega) (by omega) (by omega) fun v5 l5 u5 => ?_)
    refine hR (?_ : R (_, _, _, _, _, _))
    refine hR (c_get o2 rfl ?_)
    refine hR (?_ : R (_, _, _, _, _, _))
    refine hR (c_ald hw2 (by rw [e87]; rfl) (by omega) (by omega) (by omega) fun v6 l6 u6 => ?_)
    refine hR (t_o fun v7 r7 => ?_)
    refine hR (c_astx hw2 (by rw [e88]; rfl) ⟨by rw [e88]; decide, by rw [e88]; decide⟩ (by omega) (by omega) (by omega) fun w3 hw3 f3 => ?_)
    exact out w3 hw3 (wfR_st fr2 f3 (by rw [e88]; decide)) ⟨_, _, _, _, _, _, TJ_eq (f3.2 p (by omega)) (f3.2 (p + 5) (by omega)) (f3.2 (p + 6) (by omega)) (f3.2 (p + 7) (by omega)) J2⟩
  · iterate 2 refine hR (?_ : R (_, _, _, _, _, _))
    refine hR (c_obj o2 (zcall_i 0 0 (Nat.le_of_ble_eq_true rfl) (Nat.le_of_ble_eq_true rfl) (c_enter _ p m fo op de gO gP gW hw2 hρp hm J2 (by omega) _ fun w3 hw3 g3 J3 => ?_)))
    refine hR (?_ : R (_, _, _, _, _, _))
    exact out w3 hw3 (wfR_tr fr2 g3 (by decide)) ⟨_, _, _, _, _, _, J3⟩
