theorem c_findCircles {ρ : Nat → Nat} {w : zW} (d p rd : Nat) (hw : CI ρ w) (hρp : ρ p = 80) (hρrd : ρ rd = 50) (Q : zQ) (h : ∀ (w' : zW), CI ρ w' → wfR [51, 80, 85, 86, 87, 88, 89, 90] ρ w w' → Q none w') : zCl zTab (d + 7) iX5_findCircles [.ref p, .ref rd] w 0 0 Q := by
  obtain ⟨x1, x2, x3, x4, x5, kO, e81, r1, r2, r3, r4, r5, e82, e83, e84, e85, e86, e87, e88, e89, e90⟩ := CI_o80 hw hρp
  refine zCl_i (M := kX5_findCircles) rfl (Nat.le_of_ble_eq_true rfl) fun R hR => ?_
  have loop : ∀ (N : Nat) (t : Int) (w1 : zW), (0 ≤ t ∧ t ≤ 5461) → CI ρ w1 → wfR [51, 80, 85, 86, 87, 88, 89, 90] ρ w w1 → (∃ fo op gO gP gW, TJ0 w1 p fo op gO gP gW) → 5461 - t < N → R (38, [some (.ref p), some (.ref rd), some (.int (Int32.ofInt t))], [], w1, 0, 0) := by
    intro N
    induction N with
    | zero => intros; omega
    | succ N ih =>
      intro t w1 ht hw1 f1 hK hN
      have hK2 := hK
      obtain ⟨fo, op, gO, gP, gW, hJ⟩ := hK
      have hJ2 := hJ
      obtain ⟨⟨ci, la, de, _, o1⟩, _, kOr, _, _, _⟩ := hJ
      unfold rgO at o1
      refine hR (?_ : R (_, _, _, _, _, _))
      refine hR (t_c 5461 (by decide) ?_)
      refine hR (j_ge (by omega) (by omega) (fun _ => ?_) (fun hc => ?_))
      · exact hR (zret_i rfl (Nat.le_refl _) rfl (h w1 hw1 f1))
      refine hR (?_ : R (_, _, _, _, _, _))
      refine hR (c_get o1 rfl ?_)
      refine hR (?_ : R (_, _, _, _, _, _))
      refine hR (c_aldE kOr (by omega) (by omega) (by omega) fun v ev hv => ?_)
      refine hR (?_ : R (_, _, _, _, _, _))
      have again : ∀ w2, CI ρ w2 → wfR [51, 80, 85, 86, 87, 88, 89, 90] ρ w w2 → (∃ fo op gO gP gW, TJ0 w2 p fo op gO gP gW) → R (61, [some (.ref p), some (.ref rd), some (.int (Int32.ofInt t))], [], w2, 0, 0) := by
        intro w2 hw2 f2 k2
        refine hR (t_inc ?_)
        refine hR (?_ : R (_, _, _, _, _, _))
        exact ih (t + 1) w2 (by omega) hw2 f2 k2 (by omega)
      refine hR (j_ne (by omega) (by omega) (fun _ => again w1 hw1 f1 hK2) (fun hn => ?_))
      iterate 3 refine hR (?_ : R (_, _, _, _, _, _))
      refine hR (c_obj o1 (zcall_i 0 0 (Nat.le_of_ble_eq_true rfl) (Nat.le_of_ble_eq_true rfl) (c_findFrom _ p rd t fo op gO gP gW hw1 hρp hρrd (by omega) hJ2 (by omega) _ fun w2 hw2 g2 k2 => ?_)))
      refine again w2 hw2 (wfR_tr f1 g2 (by decide)) ?_
      obtain ⟨fo, op, de, gO, gP, gW, k3⟩ := k2
      exact ⟨_, _, _, _, _, TJ0_of k3⟩
  iterate 2 refine hR (?_ : R (_, _, _, _, _, _))
  refine hR (c_put kO rfl rfl fun w1 f1 o1 => ?_)
  have hw1 := CI_w80 hw hρp f1 o1 ⟨e81, ⟨by omega, by omega⟩, r2, r3, r4, r5, e82, e83, e84, e85, e86, e87, e88, e89, e90⟩
  iterate 2 refine hR (?_ : R (_, _, _, _, _, _))
  refine hR (c_put o1 rfl rfl fun w2 f2 o2 => ?_)
  have hw2 := CI_w80 hw1 hρp f2 o2 ⟨e81, ⟨by omega, by omega⟩, ⟨by omega, by omega⟩, r3, r4, r5, e82, e83, e84, e85, e86, e87, e88, e89, e90⟩
  iterate 2 refine hR (?_ : R (_, _, _, _, _, _))
  refine hR (c_put o2 rfl rfl fun w3 f3 o3 => ?_)
  have hw3 := CI_w80 hw2 hρp f3 o3 ⟨e81, ⟨by omega, by omega⟩, ⟨by omega, by omega⟩, ⟨by omega, by omega⟩, r4, r5, e82, e83, e84, e85, e86, e87, e88, e89, e90⟩
  iterate 2 refine hR (?_ : R (_, _, _, _, _, _))
  refine hR (c_put o3 rfl rfl fun w4 f4 o4 => ?_)
  have hw4 := CI_w80 hw3 hρp f4 o4 ⟨e81, ⟨by omega, by omega⟩, ⟨by omega, by omega⟩, ⟨by omega, by omega⟩, ⟨by omega, by omega⟩, r5, e82, e83, e84, e85, e86, e87, e88, e89, e90⟩
  refine hR (?_ : R (_, _, _, _, _, _))
  refine hR (c_get o4 rfl ?_)
  refine hR (?_ : R (_, _, _, _, _, _))
  refine hR (zcall_i 0 0 (Nat.le_of_ble_eq_true rfl) (Nat.le_of_ble_eq_true rfl) (c_fill _ (p + 7) 5461 (-1) (-2147483648) 2147483647 hw4 (by rw [e87]; rfl) ⟨by rw [e87]; decide, by rw [e87]; decide⟩ (by omega) (by omega) (by omega) _ fun w5 hw5 f5 hg5 => ?_))
  refine (?_ : R (_, _, [], w5, 0, 0))
  have o5 := (f5.2 p (by omega)).trans o4
  refine hR (?_ : R (_, _, _, _, _, _))
  refine hR (c_get o5 rfl ?_)
  refine hR (?_ : R (_, _, _, _, _, _))
  refine hR (zcall_i 0 0 (Nat.le_of_ble_eq_true rfl) (Nat.le_of_ble_eq_true rfl) (c_fill _ (p + 10) 5461 0 (-2147483648) 2147483647 hw5 (by rw [e90]; rfl) ⟨by rw [e90]; decide, by rw [e90]; decide⟩ (by omega) (by omega) (by omega) _ fun w6 hw6 f6 hg6 => ?_))
  refine (?_ : R (_, _, [], w6, 0, 0))
  have o6 := (f6.2 p (by omega)).trans o5
  have fr := wfR_st (wfR_st (wfR_st (wfR_st (wfR_st (wfR_st (wfR_rf [51, 80, 85, 86, 87, 88, 89, 90] ρ w) f1 (by rw [hρp]; decide)) f2 (by rw [hρp]; decide)) f3 (by rw [hρp]; decide)) f4 (by rw [hρp]; decide)) f5 (by rw [e87]; decide)) f6 (by rw [e90]; decide)
  obtain ⟨gO, kO6, _⟩ := CI_ar hw6 (q := p + 7) (by rw [e87]; rfl)
  obtain ⟨gP, kP6, _⟩ := CI_ar hw6 (q := p + 6) (by rw [e86]; rfl)
  obtain ⟨gW, kW6, _⟩ := CI_ar hw6 (q := p + 5) (by rw [e85]; rfl)
  iterate 2 refine hR (?_ : R (_, _, _, _, _, _))
  exact loop 10000 0 w6 (by omega) hw6 fr ⟨0, 0, gO, gP, gW, ⟨0, 0, x5, ⟨by omega, by omega⟩, o6⟩, by omega, kO6, kP6, kW6, by omega, by omega, by omega, ⟨fun _ => 0, fun i hi => by omega⟩, fun _ => 0, fun i j _ hj => by omega, fun i hi => by omega⟩ (by omega)
