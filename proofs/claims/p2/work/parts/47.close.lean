theorem c_closeCircle {ρ : Nat → Nat} {w : zW} (d p : Nat) (a1 : Int) (ci la fo op de : Int) (gP : Nat → Int32) (hw : CI ρ w) (hρp : ρ p = 80) (hr0 : 0 ≤ a1 ∧ a1 ≤ 5460) (hr1 : zix w p = some (rgO p ci la fo op de)) (hr2 : zix w (p + 6) = some (.inl (1, 5461, .inl gP))) (hr3 : 1 ≤ op ∧ op ≤ 5461) (hr4 : (-2147483648 ≤ ci ∧ ci ≤ 2147483647) ∧ (-2147483648 ≤ la ∧ la ≤ 2147483647)) (hr5 : (-2147483648 ≤ fo ∧ fo ≤ 2147483647) ∧ (-2147483648 ≤ de ∧ de ≤ 2147483647)) (Q : zQ) (h : ∀ (w' : zW) (bo ci' la' : Int), CI ρ w' → wfR [80, 90] ρ w w' → (0 ≤ bo ∧ bo ≤ op) → (∀ j : Nat, (j : Int) < op → gP j = Int32.ofInt a1 → (j : Int) ≤ bo) → ((-2147483648 ≤ ci' ∧ ci' ≤ 2147483647) ∧ (-2147483648 ≤ la' ∧ la' ≤ 2147483647)) → zix w' p = some (rgO p ci' la' fo bo de) → Q none w') : zCl zTab (d + 2) iX5_closeCircle [.ref p, .int (Int32.ofInt a1)] w 0 0 Q := by
  unfold rgO at hr1
  obtain ⟨_, _, _, _, _, _, e81, _, _, _, _, _, e82, e83, e84, e85, e86, e87, e88, e89, e90⟩ := CI_o80 hw hρp
  obtain ⟨g, k, bP⟩ := CI_ar hw (q := p + 6) (by rw [e86]; rfl)
  rw [hr2] at k
  cases k
  refine zCl_i (M := kX5_closeCircle) rfl (Nat.le_of_ble_eq_true rfl) fun R hR => ?_
  have up : ∀ bo : Int, (0 ≤ bo ∧ bo < op) → (∀ j : Nat, (j : Int) < op → gP j = Int32.ofInt a1 → (j : Int) ≤ bo) → R (27, [some (.ref p), some (.int (Int32.ofInt a1)), some (.int (Int32.ofInt bo)), none, none], [], w, 0, 0) := by
    intro bo hb hj
    have lp : ∀ (N : Nat) (i : Int) (w1 : zW), (bo ≤ i ∧ i ≤ op) → CI ρ w1 → wfR [80, 90] ρ w w1 → zix w1 p = some (.inr (4, [.ref (p + 1), .int (Int32.ofInt ci), .int (Int32.ofInt la), .int (Int32.ofInt fo), .int (Int32.ofInt op), .int (Int32.ofInt de), .ref (p + 2), .ref (p + 3), .ref (p + 4), .ref (p + 5), .ref (p + 6), .ref (p + 7), .ref (p + 8), .ref (p + 9), .ref (p + 10)])) → op - i < N → R (37, [some (.ref p), some (.int (Int32.ofInt a1)), some (.int (Int32.ofInt bo)), some (.int (Int32.ofInt (op - bo))), some (.int (Int32.ofInt i))], [], w1, 0, 0) := by
      intro N
      induction N with
      | zero => intros; omega
      | succ N ih =>
        intro i w1 hi hw1 f1 o1 hN
        iterate 2 refine hR (?_ : R (_, _, _, _, _, _))
        refine hR (c_get o1 rfl ?_)
        refine hR (j_ge (by omega) (by omega) (fun hc => ?_) (fun hc => ?_))
        · iterate 2 refine hR (?_ : R (_, _, _, _, _, _))
          refine hR (c_put o1 rfl rfl fun w2 f2 o2 => ?_)
          have hw2 := CI_w80 hw1 hρp f2 o2 ⟨e81, ⟨by omega, by omega⟩, ⟨by omega, by omega⟩, ⟨by omega, by omega⟩, ⟨by omega, by omega⟩, ⟨by omega, by omega⟩, e82, e83, e84, e85, e86, e87, e88, e89, e90⟩
          iterate 2 refine hR (?_ : R (_, _, _, _, _, _))
          refine hR (c_get o2 rfl ?_)
          refine hR (?_ : R (_, _, _, _, _, _))
          refine hR (t_o fun v1 r1 => ?_)
          refine hR (c_put o2 rfl rfl fun w3 f3 o3 => ?_)
          have hw3 := CI_w80 hw2 hρp f3 o3 ⟨e81, ⟨by omega, by omega⟩, ⟨by omega, by omega⟩, ⟨by omega, by omega⟩, ⟨by omega, by omega⟩, ⟨by omega, by omega⟩, e82, e83, e84, e85, e86, e87, e88, e89, e90⟩
          iterate 2 refine hR (?_ : R (_, _, _, _, _, _))
          refine hR (c_get o3 rfl ?_)
          refine hR (?_ : R (_, _, _, _, _, _))
          refine hR (t_o fun v2 r2 => ?_)
          refine hR (c_put o3 rfl rfl fun w4 f4 o4 => ?_)
          have hw4 := CI_w80 hw3 hρp f4 o4 ⟨e81, ⟨by omega, by omega⟩, ⟨by omega, by omega⟩, ⟨by omega, by omega⟩, ⟨by omega, by omega⟩, ⟨by omega, by omega⟩, e82, e83, e84, e85, e86, e87, e88, e89, e90⟩
          exact hR (zret_i rfl (Nat.le_refl _) rfl (h w4 bo v1 v2 hw4 (wfR_st (wfR_st (wfR_st f1 f2 (by rw [hρp]; decide)) f3 (by rw [hρp]; decide)) f4 (by rw [hρp]; decide)) (by omega) hj ⟨r1, r2⟩ o4))
        · refine hR (?_ : R (_, _, _, _, _, _))
          refine hR (c_get o1 rfl ?_)
          refine hR (?_ : R (_, _, _, _, _, _))
          refine hR (c_get o1 rfl ?_)
          refine hR (?_ : R (_, _, _, _, _, _))
          refine hR (c_ald hw1 (by rw [e86]; rfl) (by omega) (by omega) (by omega) fun v l u => ?_)
          refine hR (?_ : R (_, _, _, _, _, _))
          refine hR (c_astx hw1 (by rw [e90]; rfl) ⟨by rw [e90]; decide, by rw [e90]; decide⟩ (by omega) (by omega) (by omega) fun w2 hw2 f2 => ?_)
          refine hR (t_inc ?_)
          refine hR (?_ : R (_, _, _, _, _, _))
          exact ih (i + 1) w2 (by omega) hw2 (wfR_st f1 f2 (by rw [e90]; decide)) ((f2.2 p (by omega)).trans o1) (by omega)
    refine hR (?_ : R (_, _, _, _, _, _))
    refine hR (c_get hr1 rfl ?_)
    refine hR (?_ : R (_, _, _, _, _, _))
    refine hR (t_sub ?_)
    iterate 3 refine hR (?_ : R (_, _, _, _, _, _))
    exact lp 10000 bo w (by omega) hw (wfR_rf _ _ _) hr1 (by omega)
  have down : ∀ (N : Nat) (bo : Int), (0 ≤ bo ∧ bo < op) → (∀ j : Nat, (j : Int) < op → gP j = Int32.ofInt a1 → (j : Int) ≤ bo) → bo < N → R (7, [some (.ref p), some (.int (Int32.ofInt a1)), some (.int (Int32.ofInt bo)), none, none], [], w, 0, 0) := by
    intro N
    induction N with
    | zero => intros; omega
    | succ N ih =>
      intro bo hb hj hN
      refine hR (?_ : R (_, _, _, _, _, _))
      refine hR (k_le (by omega) (fun _ => up bo hb hj) (fun hc => ?_))
      refine hR (?_ : R (_, _, _, _, _, _))
      refine hR (c_get hr1 rfl ?_)
      refine hR (?_ : R (_, _, _, _, _, _))
      refine hR (c_aldE hr2 (by omega) (by omega) (by omega) fun v e hv => ?_)
      refine hR (?_ : R (_, _, _, _, _, _))
      refine hR (j_eq (by omega) (by omega) (fun _ => up bo hb hj) (fun hn => ?_))
      refine hR (t_inc ?_)
      refine hR (?_ : R (_, _, _, _, _, _))
      refine ih (bo + -1) (by omega) (fun j j1 j2 => ?_) (by omega)
      have j3 := hj j j1 j2
      by_cases c : j = bo.toNat
      · subst c
        rw [j2, zti (by omega) (by omega)] at e
        exact absurd e hn
      · omega
  refine hR (?_ : R (_, _, _, _, _, _))
  refine hR (c_get hr1 rfl ?_)
  refine hR (?_ : R (_, _, _, _, _, _))
  refine hR (t_sub ?_)
  refine hR (?_ : R (_, _, _, _, _, _))
  exact down 10000 (op - 1) (by omega) (fun j j1 _ => by omega) (by omega)
