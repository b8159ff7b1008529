def LE (w : zW) (p : Nat) (l : Int) : Prop := ∃ (x : Value) (fs : List Value), zix w p = some (.inr (7, x :: .int (Int32.ofInt l) :: fs)) ∧ 0 ≤ l ∧ l ≤ 600
theorem wk_new {w w1 : zW} (f1 : wfr (w.length + 2) (w ++ [.inr (8, [.int (Int32.ofInt 0), .ref (w.length + 1), .ref (w.length + 2), .ref (w.length + 3), .ref (w.length + 4)]), .inl (1, 5461, .inl fun _ => 0), .inl (1, 5461, .inl fun _ => 0), .inl (1, 5461, .inl fun _ => 0), .inl (1, 5461, .inl fun _ => 0)]) w1) (hg : ∃ g, zix w1 (w.length + 2) = some (.inl (1, 5461, .inl g)) ∧ ∀ j : Nat, j < 5461 → (g j).toInt = -1) : WK w1 w.length := by
  obtain ⟨g, h1, h2⟩ := hg
  refine ⟨0, _, g, _, ⟨by omega, (f1.2 w.length (by omega)).trans (ap_ix (j := 0)), h1⟩, (f1.2 (w.length + 1) (by omega)).trans (ap_ix (j := 1)), (f1.2 (w.length + 3) (by omega)).trans (ap_ix (j := 3)), ?_, ?_, ?_⟩
  · intro t ht h; exact absurd (h2 t ht) h
  · intro t ht h; rw [h2 t ht] at h; omega
  · intro t ht; rw [h2 t ht]; omega
theorem n_Book {ρ : Nat → Nat} {w : zW} (hw : CI ρ w) (d : Nat) (Q : zQ) (h : ∀ (σ : Nat → Nat) (w' : zW), CI σ w' → GRO ρ w σ w' → w'.length = w.length + 5 → σ w.length = 19 → (∀ q, w.length ≤ q → σ q ≠ 60) → REL w' (w.length + 3) → Q none w') : zCl zTab (d + 3) iX0_init [.ref w.length] (w ++ [.inr (0, zdf 0)]) 4 49 Q := by
  refine zCl_i (M := kX0_init) rfl (Nat.le_of_ble_eq_true rfl) fun R hR => ?_
  refine (?_ : R (_, _, _, w ++ [.inr (0, [.int 0, .int 0, .int 0, .null, .null, .null, .null])], 0, 0))
  refine hR (?_ : R (_, _, _, _, _, _))
  refine hR (zcall_i 0 0 (Nat.le_of_ble_eq_true rfl) (Nat.le_of_ble_eq_true rfl) (c_linesInit _ _ _ _ ?_))
  refine (?_ : R (_, _, [], w ++ [.inr (0, [.int 0, .int 0, .int 0, .null, .null, .null, .null])], 0, 0))
  refine hR (?_ : R (_, _, _, _, _, _))
  refine hR (?_ : R (_, _, _, _, _, _))
  refine hR (t_pa (j := 0) rfl rfl rfl ?_)
  refine (?_ : R (_, _, [], w ++ [.inr (0, [.int (Int32.ofInt 0), .int 0, .int 0, .null, .null, .null, .null])], 0, 0))
  refine hR (?_ : R (_, _, _, _, _, _))
  refine hR (?_ : R (_, _, _, _, _, _))
  refine hR (t_pa (j := 0) rfl rfl rfl ?_)
  refine (?_ : R (_, _, [], w ++ [.inr (0, [.int (Int32.ofInt 0), .int (Int32.ofInt 0), .int 0, .null, .null, .null, .null])], 0, 0))
  refine hR (?_ : R (_, _, _, _, _, _))
  refine hR (?_ : R (_, _, _, _, _, _))
  refine hR (t_pa (j := 0) rfl rfl rfl ?_)
  refine (?_ : R (_, _, [], w ++ [.inr (0, [.int (Int32.ofInt 0), .int (Int32.ofInt 0), .int (Int32.ofInt (-1)), .null, .null, .null, .null])], 0, 0))
  refine hR (?_ : R (_, _, _, _, _, _))
  refine hR (?_ : R (_, _, _, _, _, _))
  refine hR (t_na ?_)
  refine (?_ : R (_, _, .ref (w.length + 1) :: .ref w.length :: [], w ++ [.inr (0, [.int (Int32.ofInt 0), .int (Int32.ofInt 0), .int (Int32.ofInt (-1)), .null, .null, .null, .null]), .inl (1, 4, .inl fun _ => 0)], 1, 4))
  refine hR (?_ : R (_, _, _, _, _, _))
  refine hR (?_ : R (_, _, _, _, _, _))
  refine hR (?_ : R (_, _, _, _, _, _))
  refine hR (t_sa (j := 1) rfl (zvin (by omega) (by omega) (by omega)) ?_)
  refine (?_ : R (_, _, .ref (w.length + 1) :: .ref w.length :: [], w ++ [.inr (0, [.int (Int32.ofInt 0), .int (Int32.ofInt 0), .int (Int32.ofInt (-1)), .null, .null, .null, .null]), .inl (1, 4, .inl (upd (fun _ => 0) 0 (Int32.ofInt 0)))], 1, 4))
  refine hR (?_ : R (_, _, _, _, _, _))
  refine hR (?_ : R (_, _, _, _, _, _))
  refine hR (?_ : R (_, _, _, _, _, _))
  refine hR (t_sa (j := 1) rfl (zvin (by omega) (by omega) (by omega)) ?_)
  refine (?_ : R (_, _, .ref (w.length + 1) :: .ref w.length :: [], w ++ [.inr (0, [.int (Int32.ofInt 0), .int (Int32.ofInt 0), .int (Int32.ofInt (-1)), .null, .null, .null, .null]), .inl (1, 4, .inl (upd (upd (fun _ => 0) 0 (Int32.ofInt 0)) 1 (Int32.ofInt 1)))], 1, 4))
  refine hR (?_ : R (_, _, _, _, _, _))
  refine hR (?_ : R (_, _, _, _, _, _))
  refine hR (?_ : R (_, _, _, _, _, _))
  refine hR (t_sa (j := 1) rfl (zvin (by omega) (by omega) (by omega)) ?_)
  refine (?_ : R (_, _, .ref (w.length + 1) :: .ref w.length :: [], w ++ [.inr (0, [.int (Int32.ofInt 0), .int (Int32.ofInt 0), .int (Int32.ofInt (-1)), .null, .null, .null, .null]), .inl (1, 4, .inl (upd (upd (upd (fun _ => 0) 0 (Int32.ofInt 0)) 1 (Int32.ofInt 1)) 2 (Int32.ofInt 2)))], 1, 4))
  refine hR (?_ : R (_, _, _, _, _, _))
  refine hR (?_ : R (_, _, _, _, _, _))
  refine hR (?_ : R (_, _, _, _, _, _))
  refine hR (t_sa (j := 1) rfl (zvin (by omega) (by omega) (by omega)) ?_)
  refine (?_ : R (_, _, .ref (w.length + 1) :: .ref w.length :: [], w ++ [.inr (0, [.int (Int32.ofInt 0), .int (Int32.ofInt 0), .int (Int32.ofInt (-1)), .null, .null, .null, .null]), .inl (1, 4, .inl (upd (upd (upd (upd (fun _ => 0) 0 (Int32.ofInt 0)) 1 (Int32.ofInt 1)) 2 (Int32.ofInt 2)) 3 (Int32.ofInt 3)))], 1, 4))
  refine hR (t_pa (j := 0) rfl rfl rfl ?_)
  refine (?_ : R (_, _, [], w ++ [.inr (0, [.int (Int32.ofInt 0), .int (Int32.ofInt 0), .int (Int32.ofInt (-1)), .ref (w.length + 1), .null, .null, .null]), .inl (1, 4, .inl (upd (upd (upd (upd (fun _ => 0) 0 (Int32.ofInt 0)) 1 (Int32.ofInt 1)) 2 (Int32.ofInt 2)) 3 (Int32.ofInt 3)))], 1, 4))
  refine hR (?_ : R (_, _, _, _, _, _))
  refine hR (?_ : R (_, _, _, _, _, _))
  refine hR (t_na ?_)
  refine (?_ : R (_, _, .ref (w.length + 2) :: .ref w.length :: [], w ++ [.inr (0, [.int (Int32.ofInt 0), .int (Int32.ofInt 0), .int (Int32.ofInt (-1)), .ref (w.length + 1), .null, .null, .null]), .inl (1, 4, .inl (upd (upd (upd (upd (fun _ => 0) 0 (Int32.ofInt 0)) 1 (Int32.ofInt 1)) 2 (Int32.ofInt 2)) 3 (Int32.ofInt 3))), .inl (1, 5, .inl fun _ => 0)], 2, 9))
  refine hR (t_pa (j := 0) rfl rfl rfl ?_)
  refine (?_ : R (_, _, [], w ++ [.inr (0, [.int (Int32.ofInt 0), .int (Int32.ofInt 0), .int (Int32.ofInt (-1)), .ref (w.length + 1), .ref (w.length + 2), .null, .null]), .inl (1, 4, .inl (upd (upd (upd (upd (fun _ => 0) 0 (Int32.ofInt 0)) 1 (Int32.ofInt 1)) 2 (Int32.ofInt 2)) 3 (Int32.ofInt 3))), .inl (1, 5, .inl fun _ => 0)], 2, 9))
  refine hR (?_ : R (_, _, _, _, _, _))
  refine hR (t_c 20 (by decide) ?_)
  refine hR (t_na ?_)
  refine (?_ : R (_, _, .ref (w.length + 3) :: .ref w.length :: [], w ++ [.inr (0, [.int (Int32.ofInt 0), .int (Int32.ofInt 0), .int (Int32.ofInt (-1)), .ref (w.length + 1), .ref (w.length + 2), .null, .null]), .inl (1, 4, .inl (upd (upd (upd (upd (fun _ => 0) 0 (Int32.ofInt 0)) 1 (Int32.ofInt 1)) 2 (Int32.ofInt 2)) 3 (Int32.ofInt 3))), .inl (1, 5, .inl fun _ => 0), .inl (1, 20, .inl fun _ => 0)], 3, 29))
  refine hR (t_pa (j := 0) rfl rfl rfl ?_)
  refine (?_ : R (_, _, [], w ++ [.inr (0, [.int (Int32.ofInt 0), .int (Int32.ofInt 0), .int (Int32.ofInt (-1)), .ref (w.length + 1), .ref (w.length + 2), .ref (w.length + 3), .null]), .inl (1, 4, .inl (upd (upd (upd (upd (fun _ => 0) 0 (Int32.ofInt 0)) 1 (Int32.ofInt 1)) 2 (Int32.ofInt 2)) 3 (Int32.ofInt 3))), .inl (1, 5, .inl fun _ => 0), .inl (1, 20, .inl fun _ => 0)], 3, 29))
  refine hR (?_ : R (_, _, _, _, _, _))
  refine hR (t_c 20 (by decide) ?_)
  refine hR (t_na ?_)
  refine (?_ : R (_, _, .ref (w.length + 4) :: .ref w.length :: [], w ++ [.inr (0, [.int (Int32.ofInt 0), .int (Int32.ofInt 0), .int (Int32.ofInt (-1)), .ref (w.length + 1), .ref (w.length + 2), .ref (w.length + 3), .null]), .inl (1, 4, .inl (upd (upd (upd (upd (fun _ => 0) 0 (Int32.ofInt 0)) 1 (Int32.ofInt 1)) 2 (Int32.ofInt 2)) 3 (Int32.ofInt 3))), .inl (1, 5, .inl fun _ => 0), .inl (1, 20, .inl fun _ => 0), .inl (1, 20, .inl fun _ => 0)], 4, 49))
  refine hR (t_pa (j := 0) rfl rfl rfl ?_)
  refine (?_ : R (_, _, [], w ++ [.inr (0, [.int (Int32.ofInt 0), .int (Int32.ofInt 0), .int (Int32.ofInt (-1)), .ref (w.length + 1), .ref (w.length + 2), .ref (w.length + 3), .ref (w.length + 4)]), .inl (1, 4, .inl (upd (upd (upd (upd (fun _ => 0) 0 (Int32.ofInt 0)) 1 (Int32.ofInt 1)) 2 (Int32.ofInt 2)) 3 (Int32.ofInt 3))), .inl (1, 5, .inl fun _ => 0), .inl (1, 20, .inl fun _ => 0), .inl (1, 20, .inl fun _ => 0)], 4, 49))
  have hci : CI (exr ρ w.length [19, 21, 22, 25, 26]) (w ++ [.inr (0, [.int (Int32.ofInt 0), .int (Int32.ofInt 0), .int (Int32.ofInt (-1)), .ref (w.length + 1), .ref (w.length + 2), .ref (w.length + 3), .ref (w.length + 4)]), .inl (1, 4, .inl (upd (upd (upd (upd (fun _ => 0) 0 (Int32.ofInt 0)) 1 (Int32.ofInt 1)) 2 (Int32.ofInt 2)) 3 (Int32.ofInt 3))), .inl (1, 5, .inl fun _ => 0), .inl (1, 20, .inl fun _ => 0), .inl (1, 20, .inl fun _ => 0)]) := by
    refine CI_app hw _ _ rfl (fun j c hj => ?_) (by decide)
    have hjl : j < 5 := by
      rw [zix_eq] at hj
      exact (List.getElem?_eq_some_iff.mp hj).1
    have hrs : j = 0 ∨ j = 1 ∨ j = 2 ∨ j = 3 ∨ j = 4 := by omega
    rcases hrs with rfl | rfl | rfl | rfl | rfl
    · cases hj
      unfold rOK
      rw [show exr ρ w.length [19, 21, 22, 25, 26] (w.length + 0) = 19 from exr_ge 0]
      exact ⟨0, 0, (-1), rfl, ⟨by decide, by decide⟩, ⟨by decide, by decide⟩, ⟨by decide, by decide⟩, exr_ge 1, exr_ge 2, exr_ge 3, exr_ge 4⟩
    · cases hj
      unfold rOK
      rw [show exr ρ w.length [19, 21, 22, 25, 26] (w.length + 1) = 21 from exr_ge 1]
      exact ⟨_, rfl, zB_u (zB_u (zB_u (zB_u (fun j => by show _ ∧ _; decide) (by omega) (by omega) (by omega) (by omega)) (by omega) (by omega) (by omega) (by omega)) (by omega) (by omega) (by omega) (by omega)) (by omega) (by omega) (by omega) (by omega)⟩
    · cases hj
      unfold rOK
      rw [show exr ρ w.length [19, 21, 22, 25, 26] (w.length + 2) = 22 from exr_ge 2]
      exact ⟨_, rfl, fun j => by show _ ∧ _; decide⟩
    · cases hj
      unfold rOK
      rw [show exr ρ w.length [19, 21, 22, 25, 26] (w.length + 3) = 25 from exr_ge 3]
      exact ⟨_, rfl, fun j => by show _ ∧ _; decide⟩
    · cases hj
      unfold rOK
      rw [show exr ρ w.length [19, 21, 22, 25, 26] (w.length + 4) = 26 from exr_ge 4]
      exact ⟨_, rfl, fun j => by show _ ∧ _; decide⟩
  exact hR (zret_i rfl (Nat.le_refl _) rfl (h _ _ hci GRO_app (by rw [List.length_append]; rfl) (exr_ge 0) (exr_ni (by decide) (by decide)) ⟨_, _, ap_ix (j := 3), ap_ix (j := 4), fun j _ => by unfold rel; dsimp only; decide⟩))
theorem n_Year {ρ : Nat → Nat} {w : zW} (hw : CI ρ w) (d : Nat) (Q : zQ) (h : ∀ (σ : Nat → Nat) (w' : zW), CI σ w' → GRO ρ w σ w' → w'.length = w.length + 4 → σ w.length = 30 → (∀ q, w.length ≤ q → σ q ≠ 60) → Q none w') : zCl zTab (d + 3) iX10_init [.ref w.length] (w ++ [.inr (9, zdf 9)]) 3 120 Q := by
  refine zCl_i (M := kX10_init) rfl (Nat.le_of_ble_eq_true rfl) fun R hR => ?_
  refine (?_ : R (_, _, _, w ++ [.inr (9, [.int 0, .null, .null, .null])], 0, 0))
  refine hR (?_ : R (_, _, _, _, _, _))
  refine hR (zcall_i 0 0 (Nat.le_of_ble_eq_true rfl) (Nat.le_of_ble_eq_true rfl) (c_linesInit _ _ _ _ ?_))
  refine (?_ : R (_, _, [], w ++ [.inr (9, [.int 0, .null, .null, .null])], 0, 0))
  refine hR (?_ : R (_, _, _, _, _, _))
  refine hR (?_ : R (_, _, _, _, _, _))
  refine hR (t_pa (j := 0) rfl rfl rfl ?_)
  refine (?_ : R (_, _, [], w ++ [.inr (9, [.int (Int32.ofInt 0), .null, .null, .null])], 0, 0))
  refine hR (?_ : R (_, _, _, _, _, _))
  refine hR (t_c 40 (by decide) ?_)
  refine hR (t_na ?_)
  refine (?_ : R (_, _, .ref (w.length + 1) :: .ref w.length :: [], w ++ [.inr (9, [.int (Int32.ofInt 0), .null, .null, .null]), .inl (1, 40, .inl fun _ => 0)], 1, 40))
  refine hR (t_pa (j := 0) rfl rfl rfl ?_)
  refine (?_ : R (_, _, [], w ++ [.inr (9, [.int (Int32.ofInt 0), .ref (w.length + 1), .null, .null]), .inl (1, 40, .inl fun _ => 0)], 1, 40))
  refine hR (?_ : R (_, _, _, _, _, _))
  refine hR (t_c 40 (by decide) ?_)
  refine hR (t_na ?_)
  refine (?_ : R (_, _, .ref (w.length + 2) :: .ref w.length :: [], w ++ [.inr (9, [.int (Int32.ofInt 0), .ref (w.length + 1), .null, .null]), .inl (1, 40, .inl fun _ => 0), .inl (1, 40, .inl fun _ => 0)], 2, 80))
  refine hR (t_pa (j := 0) rfl rfl rfl ?_)
  refine (?_ : R (_, _, [], w ++ [.inr (9, [.int (Int32.ofInt 0), .ref (w.length + 1), .ref (w.length + 2), .null]), .inl (1, 40, .inl fun _ => 0), .inl (1, 40, .inl fun _ => 0)], 2, 80))
  refine hR (?_ : R (_, _, _, _, _, _))
  refine hR (t_c 40 (by decide) ?_)
  refine hR (t_na ?_)
  refine (?_ : R (_, _, .ref (w.length + 3) :: .ref w.length :: [], w ++ [.inr (9, [.int (Int32.ofInt 0), .ref (w.length + 1), .ref (w.length + 2), .null]), .inl (1, 40, .inl fun _ => 0), .inl (1, 40, .inl fun _ => 0), .inl (1, 40, .inl fun _ => 0)], 3, 120))
  refine hR (t_pa (j := 0) rfl rfl rfl ?_)
  refine (?_ : R (_, _, [], w ++ [.inr (9, [.int (Int32.ofInt 0), .ref (w.length + 1), .ref (w.length + 2), .ref (w.length + 3)]), .inl (1, 40, .inl fun _ => 0), .inl (1, 40, .inl fun _ => 0), .inl (1, 40, .inl fun _ => 0)], 3, 120))
  have hci : CI (exr ρ w.length [30, 31, 32, 33]) (w ++ [.inr (9, [.int (Int32.ofInt 0), .ref (w.length + 1), .ref (w.length + 2), .ref (w.length + 3)]), .inl (1, 40, .inl fun _ => 0), .inl (1, 40, .inl fun _ => 0), .inl (1, 40, .inl fun _ => 0)]) := by
    refine CI_app hw _ _ rfl (fun j c hj => ?_) (by decide)
    have hjl : j < 4 := by
      rw [zix_eq] at hj
      exact (List.getElem?_eq_some_iff.mp hj).1
    have hrs : j = 0 ∨ j = 1 ∨ j = 2 ∨ j = 3 := by omega
    rcases hrs with rfl | rfl | rfl | rfl
    · cases hj
      unfold rOK
      rw [show exr ρ w.length [30, 31, 32, 33] (w.length + 0) = 30 from exr_ge 0]
      exact ⟨0, rfl, ⟨by decide, by decide⟩, exr_ge 1, exr_ge 2, exr_ge 3⟩
    · cases hj
      unfold rOK
      rw [show exr ρ w.length [30, 31, 32, 33] (w.length + 1) = 31 from exr_ge 1]
      exact ⟨_, rfl, fun j => by show _ ∧ _; decide⟩
    · cases hj
      unfold rOK
      rw [show exr ρ w.length [30, 31, 32, 33] (w.length + 2) = 32 from exr_ge 2]
      exact ⟨_, rfl, fun j => by show _ ∧ _; decide⟩
    · cases hj
      unfold rOK
      rw [show exr ρ w.length [30, 31, 32, 33] (w.length + 3) = 33 from exr_ge 3]
      exact ⟨_, rfl, fun j => by show _ ∧ _; decide⟩
  exact hR (zret_i rfl (Nat.le_refl _) rfl (h _ _ hci GRO_app (by rw [List.length_append]; rfl) (exr_ge 0) (exr_ni (by decide) (by decide))))
theorem n_Sight {ρ : Nat → Nat} {w : zW} (hw : CI ρ w) (d : Nat) (Q : zQ) (h : ∀ (σ : Nat → Nat) (w' : zW), CI σ w' → GRO ρ w σ w' → w'.length = w.length + 3 → σ w.length = 40 → (∀ q, w.length ≤ q → σ q ≠ 60) → Q none w') : zCl zTab (d + 3) iX6_init [.ref w.length] (w ++ [.inr (5, zdf 5)]) 2 12 Q := by
  refine zCl_i (M := kX6_init) rfl (Nat.le_of_ble_eq_true rfl) fun R hR => ?_
  refine (?_ : R (_, _, _, w ++ [.inr (5, [.int 0, .null, .null])], 0, 0))
  refine hR (?_ : R (_, _, _, _, _, _))
  refine hR (zcall_i 0 0 (Nat.le_of_ble_eq_true rfl) (Nat.le_of_ble_eq_true rfl) (c_linesInit _ _ _ _ ?_))
  refine (?_ : R (_, _, [], w ++ [.inr (5, [.int 0, .null, .null])], 0, 0))
  refine hR (?_ : R (_, _, _, _, _, _))
  refine hR (?_ : R (_, _, _, _, _, _))
  refine hR (t_pa (j := 0) rfl rfl rfl ?_)
  refine (?_ : R (_, _, [], w ++ [.inr (5, [.int (Int32.ofInt 0), .null, .null])], 0, 0))
  refine hR (?_ : R (_, _, _, _, _, _))
  refine hR (t_c 6 (by decide) ?_)
  refine hR (t_na ?_)
  refine (?_ : R (_, _, .ref (w.length + 1) :: .ref w.length :: [], w ++ [.inr (5, [.int (Int32.ofInt 0), .null, .null]), .inl (1, 6, .inl fun _ => 0)], 1, 6))
  refine hR (t_pa (j := 0) rfl rfl rfl ?_)
  refine (?_ : R (_, _, [], w ++ [.inr (5, [.int (Int32.ofInt 0), .ref (w.length + 1), .null]), .inl (1, 6, .inl fun _ => 0)], 1, 6))
  refine hR (?_ : R (_, _, _, _, _, _))
  refine hR (t_c 6 (by decide) ?_)
  refine hR (t_na ?_)
  refine (?_ : R (_, _, .ref (w.length + 2) :: .ref w.length :: [], w ++ [.inr (5, [.int (Int32.ofInt 0), .ref (w.length + 1), .null]), .inl (1, 6, .inl fun _ => 0), .inl (1, 6, .inl fun _ => 0)], 2, 12))
  refine hR (t_pa (j := 0) rfl rfl rfl ?_)
  refine (?_ : R (_, _, [], w ++ [.inr (5, [.int (Int32.ofInt 0), .ref (w.length + 1), .ref (w.length + 2)]), .inl (1, 6, .inl fun _ => 0), .inl (1, 6, .inl fun _ => 0)], 2, 12))
  have hci : CI (exr ρ w.length [40, 41, 42]) (w ++ [.inr (5, [.int (Int32.ofInt 0), .ref (w.length + 1), .ref (w.length + 2)]), .inl (1, 6, .inl fun _ => 0), .inl (1, 6, .inl fun _ => 0)]) := by
    refine CI_app hw _ _ rfl (fun j c hj => ?_) (by decide)
    have hjl : j < 3 := by
      rw [zix_eq] at hj
      exact (List.getElem?_eq_some_iff.mp hj).1
    have hrs : j = 0 ∨ j = 1 ∨ j = 2 := by omega
    rcases hrs with rfl | rfl | rfl
    · cases hj
      unfold rOK
      rw [show exr ρ w.length [40, 41, 42] (w.length + 0) = 40 from exr_ge 0]
      exact ⟨0, rfl, ⟨by decide, by decide⟩, exr_ge 1, exr_ge 2⟩
    · cases hj
      unfold rOK
      rw [show exr ρ w.length [40, 41, 42] (w.length + 1) = 41 from exr_ge 1]
      exact ⟨_, rfl, fun j => by show _ ∧ _; decide⟩
    · cases hj
      unfold rOK
      rw [show exr ρ w.length [40, 41, 42] (w.length + 2) = 42 from exr_ge 2]
      exact ⟨_, rfl, fun j => by show _ ∧ _; decide⟩
  exact hR (zret_i rfl (Nat.le_refl _) rfl (h _ _ hci GRO_app (by rw [List.length_append]; rfl) (exr_ge 0) (exr_ni (by decide) (by decide))))
theorem n_Readings {ρ : Nat → Nat} {w : zW} (hw : CI ρ w) (d : Nat) (Q : zQ) (h : ∀ (σ : Nat → Nat) (w' : zW), CI σ w' → GRO ρ w σ w' → w'.length = w.length + 4 → σ w.length = 49 → (∀ q, w.length ≤ q → σ q ≠ 60) → Q none w') : zCl zTab (d + 2) iX4_init [.ref w.length] (w ++ [.inr (3, zdf 3)]) 3 38227 Q := by
  refine zCl_i (M := kX4_init) rfl (Nat.le_of_ble_eq_true rfl) fun R hR => ?_
  refine (?_ : R (_, _, _, w ++ [.inr (3, [.null, .null, .null, .null])], 0, 0))
  refine hR (?_ : R (_, _, _, _, _, _))
  refine hR (?_ : R (_, _, _, _, _, _))
  refine hR (?_ : R (_, _, _, _, _, _))
  refine hR (?_ : R (_, _, _, _, _, _))
  refine hR (t_pa (j := 0) rfl rfl rfl ?_)
  refine (?_ : R (_, _, [], w ++ [.inr (3, [.null, .null, .null, .null])], 0, 0))
  refine hR (?_ : R (_, _, _, _, _, _))
  refine hR (t_c 27305 (by decide) ?_)
  refine hR (t_na ?_)
  refine (?_ : R (_, _, .ref (w.length + 1) :: .ref w.length :: [], w ++ [.inr (3, [.null, .null, .null, .null]), .inl (1, 27305, .inl fun _ => 0)], 1, 27305))
  refine hR (t_pa (j := 0) rfl rfl rfl ?_)
  refine (?_ : R (_, _, [], w ++ [.inr (3, [.null, .ref (w.length + 1), .null, .null]), .inl (1, 27305, .inl fun _ => 0)], 1, 27305))
  refine hR (?_ : R (_, _, _, _, _, _))
  refine hR (t_c 5461 (by decide) ?_)
  refine hR (t_na ?_)
  refine (?_ : R (_, _, .ref (w.length + 2) :: .ref w.length :: [], w ++ [.inr (3, [.null, .ref (w.length + 1), .null, .null]), .inl (1, 27305, .inl fun _ => 0), .inl (0, 5461, .inl fun _ => 0)], 2, 32766))
  refine hR (t_pa (j := 0) rfl rfl rfl ?_)
  refine (?_ : R (_, _, [], w ++ [.inr (3, [.null, .ref (w.length + 1), .ref (w.length + 2), .null]), .inl (1, 27305, .inl fun _ => 0), .inl (0, 5461, .inl fun _ => 0)], 2, 32766))
  refine hR (?_ : R (_, _, _, _, _, _))
  refine hR (t_c 5461 (by decide) ?_)
  refine hR (t_na ?_)
  refine (?_ : R (_, _, .ref (w.length + 3) :: .ref w.length :: [], w ++ [.inr (3, [.null, .ref (w.length + 1), .ref (w.length + 2), .null]), .inl (1, 27305, .inl fun _ => 0), .inl (0, 5461, .inl fun _ => 0), .inl (0, 5461, .inl fun _ => 0)], 3, 38227))
  refine hR (t_pa (j := 0) rfl rfl rfl ?_)
  refine (?_ : R (_, _, [], w ++ [.inr (3, [.null, .ref (w.length + 1), .ref (w.length + 2), .ref (w.length + 3)]), .inl (1, 27305, .inl fun _ => 0), .inl (0, 5461, .inl fun _ => 0), .inl (0, 5461, .inl fun _ => 0)], 3, 38227))
  have hci : CI (exr ρ w.length [49, 51, 52, 52]) (w ++ [.inr (3, [.null, .ref (w.length + 1), .ref (w.length + 2), .ref (w.length + 3)]), .inl (1, 27305, .inl fun _ => 0), .inl (0, 5461, .inl fun _ => 0), .inl (0, 5461, .inl fun _ => 0)]) := by
    refine CI_app hw _ _ rfl (fun j c hj => ?_) (by decide)
    have hjl : j < 4 := by
      rw [zix_eq] at hj
      exact (List.getElem?_eq_some_iff.mp hj).1
    have hrs : j = 0 ∨ j = 1 ∨ j = 2 ∨ j = 3 := by omega
    rcases hrs with rfl | rfl | rfl | rfl
    · cases hj
      unfold rOK
      rw [show exr ρ w.length [49, 51, 52, 52] (w.length + 0) = 49 from exr_ge 0]
      exact ⟨none, w.length + 2, w.length + 3, rfl, (fun z hz => by cases hz), exr_ge 1, exr_ge 2, exr_ge 3, by omega⟩
    · cases hj
      unfold rOK
      rw [show exr ρ w.length [49, 51, 52, 52] (w.length + 1) = 51 from exr_ge 1]
      exact ⟨_, rfl, fun j => by show _ ∧ _; decide⟩
    · cases hj
      unfold rOK
      rw [show exr ρ w.length [49, 51, 52, 52] (w.length + 2) = 52 from exr_ge 2]
      exact ⟨_, rfl, fun j => by show _ ∧ _; decide⟩
    · cases hj
      unfold rOK
      rw [show exr ρ w.length [49, 51, 52, 52] (w.length + 3) = 52 from exr_ge 3]
      exact ⟨_, rfl, fun j => by show _ ∧ _; decide⟩
  exact hR (zret_i rfl (Nat.le_refl _) rfl (h _ _ hci GRO_app (by rw [List.length_append]; rfl) (exr_ge 0) (exr_ni (by decide) (by decide))))
theorem n_Told {ρ : Nat → Nat} {w : zW} (hw : CI ρ w) (d : Nat) (Q : zQ) (h : ∀ (σ : Nat → Nat) (w' : zW), CI σ w' → GRO ρ w σ w' → w'.length = w.length + 6 → σ w.length = 2 → (∀ q, w.length ≤ q → σ q ≠ 60) → LE w' w.length 0 → Q none w') : zCl zTab (d + 2) iX8_init [.ref w.length] (w ++ [.inr (7, zdf 7)]) 5 609 Q := by
  refine zCl_i (M := kX8_init) rfl (Nat.le_of_ble_eq_true rfl) fun R hR => ?_
  refine (?_ : R (_, _, _, w ++ [.inr (7, [.null, .int 0, .int 0, .int 0, .null, .null, .null, .null])], 0, 0))
  refine hR (?_ : R (_, _, _, _, _, _))
  refine hR (?_ : R (_, _, _, _, _, _))
  refine hR (?_ : R (_, _, _, _, _, _))
  refine hR (t_c 600 (by decide) ?_)
  refine hR (t_na ?_)
  refine (?_ : R (_, _, .ref (w.length + 1) :: .ref w.length :: [], w ++ [.inr (7, [.null, .int 0, .int 0, .int 0, .null, .null, .null, .null]), .inl (0, 600, .inl fun _ => 0)], 1, 600))
  refine hR (t_pa (j := 0) rfl rfl rfl ?_)
  refine (?_ : R (_, _, [], w ++ [.inr (7, [.ref (w.length + 1), .int 0, .int 0, .int 0, .null, .null, .null, .null]), .inl (0, 600, .inl fun _ => 0)], 1, 600))
  refine hR (?_ : R (_, _, _, _, _, _))
  refine hR (?_ : R (_, _, _, _, _, _))
  refine hR (t_pa (j := 0) rfl rfl rfl ?_)
  refine (?_ : R (_, _, [], w ++ [.inr (7, [.ref (w.length + 1), .int (Int32.ofInt 0), .int 0, .int 0, .null, .null, .null, .null]), .inl (0, 600, .inl fun _ => 0)], 1, 600))
  refine hR (?_ : R (_, _, _, _, _, _))
  refine hR (?_ : R (_, _, _, _, _, _))
  refine hR (t_pa (j := 0) rfl rfl rfl ?_)
  refine (?_ : R (_, _, [], w ++ [.inr (7, [.ref (w.length + 1), .int (Int32.ofInt 0), .int (Int32.ofInt 0), .int 0, .null, .null, .null, .null]), .inl (0, 600, .inl fun _ => 0)], 1, 600))
  refine hR (?_ : R (_, _, _, _, _, _))
  refine hR (?_ : R (_, _, _, _, _, _))
  refine hR (t_pa (j := 0) rfl rfl rfl ?_)
  refine (?_ : R (_, _, [], w ++ [.inr (7, [.ref (w.length + 1), .int (Int32.ofInt 0), .int (Int32.ofInt 0), .int (Int32.ofInt (-1)), .null, .null, .null, .null]), .inl (0, 600, .inl fun _ => 0)], 1, 600))
  refine hR (?_ : R (_, _, _, _, _, _))
  refine hR (?_ : R (_, _, _, _, _, _))
  refine hR (t_na ?_)
  refine (?_ : R (_, _, .ref (w.length + 2) :: .ref w.length :: [], w ++ [.inr (7, [.ref (w.length + 1), .int (Int32.ofInt 0), .int (Int32.ofInt 0), .int (Int32.ofInt (-1)), .null, .null, .null, .null]), .inl (0, 600, .inl fun _ => 0), .inl (1, 3, .inl fun _ => 0)], 2, 603))
  refine hR (t_pa (j := 0) rfl rfl rfl ?_)
  refine (?_ : R (_, _, [], w ++ [.inr (7, [.ref (w.length + 1), .int (Int32.ofInt 0), .int (Int32.ofInt 0), .int (Int32.ofInt (-1)), .ref (w.length + 2), .null, .null, .null]), .inl (0, 600, .inl fun _ => 0), .inl (1, 3, .inl fun _ => 0)], 2, 603))
  refine hR (?_ : R (_, _, _, _, _, _))
  refine hR (?_ : R (_, _, _, _, _, _))
  refine hR (t_na ?_)
  refine (?_ : R (_, _, .ref (w.length + 3) :: .ref w.length :: [], w ++ [.inr (7, [.ref (w.length + 1), .int (Int32.ofInt 0), .int (Int32.ofInt 0), .int (Int32.ofInt (-1)), .ref (w.length + 2), .null, .null, .null]), .inl (0, 600, .inl fun _ => 0), .inl (1, 3, .inl fun _ => 0), .inl (3, 2, .inr (.inr (.inr (.inr fun _ => none))))], 3, 605))
  refine hR (t_pa (j := 0) rfl rfl rfl ?_)
  refine (?_ : R (_, _, [], w ++ [.inr (7, [.ref (w.length + 1), .int (Int32.ofInt 0), .int (Int32.ofInt 0), .int (Int32.ofInt (-1)), .ref (w.length + 2), .ref (w.length + 3), .null, .null]), .inl (0, 600, .inl fun _ => 0), .inl (1, 3, .inl fun _ => 0), .inl (3, 2, .inr (.inr (.inr (.inr fun _ => none))))], 3, 605))
  refine hR (?_ : R (_, _, _, _, _, _))
  refine hR (?_ : R (_, _, _, _, _, _))
  refine hR (t_na ?_)
  refine (?_ : R (_, _, .ref (w.length + 4) :: .ref w.length :: [], w ++ [.inr (7, [.ref (w.length + 1), .int (Int32.ofInt 0), .int (Int32.ofInt 0), .int (Int32.ofInt (-1)), .ref (w.length + 2), .ref (w.length + 3), .null, .null]), .inl (0, 600, .inl fun _ => 0), .inl (1, 3, .inl fun _ => 0), .inl (3, 2, .inr (.inr (.inr (.inr fun _ => none)))), .inl (4, 2, .inr (.inr (.inr (.inr fun _ => none))))], 4, 607))
  refine hR (t_pa (j := 0) rfl rfl rfl ?_)
  refine (?_ : R (_, _, [], w ++ [.inr (7, [.ref (w.length + 1), .int (Int32.ofInt 0), .int (Int32.ofInt 0), .int (Int32.ofInt (-1)), .ref (w.length + 2), .ref (w.length + 3), .ref (w.length + 4), .null]), .inl (0, 600, .inl fun _ => 0), .inl (1, 3, .inl fun _ => 0), .inl (3, 2, .inr (.inr (.inr (.inr fun _ => none)))), .inl (4, 2, .inr (.inr (.inr (.inr fun _ => none))))], 4, 607))
  refine hR (?_ : R (_, _, _, _, _, _))
  refine hR (?_ : R (_, _, _, _, _, _))
  refine hR (t_na ?_)
  refine (?_ : R (_, _, .ref (w.length + 5) :: .ref w.length :: [], w ++ [.inr (7, [.ref (w.length + 1), .int (Int32.ofInt 0), .int (Int32.ofInt 0), .int (Int32.ofInt (-1)), .ref (w.length + 2), .ref (w.length + 3), .ref (w.length + 4), .null]), .inl (0, 600, .inl fun _ => 0), .inl (1, 3, .inl fun _ => 0), .inl (3, 2, .inr (.inr (.inr (.inr fun _ => none)))), .inl (4, 2, .inr (.inr (.inr (.inr fun _ => none)))), .inl (5, 2, .inr (.inr (.inr (.inr fun _ => none))))], 5, 609))
  refine hR (t_pa (j := 0) rfl rfl rfl ?_)
  refine (?_ : R (_, _, [], w ++ [.inr (7, [.ref (w.length + 1), .int (Int32.ofInt 0), .int (Int32.ofInt 0), .int (Int32.ofInt (-1)), .ref (w.length + 2), .ref (w.length + 3), .ref (w.length + 4), .ref (w.length + 5)]), .inl (0, 600, .inl fun _ => 0), .inl (1, 3, .inl fun _ => 0), .inl (3, 2, .inr (.inr (.inr (.inr fun _ => none)))), .inl (4, 2, .inr (.inr (.inr (.inr fun _ => none)))), .inl (5, 2, .inr (.inr (.inr (.inr fun _ => none))))], 5, 609))
  have hci : CI (exr ρ w.length [2, 3, 4, 5, 6, 7]) (w ++ [.inr (7, [.ref (w.length + 1), .int (Int32.ofInt 0), .int (Int32.ofInt 0), .int (Int32.ofInt (-1)), .ref (w.length + 2), .ref (w.length + 3), .ref (w.length + 4), .ref (w.length + 5)]), .inl (0, 600, .inl fun _ => 0), .inl (1, 3, .inl fun _ => 0), .inl (3, 2, .inr (.inr (.inr (.inr fun _ => none)))), .inl (4, 2, .inr (.inr (.inr (.inr fun _ => none)))), .inl (5, 2, .inr (.inr (.inr (.inr fun _ => none))))]) := by
    refine CI_app hw _ _ rfl (fun j c hj => ?_) (by decide)
    have hjl : j < 6 := by
      rw [zix_eq] at hj
      exact (List.getElem?_eq_some_iff.mp hj).1
    have hrs : j = 0 ∨ j = 1 ∨ j = 2 ∨ j = 3 ∨ j = 4 ∨ j = 5 := by omega
    rcases hrs with rfl | rfl | rfl | rfl | rfl | rfl
    · cases hj
      unfold rOK
      rw [show exr ρ w.length [2, 3, 4, 5, 6, 7] (w.length + 0) = 2 from exr_ge 0]
      exact ⟨0, 0, (-1), rfl, exr_ge 1, ⟨by decide, by decide⟩, ⟨by decide, by decide⟩, ⟨by decide, by decide⟩, exr_ge 2, exr_ge 3, exr_ge 4, exr_ge 5⟩
    · cases hj
      unfold rOK
      rw [show exr ρ w.length [2, 3, 4, 5, 6, 7] (w.length + 1) = 3 from exr_ge 1]
      exact ⟨_, rfl, fun j => by show _ ∧ _; decide⟩
    · cases hj
      unfold rOK
      rw [show exr ρ w.length [2, 3, 4, 5, 6, 7] (w.length + 2) = 4 from exr_ge 2]
      exact ⟨_, rfl, fun j => by show _ ∧ _; decide⟩
    · cases hj
      unfold rOK
      rw [show exr ρ w.length [2, 3, 4, 5, 6, 7] (w.length + 3) = 5 from exr_ge 3]
      exact ⟨_, rfl, fun j x hx => by cases hx⟩
    · cases hj
      unfold rOK
      rw [show exr ρ w.length [2, 3, 4, 5, 6, 7] (w.length + 4) = 6 from exr_ge 4]
      exact ⟨_, rfl, fun j x hx => by cases hx⟩
    · cases hj
      unfold rOK
      rw [show exr ρ w.length [2, 3, 4, 5, 6, 7] (w.length + 5) = 7 from exr_ge 5]
      exact ⟨_, rfl, fun j x hx => by cases hx⟩
  exact hR (zret_i rfl (Nat.le_refl _) rfl (h _ _ hci GRO_app (by rw [List.length_append]; rfl) (exr_ge 0) (exr_ni (by decide) (by decide)) ⟨_, _, ap_ix (j := 0), by decide, by decide⟩))
theorem n_Walk {ρ : Nat → Nat} {w : zW} (hw : CI ρ w) (d : Nat) (Q : zQ) (h : ∀ (σ : Nat → Nat) (w' : zW), CI σ w' → GRO ρ w σ w' → w'.length = w.length + 5 → σ w.length = 60 → WK w' w.length → Q none w') : zCl zTab (d + 2) iX9_init [.ref w.length] (w ++ [.inr (8, zdf 8)]) 4 21844 Q := by
  refine zCl_i (M := kX9_init) rfl (Nat.le_of_ble_eq_true rfl) fun R hR => ?_
  refine (?_ : R (_, _, _, w ++ [.inr (8, [.int 0, .null, .null, .null, .null])], 0, 0))
  refine hR (?_ : R (_, _, _, _, _, _))
  refine hR (?_ : R (_, _, _, _, _, _))
  refine hR (?_ : R (_, _, _, _, _, _))
  refine hR (?_ : R (_, _, _, _, _, _))
  refine hR (t_pa (j := 0) rfl rfl rfl ?_)
  refine (?_ : R (_, _, [], w ++ [.inr (8, [.int (Int32.ofInt 0), .null, .null, .null, .null])], 0, 0))
  refine hR (?_ : R (_, _, _, _, _, _))
  refine hR (t_c 5461 (by decide) ?_)
  refine hR (t_na ?_)
  refine (?_ : R (_, _, .ref (w.length + 1) :: .ref w.length :: [], w ++ [.inr (8, [.int (Int32.ofInt 0), .null, .null, .null, .null]), .inl (1, 5461, .inl fun _ => 0)], 1, 5461))
  refine hR (t_pa (j := 0) rfl rfl rfl ?_)
  refine (?_ : R (_, _, [], w ++ [.inr (8, [.int (Int32.ofInt 0), .ref (w.length + 1), .null, .null, .null]), .inl (1, 5461, .inl fun _ => 0)], 1, 5461))
  refine hR (?_ : R (_, _, _, _, _, _))
  refine hR (t_c 5461 (by decide) ?_)
  refine hR (t_na ?_)
  refine (?_ : R (_, _, .ref (w.length + 2) :: .ref w.length :: [], w ++ [.inr (8, [.int (Int32.ofInt 0), .ref (w.length + 1), .null, .null, .null]), .inl (1, 5461, .inl fun _ => 0), .inl (1, 5461, .inl fun _ => 0)], 2, 10922))
  refine hR (t_pa (j := 0) rfl rfl rfl ?_)
  refine (?_ : R (_, _, [], w ++ [.inr (8, [.int (Int32.ofInt 0), .ref (w.length + 1), .ref (w.length + 2), .null, .null]), .inl (1, 5461, .inl fun _ => 0), .inl (1, 5461, .inl fun _ => 0)], 2, 10922))
  refine hR (?_ : R (_, _, _, _, _, _))
  refine hR (t_c 5461 (by decide) ?_)
  refine hR (t_na ?_)
  refine (?_ : R (_, _, .ref (w.length + 3) :: .ref w.length :: [], w ++ [.inr (8, [.int (Int32.ofInt 0), .ref (w.length + 1), .ref (w.length + 2), .null, .null]), .inl (1, 5461, .inl fun _ => 0), .inl (1, 5461, .inl fun _ => 0), .inl (1, 5461, .inl fun _ => 0)], 3, 16383))
  refine hR (t_pa (j := 0) rfl rfl rfl ?_)
  refine (?_ : R (_, _, [], w ++ [.inr (8, [.int (Int32.ofInt 0), .ref (w.length + 1), .ref (w.length + 2), .ref (w.length + 3), .null]), .inl (1, 5461, .inl fun _ => 0), .inl (1, 5461, .inl fun _ => 0), .inl (1, 5461, .inl fun _ => 0)], 3, 16383))
  refine hR (?_ : R (_, _, _, _, _, _))
  refine hR (t_c 5461 (by decide) ?_)
  refine hR (t_na ?_)
  refine (?_ : R (_, _, .ref (w.length + 4) :: .ref w.length :: [], w ++ [.inr (8, [.int (Int32.ofInt 0), .ref (w.length + 1), .ref (w.length + 2), .ref (w.length + 3), .null]), .inl (1, 5461, .inl fun _ => 0), .inl (1, 5461, .inl fun _ => 0), .inl (1, 5461, .inl fun _ => 0), .inl (1, 5461, .inl fun _ => 0)], 4, 21844))
  refine hR (t_pa (j := 0) rfl rfl rfl ?_)
  refine (?_ : R (_, _, [], w ++ [.inr (8, [.int (Int32.ofInt 0), .ref (w.length + 1), .ref (w.length + 2), .ref (w.length + 3), .ref (w.length + 4)]), .inl (1, 5461, .inl fun _ => 0), .inl (1, 5461, .inl fun _ => 0), .inl (1, 5461, .inl fun _ => 0), .inl (1, 5461, .inl fun _ => 0)], 4, 21844))
  refine hR (?_ : R (_, _, _, _, _, _))
  refine hR (t_ga (j := 0) rfl rfl ?_)
  refine hR (?_ : R (_, _, _, _, _, _))
  have hci : CI (exr ρ w.length [60, 61, 62, 63, 64]) (w ++ [.inr (8, [.int (Int32.ofInt 0), .ref (w.length + 1), .ref (w.length + 2), .ref (w.length + 3), .ref (w.length + 4)]), .inl (1, 5461, .inl fun _ => 0), .inl (1, 5461, .inl fun _ => 0), .inl (1, 5461, .inl fun _ => 0), .inl (1, 5461, .inl fun _ => 0)]) := by
    refine CI_app hw _ _ rfl (fun j c hj => ?_) (by decide)
    have hjl : j < 5 := by
      rw [zix_eq] at hj
      exact (List.getElem?_eq_some_iff.mp hj).1
    have hrs : j = 0 ∨ j = 1 ∨ j = 2 ∨ j = 3 ∨ j = 4 := by omega
    rcases hrs with rfl | rfl | rfl | rfl | rfl
    · cases hj
      unfold rOK
      rw [show exr ρ w.length [60, 61, 62, 63, 64] (w.length + 0) = 60 from exr_ge 0]
      exact ⟨0, rfl, ⟨by decide, by decide⟩, exr_ge 1, exr_ge 2, exr_ge 3, exr_ge 4⟩
    · cases hj
      unfold rOK
      rw [show exr ρ w.length [60, 61, 62, 63, 64] (w.length + 1) = 61 from exr_ge 1]
      exact ⟨_, rfl, fun j => by show _ ∧ _; decide⟩
    · cases hj
      unfold rOK
      rw [show exr ρ w.length [60, 61, 62, 63, 64] (w.length + 2) = 62 from exr_ge 2]
      exact ⟨_, rfl, fun j => by show _ ∧ _; decide⟩
    · cases hj
      unfold rOK
      rw [show exr ρ w.length [60, 61, 62, 63, 64] (w.length + 3) = 63 from exr_ge 3]
      exact ⟨_, rfl, fun j => by show _ ∧ _; decide⟩
    · cases hj
      unfold rOK
      rw [show exr ρ w.length [60, 61, 62, 63, 64] (w.length + 4) = 64 from exr_ge 4]
      exact ⟨_, rfl, fun j => by show _ ∧ _; decide⟩
  have hr : exr ρ w.length [60, 61, 62, 63, 64] (w.length + 2) = 62 := exr_ge 2
  refine hR (zcall_i 0 0 (Nat.le_of_ble_eq_true rfl) (Nat.le_of_ble_eq_true rfl) (c_fill _ _ 5461 (-1) (-2147483648) 2147483647 hci (by rw [hr]; rfl) ⟨by rw [hr]; decide, by rw [hr]; decide⟩ (by omega) (by omega) (by omega) _ fun w1 hw1 f1 hg1 => ?_))
  refine (?_ : R (_, _, [], w1, 4, 21844))
  exact hR (zret_i rfl (Nat.le_refl _) rfl (h _ _ hw1 (GRO_wfr GRO_app f1 (by omega)) (by rw [f1.1, List.length_append]; rfl) (exr_ge 0) (wk_new f1 hg1)))
theorem n_Levels {ρ : Nat → Nat} {w : zW} (hw : CI ρ w) (d : Nat) (Q : zQ) (h : ∀ (σ : Nat → Nat) (w' : zW), CI σ w' → GRO ρ w σ w' → w'.length = w.length + 7 → σ w.length = 70 → (∀ q, w.length ≤ q → σ q ≠ 60) → Q none w') : zCl zTab (d + 2) iX2_init [.ref w.length] (w ++ [.inr (2, zdf 2)]) 6 82732 Q := by
  refine zCl_i (M := kX2_init) rfl (Nat.le_of_ble_eq_true rfl) fun R hR => ?_
  refine (?_ : R (_, _, _, w ++ [.inr (2, [.null, .int 0, .int 0, .int 0, .null, .null, .null, .null, .null, .null])], 0, 0))
  refine hR (?_ : R (_, _, _, _, _, _))
  refine hR (?_ : R (_, _, _, _, _, _))
  refine hR (?_ : R (_, _, _, _, _, _))
  refine hR (?_ : R (_, _, _, _, _, _))
  refine hR (t_pa (j := 0) rfl rfl rfl ?_)
  refine (?_ : R (_, _, [], w ++ [.inr (2, [.null, .int 0, .int 0, .int 0, .null, .null, .null, .null, .null, .null])], 0, 0))
  refine hR (?_ : R (_, _, _, _, _, _))
  refine hR (?_ : R (_, _, _, _, _, _))
  refine hR (t_pa (j := 0) rfl rfl rfl ?_)
  refine (?_ : R (_, _, [], w ++ [.inr (2, [.null, .int (Int32.ofInt 0), .int 0, .int 0, .null, .null, .null, .null, .null, .null])], 0, 0))
  refine hR (?_ : R (_, _, _, _, _, _))
  refine hR (?_ : R (_, _, _, _, _, _))
  refine hR (t_pa (j := 0) rfl rfl rfl ?_)
  refine (?_ : R (_, _, [], w ++ [.inr (2, [.null, .int (Int32.ofInt 0), .int (Int32.ofInt 0), .int 0, .null, .null, .null, .null, .null, .null])], 0, 0))
  refine hR (?_ : R (_, _, _, _, _, _))
  refine hR (?_ : R (_, _, _, _, _, _))
  refine hR (t_pa (j := 0) rfl rfl rfl ?_)
  refine (?_ : R (_, _, [], w ++ [.inr (2, [.null, .int (Int32.ofInt 0), .int (Int32.ofInt 0), .int (Int32.ofInt 0), .null, .null, .null, .null, .null, .null])], 0, 0))
  refine hR (?_ : R (_, _, _, _, _, _))
  refine hR (t_c 11 (by decide) ?_)
  refine hR (t_na ?_)
  refine (?_ : R (_, _, .ref (w.length + 1) :: .ref w.length :: [], w ++ [.inr (2, [.null, .int (Int32.ofInt 0), .int (Int32.ofInt 0), .int (Int32.ofInt 0), .null, .null, .null, .null, .null, .null]), .inl (1, 11, .inl fun _ => 0)], 1, 11))
  refine hR (t_pa (j := 0) rfl rfl rfl ?_)
  refine (?_ : R (_, _, [], w ++ [.inr (2, [.null, .int (Int32.ofInt 0), .int (Int32.ofInt 0), .int (Int32.ofInt 0), .ref (w.length + 1), .null, .null, .null, .null, .null]), .inl (1, 11, .inl fun _ => 0)], 1, 11))
  refine hR (?_ : R (_, _, _, _, _, _))
  refine hR (t_c 10 (by decide) ?_)
  refine hR (t_na ?_)
  refine (?_ : R (_, _, .ref (w.length + 2) :: .ref w.length :: [], w ++ [.inr (2, [.null, .int (Int32.ofInt 0), .int (Int32.ofInt 0), .int (Int32.ofInt 0), .ref (w.length + 1), .null, .null, .null, .null, .null]), .inl (1, 11, .inl fun _ => 0), .inl (1, 10, .inl fun _ => 0)], 2, 21))
  refine hR (t_pa (j := 0) rfl rfl rfl ?_)
  refine (?_ : R (_, _, [], w ++ [.inr (2, [.null, .int (Int32.ofInt 0), .int (Int32.ofInt 0), .int (Int32.ofInt 0), .ref (w.length + 1), .ref (w.length + 2), .null, .null, .null, .null]), .inl (1, 11, .inl fun _ => 0), .inl (1, 10, .inl fun _ => 0)], 2, 21))
  refine hR (?_ : R (_, _, _, _, _, _))
  refine hR (t_c 25750 (by decide) ?_)
  refine hR (t_na ?_)
  refine (?_ : R (_, _, .ref (w.length + 3) :: .ref w.length :: [], w ++ [.inr (2, [.null, .int (Int32.ofInt 0), .int (Int32.ofInt 0), .int (Int32.ofInt 0), .ref (w.length + 1), .ref (w.length + 2), .null, .null, .null, .null]), .inl (1, 11, .inl fun _ => 0), .inl (1, 10, .inl fun _ => 0), .inl (1, 25750, .inl fun _ => 0)], 3, 25771))
  refine hR (t_pa (j := 0) rfl rfl rfl ?_)
  refine (?_ : R (_, _, [], w ++ [.inr (2, [.null, .int (Int32.ofInt 0), .int (Int32.ofInt 0), .int (Int32.ofInt 0), .ref (w.length + 1), .ref (w.length + 2), .ref (w.length + 3), .null, .null, .null]), .inl (1, 11, .inl fun _ => 0), .inl (1, 10, .inl fun _ => 0), .inl (1, 25750, .inl fun _ => 0)], 3, 25771))
  refine hR (?_ : R (_, _, _, _, _, _))
  refine hR (t_c 25750 (by decide) ?_)
  refine hR (t_na ?_)
  refine (?_ : R (_, _, .ref (w.length + 4) :: .ref w.length :: [], w ++ [.inr (2, [.null, .int (Int32.ofInt 0), .int (Int32.ofInt 0), .int (Int32.ofInt 0), .ref (w.length + 1), .ref (w.length + 2), .ref (w.length + 3), .null, .null, .null]), .inl (1, 11, .inl fun _ => 0), .inl (1, 10, .inl fun _ => 0), .inl (1, 25750, .inl fun _ => 0), .inl (1, 25750, .inl fun _ => 0)], 4, 51521))
  refine hR (t_pa (j := 0) rfl rfl rfl ?_)
  refine (?_ : R (_, _, [], w ++ [.inr (2, [.null, .int (Int32.ofInt 0), .int (Int32.ofInt 0), .int (Int32.ofInt 0), .ref (w.length + 1), .ref (w.length + 2), .ref (w.length + 3), .ref (w.length + 4), .null, .null]), .inl (1, 11, .inl fun _ => 0), .inl (1, 10, .inl fun _ => 0), .inl (1, 25750, .inl fun _ => 0), .inl (1, 25750, .inl fun _ => 0)], 4, 51521))
  refine hR (?_ : R (_, _, _, _, _, _))
  refine hR (t_c 25750 (by decide) ?_)
  refine hR (t_na ?_)
  refine (?_ : R (_, _, .ref (w.length + 5) :: .ref w.length :: [], w ++ [.inr (2, [.null, .int (Int32.ofInt 0), .int (Int32.ofInt 0), .int (Int32.ofInt 0), .ref (w.length + 1), .ref (w.length + 2), .ref (w.length + 3), .ref (w.length + 4), .null, .null]), .inl (1, 11, .inl fun _ => 0), .inl (1, 10, .inl fun _ => 0), .inl (1, 25750, .inl fun _ => 0), .inl (1, 25750, .inl fun _ => 0), .inl (1, 25750, .inl fun _ => 0)], 5, 77271))
  refine hR (t_pa (j := 0) rfl rfl rfl ?_)
  refine (?_ : R (_, _, [], w ++ [.inr (2, [.null, .int (Int32.ofInt 0), .int (Int32.ofInt 0), .int (Int32.ofInt 0), .ref (w.length + 1), .ref (w.length + 2), .ref (w.length + 3), .ref (w.length + 4), .ref (w.length + 5), .null]), .inl (1, 11, .inl fun _ => 0), .inl (1, 10, .inl fun _ => 0), .inl (1, 25750, .inl fun _ => 0), .inl (1, 25750, .inl fun _ => 0), .inl (1, 25750, .inl fun _ => 0)], 5, 77271))
  refine hR (?_ : R (_, _, _, _, _, _))
  refine hR (t_c 5461 (by decide) ?_)
  refine hR (t_na ?_)
  refine (?_ : R (_, _, .ref (w.length + 6) :: .ref w.length :: [], w ++ [.inr (2, [.null, .int (Int32.ofInt 0), .int (Int32.ofInt 0), .int (Int32.ofInt 0), .ref (w.length + 1), .ref (w.length + 2), .ref (w.length + 3), .ref (w.length + 4), .ref (w.length + 5), .null]), .inl (1, 11, .inl fun _ => 0), .inl (1, 10, .inl fun _ => 0), .inl (1, 25750, .inl fun _ => 0), .inl (1, 25750, .inl fun _ => 0), .inl (1, 25750, .inl fun _ => 0), .inl (1, 5461, .inl fun _ => 0)], 6, 82732))
  refine hR (t_pa (j := 0) rfl rfl rfl ?_)
  refine (?_ : R (_, _, [], w ++ [.inr (2, [.null, .int (Int32.ofInt 0), .int (Int32.ofInt 0), .int (Int32.ofInt 0), .ref (w.length + 1), .ref (w.length + 2), .ref (w.length + 3), .ref (w.length + 4), .ref (w.length + 5), .ref (w.length + 6)]), .inl (1, 11, .inl fun _ => 0), .inl (1, 10, .inl fun _ => 0), .inl (1, 25750, .inl fun _ => 0), .inl (1, 25750, .inl fun _ => 0), .inl (1, 25750, .inl fun _ => 0), .inl (1, 5461, .inl fun _ => 0)], 6, 82732))
  refine hR (?_ : R (_, _, _, _, _, _))
  refine hR (t_ga (j := 0) rfl rfl ?_)
  refine hR (?_ : R (_, _, _, _, _, _))
  have hci : CI (exr ρ w.length [70, 71, 72, 73, 74, 75, 76]) (w ++ [.inr (2, [.null, .int (Int32.ofInt 0), .int (Int32.ofInt 0), .int (Int32.ofInt 0), .ref (w.length + 1), .ref (w.length + 2), .ref (w.length + 3), .ref (w.length + 4), .ref (w.length + 5), .ref (w.length + 6)]), .inl (1, 11, .inl fun _ => 0), .inl (1, 10, .inl fun _ => 0), .inl (1, 25750, .inl fun _ => 0), .inl (1, 25750, .inl fun _ => 0), .inl (1, 25750, .inl fun _ => 0), .inl (1, 5461, .inl fun _ => 0)]) := by
    refine CI_app hw _ _ rfl (fun j c hj => ?_) (by decide)
    have hjl : j < 7 := by
      rw [zix_eq] at hj
      exact (List.getElem?_eq_some_iff.mp hj).1
    have hrs : j = 0 ∨ j = 1 ∨ j = 2 ∨ j = 3 ∨ j = 4 ∨ j = 5 ∨ j = 6 := by omega
    rcases hrs with rfl | rfl | rfl | rfl | rfl | rfl | rfl
    · cases hj
      unfold rOK
      rw [show exr ρ w.length [70, 71, 72, 73, 74, 75, 76] (w.length + 0) = 70 from exr_ge 0]
      exact ⟨none, 0, 0, 0, rfl, (fun z hz => by cases hz), ⟨by decide, by decide⟩, ⟨by decide, by decide⟩, ⟨by decide, by decide⟩, exr_ge 1, exr_ge 2, exr_ge 3, exr_ge 4, exr_ge 5, exr_ge 6⟩
    · cases hj
      unfold rOK
      rw [show exr ρ w.length [70, 71, 72, 73, 74, 75, 76] (w.length + 1) = 71 from exr_ge 1]
      exact ⟨_, rfl, fun j => by show _ ∧ _; decide⟩
    · cases hj
      unfold rOK
      rw [show exr ρ w.length [70, 71, 72, 73, 74, 75, 76] (w.length + 2) = 72 from exr_ge 2]
      exact ⟨_, rfl, fun j => by show _ ∧ _; decide⟩
    · cases hj
      unfold rOK
      rw [show exr ρ w.length [70, 71, 72, 73, 74, 75, 76] (w.length + 3) = 73 from exr_ge 3]
      exact ⟨_, rfl, fun j => by show _ ∧ _; decide⟩
    · cases hj
      unfold rOK
      rw [show exr ρ w.length [70, 71, 72, 73, 74, 75, 76] (w.length + 4) = 74 from exr_ge 4]
      exact ⟨_, rfl, fun j => by show _ ∧ _; decide⟩
    · cases hj
      unfold rOK
      rw [show exr ρ w.length [70, 71, 72, 73, 74, 75, 76] (w.length + 5) = 75 from exr_ge 5]
      exact ⟨_, rfl, fun j => by show _ ∧ _; decide⟩
    · cases hj
      unfold rOK
      rw [show exr ρ w.length [70, 71, 72, 73, 74, 75, 76] (w.length + 6) = 76 from exr_ge 6]
      exact ⟨_, rfl, fun j => by show _ ∧ _; decide⟩
  have hr : exr ρ w.length [70, 71, 72, 73, 74, 75, 76] (w.length + 6) = 76 := exr_ge 6
  refine hR (zcall_i 0 0 (Nat.le_of_ble_eq_true rfl) (Nat.le_of_ble_eq_true rfl) (c_fill _ _ 5461 (-1) (-1) 25749 hci (by rw [hr]; rfl) ⟨by rw [hr]; decide, by rw [hr]; decide⟩ (by omega) (by omega) (by omega) _ fun w1 hw1 f1 hg1 => ?_))
  refine (?_ : R (_, _, [], w1, 6, 82732))
  exact hR (zret_i rfl (Nat.le_refl _) rfl (h _ _ hw1 (GRO_wfr GRO_app f1 (by omega)) (by rw [f1.1, List.length_append]; rfl) (exr_ge 0) (exr_ni (by decide) (by decide))))
theorem n_Rings {ρ : Nat → Nat} {w : zW} (hw : CI ρ w) (d : Nat) (Q : zQ) (h : ∀ (σ : Nat → Nat) (w' : zW), CI σ w' → GRO ρ w σ w' → w'.length = w.length + 11 → σ w.length = 80 → (∀ q, w.length ≤ q → σ q ≠ 60) → Q none w') : zCl zTab (d + 2) iX5_init [.ref w.length] (w ++ [.inr (4, zdf 4)]) 10 49155 Q := by
  refine zCl_i (M := kX5_init) rfl (Nat.le_of_ble_eq_true rfl) fun R hR => ?_
  refine (?_ : R (_, _, _, w ++ [.inr (4, [.null, .int 0, .int 0, .int 0, .int 0, .int 0, .null, .null, .null, .null, .null, .null, .null, .null, .null])], 0, 0))
  refine hR (?_ : R (_, _, _, _, _, _))
  refine hR (?_ : R (_, _, _, _, _, _))
  refine hR (?_ : R (_, _, _, _, _, _))
  refine hR (t_c 6 (by decide) ?_)
  refine hR (t_na ?_)
  refine (?_ : R (_, _, .ref (w.length + 1) :: .ref w.length :: [], w ++ [.inr (4, [.null, .int 0, .int 0, .int 0, .int 0, .int 0, .null, .null, .null, .null, .null, .null, .null, .null, .null]), .inl (1, 6, .inl fun _ => 0)], 1, 6))
  refine hR (t_pa (j := 0) rfl rfl rfl ?_)
  refine (?_ : R (_, _, [], w ++ [.inr (4, [.ref (w.length + 1), .int 0, .int 0, .int 0, .int 0, .int 0, .null, .null, .null, .null, .null, .null, .null, .null, .null]), .inl (1, 6, .inl fun _ => 0)], 1, 6))
  refine hR (?_ : R (_, _, _, _, _, _))
  refine hR (?_ : R (_, _, _, _, _, _))
  refine hR (t_pa (j := 0) rfl rfl rfl ?_)
  refine (?_ : R (_, _, [], w ++ [.inr (4, [.ref (w.length + 1), .int (Int32.ofInt 0), .int 0, .int 0, .int 0, .int 0, .null, .null, .null, .null, .null, .null, .null, .null, .null]), .inl (1, 6, .inl fun _ => 0)], 1, 6))
  refine hR (?_ : R (_, _, _, _, _, _))
  refine hR (?_ : R (_, _, _, _, _, _))
  refine hR (t_pa (j := 0) rfl rfl rfl ?_)
  refine (?_ : R (_, _, [], w ++ [.inr (4, [.ref (w.length + 1), .int (Int32.ofInt 0), .int (Int32.ofInt 0), .int 0, .int 0, .int 0, .null, .null, .null, .null, .null, .null, .null, .null, .null]), .inl (1, 6, .inl fun _ => 0)], 1, 6))
  refine hR (?_ : R (_, _, _, _, _, _))
  refine hR (?_ : R (_, _, _, _, _, _))
  refine hR (t_pa (j := 0) rfl rfl rfl ?_)
  refine (?_ : R (_, _, [], w ++ [.inr (4, [.ref (w.length + 1), .int (Int32.ofInt 0), .int (Int32.ofInt 0), .int (Int32.ofInt 0), .int 0, .int 0, .null, .null, .null, .null, .null, .null, .null, .null, .null]), .inl (1, 6, .inl fun _ => 0)], 1, 6))
  refine hR (?_ : R (_, _, _, _, _, _))
  refine hR (?_ : R (_, _, _, _, _, _))
  refine hR (t_pa (j := 0) rfl rfl rfl ?_)
  refine (?_ : R (_, _, [], w ++ [.inr (4, [.ref (w.length + 1), .int (Int32.ofInt 0), .int (Int32.ofInt 0), .int (Int32.ofInt 0), .int (Int32.ofInt 0), .int 0, .null, .null, .null, .null, .null, .null, .null, .null, .null]), .inl (1, 6, .inl fun _ => 0)], 1, 6))
  refine hR (?_ : R (_, _, _, _, _, _))
  refine hR (?_ : R (_, _, _, _, _, _))
  refine hR (t_pa (j := 0) rfl rfl rfl ?_)
  refine (?_ : R (_, _, [], w ++ [.inr (4, [.ref (w.length + 1), .int (Int32.ofInt 0), .int (Int32.ofInt 0), .int (Int32.ofInt 0), .int (Int32.ofInt 0), .int (Int32.ofInt 0), .null, .null, .null, .null, .null, .null, .null, .null, .null]), .inl (1, 6, .inl fun _ => 0)], 1, 6))
  refine hR (?_ : R (_, _, _, _, _, _))
  refine hR (t_c 5461 (by decide) ?_)
  refine hR (t_na ?_)
  refine (?_ : R (_, _, .ref (w.length + 2) :: .ref w.length :: [], w ++ [.inr (4, [.ref (w.length + 1), .int (Int32.ofInt 0), .int (Int32.ofInt 0), .int (Int32.ofInt 0), .int (Int32.ofInt 0), .int (Int32.ofInt 0), .null, .null, .null, .null, .null, .null, .null, .null, .null]), .inl (1, 6, .inl fun _ => 0), .inl (1, 5461, .inl fun _ => 0)], 2, 5467))
  refine hR (t_pa (j := 0) rfl rfl rfl ?_)
  refine (?_ : R (_, _, [], w ++ [.inr (4, [.ref (w.length + 1), .int (Int32.ofInt 0), .int (Int32.ofInt 0), .int (Int32.ofInt 0), .int (Int32.ofInt 0), .int (Int32.ofInt 0), .ref (w.length + 2), .null, .null, .null, .null, .null, .null, .null, .null]), .inl (1, 6, .inl fun _ => 0), .inl (1, 5461, .inl fun _ => 0)], 2, 5467))
  refine hR (?_ : R (_, _, _, _, _, _))
  refine hR (t_c 5461 (by decide) ?_)
  refine hR (t_na ?_)
  refine (?_ : R (_, _, .ref (w.length + 3) :: .ref w.length :: [], w ++ [.inr (4, [.ref (w.length + 1), .int (Int32.ofInt 0), .int (Int32.ofInt 0), .int (Int32.ofInt 0), .int (Int32.ofInt 0), .int (Int32.ofInt 0), .ref (w.length + 2), .null, .null, .null, .null, .null, .null, .null, .null]), .inl (1, 6, .inl fun _ => 0), .inl (1, 5461, .inl fun _ => 0), .inl (1, 5461, .inl fun _ => 0)], 3, 10928))
  refine hR (t_pa (j := 0) rfl rfl rfl ?_)
  refine (?_ : R (_, _, [], w ++ [.inr (4, [.ref (w.length + 1), .int (Int32.ofInt 0), .int (Int32.ofInt 0), .int (Int32.ofInt 0), .int (Int32.ofInt 0), .int (Int32.ofInt 0), .ref (w.length + 2), .ref (w.length + 3), .null, .null, .null, .null, .null, .null, .null]), .inl (1, 6, .inl fun _ => 0), .inl (1, 5461, .inl fun _ => 0), .inl (1, 5461, .inl fun _ => 0)], 3, 10928))
  refine hR (?_ : R (_, _, _, _, _, _))
  refine hR (t_c 5461 (by decide) ?_)
  refine hR (t_na ?_)
  refine (?_ : R (_, _, .ref (w.length + 4) :: .ref w.length :: [], w ++ [.inr (4, [.ref (w.length + 1), .int (Int32.ofInt 0), .int (Int32.ofInt 0), .int (Int32.ofInt 0), .int (Int32.ofInt 0), .int (Int32.ofInt 0), .ref (w.length + 2), .ref (w.length + 3), .null, .null, .null, .null, .null, .null, .null]), .inl (1, 6, .inl fun _ => 0), .inl (1, 5461, .inl fun _ => 0), .inl (1, 5461, .inl fun _ => 0), .inl (1, 5461, .inl fun _ => 0)], 4, 16389))
  refine hR (t_pa (j := 0) rfl rfl rfl ?_)
  refine (?_ : R (_, _, [], w ++ [.inr (4, [.ref (w.length + 1), .int (Int32.ofInt 0), .int (Int32.ofInt 0), .int (Int32.ofInt 0), .int (Int32.ofInt 0), .int (Int32.ofInt 0), .ref (w.length + 2), .ref (w.length + 3), .ref (w.length + 4), .null, .null, .null, .null, .null, .null]), .inl (1, 6, .inl fun _ => 0), .inl (1, 5461, .inl fun _ => 0), .inl (1, 5461, .inl fun _ => 0), .inl (1, 5461, .inl fun _ => 0)], 4, 16389))
  refine hR (?_ : R (_, _, _, _, _, _))
  refine hR (t_c 5461 (by decide) ?_)
  refine hR (t_na ?_)
  refine (?_ : R (_, _, .ref (w.length + 5) :: .ref w.length :: [], w ++ [.inr (4, [.ref (w.length + 1), .int (Int32.ofInt 0), .int (Int32.ofInt 0), .int (Int32.ofInt 0), .int (Int32.ofInt 0), .int (Int32.ofInt 0), .ref (w.length + 2), .ref (w.length + 3), .ref (w.length + 4), .null, .null, .null, .null, .null, .null]), .inl (1, 6, .inl fun _ => 0), .inl (1, 5461, .inl fun _ => 0), .inl (1, 5461, .inl fun _ => 0), .inl (1, 5461, .inl fun _ => 0), .inl (1, 5461, .inl fun _ => 0)], 5, 21850))
  refine hR (t_pa (j := 0) rfl rfl rfl ?_)
  refine (?_ : R (_, _, [], w ++ [.inr (4, [.ref (w.length + 1), .int (Int32.ofInt 0), .int (Int32.ofInt 0), .int (Int32.ofInt 0), .int (Int32.ofInt 0), .int (Int32.ofInt 0), .ref (w.length + 2), .ref (w.length + 3), .ref (w.length + 4), .ref (w.length + 5), .null, .null, .null, .null, .null]), .inl (1, 6, .inl fun _ => 0), .inl (1, 5461, .inl fun _ => 0), .inl (1, 5461, .inl fun _ => 0), .inl (1, 5461, .inl fun _ => 0), .inl (1, 5461, .inl fun _ => 0)], 5, 21850))
  refine hR (?_ : R (_, _, _, _, _, _))
  refine hR (t_c 5461 (by decide) ?_)
  refine hR (t_na ?_)
  refine (?_ : R (_, _, .ref (w.length + 6) :: .ref w.length :: [], w ++ [.inr (4, [.ref (w.length + 1), .int (Int32.ofInt 0), .int (Int32.ofInt 0), .int (Int32.ofInt 0), .int (Int32.ofInt 0), .int (Int32.ofInt 0), .ref (w.length + 2), .ref (w.length + 3), .ref (w.length + 4), .ref (w.length + 5), .null, .null, .null, .null, .null]), .inl (1, 6, .inl fun _ => 0), .inl (1, 5461, .inl fun _ => 0), .inl (1, 5461, .inl fun _ => 0), .inl (1, 5461, .inl fun _ => 0), .inl (1, 5461, .inl fun _ => 0), .inl (1, 5461, .inl fun _ => 0)], 6, 27311))
  refine hR (t_pa (j := 0) rfl rfl rfl ?_)
  refine (?_ : R (_, _, [], w ++ [.inr (4, [.ref (w.length + 1), .int (Int32.ofInt 0), .int (Int32.ofInt 0), .int (Int32.ofInt 0), .int (Int32.ofInt 0), .int (Int32.ofInt 0), .ref (w.length + 2), .ref (w.length + 3), .ref (w.length + 4), .ref (w.length + 5), .ref (w.length + 6), .null, .null, .null, .null]), .inl (1, 6, .inl fun _ => 0), .inl (1, 5461, .inl fun _ => 0), .inl (1, 5461, .inl fun _ => 0), .inl (1, 5461, .inl fun _ => 0), .inl (1, 5461, .inl fun _ => 0), .inl (1, 5461, .inl fun _ => 0)], 6, 27311))
  refine hR (?_ : R (_, _, _, _, _, _))
  refine hR (t_c 5461 (by decide) ?_)
  refine hR (t_na ?_)
  refine (?_ : R (_, _, .ref (w.length + 7) :: .ref w.length :: [], w ++ [.inr (4, [.ref (w.length + 1), .int (Int32.ofInt 0), .int (Int32.ofInt 0), .int (Int32.ofInt 0), .int (Int32.ofInt 0), .int (Int32.ofInt 0), .ref (w.length + 2), .ref (w.length + 3), .ref (w.length + 4), .ref (w.length + 5), .ref (w.length + 6), .null, .null, .null, .null]), .inl (1, 6, .inl fun _ => 0), .inl (1, 5461, .inl fun _ => 0), .inl (1, 5461, .inl fun _ => 0), .inl (1, 5461, .inl fun _ => 0), .inl (1, 5461, .inl fun _ => 0), .inl (1, 5461, .inl fun _ => 0), .inl (1, 5461, .inl fun _ => 0)], 7, 32772))
  refine hR (t_pa (j := 0) rfl rfl rfl ?_)
  refine (?_ : R (_, _, [], w ++ [.inr (4, [.ref (w.length + 1), .int (Int32.ofInt 0), .int (Int32.ofInt 0), .int (Int32.ofInt 0), .int (Int32.ofInt 0), .int (Int32.ofInt 0), .ref (w.length + 2), .ref (w.length + 3), .ref (w.length + 4), .ref (w.length + 5), .ref (w.length + 6), .ref (w.length + 7), .null, .null, .null]), .inl (1, 6, .inl fun _ => 0), .inl (1, 5461, .inl fun _ => 0), .inl (1, 5461, .inl fun _ => 0), .inl (1, 5461, .inl fun _ => 0), .inl (1, 5461, .inl fun _ => 0), .inl (1, 5461, .inl fun _ => 0), .inl (1, 5461, .inl fun _ => 0)], 7, 32772))
  refine hR (?_ : R (_, _, _, _, _, _))
  refine hR (t_c 5461 (by decide) ?_)
  refine hR (t_na ?_)
  refine (?_ : R (_, _, .ref (w.length + 8) :: .ref w.length :: [], w ++ [.inr (4, [.ref (w.length + 1), .int (Int32.ofInt 0), .int (Int32.ofInt 0), .int (Int32.ofInt 0), .int (Int32.ofInt 0), .int (Int32.ofInt 0), .ref (w.length + 2), .ref (w.length + 3), .ref (w.length + 4), .ref (w.length + 5), .ref (w.length + 6), .ref (w.length + 7), .null, .null, .null]), .inl (1, 6, .inl fun _ => 0), .inl (1, 5461, .inl fun _ => 0), .inl (1, 5461, .inl fun _ => 0), .inl (1, 5461, .inl fun _ => 0), .inl (1, 5461, .inl fun _ => 0), .inl (1, 5461, .inl fun _ => 0), .inl (1, 5461, .inl fun _ => 0), .inl (1, 5461, .inl fun _ => 0)], 8, 38233))
  refine hR (t_pa (j := 0) rfl rfl rfl ?_)
  refine (?_ : R (_, _, [], w ++ [.inr (4, [.ref (w.length + 1), .int (Int32.ofInt 0), .int (Int32.ofInt 0), .int (Int32.ofInt 0), .int (Int32.ofInt 0), .int (Int32.ofInt 0), .ref (w.length + 2), .ref (w.length + 3), .ref (w.length + 4), .ref (w.length + 5), .ref (w.length + 6), .ref (w.length + 7), .ref (w.length + 8), .null, .null]), .inl (1, 6, .inl fun _ => 0), .inl (1, 5461, .inl fun _ => 0), .inl (1, 5461, .inl fun _ => 0), .inl (1, 5461, .inl fun _ => 0), .inl (1, 5461, .inl fun _ => 0), .inl (1, 5461, .inl fun _ => 0), .inl (1, 5461, .inl fun _ => 0), .inl (1, 5461, .inl fun _ => 0)], 8, 38233))
  refine hR (?_ : R (_, _, _, _, _, _))
  refine hR (t_c 5461 (by decide) ?_)
  refine hR (t_na ?_)
  refine (?_ : R (_, _, .ref (w.length + 9) :: .ref w.length :: [], w ++ [.inr (4, [.ref (w.length + 1), .int (Int32.ofInt 0), .int (Int32.ofInt 0), .int (Int32.ofInt 0), .int (Int32.ofInt 0), .int (Int32.ofInt 0), .ref (w.length + 2), .ref (w.length + 3), .ref (w.length + 4), .ref (w.length + 5), .ref (w.length + 6), .ref (w.length + 7), .ref (w.length + 8), .null, .null]), .inl (1, 6, .inl fun _ => 0), .inl (1, 5461, .inl fun _ => 0), .inl (1, 5461, .inl fun _ => 0), .inl (1, 5461, .inl fun _ => 0), .inl (1, 5461, .inl fun _ => 0), .inl (1, 5461, .inl fun _ => 0), .inl (1, 5461, .inl fun _ => 0), .inl (1, 5461, .inl fun _ => 0), .inl (1, 5461, .inl fun _ => 0)], 9, 43694))
  refine hR (t_pa (j := 0) rfl rfl rfl ?_)
  refine (?_ : R (_, _, [], w ++ [.inr (4, [.ref (w.length + 1), .int (Int32.ofInt 0), .int (Int32.ofInt 0), .int (Int32.ofInt 0), .int (Int32.ofInt 0), .int (Int32.ofInt 0), .ref (w.length + 2), .ref (w.length + 3), .ref (w.length + 4), .ref (w.length + 5), .ref (w.length + 6), .ref (w.length + 7), .ref (w.length + 8), .ref (w.length + 9), .null]), .inl (1, 6, .inl fun _ => 0), .inl (1, 5461, .inl fun _ => 0), .inl (1, 5461, .inl fun _ => 0), .inl (1, 5461, .inl fun _ => 0), .inl (1, 5461, .inl fun _ => 0), .inl (1, 5461, .inl fun _ => 0), .inl (1, 5461, .inl fun _ => 0), .inl (1, 5461, .inl fun _ => 0), .inl (1, 5461, .inl fun _ => 0)], 9, 43694))
  refine hR (?_ : R (_, _, _, _, _, _))
  refine hR (t_c 5461 (by decide) ?_)
  refine hR (t_na ?_)
  refine (?_ : R (_, _, .ref (w.length + 10) :: .ref w.length :: [], w ++ [.inr (4, [.ref (w.length + 1), .int (Int32.ofInt 0), .int (Int32.ofInt 0), .int (Int32.ofInt 0), .int (Int32.ofInt 0), .int (Int32.ofInt 0), .ref (w.length + 2), .ref (w.length + 3), .ref (w.length + 4), .ref (w.length + 5), .ref (w.length + 6), .ref (w.length + 7), .ref (w.length + 8), .ref (w.length + 9), .null]), .inl (1, 6, .inl fun _ => 0), .inl (1, 5461, .inl fun _ => 0), .inl (1, 5461, .inl fun _ => 0), .inl (1, 5461, .inl fun _ => 0), .inl (1, 5461, .inl fun _ => 0), .inl (1, 5461, .inl fun _ => 0), .inl (1, 5461, .inl fun _ => 0), .inl (1, 5461, .inl fun _ => 0), .inl (1, 5461, .inl fun _ => 0), .inl (1, 5461, .inl fun _ => 0)], 10, 49155))
  refine hR (t_pa (j := 0) rfl rfl rfl ?_)
  refine (?_ : R (_, _, [], w ++ [.inr (4, [.ref (w.length + 1), .int (Int32.ofInt 0), .int (Int32.ofInt 0), .int (Int32.ofInt 0), .int (Int32.ofInt 0), .int (Int32.ofInt 0), .ref (w.length + 2), .ref (w.length + 3), .ref (w.length + 4), .ref (w.length + 5), .ref (w.length + 6), .ref (w.length + 7), .ref (w.length + 8), .ref (w.length + 9), .ref (w.length + 10)]), .inl (1, 6, .inl fun _ => 0), .inl (1, 5461, .inl fun _ => 0), .inl (1, 5461, .inl fun _ => 0), .inl (1, 5461, .inl fun _ => 0), .inl (1, 5461, .inl fun _ => 0), .inl (1, 5461, .inl fun _ => 0), .inl (1, 5461, .inl fun _ => 0), .inl (1, 5461, .inl fun _ => 0), .inl (1, 5461, .inl fun _ => 0), .inl (1, 5461, .inl fun _ => 0)], 10, 49155))
  have hci : CI (exr ρ w.length [80, 81, 82, 83, 84, 85, 86, 87, 88, 89, 90]) (w ++ [.inr (4, [.ref (w.length + 1), .int (Int32.ofInt 0), .int (Int32.ofInt 0), .int (Int32.ofInt 0), .int (Int32.ofInt 0), .int (Int32.ofInt 0), .ref (w.length + 2), .ref (w.length + 3), .ref (w.length + 4), .ref (w.length + 5), .ref (w.length + 6), .ref (w.length + 7), .ref (w.length + 8), .ref (w.length + 9), .ref (w.length + 10)]), .inl (1, 6, .inl fun _ => 0), .inl (1, 5461, .inl fun _ => 0), .inl (1, 5461, .inl fun _ => 0), .inl (1, 5461, .inl fun _ => 0), .inl (1, 5461, .inl fun _ => 0), .inl (1, 5461, .inl fun _ => 0), .inl (1, 5461, .inl fun _ => 0), .inl (1, 5461, .inl fun _ => 0), .inl (1, 5461, .inl fun _ => 0), .inl (1, 5461, .inl fun _ => 0)]) := by
    refine CI_app hw _ _ rfl (fun j c hj => ?_) (by decide)
    have hjl : j < 11 := by
      rw [zix_eq] at hj
      exact (List.getElem?_eq_some_iff.mp hj).1
    have hrs : j = 0 ∨ j = 1 ∨ j = 2 ∨ j = 3 ∨ j = 4 ∨ j = 5 ∨ j = 6 ∨ j = 7 ∨ j = 8 ∨ j = 9 ∨ j = 10 := by omega
    rcases hrs with rfl | rfl | rfl | rfl | rfl | rfl | rfl | rfl | rfl | rfl | rfl
    · cases hj
      unfold rOK
      rw [show exr ρ w.length [80, 81, 82, 83, 84, 85, 86, 87, 88, 89, 90] (w.length + 0) = 80 from exr_ge 0]
      exact ⟨0, 0, 0, 0, 0, rfl, exr_ge 1, ⟨by decide, by decide⟩, ⟨by decide, by decide⟩, ⟨by decide, by decide⟩, ⟨by decide, by decide⟩, ⟨by decide, by decide⟩, exr_ge 2, exr_ge 3, exr_ge 4, exr_ge 5, exr_ge 6, exr_ge 7, exr_ge 8, exr_ge 9, exr_ge 10⟩
    · cases hj
      unfold rOK
      rw [show exr ρ w.length [80, 81, 82, 83, 84, 85, 86, 87, 88, 89, 90] (w.length + 1) = 81 from exr_ge 1]
      exact ⟨_, rfl, fun j => by show _ ∧ _; decide⟩
    · cases hj
      unfold rOK
      rw [show exr ρ w.length [80, 81, 82, 83, 84, 85, 86, 87, 88, 89, 90] (w.length + 2) = 82 from exr_ge 2]
      exact ⟨_, rfl, fun j => by show _ ∧ _; decide⟩
    · cases hj
      unfold rOK
      rw [show exr ρ w.length [80, 81, 82, 83, 84, 85, 86, 87, 88, 89, 90] (w.length + 3) = 83 from exr_ge 3]
      exact ⟨_, rfl, fun j => by show _ ∧ _; decide⟩
    · cases hj
      unfold rOK
      rw [show exr ρ w.length [80, 81, 82, 83, 84, 85, 86, 87, 88, 89, 90] (w.length + 4) = 84 from exr_ge 4]
      exact ⟨_, rfl, fun j => by show _ ∧ _; decide⟩
    · cases hj
      unfold rOK
      rw [show exr ρ w.length [80, 81, 82, 83, 84, 85, 86, 87, 88, 89, 90] (w.length + 5) = 85 from exr_ge 5]
      exact ⟨_, rfl, fun j => by show _ ∧ _; decide⟩
    · cases hj
      unfold rOK
      rw [show exr ρ w.length [80, 81, 82, 83, 84, 85, 86, 87, 88, 89, 90] (w.length + 6) = 86 from exr_ge 6]
      exact ⟨_, rfl, fun j => by show _ ∧ _; decide⟩
    · cases hj
      unfold rOK
      rw [show exr ρ w.length [80, 81, 82, 83, 84, 85, 86, 87, 88, 89, 90] (w.length + 7) = 87 from exr_ge 7]
      exact ⟨_, rfl, fun j => by show _ ∧ _; decide⟩
    · cases hj
      unfold rOK
      rw [show exr ρ w.length [80, 81, 82, 83, 84, 85, 86, 87, 88, 89, 90] (w.length + 8) = 88 from exr_ge 8]
      exact ⟨_, rfl, fun j => by show _ ∧ _; decide⟩
    · cases hj
      unfold rOK
      rw [show exr ρ w.length [80, 81, 82, 83, 84, 85, 86, 87, 88, 89, 90] (w.length + 9) = 89 from exr_ge 9]
      exact ⟨_, rfl, fun j => by show _ ∧ _; decide⟩
    · cases hj
      unfold rOK
      rw [show exr ρ w.length [80, 81, 82, 83, 84, 85, 86, 87, 88, 89, 90] (w.length + 10) = 90 from exr_ge 10]
      exact ⟨_, rfl, fun j => by show _ ∧ _; decide⟩
  exact hR (zret_i rfl (Nat.le_refl _) rfl (h _ _ hci GRO_app (by rw [List.length_append]; rfl) (exr_ge 0) (exr_ni (by decide) (by decide))))
