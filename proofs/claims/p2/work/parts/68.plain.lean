theorem k_fault {ρ : Nat → Nat} {w : zW} (hT : TOP ρ w) (d : Nat) (a1 : Int) (hr0 : -2147483648 ≤ a1 ∧ a1 ≤ 2147483647) : DET zTab (d + 4) iX11_fault [.ref 0, .int (Int32.ofInt a1)] w (PB ρ w) := by
  refine z_rel (M := kX11_fault) _ rfl (Nat.le_of_ble_eq_true rfl) fun R hR0 => ?_
  have hR : ∀ {pc : Nat} {L : zL} {S : List Value} {w1 : zW} {k n : Nat}, zsc (zCl zTab (d + 3)) (d + 3) kX11_fault none zTab k n (PB ρ w k n) pc L S w1 k n R → R (pc, L, S, w1, k, n) := fun h => hR0 _ _ (Nat.le_refl _) (Nat.le_refl _) h
  have fr0 := wfR_rf [] ρ w
  refine hR (?_ : R (_, _, _, _, _, _))
  have hl1 : a1 = 0 ∨ a1 = 1 ∨ (a1 ≠ 0 ∧ a1 ≠ 1) := by omega
  rcases hl1 with hl1 | hl1 | hl1
  · refine hR (t_pc (pc2 := 28) (by rw [zti (e := a1) (by omega) (by omega)]; show (((1 : Nat) : Int) + Op.lookupswitch.offset [(0, 27), (1, 35)] 43 a1).toNat = 28; simp only [Op.lookupswitch.offset_cons]; (repeat' split) <;> first | omega | rfl) ?_)
    refine hR (?_ : R (_, _, _, _, _, _))
    obtain ⟨y6_2, y7_2, hO2, hk2_0, hk2_1, hk2_2, hk2_3, hk2_4, hk2_5, hk2_6, hk2_7⟩ := CI_o1 hT.1 hT.2.1
    refine hR (c_get hO2 rfl ?_)
    obtain ⟨x1_3, x2_3, x3_3, hO3, hk3_0, hk3_1, hk3_2, hk3_3, hk3_4, hk3_5, hk3_6, hk3_7⟩ := CI_o2 hT.1 hk2_0
    refine hR (c_get hO3 rfl ?_)
    obtain ⟨hTf4, hIf4, hpf4, hKf4⟩ := top_fr hT hT.1 fr0 (by decide) hT.2.2.1
    exact hR (zret_i rfl (Nat.le_refl _) trivial ⟨⟨_, hTf4, fun l m h => hIf4 _ _ (h), hKf4, (EXT_rf _), by omega, by omega⟩, _, rfl⟩)
  · refine hR (t_pc (pc2 := 36) (by rw [zti (e := a1) (by omega) (by omega)]; show (((1 : Nat) : Int) + Op.lookupswitch.offset [(0, 27), (1, 35)] 43 a1).toNat = 36; simp only [Op.lookupswitch.offset_cons]; (repeat' split) <;> first | omega | rfl) ?_)
    refine hR (?_ : R (_, _, _, _, _, _))
    obtain ⟨y6_5, y7_5, hO5, hk5_0, hk5_1, hk5_2, hk5_3, hk5_4, hk5_5, hk5_6, hk5_7⟩ := CI_o1 hT.1 hT.2.1
    refine hR (c_get hO5 rfl ?_)
    obtain ⟨x1_6, x2_6, x3_6, hO6, hk6_0, hk6_1, hk6_2, hk6_3, hk6_4, hk6_5, hk6_6, hk6_7⟩ := CI_o2 hT.1 hk5_0
    refine hR (c_get hO6 rfl ?_)
    obtain ⟨hTf7, hIf7, hpf7, hKf7⟩ := top_fr hT hT.1 fr0 (by decide) hT.2.2.1
    exact hR (zret_i rfl (Nat.le_refl _) trivial ⟨⟨_, hTf7, fun l m h => hIf7 _ _ (h), hKf7, (EXT_rf _), by omega, by omega⟩, _, rfl⟩)
  · refine hR (t_pc (pc2 := 44) (by rw [zti (e := a1) (by omega) (by omega)]; show (((1 : Nat) : Int) + Op.lookupswitch.offset [(0, 27), (1, 35)] 43 a1).toNat = 44; simp only [Op.lookupswitch.offset_cons]; (repeat' split) <;> first | omega | rfl) ?_)
    refine hR (?_ : R (_, _, _, _, _, _))
    obtain ⟨hTf8, hIf8, hpf8, hKf8⟩ := top_fr hT hT.1 fr0 (by decide) hT.2.2.1
    exact hR (zret_i rfl (Nat.le_refl _) trivial ⟨⟨_, hTf8, fun l m h => hIf8 _ _ (h), hKf8, (EXT_rf _), by omega, by omega⟩, _, rfl⟩)
theorem k_book {ρ : Nat → Nat} {w : zW} (hT : TOP ρ w) (d : Nat) (a1 a2 : Int) (hr0 : -2147483648 ≤ a1 ∧ a1 ≤ 2147483647) (hr1 : -2147483648 ≤ a2 ∧ a2 ≤ 2147483647) : DET zTab (d + 4) iX11_book [.ref 0, .int (Int32.ofInt a1), .int (Int32.ofInt a2)] w (PB ρ w) := by
  refine z_rel (M := kX11_book) _ rfl (Nat.le_of_ble_eq_true rfl) fun R hR0 => ?_
  have hR : ∀ {pc : Nat} {L : zL} {S : List Value} {w1 : zW} {k n : Nat}, zsc (zCl zTab (d + 3)) (d + 3) kX11_book none zTab k n (PB ρ w k n) pc L S w1 k n R → R (pc, L, S, w1, k, n) := fun h => hR0 _ _ (Nat.le_refl _) (Nat.le_refl _) h
  have fr0 := wfR_rf [] ρ w
  iterate 2 refine hR (?_ : R (_, _, _, _, _, _))
  obtain ⟨y6_4, y7_4, hO4, hk4_0, hk4_1, hk4_2, hk4_3, hk4_4, hk4_5, hk4_6, hk4_7⟩ := CI_o1 hT.1 hT.2.1
  refine hR (c_obj hO4 (zcall_i 0 0 (Nat.le_refl _) (Nat.le_refl _) (c_bookAt _ a1 hT.1 hT.2.1 (by omega) _ fun v1 hv1 hp3 => ?_)))
  cases v1 with
  | none =>
    refine (?_ : R (_, _, .null :: [], w, 0, 0))
    iterate 5 refine hR (?_ : R (_, _, _, _, _, _))
    obtain ⟨hTf6, hIf6, hpf6, hKf6⟩ := top_fr hT hT.1 fr0 (by decide) hT.2.2.1
    exact hR (zret_i rfl (Nat.le_refl _) trivial ⟨⟨_, hTf6, fun l m h => hIf6 _ _ (h), hKf6, (EXT_rf _), by omega, by omega⟩, _, rfl⟩)
  | some z5 =>
    have hz5 : ρ z5 = 20 := hv1 z5 rfl
    refine (?_ : R (_, _, (.ref z5) :: [], w, 0, 0))
    iterate 5 refine hR (?_ : R (_, _, _, _, _, _))
    obtain ⟨x0_9, x1_9, x2_9, hO9, hk9_0, hk9_1, hk9_2, hk9_3, hk9_4, hk9_5, hk9_6⟩ := CI_o20 hT.1 hz5
    refine hR (c_obj hO9 (zcall_i 0 0 (Nat.le_refl _) (Nat.le_refl _) (c_bookTells _ z5 a2 hT.1 hz5 (by omega) _ fun v7 => ?_)))
    refine (?_ : R (_, _, (.int (Int32.ofInt v7)) :: [], w, 0, 0))
    obtain ⟨hTf10, hIf10, hpf10, hKf10⟩ := top_fr hT hT.1 fr0 (by decide) hT.2.2.1
    exact hR (zret_i rfl (Nat.le_refl _) trivial ⟨⟨_, hTf10, fun l m h => hIf10 _ _ (h), hKf10, (EXT_rf _), by omega, by omega⟩, _, rfl⟩)
theorem k_word {ρ : Nat → Nat} {w : zW} (hT : TOP ρ w) (d : Nat) (a1 a2 : Int) (hr0 : -2147483648 ≤ a1 ∧ a1 ≤ 2147483647) (hr1 : -2147483648 ≤ a2 ∧ a2 ≤ 2147483647) : DET zTab (d + 4) iX11_word [.ref 0, .int (Int32.ofInt a1), .int (Int32.ofInt a2)] w (PB ρ w) := by
  refine z_rel (M := kX11_word) _ rfl (Nat.le_of_ble_eq_true rfl) fun R hR0 => ?_
  have hR : ∀ {pc : Nat} {L : zL} {S : List Value} {w1 : zW} {k n : Nat}, zsc (zCl zTab (d + 3)) (d + 3) kX11_word none zTab k n (PB ρ w k n) pc L S w1 k n R → R (pc, L, S, w1, k, n) := fun h => hR0 _ _ (Nat.le_refl _) (Nat.le_refl _) h
  have fr0 := wfR_rf [] ρ w
  refine hR (?_ : R (_, _, _, _, _, _))
  refine hR (zcall_i 0 0 (Nat.le_refl _) (Nat.le_refl _) (c_isText _ _ a1 (by omega) _ fun v1 hp3 => ?_))
  refine (?_ : R (_, _, (.int (Int32.ofInt v1)) :: [], w, 0, 0))
  refine hR (k_ne (by omega) (fun hc4 => ?_) (fun hc4 => ?_))
  rotate_left
  · skip
    refine hR (?_ : R (_, _, _, _, _, _))
    obtain ⟨hTf18, hIf18, hpf18, hKf18⟩ := top_fr hT hT.1 fr0 (by decide) hT.2.2.1
    exact hR (zret_i rfl (Nat.le_refl _) trivial ⟨⟨_, hTf18, fun l m h => hIf18 _ _ (h), hKf18, (EXT_rf _), by omega, by omega⟩, _, rfl⟩)
  refine hR (?_ : R (_, _, _, _, _, _))
  refine hR (zcall_i 0 0 (Nat.le_refl _) (Nat.le_refl _) (c_lengthOf _ _ a1 (by omega) _ fun v5 hp7 => ?_))
  refine (?_ : R (_, _, (.int (Int32.ofInt v5)) :: [], w, 0, 0))
  iterate 3 refine hR (?_ : R (_, _, _, _, _, _))
  refine hR (j_ne (by omega) (by omega) (fun hc8 => ?_) (fun hc8 => ?_))
  rotate_left
  · skip
    refine hR (?_ : R (_, _, _, _, _, _))
    obtain ⟨hTf17, hIf17, hpf17, hKf17⟩ := top_fr hT hT.1 fr0 (by decide) hT.2.2.1
    exact hR (zret_i rfl (Nat.le_refl _) trivial ⟨⟨_, hTf17, fun l m h => hIf17 _ _ (h), hKf17, (EXT_rf _), by omega, by omega⟩, _, rfl⟩)
  refine hR (?_ : R (_, _, _, _, _, _))
  refine hR (k_lt (by omega) (fun hc9 => ?_) (fun hc9 => ?_))
  · skip
    iterate 2 refine hR (?_ : R (_, _, _, _, _, _))
    obtain ⟨hTf10, hIf10, hpf10, hKf10⟩ := top_fr hT hT.1 fr0 (by decide) hT.2.2.1
    exact hR (zret_i rfl (Nat.le_refl _) trivial ⟨⟨_, hTf10, fun l m h => hIf10 _ _ (h), hKf10, (EXT_rf _), by omega, by omega⟩, _, rfl⟩)
  iterate 2 refine hR (?_ : R (_, _, _, _, _, _))
  refine hR (j_lt (by omega) (by omega) (fun hc11 => ?_) (fun hc11 => ?_))
  rotate_left
  · skip
    iterate 2 refine hR (?_ : R (_, _, _, _, _, _))
    obtain ⟨hTf16, hIf16, hpf16, hKf16⟩ := top_fr hT hT.1 fr0 (by decide) hT.2.2.1
    exact hR (zret_i rfl (Nat.le_refl _) trivial ⟨⟨_, hTf16, fun l m h => hIf16 _ _ (h), hKf16, (EXT_rf _), by omega, by omega⟩, _, rfl⟩)
  iterate 2 refine hR (?_ : R (_, _, _, _, _, _))
  refine hR (zcall_i 0 0 (Nat.le_refl _) (Nat.le_refl _) (c_wordAt _ _ a1 a2 (by omega) (by omega) _ fun v12 hp14 => ?_))
  refine (?_ : R (_, _, (.int (Int32.ofInt v12)) :: [], w, 0, 0))
  obtain ⟨hTf15, hIf15, hpf15, hKf15⟩ := top_fr hT hT.1 fr0 (by decide) hT.2.2.1
  exact hR (zret_i rfl (Nat.le_refl _) trivial ⟨⟨_, hTf15, fun l m h => hIf15 _ _ (h), hKf15, (EXT_rf _), by omega, by omega⟩, _, rfl⟩)
theorem k_drift {ρ : Nat → Nat} {w : zW} (hT : TOP ρ w) (d : Nat) (a1 a2 : Int) (hr0 : -2147483648 ≤ a1 ∧ a1 ≤ 2147483647) (hr1 : -2147483648 ≤ a2 ∧ a2 ≤ 2147483647) : DET zTab (d + 4) iX11_drift [.ref 0, .int (Int32.ofInt a1), .int (Int32.ofInt a2)] w (PB ρ w) := by
  refine z_rel (M := kX11_drift) _ rfl (Nat.le_of_ble_eq_true rfl) fun R hR0 => ?_
  have hR : ∀ {pc : Nat} {L : zL} {S : List Value} {w1 : zW} {k n : Nat}, zsc (zCl zTab (d + 3)) (d + 3) kX11_drift none zTab k n (PB ρ w k n) pc L S w1 k n R → R (pc, L, S, w1, k, n) := fun h => hR0 _ _ (Nat.le_refl _) (Nat.le_refl _) h
  have fr0 := wfR_rf [] ρ w
  refine hR (?_ : R (_, _, _, _, _, _))
  refine hR (zcall_i 0 0 (Nat.le_refl _) (Nat.le_refl _) (c_isText _ _ a1 (by omega) _ fun v1 hp3 => ?_))
  refine (?_ : R (_, _, (.int (Int32.ofInt v1)) :: [], w, 0, 0))
  refine hR (k_eq (by omega) (fun hc4 => ?_) (fun hc4 => ?_))
  · skip
    refine hR (?_ : R (_, _, _, _, _, _))
    obtain ⟨hTf5, hIf5, hpf5, hKf5⟩ := top_fr hT hT.1 fr0 (by decide) hT.2.2.1
    exact hR (zret_i rfl (Nat.le_refl _) trivial ⟨⟨_, hTf5, fun l m h => hIf5 _ _ (h), hKf5, (EXT_rf _), by omega, by omega⟩, _, rfl⟩)
  refine hR (?_ : R (_, _, _, _, _, _))
  refine hR (zcall_i 0 0 (Nat.le_refl _) (Nat.le_refl _) (c_isText _ _ a2 (by omega) _ fun v6 hp8 => ?_))
  refine (?_ : R (_, _, (.int (Int32.ofInt v6)) :: [], w, 0, 0))
  refine hR (k_eq (by omega) (fun hc9 => ?_) (fun hc9 => ?_))
  · skip
    refine hR (?_ : R (_, _, _, _, _, _))
    obtain ⟨hTf10, hIf10, hpf10, hKf10⟩ := top_fr hT hT.1 fr0 (by decide) hT.2.2.1
    exact hR (zret_i rfl (Nat.le_refl _) trivial ⟨⟨_, hTf10, fun l m h => hIf10 _ _ (h), hKf10, (EXT_rf _), by omega, by omega⟩, _, rfl⟩)
  iterate 2 refine hR (?_ : R (_, _, _, _, _, _))
  refine hR (zcall_i 0 0 (Nat.le_refl _) (Nat.le_refl _) (c_driftOf _ _ a1 a2 (by omega) (by omega) _ fun v11 hp13 => ?_))
  refine (?_ : R (_, _, (.int (Int32.ofInt v11)) :: [], w, 0, 0))
  refine hR (?_ : R (_, _, _, _, _, _))
  obtain ⟨hTf14, hIf14, hpf14, hKf14⟩ := top_fr hT hT.1 fr0 (by decide) hT.2.2.1
  exact hR (zret_i rfl (Nat.le_refl _) trivial ⟨⟨_, hTf14, fun l m h => hIf14 _ _ (h), hKf14, (EXT_rf _), by omega, by omega⟩, _, rfl⟩)
theorem k_read {ρ : Nat → Nat} {w : zW} (hT : TOP ρ w) (d : Nat) (a1 a2 a3 : Int) (hr0 : -2147483648 ≤ a1 ∧ a1 ≤ 2147483647) (hr1 : -2147483648 ≤ a2 ∧ a2 ≤ 2147483647) (hr2 : -2147483648 ≤ a3 ∧ a3 ≤ 2147483647) : DET zTab (d + 4) iX11_read [.ref 0, .int (Int32.ofInt a1), .int (Int32.ofInt a2), .int (Int32.ofInt a3)] w (PB ρ w) := by
  refine z_rel (M := kX11_read) _ rfl (Nat.le_of_ble_eq_true rfl) fun R hR0 => ?_
  have hR : ∀ {pc : Nat} {L : zL} {S : List Value} {w1 : zW} {k n : Nat}, zsc (zCl zTab (d + 3)) (d + 3) kX11_read none zTab k n (PB ρ w k n) pc L S w1 k n R → R (pc, L, S, w1, k, n) := fun h => hR0 _ _ (Nat.le_refl _) (Nat.le_refl _) h
  have fr0 := wfR_rf [] ρ w
  iterate 2 refine hR (?_ : R (_, _, _, _, _, _))
  obtain ⟨y6_4, y7_4, hO4, hk4_0, hk4_1, hk4_2, hk4_3, hk4_4, hk4_5, hk4_6, hk4_7⟩ := CI_o1 hT.1 hT.2.1
  refine hR (c_obj hO4 (zcall_i 0 0 (Nat.le_refl _) (Nat.le_refl _) (c_bookAt _ a1 hT.1 hT.2.1 (by omega) _ fun v1 hv1 hp3 => ?_)))
  cases v1 with
  | none =>
    refine (?_ : R (_, _, .null :: [], w, 0, 0))
    iterate 4 refine hR (?_ : R (_, _, _, _, _, _))
    obtain ⟨hTf6, hIf6, hpf6, hKf6⟩ := top_fr hT hT.1 fr0 (by decide) hT.2.2.1
    exact hR (zret_i rfl (Nat.le_refl _) trivial ⟨⟨_, hTf6, fun l m h => hIf6 _ _ (h), hKf6, (EXT_rf _), by omega, by omega⟩, _, rfl⟩)
  | some z5 =>
    have hz5 : ρ z5 = 20 := hv1 z5 rfl
    refine (?_ : R (_, _, (.ref z5) :: [], w, 0, 0))
    iterate 4 refine hR (?_ : R (_, _, _, _, _, _))
    refine hR (zcall_i 0 0 (Nat.le_refl _) (Nat.le_refl _) (c_isText _ _ a2 (by omega) _ fun v7 hp9 => ?_))
    refine (?_ : R (_, _, (.int (Int32.ofInt v7)) :: [], w, 0, 0))
    refine hR (k_eq (by omega) (fun hc10 => ?_) (fun hc10 => ?_))
    · skip
      refine hR (?_ : R (_, _, _, _, _, _))
      obtain ⟨hTf11, hIf11, hpf11, hKf11⟩ := top_fr hT hT.1 fr0 (by decide) hT.2.2.1
      exact hR (zret_i rfl (Nat.le_refl _) trivial ⟨⟨_, hTf11, fun l m h => hIf11 _ _ (h), hKf11, (EXT_rf _), by omega, by omega⟩, _, rfl⟩)
    iterate 2 refine hR (?_ : R (_, _, _, _, _, _))
    obtain ⟨x0_15, x1_15, x2_15, hO15, hk15_0, hk15_1, hk15_2, hk15_3, hk15_4, hk15_5, hk15_6⟩ := CI_o20 hT.1 hz5
    refine hR (c_obj hO15 (zcall_i 0 0 (Nat.le_refl _) (Nat.le_refl _) (c_hasReader _ z5 a3 hT.1 hz5 (by omega) _ fun v12 hp14 => ?_)))
    refine (?_ : R (_, _, (.int (Int32.ofInt v12)) :: [], w, 0, 0))
    refine hR (k_ne (by omega) (fun hc16 => ?_) (fun hc16 => ?_))
    rotate_left
    · skip
      refine hR (?_ : R (_, _, _, _, _, _))
      obtain ⟨hTf21, hIf21, hpf21, hKf21⟩ := top_fr hT hT.1 fr0 (by decide) hT.2.2.1
      exact hR (zret_i rfl (Nat.le_refl _) trivial ⟨⟨_, hTf21, fun l m h => hIf21 _ _ (h), hKf21, (EXT_rf _), by omega, by omega⟩, _, rfl⟩)
    iterate 3 refine hR (?_ : R (_, _, _, _, _, _))
    refine hR (c_obj hO15 (zcall_i 0 0 (Nat.le_refl _) (Nat.le_refl _) (c_readBy _ z5 a3 a2 hT.1 hz5 (by omega) (by omega) _ fun v17 hp19 => ?_)))
    refine (?_ : R (_, _, (.int (Int32.ofInt v17)) :: [], w, 0, 0))
    obtain ⟨hTf20, hIf20, hpf20, hKf20⟩ := top_fr hT hT.1 fr0 (by decide) hT.2.2.1
    exact hR (zret_i rfl (Nat.le_refl _) trivial ⟨⟨_, hTf20, fun l m h => hIf20 _ _ (h), hKf20, (EXT_rf _), by omega, by omega⟩, _, rfl⟩)
theorem k_deed {ρ : Nat → Nat} {w : zW} (hT : TOP ρ w) (d : Nat) (a1 a2 a3 : Int) (hr0 : -2147483648 ≤ a1 ∧ a1 ≤ 2147483647) (hr1 : -2147483648 ≤ a2 ∧ a2 ≤ 2147483647) (hr2 : -2147483648 ≤ a3 ∧ a3 ≤ 2147483647) : DET zTab (d + 4) iX11_deed [.ref 0, .int (Int32.ofInt a1), .int (Int32.ofInt a2), .int (Int32.ofInt a3)] w (PB ρ w) := by
  refine z_rel (M := kX11_deed) _ rfl (Nat.le_of_ble_eq_true rfl) fun R hR0 => ?_
  have hR : ∀ {pc : Nat} {L : zL} {S : List Value} {w1 : zW} {k n : Nat}, zsc (zCl zTab (d + 3)) (d + 3) kX11_deed none zTab k n (PB ρ w k n) pc L S w1 k n R → R (pc, L, S, w1, k, n) := fun h => hR0 _ _ (Nat.le_refl _) (Nat.le_refl _) h
  have fr0 := wfR_rf [] ρ w
  iterate 2 refine hR (?_ : R (_, _, _, _, _, _))
  obtain ⟨y6_4, y7_4, hO4, hk4_0, hk4_1, hk4_2, hk4_3, hk4_4, hk4_5, hk4_6, hk4_7⟩ := CI_o1 hT.1 hT.2.1
  refine hR (c_obj hO4 (zcall_i 0 0 (Nat.le_refl _) (Nat.le_refl _) (c_yearAt _ a1 hT.1 hT.2.1 (by omega) _ fun v1 hv1 hp3 => ?_)))
  cases v1 with
  | none =>
    refine (?_ : R (_, _, .null :: [], w, 0, 0))
    iterate 3 refine hR (?_ : R (_, _, _, _, _, _))
    refine hR (t_c (-2) (by decide) ?_)
    refine hR (?_ : R (_, _, _, _, _, _))
    obtain ⟨hTf6, hIf6, hpf6, hKf6⟩ := top_fr hT hT.1 fr0 (by decide) hT.2.2.1
    exact hR (zret_i rfl (Nat.le_refl _) trivial ⟨⟨_, hTf6, fun l m h => hIf6 _ _ (h), hKf6, (EXT_rf _), by omega, by omega⟩, _, rfl⟩)
  | some z5 =>
    have hz5 : ρ z5 = 30 := hv1 z5 rfl
    refine (?_ : R (_, _, (.ref z5) :: [], w, 0, 0))
    iterate 6 refine hR (?_ : R (_, _, _, _, _, _))
    obtain ⟨x0_9, hO9, hk9_0, hk9_1, hk9_2, hk9_3⟩ := CI_o30 hT.1 hz5
    refine hR (c_obj hO9 (zcall_i 0 0 (Nat.le_refl _) (Nat.le_refl _) (c_yearTells _ z5 a2 a3 hT.1 hz5 (by omega) (by omega) _ fun v7 => ?_)))
    refine (?_ : R (_, _, (.int (Int32.ofInt v7)) :: [], w, 0, 0))
    obtain ⟨hTf10, hIf10, hpf10, hKf10⟩ := top_fr hT hT.1 fr0 (by decide) hT.2.2.1
    exact hR (zret_i rfl (Nat.le_refl _) trivial ⟨⟨_, hTf10, fun l m h => hIf10 _ _ (h), hKf10, (EXT_rf _), by omega, by omega⟩, _, rfl⟩)
theorem k_stop {ρ : Nat → Nat} {w : zW} (hT : TOP ρ w) (d : Nat) (a1 a2 : Int) (hr0 : -2147483648 ≤ a1 ∧ a1 ≤ 2147483647) (hr1 : -2147483648 ≤ a2 ∧ a2 ≤ 2147483647) : DET zTab (d + 7) iX11_stop [.ref 0, .int (Int32.ofInt a1), .int (Int32.ofInt a2)] w (PB ρ w) := by
  refine z_rel (M := kX11_stop) _ rfl (Nat.le_of_ble_eq_true rfl) fun R hR0 => ?_
  have hR : ∀ {pc : Nat} {L : zL} {S : List Value} {w1 : zW} {k n : Nat}, zsc (zCl zTab (d + 6)) (d + 6) kX11_stop none zTab k n (PB ρ w k n) pc L S w1 k n R → R (pc, L, S, w1, k, n) := fun h => hR0 _ _ (Nat.le_refl _) (Nat.le_refl _) h
  have fr0 := wfR_rf [10, 11, 12] ρ w
  iterate 2 refine hR (?_ : R (_, _, _, _, _, _))
  obtain ⟨y6_4, y7_4, hO4, hk4_0, hk4_1, hk4_2, hk4_3, hk4_4, hk4_5, hk4_6, hk4_7⟩ := CI_o1 hT.1 hT.2.1
  refine hR (c_obj hO4 (zcall_i 0 0 (Nat.le_refl _) (Nat.le_refl _) (c_bookAt _ a1 hT.1 hT.2.1 (by omega) _ fun v1 hv1 hp3 => ?_)))
  cases v1 with
  | none =>
    refine (?_ : R (_, _, .null :: [], w, 0, 0))
    iterate 3 refine hR (?_ : R (_, _, _, _, _, _))
    refine hR (c_obj hO4 (zcall_i 0 0 (Nat.le_refl _) (Nat.le_refl _) (c_yearAt _ a2 hT.1 hT.2.1 (by omega) _ fun v6 hv6 hp8 => ?_)))
    cases v6 with
    | none =>
      refine (?_ : R (_, _, .null :: [], w, 0, 0))
      iterate 4 refine hR (?_ : R (_, _, _, _, _, _))
      obtain ⟨hTf10, hIf10, hpf10, hKf10⟩ := top_fr hT hT.1 fr0 (by decide) hT.2.2.1
      exact hR (zret_i rfl (Nat.le_refl _) trivial ⟨⟨_, hTf10, fun l m h => hIf10 _ _ (h), hKf10, (EXT_rf _), by omega, by omega⟩, _, rfl⟩)
    | some z9 =>
      have hz9 : ρ z9 = 30 := hv6 z9 rfl
      refine (?_ : R (_, _, (.ref z9) :: [], w, 0, 0))
      iterate 4 refine hR (?_ : R (_, _, _, _, _, _))
      obtain ⟨hTf11, hIf11, hpf11, hKf11⟩ := top_fr hT hT.1 fr0 (by decide) hT.2.2.1
      exact hR (zret_i rfl (Nat.le_refl _) trivial ⟨⟨_, hTf11, fun l m h => hIf11 _ _ (h), hKf11, (EXT_rf _), by omega, by omega⟩, _, rfl⟩)
  | some z5 =>
    have hz5 : ρ z5 = 20 := hv1 z5 rfl
    refine (?_ : R (_, _, (.ref z5) :: [], w, 0, 0))
    iterate 3 refine hR (?_ : R (_, _, _, _, _, _))
    refine hR (c_obj hO4 (zcall_i 0 0 (Nat.le_refl _) (Nat.le_refl _) (c_yearAt _ a2 hT.1 hT.2.1 (by omega) _ fun v12 hv12 hp14 => ?_)))
    cases v12 with
    | none =>
      refine (?_ : R (_, _, .null :: [], w, 0, 0))
      iterate 6 refine hR (?_ : R (_, _, _, _, _, _))
      obtain ⟨hTf16, hIf16, hpf16, hKf16⟩ := top_fr hT hT.1 fr0 (by decide) hT.2.2.1
      exact hR (zret_i rfl (Nat.le_refl _) trivial ⟨⟨_, hTf16, fun l m h => hIf16 _ _ (h), hKf16, (EXT_rf _), by omega, by omega⟩, _, rfl⟩)
    | some z15 =>
      have hz15 : ρ z15 = 30 := hv12 z15 rfl
      refine (?_ : R (_, _, (.ref z15) :: [], w, 0, 0))
      iterate 6 refine hR (?_ : R (_, _, _, _, _, _))
      refine hR (c_get hO4 rfl ?_)
      refine hR (?_ : R (_, _, _, _, _, _))
      obtain ⟨y0_19, x1_19, x2_19, x3_19, x4_19, hO19, hk19_0, hk19_1, hk19_2, hk19_3, hk19_4, hk19_5, hk19_6⟩ := CI_o10 hT.1 hk4_3
      refine hR (c_obj hO19 (zcall_i 0 0 (Nat.le_refl _) (Nat.le_refl _) (c_begin _ 9 z5 hT.1 hk4_3 hz5 _ fun w17 hw17 g17 hn18 => ?_)))
      have fr20 := wfR_tr fr0 g17 (by decide)
      have hO21 := (g17.2 0 (by rw [hT.2.1]; decide)).trans hO4
      refine (?_ : R (_, _, [], w17, 0, 0))
      have aw22 := AWK_fr hT.1 g17 hT.2.2.1 (by decide)
      refine hR (?_ : R (_, _, _, _, _, _))
      refine hR (c_get hO21 rfl ?_)
      iterate 2 refine hR (?_ : R (_, _, _, _, _, _))
      obtain ⟨x0_23, hO23, hk23_0, hk23_1, hk23_2, hk23_3⟩ := CI_o30 hw17 hz15
      refine hR (c_get hO23 rfl ?_)
      obtain ⟨y0_28, x1_28, x2_28, x3_28, x4_28, hO28, hk28_0, hk28_1, hk28_2, hk28_3, hk28_4, hk28_5, hk28_6⟩ := CI_o10 hw17 hk4_3
      refine hR (c_obj hO28 (zcall_i 0 0 (Nat.le_refl _) (Nat.le_refl _) (c_doFirst _ 9 z15 x0_23 hw17 hk4_3 hz15 hn18 (by omega) _ fun v24 w25 hw25 g25 hn26 hp27 => ?_)))
      have fr29 := wfR_tr fr20 g25 (by decide)
      have hO30 := (g25.2 0 (by rw [hT.2.1]; decide)).trans hO21
      have hO31 := (g25.2 z15 (by rw [hz15]; decide)).trans hO23
      refine (?_ : R (_, _, (.int (Int32.ofInt v24)) :: [], w25, 0, 0))
      have aw32 := AWK_fr hw17 g25 aw22 (by decide)
      obtain ⟨hTf33, hIf33, hpf33, hKf33⟩ := top_fr hT hw25 fr29 (by decide) aw32
      exact hR (zret_i rfl (Nat.le_refl _) trivial ⟨⟨_, hTf33, fun l m h => hIf33 _ _ (h), hKf33, (EXT_rf _), by omega, by omega⟩, _, rfl⟩)
theorem k_state {ρ : Nat → Nat} {w : zW} (hT : TOP ρ w) (d : Nat) (a1 a2 a3 a4 : Int) (hr0 : -2147483648 ≤ a1 ∧ a1 ≤ 2147483647) (hr1 : -2147483648 ≤ a2 ∧ a2 ≤ 2147483647) (hr2 : -2147483648 ≤ a3 ∧ a3 ≤ 2147483647) (hr3 : -2147483648 ≤ a4 ∧ a4 ≤ 2147483647) : DET zTab (d + 7) iX11_state [.ref 0, .int (Int32.ofInt a1), .int (Int32.ofInt a2), .int (Int32.ofInt a3), .int (Int32.ofInt a4)] w (PB ρ w) := by
  refine z_rel (M := kX11_state) _ rfl (Nat.le_of_ble_eq_true rfl) fun R hR0 => ?_
  have hR : ∀ {pc : Nat} {L : zL} {S : List Value} {w1 : zW} {k n : Nat}, zsc (zCl zTab (d + 6)) (d + 6) kX11_state none zTab k n (PB ρ w k n) pc L S w1 k n R → R (pc, L, S, w1, k, n) := fun h => hR0 _ _ (Nat.le_refl _) (Nat.le_refl _) h
  have fr0 := wfR_rf [10, 11, 12] ρ w
  iterate 2 refine hR (?_ : R (_, _, _, _, _, _))
  obtain ⟨y6_4, y7_4, hO4, hk4_0, hk4_1, hk4_2, hk4_3, hk4_4, hk4_5, hk4_6, hk4_7⟩ := CI_o1 hT.1 hT.2.1
  refine hR (c_obj hO4 (zcall_i 0 0 (Nat.le_refl _) (Nat.le_refl _) (c_bookAt _ a1 hT.1 hT.2.1 (by omega) _ fun v1 hv1 hp3 => ?_)))
  cases v1 with
  | none =>
    refine (?_ : R (_, _, .null :: [], w, 0, 0))
    iterate 3 refine hR (?_ : R (_, _, _, _, _, _))
    refine hR (c_obj hO4 (zcall_i 0 0 (Nat.le_refl _) (Nat.le_refl _) (c_yearAt _ a2 hT.1 hT.2.1 (by omega) _ fun v6 hv6 hp8 => ?_)))
    cases v6 with
    | none =>
      refine (?_ : R (_, _, .null :: [], w, 0, 0))
      iterate 3 refine hR (?_ : R (_, _, _, _, _, _))
      refine hR (t_c (-2) (by decide) ?_)
      obtain ⟨hTf10, hIf10, hpf10, hKf10⟩ := top_fr hT hT.1 fr0 (by decide) hT.2.2.1
      exact hR (zret_i rfl (Nat.le_refl _) trivial ⟨⟨_, hTf10, fun l m h => hIf10 _ _ (h), hKf10, (EXT_rf _), by omega, by omega⟩, _, rfl⟩)
    | some z9 =>
      have hz9 : ρ z9 = 30 := hv6 z9 rfl
      refine (?_ : R (_, _, (.ref z9) :: [], w, 0, 0))
      iterate 3 refine hR (?_ : R (_, _, _, _, _, _))
      refine hR (t_c (-2) (by decide) ?_)
      obtain ⟨hTf11, hIf11, hpf11, hKf11⟩ := top_fr hT hT.1 fr0 (by decide) hT.2.2.1
      exact hR (zret_i rfl (Nat.le_refl _) trivial ⟨⟨_, hTf11, fun l m h => hIf11 _ _ (h), hKf11, (EXT_rf _), by omega, by omega⟩, _, rfl⟩)
  | some z5 =>
    have hz5 : ρ z5 = 20 := hv1 z5 rfl
    refine (?_ : R (_, _, (.ref z5) :: [], w, 0, 0))
    iterate 3 refine hR (?_ : R (_, _, _, _, _, _))
    refine hR (c_obj hO4 (zcall_i 0 0 (Nat.le_refl _) (Nat.le_refl _) (c_yearAt _ a2 hT.1 hT.2.1 (by omega) _ fun v12 hv12 hp14 => ?_)))
    cases v12 with
    | none =>
      refine (?_ : R (_, _, .null :: [], w, 0, 0))
      iterate 5 refine hR (?_ : R (_, _, _, _, _, _))
      refine hR (t_c (-2) (by decide) ?_)
      obtain ⟨hTf16, hIf16, hpf16, hKf16⟩ := top_fr hT hT.1 fr0 (by decide) hT.2.2.1
      exact hR (zret_i rfl (Nat.le_refl _) trivial ⟨⟨_, hTf16, fun l m h => hIf16 _ _ (h), hKf16, (EXT_rf _), by omega, by omega⟩, _, rfl⟩)
    | some z15 =>
      have hz15 : ρ z15 = 30 := hv12 z15 rfl
      refine (?_ : R (_, _, (.ref z15) :: [], w, 0, 0))
      iterate 6 refine hR (?_ : R (_, _, _, _, _, _))
      refine hR (k_lt (by omega) (fun hc17 => ?_) (fun hc17 => ?_))
      · skip
        refine hR (t_c (-2) (by decide) ?_)
        obtain ⟨hTf18, hIf18, hpf18, hKf18⟩ := top_fr hT hT.1 fr0 (by decide) hT.2.2.1
        exact hR (zret_i rfl (Nat.le_refl _) trivial ⟨⟨_, hTf18, fun l m h => hIf18 _ _ (h), hKf18, (EXT_rf _), by omega, by omega⟩, _, rfl⟩)
      iterate 2 refine hR (?_ : R (_, _, _, _, _, _))
      obtain ⟨x0_19, hO19, hk19_0, hk19_1, hk19_2, hk19_3⟩ := CI_o30 hT.1 hz15
      refine hR (c_get hO19 rfl ?_)
      refine hR (j_le (by omega) (by omega) (fun hc20 => ?_) (fun hc20 => ?_))
      rotate_left
      · skip
        refine hR (t_c (-2) (by decide) ?_)
        obtain ⟨hTf43, hIf43, hpf43, hKf43⟩ := top_fr hT hT.1 fr0 (by decide) hT.2.2.1
        exact hR (zret_i rfl (Nat.le_refl _) trivial ⟨⟨_, hTf43, fun l m h => hIf43 _ _ (h), hKf43, (EXT_rf _), by omega, by omega⟩, _, rfl⟩)
      refine hR (?_ : R (_, _, _, _, _, _))
      refine hR (c_get hO4 rfl ?_)
      refine hR (?_ : R (_, _, _, _, _, _))
      obtain ⟨y0_23, x1_23, x2_23, x3_23, x4_23, hO23, hk23_0, hk23_1, hk23_2, hk23_3, hk23_4, hk23_5, hk23_6⟩ := CI_o10 hT.1 hk4_3
      refine hR (c_obj hO23 (zcall_i 0 0 (Nat.le_refl _) (Nat.le_refl _) (c_begin _ 9 z5 hT.1 hk4_3 hz5 _ fun w21 hw21 g21 hn22 => ?_)))
      have fr24 := wfR_tr fr0 g21 (by decide)
      have hO25 := (g21.2 0 (by rw [hT.2.1]; decide)).trans hO4
      have hO26 := (g21.2 z15 (by rw [hz15]; decide)).trans hO19
      refine (?_ : R (_, _, [], w21, 0, 0))
      have aw27 := AWK_fr hT.1 g21 hT.2.2.1 (by decide)
      refine hR (?_ : R (_, _, _, _, _, _))
      refine hR (c_get hO25 rfl ?_)
      iterate 2 refine hR (?_ : R (_, _, _, _, _, _))
      obtain ⟨y0_32, x1_32, x2_32, x3_32, x4_32, hO32, hk32_0, hk32_1, hk32_2, hk32_3, hk32_4, hk32_5, hk32_6⟩ := CI_o10 hw21 hk4_3
      refine hR (c_obj hO32 (zcall_i 0 0 (Nat.le_refl _) (Nat.le_refl _) (c_doFirst _ 9 z15 a3 hw21 hk4_3 hz15 hn22 (by omega) _ fun v28 w29 hw29 g29 hn30 hp31 => ?_)))
      have fr33 := wfR_tr fr24 g29 (by decide)
      have hO34 := (g29.2 0 (by rw [hT.2.1]; decide)).trans hO25
      have hO35 := (g29.2 z15 (by rw [hz15]; decide)).trans hO26
      refine (?_ : R (_, _, (.int (Int32.ofInt v28)) :: [], w29, 0, 0))
      have aw36 := AWK_fr hw21 g29 aw27 (by decide)
      refine hR (?_ : R (_, _, _, _, _, _))
      refine hR (j_ge (by omega) (by omega) (fun hc37 => ?_) (fun hc37 => ?_))
      rotate_left
      · skip
        refine hR (t_c (-2) (by decide) ?_)
        refine hR (?_ : R (_, _, _, _, _, _))
        obtain ⟨hTf42, hIf42, hpf42, hKf42⟩ := top_fr hT hw29 fr33 (by decide) aw36
        exact hR (zret_i rfl (Nat.le_refl _) trivial ⟨⟨_, hTf42, fun l m h => hIf42 _ _ (h), hKf42, (EXT_rf _), by omega, by omega⟩, _, rfl⟩)
      refine hR (?_ : R (_, _, _, _, _, _))
      refine hR (c_get hO34 rfl ?_)
      refine hR (?_ : R (_, _, _, _, _, _))
      obtain ⟨y0_40, x1_40, x2_40, x3_40, x4_40, hO40, hk40_0, hk40_1, hk40_2, hk40_3, hk40_4, hk40_5, hk40_6⟩ := CI_o10 hw29 hk4_3
      refine hR (c_obj hO40 (zcall_i 0 0 (Nat.le_refl _) (Nat.le_refl _) (c_courseTells _ 9 a4 hw29 hk4_3 hn30 (by omega) _ fun v38 => ?_)))
      refine (?_ : R (_, _, (.int (Int32.ofInt v38)) :: [], w29, 0, 0))
      obtain ⟨hTf41, hIf41, hpf41, hKf41⟩ := top_fr hT hw29 fr33 (by decide) aw36
      exact hR (zret_i rfl (Nat.le_refl _) trivial ⟨⟨_, hTf41, fun l m h => hIf41 _ _ (h), hKf41, (EXT_rf _), by omega, by omega⟩, _, rfl⟩)
theorem k_fact {ρ : Nat → Nat} {w : zW} (hT : TOP ρ w) (d : Nat) (a1 a2 a3 : Int) (hr0 : -2147483648 ≤ a1 ∧ a1 ≤ 2147483647) (hr1 : -2147483648 ≤ a2 ∧ a2 ≤ 2147483647) (hr2 : -2147483648 ≤ a3 ∧ a3 ≤ 2147483647) : DET zTab (d + 4) iX11_fact [.ref 0, .int (Int32.ofInt a1), .int (Int32.ofInt a2), .int (Int32.ofInt a3)] w (PB ρ w) := by
  refine z_rel (M := kX11_fact) _ rfl (Nat.le_of_ble_eq_true rfl) fun R hR0 => ?_
  have hR : ∀ {pc : Nat} {L : zL} {S : List Value} {w1 : zW} {k n : Nat}, zsc (zCl zTab (d + 3)) (d + 3) kX11_fact none zTab k n (PB ρ w k n) pc L S w1 k n R → R (pc, L, S, w1, k, n) := fun h => hR0 _ _ (Nat.le_refl _) (Nat.le_refl _) h
  have fr0 := wfR_rf [] ρ w
  iterate 2 refine hR (?_ : R (_, _, _, _, _, _))
  obtain ⟨y6_4, y7_4, hO4, hk4_0, hk4_1, hk4_2, hk4_3, hk4_4, hk4_5, hk4_6, hk4_7⟩ := CI_o1 hT.1 hT.2.1
  refine hR (c_obj hO4 (zcall_i 0 0 (Nat.le_refl _) (Nat.le_refl _) (c_sightAt _ a1 hT.1 hT.2.1 (by omega) _ fun v1 hv1 hp3 => ?_)))
  cases v1 with
  | none =>
    refine (?_ : R (_, _, .null :: [], w, 0, 0))
    iterate 3 refine hR (?_ : R (_, _, _, _, _, _))
    refine hR (t_c (-2) (by decide) ?_)
    refine hR (?_ : R (_, _, _, _, _, _))
    obtain ⟨hTf6, hIf6, hpf6, hKf6⟩ := top_fr hT hT.1 fr0 (by decide) hT.2.2.1
    exact hR (zret_i rfl (Nat.le_refl _) trivial ⟨⟨_, hTf6, fun l m h => hIf6 _ _ (h), hKf6, (EXT_rf _), by omega, by omega⟩, _, rfl⟩)
  | some z5 =>
    have hz5 : ρ z5 = 40 := hv1 z5 rfl
    refine (?_ : R (_, _, (.ref z5) :: [], w, 0, 0))
    iterate 6 refine hR (?_ : R (_, _, _, _, _, _))
    obtain ⟨x0_9, hO9, hk9_0, hk9_1, hk9_2⟩ := CI_o40 hT.1 hz5
    refine hR (c_obj hO9 (zcall_i 0 0 (Nat.le_refl _) (Nat.le_refl _) (c_sightTells _ z5 a2 a3 hT.1 hz5 (by omega) (by omega) _ fun v7 => ?_)))
    refine (?_ : R (_, _, (.int (Int32.ofInt v7)) :: [], w, 0, 0))
    obtain ⟨hTf10, hIf10, hpf10, hKf10⟩ := top_fr hT hT.1 fr0 (by decide) hT.2.2.1
    exact hR (zret_i rfl (Nat.le_refl _) trivial ⟨⟨_, hTf10, fun l m h => hIf10 _ _ (h), hKf10, (EXT_rf _), by omega, by omega⟩, _, rfl⟩)
theorem k_drawn {ρ : Nat → Nat} {w : zW} (hT : TOP ρ w) (d : Nat) (a1 a2 a3 a4 : Int) (hr0 : -2147483648 ≤ a1 ∧ a1 ≤ 2147483647) (hr1 : -2147483648 ≤ a2 ∧ a2 ≤ 2147483647) (hr2 : -2147483648 ≤ a3 ∧ a3 ≤ 2147483647) (hr3 : -2147483648 ≤ a4 ∧ a4 ≤ 2147483647) : DET zTab (d + 7) iX11_drawn [.ref 0, .int (Int32.ofInt a1), .int (Int32.ofInt a2), .int (Int32.ofInt a3), .int (Int32.ofInt a4)] w (PB ρ w) := by
  refine z_rel (M := kX11_drawn) _ rfl (Nat.le_of_ble_eq_true rfl) fun R hR0 => ?_
  have hR : ∀ {pc : Nat} {L : zL} {S : List Value} {w1 : zW} {k n : Nat}, zsc (zCl zTab (d + 6)) (d + 6) kX11_drawn none zTab k n (PB ρ w k n) pc L S w1 k n R → R (pc, L, S, w1, k, n) := fun h => hR0 _ _ (Nat.le_refl _) (Nat.le_refl _) h
  have fr0 := wfR_rf [10, 11, 12] ρ w
  iterate 2 refine hR (?_ : R (_, _, _, _, _, _))
  obtain ⟨y6_4, y7_4, hO4, hk4_0, hk4_1, hk4_2, hk4_3, hk4_4, hk4_5, hk4_6, hk4_7⟩ := CI_o1 hT.1 hT.2.1
  refine hR (c_obj hO4 (zcall_i 0 0 (Nat.le_refl _) (Nat.le_refl _) (c_bookAt _ a1 hT.1 hT.2.1 (by omega) _ fun v1 hv1 hp3 => ?_)))
  cases v1 with
  | none =>
    refine (?_ : R (_, _, .null :: [], w, 0, 0))
    iterate 3 refine hR (?_ : R (_, _, _, _, _, _))
    refine hR (t_c (-2) (by decide) ?_)
    obtain ⟨hTf6, hIf6, hpf6, hKf6⟩ := top_fr hT hT.1 fr0 (by decide) hT.2.2.1
    exact hR (zret_i rfl (Nat.le_refl _) trivial ⟨⟨_, hTf6, fun l m h => hIf6 _ _ (h), hKf6, (EXT_rf _), by omega, by omega⟩, _, rfl⟩)
  | some z5 =>
    have hz5 : ρ z5 = 20 := hv1 z5 rfl
    refine (?_ : R (_, _, (.ref z5) :: [], w, 0, 0))
    iterate 4 refine hR (?_ : R (_, _, _, _, _, _))
    refine hR (k_lt (by omega) (fun hc7 => ?_) (fun hc7 => ?_))
    · skip
      refine hR (t_c (-2) (by decide) ?_)
      obtain ⟨hTf8, hIf8, hpf8, hKf8⟩ := top_fr hT hT.1 fr0 (by decide) hT.2.2.1
      exact hR (zret_i rfl (Nat.le_refl _) trivial ⟨⟨_, hTf8, fun l m h => hIf8 _ _ (h), hKf8, (EXT_rf _), by omega, by omega⟩, _, rfl⟩)
    refine hR (?_ : R (_, _, _, _, _, _))
    refine hR (t_c 60 (by decide) ?_)
    refine hR (j_le (by omega) (by omega) (fun hc9 => ?_) (fun hc9 => ?_))
    rotate_left
    · skip
      refine hR (t_c (-2) (by decide) ?_)
      obtain ⟨hTf26, hIf26, hpf26, hKf26⟩ := top_fr hT hT.1 fr0 (by decide) hT.2.2.1
      exact hR (zret_i rfl (Nat.le_refl _) trivial ⟨⟨_, hTf26, fun l m h => hIf26 _ _ (h), hKf26, (EXT_rf _), by omega, by omega⟩, _, rfl⟩)
    refine hR (?_ : R (_, _, _, _, _, _))
    refine hR (c_get hO4 rfl ?_)
    refine hR (?_ : R (_, _, _, _, _, _))
    obtain ⟨y0_12, x1_12, x2_12, x3_12, x4_12, hO12, hk12_0, hk12_1, hk12_2, hk12_3, hk12_4, hk12_5, hk12_6⟩ := CI_o10 hT.1 hk4_3
    refine hR (c_obj hO12 (zcall_i 0 0 (Nat.le_refl _) (Nat.le_refl _) (c_begin _ 9 z5 hT.1 hk4_3 hz5 _ fun w10 hw10 g10 hn11 => ?_)))
    have fr13 := wfR_tr fr0 g10 (by decide)
    have hO14 := (g10.2 0 (by rw [hT.2.1]; decide)).trans hO4
    refine (?_ : R (_, _, [], w10, 0, 0))
    have aw15 := AWK_fr hT.1 g10 hT.2.2.1 (by decide)
    refine hR (?_ : R (_, _, _, _, _, _))
    refine hR (c_get hO14 rfl ?_)
    iterate 2 refine hR (?_ : R (_, _, _, _, _, _))
    obtain ⟨y0_18, x1_18, x2_18, x3_18, x4_18, hO18, hk18_0, hk18_1, hk18_2, hk18_3, hk18_4, hk18_5, hk18_6⟩ := CI_o10 hw10 hk4_3
    refine hR (c_obj hO18 (zcall_i 0 0 (Nat.le_refl _) (Nat.le_refl _) (c_draw _ 9 a2 a3 hw10 hk4_3 hn11 (by omega) (by omega) _ fun w16 hw16 g16 hn17 => ?_)))
    have fr19 := wfR_tr fr13 g16 (by decide)
    have hO20 := (g16.2 0 (by rw [hT.2.1]; decide)).trans hO14
    refine (?_ : R (_, _, [], w16, 0, 0))
    have aw21 := AWK_fr hw10 g16 aw15 (by decide)
    refine hR (?_ : R (_, _, _, _, _, _))
    refine hR (c_get hO20 rfl ?_)
    refine hR (?_ : R (_, _, _, _, _, _))
    obtain ⟨y0_24, x1_24, x2_24, x3_24, x4_24, hO24, hk24_0, hk24_1, hk24_2, hk24_3, hk24_4, hk24_5, hk24_6⟩ := CI_o10 hw16 hk4_3
    refine hR (c_obj hO24 (zcall_i 0 0 (Nat.le_refl _) (Nat.le_refl _) (c_courseTells _ 9 a4 hw16 hk4_3 hn17 (by omega) _ fun v22 => ?_)))
    refine (?_ : R (_, _, (.int (Int32.ofInt v22)) :: [], w16, 0, 0))
    obtain ⟨hTf25, hIf25, hpf25, hKf25⟩ := top_fr hT hw16 fr19 (by decide) aw21
    exact hR (zret_i rfl (Nat.le_refl _) trivial ⟨⟨_, hTf25, fun l m h => hIf25 _ _ (h), hKf25, (EXT_rf _), by omega, by omega⟩, _, rfl⟩)
theorem k_kinship {ρ : Nat → Nat} {w : zW} (hT : TOP ρ w) (d : Nat) (a1 a2 a3 : Int) (hr0 : -2147483648 ≤ a1 ∧ a1 ≤ 2147483647) (hr1 : -2147483648 ≤ a2 ∧ a2 ≤ 2147483647) (hr2 : -2147483648 ≤ a3 ∧ a3 ≤ 2147483647) : DET zTab (d + 4) iX11_kinship [.ref 0, .int (Int32.ofInt a1), .int (Int32.ofInt a2), .int (Int32.ofInt a3)] w (PB ρ w) := by
  refine z_rel (M := kX11_kinship) _ rfl (Nat.le_of_ble_eq_true rfl) fun R hR0 => ?_
  have hR : ∀ {pc : Nat} {L : zL} {S : List Value} {w1 : zW} {k n : Nat}, zsc (zCl zTab (d + 3)) (d + 3) kX11_kinship none zTab k n (PB ρ w k n) pc L S w1 k n R → R (pc, L, S, w1, k, n) := fun h => hR0 _ _ (Nat.le_refl _) (Nat.le_refl _) h
  have fr0 := wfR_rf [] ρ w
  iterate 2 refine hR (?_ : R (_, _, _, _, _, _))
  obtain ⟨y6_4, y7_4, hO4, hk4_0, hk4_1, hk4_2, hk4_3, hk4_4, hk4_5, hk4_6, hk4_7⟩ := CI_o1 hT.1 hT.2.1
  refine hR (c_obj hO4 (zcall_i 0 0 (Nat.le_refl _) (Nat.le_refl _) (c_bookAt _ a1 hT.1 hT.2.1 (by omega) _ fun v1 hv1 hp3 => ?_)))
  cases v1 with
  | none =>
    refine (?_ : R (_, _, .null :: [], w, 0, 0))
    iterate 4 refine hR (?_ : R (_, _, _, _, _, _))
    obtain ⟨hTf6, hIf6, hpf6, hKf6⟩ := top_fr hT hT.1 fr0 (by decide) hT.2.2.1
    exact hR (zret_i rfl (Nat.le_refl _) trivial ⟨⟨_, hTf6, fun l m h => hIf6 _ _ (h), hKf6, (EXT_rf _), by omega, by omega⟩, _, rfl⟩)
  | some z5 =>
    have hz5 : ρ z5 = 20 := hv1 z5 rfl
    refine (?_ : R (_, _, (.ref z5) :: [], w, 0, 0))
    iterate 4 refine hR (?_ : R (_, _, _, _, _, _))
    refine hR (zcall_i 0 0 (Nat.le_refl _) (Nat.le_refl _) (c_isWord _ _ a2 (by omega) _ fun v7 hp9 => ?_))
    refine (?_ : R (_, _, (.int (Int32.ofInt v7)) :: [], w, 0, 0))
    refine hR (k_ne (by omega) (fun hc10 => ?_) (fun hc10 => ?_))
    rotate_left
    · skip
      refine hR (?_ : R (_, _, _, _, _, _))
      obtain ⟨hTf20, hIf20, hpf20, hKf20⟩ := top_fr hT hT.1 fr0 (by decide) hT.2.2.1
      exact hR (zret_i rfl (Nat.le_refl _) trivial ⟨⟨_, hTf20, fun l m h => hIf20 _ _ (h), hKf20, (EXT_rf _), by omega, by omega⟩, _, rfl⟩)
    refine hR (?_ : R (_, _, _, _, _, _))
    refine hR (k_eq (by omega) (fun hc11 => ?_) (fun hc11 => ?_))
    · skip
      iterate 2 refine hR (?_ : R (_, _, _, _, _, _))
      obtain ⟨x0_14, x1_14, x2_14, hO14, hk14_0, hk14_1, hk14_2, hk14_3, hk14_4, hk14_5, hk14_6⟩ := CI_o20 hT.1 hz5
      refine hR (c_obj hO14 (zcall_i 0 0 (Nat.le_refl _) (Nat.le_refl _) (c_kinUntilRing _ z5 a2 hT.1 hz5 (by omega) _ fun v12 => ?_)))
      refine (?_ : R (_, _, (.int (Int32.ofInt v12)) :: [], w, 0, 0))
      obtain ⟨hTf15, hIf15, hpf15, hKf15⟩ := top_fr hT hT.1 fr0 (by decide) hT.2.2.1
      exact hR (zret_i rfl (Nat.le_refl _) trivial ⟨⟨_, hTf15, fun l m h => hIf15 _ _ (h), hKf15, (EXT_rf _), by omega, by omega⟩, _, rfl⟩)
    iterate 2 refine hR (?_ : R (_, _, _, _, _, _))
    obtain ⟨x0_18, x1_18, x2_18, hO18, hk18_0, hk18_1, hk18_2, hk18_3, hk18_4, hk18_5, hk18_6⟩ := CI_o20 hT.1 hz5
    refine hR (c_obj hO18 (zcall_i 0 0 (Nat.le_refl _) (Nat.le_refl _) (c_kinRing _ z5 a2 hT.1 hz5 (by omega) _ fun v16 => ?_)))
    refine (?_ : R (_, _, (.int (Int32.ofInt v16)) :: [], w, 0, 0))
    refine hR (?_ : R (_, _, _, _, _, _))
    obtain ⟨hTf19, hIf19, hpf19, hKf19⟩ := top_fr hT hT.1 fr0 (by decide) hT.2.2.1
    exact hR (zret_i rfl (Nat.le_refl _) trivial ⟨⟨_, hTf19, fun l m h => hIf19 _ _ (h), hKf19, (EXT_rf _), by omega, by omega⟩, _, rfl⟩)
theorem k_shared {ρ : Nat → Nat} {w : zW} (hT : TOP ρ w) (d : Nat) (a1 a2 a3 : Int) (hr0 : -2147483648 ≤ a1 ∧ a1 ≤ 2147483647) (hr1 : -2147483648 ≤ a2 ∧ a2 ≤ 2147483647) (hr2 : -2147483648 ≤ a3 ∧ a3 ≤ 2147483647) : DET zTab (d + 6) iX11_shared [.ref 0, .int (Int32.ofInt a1), .int (Int32.ofInt a2), .int (Int32.ofInt a3)] w (PB ρ w) := by
  refine z_rel (M := kX11_shared) _ rfl (Nat.le_of_ble_eq_true rfl) fun R hR0 => ?_
  have hR : ∀ {pc : Nat} {L : zL} {S : List Value} {w1 : zW} {k n : Nat}, zsc (zCl zTab (d + 5)) (d + 5) kX11_shared none zTab k n (PB ρ w k n) pc L S w1 k n R → R (pc, L, S, w1, k, n) := fun h => hR0 _ _ (Nat.le_refl _) (Nat.le_refl _) h
  have fr0 := wfR_rf [] ρ w
  refine hR (?_ : R (_, _, _, _, _, _))
  refine hR (zcall_i 0 0 (Nat.le_refl _) (Nat.le_refl _) (c_isText _ _ a1 (by omega) _ fun v1 hp3 => ?_))
  refine (?_ : R (_, _, (.int (Int32.ofInt v1)) :: [], w, 0, 0))
  refine hR (k_eq (by omega) (fun hc4 => ?_) (fun hc4 => ?_))
  · skip
    refine hR (?_ : R (_, _, _, _, _, _))
    obtain ⟨hTf5, hIf5, hpf5, hKf5⟩ := top_fr hT hT.1 fr0 (by decide) hT.2.2.1
    exact hR (zret_i rfl (Nat.le_refl _) trivial ⟨⟨_, hTf5, fun l m h => hIf5 _ _ (h), hKf5, (EXT_rf _), by omega, by omega⟩, _, rfl⟩)
  refine hR (?_ : R (_, _, _, _, _, _))
  refine hR (zcall_i 0 0 (Nat.le_refl _) (Nat.le_refl _) (c_isText _ _ a2 (by omega) _ fun v6 hp8 => ?_))
  refine (?_ : R (_, _, (.int (Int32.ofInt v6)) :: [], w, 0, 0))
  refine hR (k_ne (by omega) (fun hc9 => ?_) (fun hc9 => ?_))
  rotate_left
  · skip
    refine hR (?_ : R (_, _, _, _, _, _))
    obtain ⟨hTf19, hIf19, hpf19, hKf19⟩ := top_fr hT hT.1 fr0 (by decide) hT.2.2.1
    exact hR (zret_i rfl (Nat.le_refl _) trivial ⟨⟨_, hTf19, fun l m h => hIf19 _ _ (h), hKf19, (EXT_rf _), by omega, by omega⟩, _, rfl⟩)
  iterate 2 refine hR (?_ : R (_, _, _, _, _, _))
  refine hR (zcall_i 0 0 (Nat.le_refl _) (Nat.le_refl _) (c_mostShared _ _ a1 a2 (by omega) (by omega) _ fun v10 hp12 => ?_))
  refine (?_ : R (_, _, (.int (Int32.ofInt v10)) :: [], w, 0, 0))
  iterate 2 refine hR (?_ : R (_, _, _, _, _, _))
  refine hR (k_eq (by omega) (fun hc13 => ?_) (fun hc13 => ?_))
  rotate_left
  · skip
    iterate 2 refine hR (?_ : R (_, _, _, _, _, _))
    obtain ⟨hTf18, hIf18, hpf18, hKf18⟩ := top_fr hT hT.1 fr0 (by decide) hT.2.2.1
    exact hR (zret_i rfl (Nat.le_refl _) trivial ⟨⟨_, hTf18, fun l m h => hIf18 _ _ (h), hKf18, (EXT_rf _), by omega, by omega⟩, _, rfl⟩)
  refine hR (?_ : R (_, _, _, _, _, _))
  refine hR (zcall_i 0 0 (Nat.le_refl _) (Nat.le_refl _) (c_lengthOf _ _ v10 (by omega) _ fun v14 hp16 => ?_))
  refine (?_ : R (_, _, (.int (Int32.ofInt v14)) :: [], w, 0, 0))
  obtain ⟨hTf17, hIf17, hpf17, hKf17⟩ := top_fr hT hT.1 fr0 (by decide) hT.2.2.1
  exact hR (zret_i rfl (Nat.le_refl _) trivial ⟨⟨_, hTf17, fun l m h => hIf17 _ _ (h), hKf17, (EXT_rf _), by omega, by omega⟩, _, rfl⟩)
theorem k_count {ρ : Nat → Nat} {w : zW} (hT : TOP ρ w) (d : Nat) (a1 : Int) (hr0 : -2147483648 ≤ a1 ∧ a1 ≤ 2147483647) : DET zTab (d + 4) iX11_count [.ref 0, .int (Int32.ofInt a1)] w (PB ρ w) := by
  refine z_rel (M := kX11_count) _ rfl (Nat.le_of_ble_eq_true rfl) fun R hR0 => ?_
  have hR : ∀ {pc : Nat} {L : zL} {S : List Value} {w1 : zW} {k n : Nat}, zsc (zCl zTab (d + 3)) (d + 3) kX11_count none zTab k n (PB ρ w k n) pc L S w1 k n R → R (pc, L, S, w1, k, n) := fun h => hR0 _ _ (Nat.le_refl _) (Nat.le_refl _) h
  have fr0 := wfR_rf [] ρ w
  refine hR (?_ : R (_, _, _, _, _, _))
  refine hR (k_lt (by omega) (fun hc1 => ?_) (fun hc1 => ?_))
  · skip
    refine hR (t_c (-2) (by decide) ?_)
    refine hR (?_ : R (_, _, _, _, _, _))
    obtain ⟨hTf2, hIf2, hpf2, hKf2⟩ := top_fr hT hT.1 fr0 (by decide) hT.2.2.1
    exact hR (zret_i rfl (Nat.le_refl _) trivial ⟨⟨_, hTf2, fun l m h => hIf2 _ _ (h), hKf2, (EXT_rf _), by omega, by omega⟩, _, rfl⟩)
  iterate 2 refine hR (?_ : R (_, _, _, _, _, _))
  refine hR (j_lt (by omega) (by omega) (fun hc3 => ?_) (fun hc3 => ?_))
  rotate_left
  · skip
    refine hR (t_c (-2) (by decide) ?_)
    refine hR (?_ : R (_, _, _, _, _, _))
    obtain ⟨hTf8, hIf8, hpf8, hKf8⟩ := top_fr hT hT.1 fr0 (by decide) hT.2.2.1
    exact hR (zret_i rfl (Nat.le_refl _) trivial ⟨⟨_, hTf8, fun l m h => hIf8 _ _ (h), hKf8, (EXT_rf _), by omega, by omega⟩, _, rfl⟩)
  refine hR (?_ : R (_, _, _, _, _, _))
  obtain ⟨y6_4, y7_4, hO4, hk4_0, hk4_1, hk4_2, hk4_3, hk4_4, hk4_5, hk4_6, hk4_7⟩ := CI_o1 hT.1 hT.2.1
  refine hR (c_get hO4 rfl ?_)
  obtain ⟨x1_5, x2_5, x3_5, hO5, hk5_0, hk5_1, hk5_2, hk5_3, hk5_4, hk5_5, hk5_6, hk5_7⟩ := CI_o2 hT.1 hk4_0
  refine hR (c_get hO5 rfl ?_)
  refine hR (?_ : R (_, _, _, _, _, _))
  refine hR (c_ald hT.1 (by rw [hk5_4]; rfl) (by omega) (by omega) (Nat.le_of_ble_eq_true rfl) fun v6 lv6 uv6 => ?_)
  obtain ⟨hTf7, hIf7, hpf7, hKf7⟩ := top_fr hT hT.1 fr0 (by decide) hT.2.2.1
  exact hR (zret_i rfl (Nat.le_refl _) trivial ⟨⟨_, hTf7, fun l m h => hIf7 _ _ (h), hKf7, (EXT_rf _), by omega, by omega⟩, _, rfl⟩)
