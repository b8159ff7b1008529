def PX (w : zW) (m : Nat → Option Int) (mc ms : Nat) (r : Option Value) (w' : zW) : Prop := TP w 0 m mc ms w' ∧ ∃ v, r = some (.int v)
theorem k_text {ρ : Nat → Nat} {w : zW} {l : Int} {m : Nat → Option Int} (hT : TOP ρ w) (hI : IM w l m) (d : Nat) (a1 a2 : Int) (hr1 : -2147483648 ≤ a1 ∧ a1 ≤ 2147483647) (hr2 : -2147483648 ≤ a2 ∧ a2 ≤ 2147483647) : DET zTab (d + 10) iX11_text [.ref 0, .int (Int32.ofInt a1), .int (Int32.ofInt a2)] w (PX w m) := by
  refine z_rel (M := kX11_text) _ rfl (Nat.le_of_ble_eq_true rfl) fun R hR0 => ?_
  have hR : ∀ {pc : Nat} {L : zL} {S : List Value} {w1 : zW} {k n : Nat}, zsc (zCl zTab (d + 9)) (d + 9) kX11_text none zTab k n (PX w m k n) pc L S w1 k n R → R (pc, L, S, w1, k, n) := fun h => hR0 _ _ (Nat.le_refl _) (Nat.le_refl _) h
  obtain ⟨y6, y7, h0, -⟩ := top_o hT
  obtain ⟨a, b, hO, hl, ha, hb, -⟩ := told_o hT hI
  refine hR (?_ : R (_, _, _, _, _, _))
  refine hR (c_get h0 rfl ?_)
  refine hR (c_get hO rfl ?_)
  iterate 2 refine hR (?_ : R (_, _, _, _, _, _))
  refine hR (c_get h0 rfl ?_)
  refine hR (?_ : R (_, _, _, _, _, _))
  refine hR (c_put hO rfl rfl fun w1 f1 hO1 => ?_)
  obtain ⟨hT1, hI1, hp1, hK1⟩ := told_put (l' := 0) hT hI f1 hO1 (by omega) ha hb
  obtain ⟨_, _, h01, -⟩ := top_o hT1
  refine hR (?_ : R (_, _, _, _, _, _))
  refine hR (c_get h01 rfl ?_)
  refine hR (?_ : R (_, _, _, _, _, _))
  refine hR (c_put hO1 rfl rfl fun w2 f2 hO2 => ?_)
  obtain ⟨hT2, hI2, hp2, hK2⟩ := told_put (l' := 0) (a := 0) hT1 hI1 f2 hO2 (by omega) (by omega) hb
  obtain ⟨_, _, h02, -⟩ := top_o hT2
  refine hR (?_ : R (_, _, _, _, _, _))
  refine hR (c_get h02 rfl ?_)
  refine hR (?_ : R (_, _, _, _, _, _))
  refine hR (c_put hO2 rfl rfl fun w3 f3 hO3 => ?_)
  obtain ⟨hT3, hI3, hp3, hK3⟩ := told_put (l' := 0) (a := 0) (b := -1) hT2 hI2 f3 hO3 (by omega) (by omega) (by omega)
  obtain ⟨_, _, h03, s1, s7, s8, -⟩ := top_o hT3
  obtain ⟨_, _, hO3, -, -, -, u2, u3, u4, u5, u6⟩ := told_o hT3 hI3
  have hK : KEEP w w3 := KEEP_tr hK1 (KEEP_tr hK2 hK3)
  have main : ∀ (nu v4 : Int), (0 ≤ nu ∧ nu ≤ 1) → (0 ≤ v4 ∧ v4 ≤ 2) → (0 ≤ a1 ∧ a1 ≤ 2) → R (95, [some (.ref 0), some (.int (Int32.ofInt a1)), some (.int (Int32.ofInt a2)), some (.int (Int32.ofInt l)), some (.int (Int32.ofInt v4)), some (.int (Int32.ofInt nu))], [], w3, 0, 0) := by
    intro nu v4 hnu hv4 ha1
    iterate 4 refine hR (?_ : R (_, _, _, _, _, _))
    obtain ⟨mc, ms, r, w4, ⟨⟨σ, hT4⟩, hI4, hK4, hm4, hp4, v, hv, rfl⟩, hrun⟩ := a_tellInto hT3 d a1 nu l ha1 hnu hl
    refine hR0 (0 + mc) (0 + ms) (Nat.le_add_right _ _) (Nat.le_add_right _ _) (c_obj h03 (zcall_i mc ms (Nat.le_refl _) (Nat.le_refl _) (hrun _ ?_)))
    refine (?_ : R (_, _, .int (Int32.ofInt v) :: [], w4, 0 + mc, 0 + ms))
    have hI4 := hI4 _ _ hI3
    obtain ⟨_, _, h04, r1, r7, r8, -⟩ := top_o hT4
    obtain ⟨c, e, hO4, -, hc, he, q2, q3, -⟩ := told_o hT4 hI4
    refine hR (k_ne (by omega) (fun hz => ?_) (fun hz => ?_))
    · refine hR (?_ : R (_, _, _, _, _, _))
      refine hR (c_get h04 rfl ?_)
      refine hR (c_get hO4 rfl ?_)
      iterate 4 refine hR (?_ : R (_, _, _, _, _, _))
      refine hR (t_add ?_)
      obtain ⟨vm, hvm, em⟩ := zmax_r (a := v4) (b := nu + 1) (by omega) (by omega)
      refine hR (zif_i (by rw [show Nat.ble (0 + mc) (0 + mc) = true from Nat.ble_eq.mpr (Nat.le_refl _), show Nat.ble (0 + ms) (0 + ms) = true from Nat.ble_eq.mpr (Nat.le_refl _)]; rfl) (t_c vm em ?_))
      refine hR (c_ast hT4.1 (by rw [q3]; rfl) ⟨by rw [q3]; decide, by rw [q3]; decide⟩ (by omega) (by omega) (by omega) (by omega) (by omega) (by omega) (Nat.le_of_ble_eq_true rfl) fun w5 hw5 f5 => ?_)
      obtain ⟨hT5, hI5, hp5, hK5⟩ := top_told hT4 hw5 f5 (by rw [q3]; decide)
      refine hR (?_ : R (_, _, _, _, _, _))
      exact hR (zret_i rfl (Nat.le_refl _) trivial ⟨⟨⟨σ, hT5⟩, hI5 _ _ hI4, KEEP_tr hK (KEEP_tr hK4 hK5), by omega, by omega⟩, _, rfl⟩)
    · obtain ⟨t0, t1, t2, t3, t4, t5, t6, t7, hU, -, -, -, -, -, -, hf6, hf7⟩ := CI_o9 hT4.1 r8
      refine hR (?_ : R (_, _, _, _, _, _))
      refine hR (c_get h04 rfl ?_)
      refine hR (?_ : R (_, _, _, _, _, _))
      refine hR (c_get h04 rfl ?_)
      refine hR (c_get hU rfl ?_)
      refine hR (c_put hO4 rfl rfl fun w5 f5 hO5 => ?_)
      obtain ⟨hT5, hI5, hp5, hK5⟩ := told_put (l' := 0) (a := t6) hT4 hI4 f5 hO5 (by omega) hf6 he
      obtain ⟨_, _, h05, -⟩ := top_o hT5
      have hU5 := (f5.2 8 (by decide)).trans hU
      refine hR (?_ : R (_, _, _, _, _, _))
      refine hR (c_get h05 rfl ?_)
      refine hR (?_ : R (_, _, _, _, _, _))
      refine hR (c_get h05 rfl ?_)
      refine hR (c_get hU5 rfl ?_)
      refine hR (c_put hO5 rfl rfl fun w6 f6 hO6 => ?_)
      obtain ⟨hT6, hI6, hp6, hK6⟩ := told_put (l' := 0) (a := t6) (b := t7) hT5 hI5 f6 hO6 (by omega) hf6 hf7
      refine hR (?_ : R (_, _, _, _, _, _))
      exact hR (zret_i rfl (Nat.le_refl _) trivial ⟨⟨⟨σ, hT6⟩, hI6, KEEP_tr hK (KEEP_tr hK4 (KEEP_tr hK5 hK6)), by omega, by omega⟩, _, rfl⟩)
  have ret : ∀ v : Int32, PX w m 0 0 (some (.int v)) w3 := fun v => ⟨⟨⟨ρ, hT3⟩, hI3, hK, by omega, by omega⟩, _, rfl⟩
  have b41 : ∀ (L : zL), R (41, L, [], w3, 0, 0) := by
    intro L
    refine hR (t_c (-2) (by decide) ?_)
    exact hR (zret_i rfl (Nat.le_refl _) trivial (ret _))
  have b79 : ∀ (L : zL), R (79, L, [], w3, 0, 0) := by
    intro L
    refine hR (t_c (-2) (by decide) ?_)
    exact hR (zret_i rfl (Nat.le_refl _) trivial (ret _))
  refine hR (?_ : R (_, _, _, _, _, _))
  refine hR (k_lt (by omega) (fun hc => b41 _) (fun hc => ?_))
  iterate 2 refine hR (?_ : R (_, _, _, _, _, _))
  refine hR (j_lt (by omega) (by omega) (fun hc2 => ?_) (fun hc2 => b41 _))
  refine hR (?_ : R (_, _, _, _, _, _))
  refine hR (c_get h03 rfl ?_)
  refine hR (c_get hO3 rfl ?_)
  refine hR (?_ : R (_, _, _, _, _, _))
  refine hR (c_ald hT3.1 (by rw [u3]; rfl) (by omega) (by omega) (Nat.le_of_ble_eq_true rfl) fun v4 lv uv => ?_)
  iterate 3 refine hR (?_ : R (_, _, _, _, _, _))
  refine hR (j_ne (by omega) (by omega) (fun hc3 => ?_) (fun hc3 => ?_))
  · refine hR (?_ : R (_, _, _, _, _, _))
    refine hR (k_lt (by omega) (fun hc => b79 _) (fun hc4 => ?_))
    iterate 2 refine hR (?_ : R (_, _, _, _, _, _))
    refine hR (j_lt (by omega) (by omega) (fun hc5 => ?_) (fun _ => b79 _))
    iterate 2 refine hR (?_ : R (_, _, _, _, _, _))
    refine hR (j_ne (by omega) (by omega) (fun _ => ?_) (fun hc6 => absurd hc6 hc3))
    iterate 2 refine hR (?_ : R (_, _, _, _, _, _))
    exact main a2 v4 (by omega) (by omega) (by omega)
  · iterate 2 refine hR (?_ : R (_, _, _, _, _, _))
    refine hR (j_lt (by omega) (by omega) (fun hc4 => ?_) (fun hc4 => ?_))
    · iterate 2 refine hR (?_ : R (_, _, _, _, _, _))
      refine hR (j_ne (by omega) (by omega) (fun hc6 => absurd hc3 hc6) (fun _ => ?_))
      iterate 3 refine hR (?_ : R (_, _, _, _, _, _))
      exact main v4 v4 (by omega) (by omega) (by omega)
    · refine hR (?_ : R (_, _, _, _, _, _))
      exact b79 _
