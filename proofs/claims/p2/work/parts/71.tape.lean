/-! FEED, END, IMAGE, AGAIN. -/
/-- a call of the class: the tape's length and the images behind it -/
def TP (w : zW) (l' : Int) (m' : Nat → Option Int) (mc ms : Nat) (w' : zW) : Prop := (∃ σ, TOP σ w') ∧ IM w' l' m' ∧ KEEP w w' ∧ mc ≤ 100 ∧ ms + phi w' ≤ phi w + 300
theorem told_put {ρ : Nat → Nat} {w w' : zW} {l l' a b : Int} {m : Nat → Option Int} (hT : TOP ρ w) (hI : IM w l m) (f : wfr 1 w w') (hO : zix w' 1 = some (.inr (7, [.ref 2, .int (Int32.ofInt l'), .int (Int32.ofInt a), .int (Int32.ofInt b), .ref 3, .ref 4, .ref 5, .ref 6]))) (h : 0 ≤ l' ∧ l' ≤ 600) (ha : -2147483648 ≤ a ∧ a ≤ 2147483647) (hb : -2147483648 ≤ b ∧ b ≤ 2147483647) : TOP ρ w' ∧ IM w' l' m ∧ phi w' = phi w ∧ KEEP w w' := by
  obtain ⟨y6, y7, h0, r1, r7, r8, r9, r12, r13, e6, e7⟩ := top_o hT
  obtain ⟨x1, x2, x3, -, p1, -, -, -, p2, p3, p4, p5⟩ := CI_o2 hT.1 r1
  have hc : CI ρ w' := CI_w2 hT.1 r1 f (x1 := l') (x2 := a) (x3 := b) hO ⟨p1, h, ha, hb, p2, p3, p4, p5⟩
  have hf : wfR [2] ρ w w' := wfR_st (wfR_rf _ _ _) f (by rw [r1]; decide)
  refine ⟨⟨hc, hT.2.1, AWK_fr hT.1 hf hT.2.2.1 (by decide), hT.2.2.2.1, by rw [f.1]; exact hT.2.2.2.2⟩, ?_, phi_eq (f.2 0 (by decide)) (f.2 7 (by decide)) (f.2 12 (by decide)) (f.2 13 (by decide)), fun q a b => f.2 q (by omega)⟩
  obtain ⟨c1, g, c2, c3, c4⟩ := hI
  refine ⟨⟨_, _, hO, h⟩, g, (f.2 7 (by decide)).trans c2, fun k hk => ?_, c4⟩
  rcases c3 k hk with e | ⟨q, x, e1, e2, e3, e4⟩
  · exact Or.inl e
  · exact Or.inr ⟨q, x, e1, e2, e3, LE_eq (f.2 q (by omega)) e4⟩
theorem told_o {ρ : Nat → Nat} {w : zW} {l : Int} {m : Nat → Option Int} (hT : TOP ρ w) (hI : IM w l m) : ∃ a b : Int, zix w 1 = some (.inr (7, [.ref 2, .int (Int32.ofInt l), .int (Int32.ofInt a), .int (Int32.ofInt b), .ref 3, .ref 4, .ref 5, .ref 6])) ∧ (0 ≤ l ∧ l ≤ 600) ∧ (-2147483648 ≤ a ∧ a ≤ 2147483647) ∧ (-2147483648 ≤ b ∧ b ≤ 2147483647) ∧ ρ 2 = 3 ∧ ρ 3 = 4 ∧ ρ 4 = 5 ∧ ρ 5 = 6 ∧ ρ 6 = 7 := by
  obtain ⟨y6, y7, h0, r1, r7, r8, r9, r12, r13, e6, e7⟩ := top_o hT
  obtain ⟨x1, x2, x3, hO, p1, q1, q2, q3, p2, p3, p4, p5⟩ := CI_o2 hT.1 r1
  obtain rfl := LE_u hI.1 hO q1
  exact ⟨x2, x3, hO, q1, q2, q3, p1, p2, p3, p4, p5⟩
theorem c_putBytes {ρ : Nat → Nat} {w : zW} (d : Nat) (a1 l : Int) (m : Nat → Option Int) (hT : TOP ρ w) (hI : IM w l m) (hl : l ≤ 596) (Q : zQ) (h : ∀ w', TOP ρ w' → IM w' (l + 4) m → phi w' = phi w → KEEP w w' → Q none w') : zCl zTab (d + 1) iX8_putBytes [.ref 1, .int (Int32.ofInt a1)] w 0 0 Q := by
  refine zCl_i (M := kX8_putBytes) rfl (Nat.le_of_ble_eq_true rfl) fun R hR => ?_
  obtain ⟨-, -, -, hl0, -⟩ := told_o hT hI
  have loop : ∀ (N : Nat) (sh lx : Int) (v : zW), (-8 ≤ sh ∧ sh ≤ 24) → 8 * (lx - l) = 24 - sh → TOP ρ v → IM v lx m → phi v = phi w → KEEP w v → sh + 9 < N → R (3, [some (.ref 1), some (.int (Int32.ofInt a1)), some (.int (Int32.ofInt sh))], [], v, 0, 0) := by
    intro N
    induction N with
    | zero => intros; omega
    | succ N ih =>
      intro sh lx v hs he hTv hIv hph hK hN
      obtain ⟨a, b, hO, hlx, ha, hb, p1, p2, p3, p4, p5⟩ := told_o hTv hIv
      refine hR (?_ : R (_, _, _, _, _, _))
      refine hR (k_lt (by omega) (fun hc => ?_) (fun hc => ?_))
      · obtain rfl : lx = l + 4 := by omega
        exact hR (zret_i rfl (Nat.le_refl _) rfl (h v hTv hIv hph hK))
      · refine hR (?_ : R (_, _, _, _, _, _))
        refine hR (c_get hO rfl ?_)
        refine hR (t_c 600 (by decide) ?_)
        refine hR (j_ge (by omega) (by omega) (fun hc => by omega) (fun hc => ?_))
        refine hR (?_ : R (_, _, _, _, _, _))
        refine hR (c_get hO rfl ?_)
        refine hR (?_ : R (_, _, _, _, _, _))
        refine hR (c_get hO rfl ?_)
        iterate 2 refine hR (?_ : R (_, _, _, _, _, _))
        refine hR (t_o fun v1 r1 => ?_)
        refine hR (t_o fun v2 r2 => ?_)
        refine hR (c_bst3 hTv.1 (by rw [p1]; rfl) ⟨by rw [p1]; decide, by rw [p1]; decide⟩ (by omega) (by omega) (Nat.le_of_ble_eq_true rfl) fun w1 hw1 f1 => ?_)
        have hf : wfR [3] ρ v w1 := wfR_st (wfR_rf _ _ _) f1 (by rw [p1]; decide)
        obtain ⟨hT1, hI1, hp1, hK1⟩ := top_fr hTv hw1 hf (by decide) (AWK_fr hTv.1 hf hTv.2.2.1 (by decide))
        have hO1 := (f1.2 1 (by decide)).trans hO
        iterate 2 refine hR (?_ : R (_, _, _, _, _, _))
        refine hR (c_get hO1 rfl ?_)
        refine hR (?_ : R (_, _, _, _, _, _))
        refine hR (t_add ?_)
        refine hR (c_put hO1 rfl rfl fun w2 f2 hO2 => ?_)
        obtain ⟨hT2, hI2, hp2, hK2⟩ := told_put hT1 (hI1 _ _ hIv) f2 hO2 (by omega) ha hb
        refine hR (t_inc ?_)
        refine hR (?_ : R (_, _, _, _, _, _))
        exact ih (sh + (-8)) (lx + 1) w2 (by omega) (by omega) hT2 hI2 (by omega) (KEEP_tr hK (KEEP_tr hK1 hK2)) (by omega)
  refine hR (t_c 24 (by decide) ?_)
  refine hR (?_ : R (_, _, _, _, _, _))
  exact loop 100 24 l w (by omega) (by omega) hT hI rfl (fun _ _ _ => rfl) (by omega)
theorem k_feed {ρ : Nat → Nat} {w : zW} {l : Int} {m : Nat → Option Int} (hT : TOP ρ w) (hI : IM w l m) (d : Nat) (a1 a2 a3 a4 a5 : Int) : DET zTab (d + 2) iX11_feed [.ref 0, .int (Int32.ofInt a1), .int (Int32.ofInt a2), .int (Int32.ofInt a3), .int (Int32.ofInt a4), .int (Int32.ofInt a5)] w (fun mc ms r w' => (580 < l ∧ TP w l m mc ms w' ∧ r = some (.int (Int32.ofInt (-1)))) ∨ (l ≤ 580 ∧ TP w (l + 20) m mc ms w' ∧ r = some (.int (Int32.ofInt (l + 20))))) := by
  refine det_of (mc := 0) (ms := 0) ?_
  refine zCl_i (M := kX11_feed) rfl (Nat.le_of_ble_eq_true rfl) fun R hR => ?_
  obtain ⟨y6, y7, h0, -⟩ := top_o hT
  obtain ⟨a, b, hO, hl, -⟩ := told_o hT hI
  refine hR (?_ : R (_, _, _, _, _, _))
  refine hR (c_get h0 rfl ?_)
  refine hR (c_get hO rfl ?_)
  refine hR (t_c 580 (by decide) ?_)
  refine hR (j_le (by omega) (by omega) (fun hc => ?_) (fun hc => ?_))
  rotate_left
  · refine hR (?_ : R (_, _, _, _, _, _))
    exact hR (zret_i rfl (Nat.le_refl _) trivial (Or.inl ⟨by omega, ⟨⟨ρ, hT⟩, hI, fun _ _ _ => rfl, by omega, by omega⟩, rfl⟩))
  refine hR (?_ : R (_, _, _, _, _, _))
  refine hR (c_get h0 rfl ?_)
  refine hR (?_ : R (_, _, _, _, _, _))
  refine hR (c_obj hO (zcall_i 0 0 (Nat.le_of_ble_eq_true rfl) (Nat.le_of_ble_eq_true rfl) (c_putBytes _ a1 l m hT hI (by omega) _ fun w1 hT1 hI1 hp1 hK1 => ?_)))
  refine (?_ : R (_, _, [], w1, 0, 0))
  obtain ⟨_, _, h01, -⟩ := top_o hT1
  obtain ⟨_, _, hO1, -⟩ := told_o hT1 hI1
  refine hR (?_ : R (_, _, _, _, _, _))
  refine hR (c_get h01 rfl ?_)
  refine hR (?_ : R (_, _, _, _, _, _))
  refine hR (c_obj hO1 (zcall_i 0 0 (Nat.le_of_ble_eq_true rfl) (Nat.le_of_ble_eq_true rfl) (c_putBytes _ a2 _ m hT1 hI1 (by omega) _ fun w2 hT2 hI2 hp2 hK2 => ?_)))
  refine (?_ : R (_, _, [], w2, 0, 0))
  obtain ⟨_, _, h02, -⟩ := top_o hT2
  obtain ⟨_, _, hO2, -⟩ := told_o hT2 hI2
  refine hR (?_ : R (_, _, _, _, _, _))
  refine hR (c_get h02 rfl ?_)
  refine hR (?_ : R (_, _, _, _, _, _))
  refine hR (c_obj hO2 (zcall_i 0 0 (Nat.le_of_ble_eq_true rfl) (Nat.le_of_ble_eq_true rfl) (c_putBytes _ a3 _ m hT2 hI2 (by omega) _ fun w3 hT3 hI3 hp3 hK3 => ?_)))
  refine (?_ : R (_, _, [], w3, 0, 0))
  obtain ⟨_, _, h03, -⟩ := top_o hT3
  obtain ⟨_, _, hO3, -⟩ := told_o hT3 hI3
  refine hR (?_ : R (_, _, _, _, _, _))
  refine hR (c_get h03 rfl ?_)
  refine hR (?_ : R (_, _, _, _, _, _))
  refine hR (c_obj hO3 (zcall_i 0 0 (Nat.le_of_ble_eq_true rfl) (Nat.le_of_ble_eq_true rfl) (c_putBytes _ a4 _ m hT3 hI3 (by omega) _ fun w4 hT4 hI4 hp4 hK4 => ?_)))
  refine (?_ : R (_, _, [], w4, 0, 0))
  obtain ⟨_, _, h04, -⟩ := top_o hT4
  obtain ⟨_, _, hO4, -⟩ := told_o hT4 hI4
  refine hR (?_ : R (_, _, _, _, _, _))
  refine hR (c_get h04 rfl ?_)
  refine hR (?_ : R (_, _, _, _, _, _))
  refine hR (c_obj hO4 (zcall_i 0 0 (Nat.le_of_ble_eq_true rfl) (Nat.le_of_ble_eq_true rfl) (c_putBytes _ a5 _ m hT4 hI4 (by omega) _ fun w5 hT5 hI5 hp5 hK5 => ?_)))
  refine (?_ : R (_, _, [], w5, 0, 0))
  have hI5 : IM w5 (l + 20) m := by rw [show l + 20 = l + 4 + 4 + 4 + 4 + 4 by omega]; exact hI5
  obtain ⟨_, _, h05, -⟩ := top_o hT5
  obtain ⟨_, _, hO5, -⟩ := told_o hT5 hI5
  refine hR (?_ : R (_, _, _, _, _, _))
  refine hR (c_get h05 rfl ?_)
  refine hR (c_get hO5 rfl ?_)
  exact hR (zret_i rfl (Nat.le_refl _) trivial (Or.inr ⟨by omega, ⟨⟨ρ, hT5⟩, hI5, KEEP_tr hK1 (KEEP_tr hK2 (KEEP_tr hK3 (KEEP_tr hK4 hK5))), by omega, by omega⟩, rfl⟩))
theorem k_end {ρ : Nat → Nat} {w : zW} {l : Int} {m : Nat → Option Int} (hT : TOP ρ w) (hI : IM w l m) (d : Nat) (a1 : Int) (hr : -2147483648 ≤ a1 ∧ a1 ≤ 2147483647) : DET zTab (d + 1) iX11_end [.ref 0, .int (Int32.ofInt a1)] w (fun mc ms r w' => ((a1 < 0 ∨ l < a1) ∧ TP w l m mc ms w' ∧ r = some (.int (Int32.ofInt (-1)))) ∨ ((0 ≤ a1 ∧ a1 ≤ l) ∧ TP w a1 m mc ms w' ∧ r = some (.int (Int32.ofInt a1)))) := by
  refine det_of (mc := 0) (ms := 0) ?_
  refine zCl_i (M := kX11_end) rfl (Nat.le_of_ble_eq_true rfl) fun R hR => ?_
  obtain ⟨y6, y7, h0, -⟩ := top_o hT
  obtain ⟨a, b, hO, hl, ha, hb, -⟩ := told_o hT hI
  have bad : (a1 < 0 ∨ l < a1) → R (15, [some (.ref 0), some (.int (Int32.ofInt a1))], [], w, 0, 0) := by
    intro hx
    refine hR (?_ : R (_, _, _, _, _, _))
    exact hR (zret_i rfl (Nat.le_refl _) trivial (Or.inl ⟨hx, ⟨⟨ρ, hT⟩, hI, fun _ _ _ => rfl, by omega, by omega⟩, rfl⟩))
  refine hR (?_ : R (_, _, _, _, _, _))
  refine hR (k_lt (by omega) (fun hc => bad (Or.inl hc)) (fun hc => ?_))
  iterate 2 refine hR (?_ : R (_, _, _, _, _, _))
  refine hR (c_get h0 rfl ?_)
  refine hR (c_get hO rfl ?_)
  refine hR (j_le (by omega) (by omega) (fun hc2 => ?_) (fun hc2 => bad (Or.inr (by omega))))
  refine hR (?_ : R (_, _, _, _, _, _))
  refine hR (c_get h0 rfl ?_)
  refine hR (?_ : R (_, _, _, _, _, _))
  refine hR (c_put hO rfl rfl fun w2 f2 hO2 => ?_)
  obtain ⟨hT2, hI2, hp2, hK2⟩ := told_put hT hI f2 hO2 (by omega) ha hb
  refine hR (?_ : R (_, _, _, _, _, _))
  exact hR (zret_i rfl (Nat.le_refl _) trivial (Or.inr ⟨by omega, ⟨⟨ρ, hT2⟩, hI2, hK2, by omega, by omega⟩, rfl⟩))
