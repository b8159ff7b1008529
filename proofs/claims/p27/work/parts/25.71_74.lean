/-! FEED, END, IMAGE, AGAIN. -/
/-- a call of the class: the tape's length and the images behind it -/
noncomputable def TP (w : zW) (l' : Int) (m' : Nat → Option Int) (mc ms : Nat) (w' : zW) : Prop := (∃ σ, TOP σ w') ∧ IM w' l' m' ∧ KEEP w w' ∧ mc ≤ 100 ∧ ms + phi w' ≤ phi w + 300
theorem told_put {ρ : Nat → Nat} {w w' : zW} {l l' a b : Int} {m : Nat → Option Int} (hT : TOP ρ w) (hI : IM w l m) (f : wfr 1 w w') (hO : zix w' 1 = some (.inr (7, [.ref 2, .int (Int32.ofInt l'), .int (Int32.ofInt a), .int (Int32.ofInt b), .ref 3, .ref 4, .ref 5, .ref 6]))) (h : 0 ≤ l' ∧ l' ≤ 600) (ha : -2147483648 ≤ a ∧ a ≤ 2147483647) (hb : -2147483648 ≤ b ∧ b ≤ 2147483647) : TOP ρ w' ∧ IM w' l' m ∧ phi w' = phi w ∧ KEEP w w' := by
  obtain ⟨y6, y7, h0, r1, r7, r8, r9, r12, r13, e6, e7⟩ := top_o hT
  obtain ⟨x1, x2, x3, -, p1, -, -, -, p2, p3, p4, p5⟩ := CI_o2 hT.1 r1
  have hc : CI ρ w' := CI_w2 hT.1 r1 f (x1 := l') (x2 := a) (x3 := b) hO ⟨p1, h, ha, hb, p2, p3, p4, p5⟩
  have hf : wfR [2] ρ w w' := wfR_st (wfR_rf _ _ _) f (by rw [r1]; decide)
  refine ⟨⟨hc, hT.2.1, AWK_fr hT.1 hf hT.2.2.1 (by decide), hT.2.2.2.1, by rw [f.1]; exact hT.2.2.2.2⟩, ?_, phi_eq (f.2 0 (by decide)) (f.2 7 (by decide)) (f.2 12 (by decide)) (f.2 13 (by decide)), fun q a b => f.2 q (by omega)⟩
  obtain ⟨c1, g, c2, c3, c4⟩ := hI
  refine ⟨⟨_, _, hO, h⟩, g, (f.2 7 (by decide)).trans c2, fun k hk => ?_, c4⟩
  rcases c3 k hk with e | ⟨q, x, e1, e2, e3, e4⟩
  · exact Or.inl e
  · exact Or.inr ⟨q, x, e1, e2, e3, LE_eq (f.2 q (by omega)) e4⟩
theorem told_o {ρ : Nat → Nat} {w : zW} {l : Int} {m : Nat → Option Int} (hT : TOP ρ w) (hI : IM w l m) : ∃ a b : Int, zix w 1 = some (.inr (7, [.ref 2, .int (Int32.ofInt l), .int (Int32.ofInt a), .int (Int32.ofInt b), .ref 3, .ref 4, .ref 5, .ref 6])) ∧ (0 ≤ l ∧ l ≤ 600) ∧ (-2147483648 ≤ a ∧ a ≤ 2147483647) ∧ (-2147483648 ≤ b ∧ b ≤ 2147483647) ∧ ρ 2 = 3 ∧ ρ 3 = 4 ∧ ρ 4 = 5 ∧ ρ 5 = 6 ∧ ρ 6 = 7 := by
  obtain ⟨y6, y7, h0, r1, r7, r8, r9, r12, r13, e6, e7⟩ := top_o hT
  obtain ⟨x1, x2, x3, hO, p1, q1, q2, q3, p2, p3, p4, p5⟩ := CI_o2 hT.1 r1
  obtain rfl := LE_u hI.1 hO q1
  exact ⟨x2, x3, hO, q1, q2, q3, p1, p2, p3, p4, p5⟩
theorem c_putBytes {ρ : Nat → Nat} {w : zW} (d : Nat) (a1 l : Int) (m : Nat → Option Int) (hT : TOP ρ w) (hI : IM w l m) (hl : l ≤ 596) (Q : zQ) (h : ∀ w', TOP ρ w' → IM w' (l + 4) m → phi w' = phi w → KEEP w w' → Q none w') : zCl zTab (d + 1) iX8_putBytes [.ref 1, .int (Int32.ofInt a1)] w 0 0 Q := by
  refine zCl_i (M := kX8_putBytes) rfl (Nat.le_of_ble_eq_true rfl) fun R hR => ?_
  obtain ⟨-, -, -, hl0, -⟩ := told_o hT hI
  have loop : ∀ (N : Nat) (sh lx : Int) (v : zW), (-8 ≤ sh ∧ sh ≤ 24) → 8 * (lx - l) = 24 - sh → TOP ρ v → IM v lx m → phi v = phi w → KEEP w v → sh + 9 < N → R (3, [some (.ref 1), some (.int (Int32.ofInt a1)), some (.int (Int32.ofInt sh))], [], v, 0, 0) := by
    intro N
    induction N with
    | zero => intros; omega
    | succ N ih =>
      intro sh lx v hs he hTv hIv hph hK hN
      obtain ⟨a, b, hO, hlx, ha, hb, p1, p2, p3, p4, p5⟩ := told_o hTv hIv
      refine hR (?_ : R (_, _, _, _, _, _))
      refine hR (k_lt (by omega) (fun hc => ?_) (fun hc => ?_))
      · obtain rfl : lx = l + 4 := by omega
        exact hR (zret_i rfl (Nat.le_refl _) rfl (h v hTv hIv hph hK))
      · refine hR (?_ : R (_, _, _, _, _, _))
        refine hR (c_get hO rfl ?_)
        refine hR (t_c 600 (by decide) ?_)
        refine hR (j_ge (by omega) (by omega) (fun hc => by omega) (fun hc => ?_))
        refine hR (?_ : R (_, _, _, _, _, _))
        refine hR (c_get hO rfl ?_)
        refine hR (?_ : R (_, _, _, _, _, _))
        refine hR (c_get hO rfl ?_)
        iterate 2 refine hR (?_ : R (_, _, _, _, _, _))
        refine hR (t_o fun v1 r1 => ?_)
        refine hR (t_o fun v2 r2 => ?_)
        refine hR (c_bst3 hTv.1 (by rw [p1]; rfl) ⟨by rw [p1]; decide, by rw [p1]; decide⟩ (by omega) (by omega) (Nat.le_of_ble_eq_true rfl) fun w1 hw1 f1 => ?_)
        have hf : wfR [3] ρ v w1 := wfR_st (wfR_rf _ _ _) f1 (by rw [p1]; decide)
        obtain ⟨hT1, hI1, hp1, hK1⟩ := top_fr hTv hw1 hf (by decide) (AWK_fr hTv.1 hf hTv.2.2.1 (by decide))
        have hO1 := (f1.2 1 (by decide)).trans hO
        iterate 2 refine hR (?_ : R (_, _, _, _, _, _))
        refine hR (c_get hO1 rfl ?_)
        refine hR (?_ : R (_, _, _, _, _, _))
        refine hR (t_add ?_)
        refine hR (c_put hO1 rfl rfl fun w2 f2 hO2 => ?_)
        obtain ⟨hT2, hI2, hp2, hK2⟩ := told_put hT1 (hI1 _ _ hIv) f2 hO2 (by omega) ha hb
        refine hR (t_inc ?_)
        refine hR (?_ : R (_, _, _, _, _, _))
        exact ih (sh + (-8)) (lx + 1) w2 (by omega) (by omega) hT2 hI2 (by omega) (KEEP_tr hK (KEEP_tr hK1 hK2)) (by omega)
  refine hR (t_c 24 (by decide) ?_)
  refine hR (?_ : R (_, _, _, _, _, _))
  exact loop 100 24 l w (by omega) (by omega) hT hI rfl (fun _ _ _ => rfl) (by omega)
theorem k_feed {ρ : Nat → Nat} {w : zW} {l : Int} {m : Nat → Option Int} (hT : TOP ρ w) (hI : IM w l m) (d : Nat) (a1 a2 a3 a4 a5 : Int) : DET zTab (d + 2) iX11_feed [.ref 0, .int (Int32.ofInt a1), .int (Int32.ofInt a2), .int (Int32.ofInt a3), .int (Int32.ofInt a4), .int (Int32.ofInt a5)] w (fun mc ms r w' => (580 < l ∧ TP w l m mc ms w' ∧ r = some (.int (Int32.ofInt (-1)))) ∨ (l ≤ 580 ∧ TP w (l + 20) m mc ms w' ∧ r = some (.int (Int32.ofInt (l + 20))))) := by
  refine det_of (mc := 0) (ms := 0) ?_
  refine zCl_i (M := kX11_feed) rfl (Nat.le_of_ble_eq_true rfl) fun R hR => ?_
  obtain ⟨y6, y7, h0, -⟩ := top_o hT
  obtain ⟨a, b, hO, hl, -⟩ := told_o hT hI
  refine hR (?_ : R (_, _, _, _, _, _))
  refine hR (c_get h0 rfl ?_)
  refine hR (c_get hO rfl ?_)
  refine hR (t_c 580 (by decide) ?_)
  refine hR (j_le (by omega) (by omega) (fun hc => ?_) (fun hc => ?_))
  rotate_left
  · refine hR (?_ : R (_, _, _, _, _, _))
    exact hR (zret_i rfl (Nat.le_refl _) trivial (Or.inl ⟨by omega, ⟨⟨ρ, hT⟩, hI, fun _ _ _ => rfl, by omega, by omega⟩, rfl⟩))
  refine hR (?_ : R (_, _, _, _, _, _))
  refine hR (c_get h0 rfl ?_)
  refine hR (?_ : R (_, _, _, _, _, _))
  refine hR (c_obj hO (zcall_i 0 0 (Nat.le_of_ble_eq_true rfl) (Nat.le_of_ble_eq_true rfl) (c_putBytes _ a1 l m hT hI (by omega) _ fun w1 hT1 hI1 hp1 hK1 => ?_)))
  refine (?_ : R (_, _, [], w1, 0, 0))
  obtain ⟨_, _, h01, -⟩ := top_o hT1
  obtain ⟨_, _, hO1, -⟩ := told_o hT1 hI1
  refine hR (?_ : R (_, _, _, _, _, _))
  refine hR (c_get h01 rfl ?_)
  refine hR (?_ : R (_, _, _, _, _, _))
  refine hR (c_obj hO1 (zcall_i 0 0 (Nat.le_of_ble_eq_true rfl) (Nat.le_of_ble_eq_true rfl) (c_putBytes _ a2 _ m hT1 hI1 (by omega) _ fun w2 hT2 hI2 hp2 hK2 => ?_)))
  refine (?_ : R (_, _, [], w2, 0, 0))
  obtain ⟨_, _, h02, -⟩ := top_o hT2
  obtain ⟨_, _, hO2, -⟩ := told_o hT2 hI2
  refine hR (?_ : R (_, _, _, _, _, _))
  refine hR (c_get h02 rfl ?_)
  refine hR (?_ : R (_, _, _, _, _, _))
  refine hR (c_obj hO2 (zcall_i 0 0 (Nat.le_of_ble_eq_true rfl) (Nat.le_of_ble_eq_true rfl) (c_putBytes _ a3 _ m hT2 hI2 (by omega) _ fun w3 hT3 hI3 hp3 hK3 => ?_)))
  refine (?_ : R (_, _, [], w3, 0, 0))
  obtain ⟨_, _, h03, -⟩ := top_o hT3
  obtain ⟨_, _, hO3, -⟩ := told_o hT3 hI3
  refine hR (?_ : R (_, _, _, _, _, _))
  refine hR (c_get h03 rfl ?_)
  refine hR (?_ : R (_, _, _, _, _, _))
  refine hR (c_obj hO3 (zcall_i 0 0 (Nat.le_of_ble_eq_true rfl) (Nat.le_of_ble_eq_true rfl) (c_putBytes _ a4 _ m hT3 hI3 (by omega) _ fun w4 hT4 hI4 hp4 hK4 => ?_)))
  refine (?_ : R (_, _, [], w4, 0, 0))
  obtain ⟨_, _, h04, -⟩ := top_o hT4
  obtain ⟨_, _, hO4, -⟩ := told_o hT4 hI4
  refine hR (?_ : R (_, _, _, _, _, _))
  refine hR (c_get h04 rfl ?_)
  refine hR (?_ : R (_, _, _, _, _, _))
  refine hR (c_obj hO4 (zcall_i 0 0 (Nat.le_of_ble_eq_true rfl) (Nat.le_of_ble_eq_true rfl) (c_putBytes _ a5 _ m hT4 hI4 (by omega) _ fun w5 hT5 hI5 hp5 hK5 => ?_)))
  refine (?_ : R (_, _, [], w5, 0, 0))
  have hI5 : IM w5 (l + 20) m := by rw [show l + 20 = l + 4 + 4 + 4 + 4 + 4 by omega]; exact hI5
  obtain ⟨_, _, h05, -⟩ := top_o hT5
  obtain ⟨_, _, hO5, -⟩ := told_o hT5 hI5
  refine hR (?_ : R (_, _, _, _, _, _))
  refine hR (c_get h05 rfl ?_)
  refine hR (c_get hO5 rfl ?_)
  exact hR (zret_i rfl (Nat.le_refl _) trivial (Or.inr ⟨by omega, ⟨⟨ρ, hT5⟩, hI5, KEEP_tr hK1 (KEEP_tr hK2 (KEEP_tr hK3 (KEEP_tr hK4 hK5))), by omega, by omega⟩, rfl⟩))
theorem k_end {ρ : Nat → Nat} {w : zW} {l : Int} {m : Nat → Option Int} (hT : TOP ρ w) (hI : IM w l m) (d : Nat) (a1 : Int) (hr : -2147483648 ≤ a1 ∧ a1 ≤ 2147483647) : DET zTab (d + 1) iX11_end [.ref 0, .int (Int32.ofInt a1)] w (fun mc ms r w' => ((a1 < 0 ∨ l < a1) ∧ TP w l m mc ms w' ∧ r = some (.int (Int32.ofInt (-1)))) ∨ ((0 ≤ a1 ∧ a1 ≤ l) ∧ TP w a1 m mc ms w' ∧ r = some (.int (Int32.ofInt a1)))) := by
  refine det_of (mc := 0) (ms := 0) ?_
  refine zCl_i (M := kX11_end) rfl (Nat.le_of_ble_eq_true rfl) fun R hR => ?_
  obtain ⟨y6, y7, h0, -⟩ := top_o hT
  obtain ⟨a, b, hO, hl, ha, hb, -⟩ := told_o hT hI
  have bad : (a1 < 0 ∨ l < a1) → R (15, [some (.ref 0), some (.int (Int32.ofInt a1))], [], w, 0, 0) := by
    intro hx
    refine hR (?_ : R (_, _, _, _, _, _))
    exact hR (zret_i rfl (Nat.le_refl _) trivial (Or.inl ⟨hx, ⟨⟨ρ, hT⟩, hI, fun _ _ _ => rfl, by omega, by omega⟩, rfl⟩))
  refine hR (?_ : R (_, _, _, _, _, _))
  refine hR (k_lt (by omega) (fun hc => bad (Or.inl hc)) (fun hc => ?_))
  iterate 2 refine hR (?_ : R (_, _, _, _, _, _))
  refine hR (c_get h0 rfl ?_)
  refine hR (c_get hO rfl ?_)
  refine hR (j_le (by omega) (by omega) (fun hc2 => ?_) (fun hc2 => bad (Or.inr (by omega))))
  refine hR (?_ : R (_, _, _, _, _, _))
  refine hR (c_get h0 rfl ?_)
  refine hR (?_ : R (_, _, _, _, _, _))
  refine hR (c_put hO rfl rfl fun w2 f2 hO2 => ?_)
  obtain ⟨hT2, hI2, hp2, hK2⟩ := told_put hT hI f2 hO2 (by omega) ha hb
  refine hR (?_ : R (_, _, _, _, _, _))
  exact hR (zret_i rfl (Nat.le_refl _) trivial (Or.inr ⟨by omega, ⟨⟨ρ, hT2⟩, hI2, hK2, by omega, by omega⟩, rfl⟩))
theorem out_blk {ρ : Nat → Nat} {w : zW} {p q : Nat} (hw : CI ρ w) (hp : ρ p = 2) (hq : ρ q < 2 ∨ 7 < ρ q) : q < p ∨ p + 5 < q := by
  obtain ⟨a1, a2, a3, -, b1, -, -, -, b2, b3, b4, b5⟩ := CI_o2 hw hp
  rcases Nat.lt_or_ge q p with h | h
  · exact Or.inl h
  · rcases Nat.lt_or_ge (p + 5) q with h2 | h2
    · exact Or.inr h2
    · exfalso
      have : q = p ∨ q = p + 1 ∨ q = p + 2 ∨ q = p + 3 ∨ q = p + 4 ∨ q = p + 5 := by omega
      rcases this with rfl | rfl | rfl | rfl | rfl | rfl <;> omega
theorem frp_top {ρ : Nat → Nat} {w w' : zW} {p : Nat} (hT : TOP ρ w) (hp : ρ p = 2) (hc : CI ρ w') (F : FRP p w w') : TOP ρ w' ∧ phi w' = phi w ∧ KEEP w w' := by
  obtain ⟨y6, y7, h0, r1, r7, r8, r9, r12, r13, e6, e7⟩ := top_o hT
  have eq : ∀ q, (ρ q < 2 ∨ 7 < ρ q) → zix w' q = zix w q := fun q hq => F.2 q (out_blk hT.1 hp hq)
  refine ⟨⟨hc, hT.2.1, fun q hq => ?_, hT.2.2.2.1, by rw [F.1]; exact hT.2.2.2.2⟩, phi_eq (eq 0 (by rw [hT.2.1]; decide)) (eq 7 (by omega)) (eq 12 (by omega)) (eq 13 (by omega)), fun q a b => eq q (by have := hT.2.2.2.1 q a b; omega)⟩
  obtain ⟨x0, hO6, hx0, k1, k2, k3, k4⟩ := CI_o60 hT.1 hq
  obtain ⟨sz, gq, gn, gb, ⟨a, b, c⟩, d', e', f⟩ := hT.2.2.1 q hq
  exact ⟨sz, gq, gn, gb, ⟨a, (eq _ (by omega)).trans b, (eq _ (by omega)).trans c⟩, (eq _ (by omega)).trans d', (eq _ (by omega)).trans e', f⟩
theorem k_again {ρ : Nat → Nat} {w : zW} {l : Int} {m : Nat → Option Int} (hT : TOP ρ w) (hI : IM w l m) (d : Nat) (a1 : Int) (hr : -2147483648 ≤ a1 ∧ a1 ≤ 2147483647) : DET zTab (d + 3) iX11_again [.ref 0, .int (Int32.ofInt a1)] w (fun mc ms r w' => (((a1 < 0 ∨ 3 ≤ a1) ∨ m a1.toNat = none) ∧ TP w l m mc ms w' ∧ r = some (.int (Int32.ofInt 0))) ∨ (∃ x, (0 ≤ a1 ∧ a1 < 3) ∧ m a1.toNat = some x ∧ TP w x m mc ms w' ∧ r = some (.int (Int32.ofInt 1)))) := by
  refine det_of (mc := 0) (ms := 0) ?_
  refine zCl_i (M := kX11_again) rfl (Nat.le_of_ble_eq_true rfl) fun R hR => ?_
  obtain ⟨y6, y7, h0, r1, r7, -⟩ := top_o hT
  obtain ⟨a, b, hO, hl, ha, hb, -⟩ := told_o hT hI
  have bad : ((a1 < 0 ∨ 3 ≤ a1) ∨ m a1.toNat = none) → R (18, [some (.ref 0), some (.int (Int32.ofInt a1))], [], w, 0, 0) := by
    intro hx
    refine hR (?_ : R (_, _, _, _, _, _))
    exact hR (zret_i rfl (Nat.le_refl _) (Or.inl rfl) (Or.inl ⟨hx, ⟨⟨ρ, hT⟩, hI, fun _ _ _ => rfl, by omega, by omega⟩, rfl⟩))
  refine hR (?_ : R (_, _, _, _, _, _))
  refine hR (k_lt (by omega) (fun hc => bad (Or.inl (Or.inl hc))) (fun hc => ?_))
  iterate 2 refine hR (?_ : R (_, _, _, _, _, _))
  refine hR (j_ge (by omega) (by omega) (fun hc2 => bad (Or.inl (Or.inr hc2))) (fun hc2 => ?_))
  obtain ⟨c1, g, c2, c3, c4⟩ := hI
  have hI : IM w l m := ⟨c1, g, c2, c3, c4⟩
  rcases c3 a1.toNat (by omega) with ⟨e1, e2⟩ | ⟨q, x, e1, e2, e3, e4⟩
  · refine hR (?_ : R (_, _, _, _, _, _))
    refine hR (c_get h0 rfl ?_)
    refine hR (?_ : R (_, _, _, _, _, _))
    refine hR (c_rldE c2 rfl (by omega) (by omega) (Nat.le_of_ble_eq_true rfl) (v := .null) (by rw [e1]; rfl) ?_)
    refine hR (?_ : R (_, _, _, _, _, _))
    exact bad (Or.inr e2)
  · have hq := im_role (l := 0) (m := fun _ => none) hT c2 e1
    refine hR (?_ : R (_, _, _, _, _, _))
    refine hR (c_get h0 rfl ?_)
    refine hR (?_ : R (_, _, _, _, _, _))
    refine hR (c_rldE c2 rfl (by omega) (by omega) (Nat.le_of_ble_eq_true rfl) (v := .ref q) (by rw [e1]; rfl) ?_)
    iterate 2 refine hR (?_ : R (_, _, _, _, _, _))
    refine hR (c_get h0 rfl ?_)
    refine hR (?_ : R (_, _, _, _, _, _))
    refine hR (c_get h0 rfl ?_)
    refine hR (?_ : R (_, _, _, _, _, _))
    refine hR (c_rldE c2 rfl (by omega) (by omega) (Nat.le_of_ble_eq_true rfl) (v := .ref q) (by rw [e1]; rfl) ?_)
    refine hR (c_obj hO (zcall_i 0 0 (Nat.le_of_ble_eq_true rfl) (Nat.le_of_ble_eq_true rfl) (c_becomes _ 1 q x hT.1 r1 hq (by omega) e4 _ fun w1 hw1 F1 hL1 => ?_)))
    refine (?_ : R (_, _, [], w1, 0, 0))
    obtain ⟨hT1, hp1, hK1⟩ := frp_top hT r1 hw1 F1
    have hI1 : IM w1 x m := by
      refine ⟨hL1, g, (F1.2 7 (by omega)).trans c2, fun k hk => ?_, c4⟩
      rcases c3 k hk with e | ⟨q', x', f1, f2, f3, f4⟩
      · exact Or.inl e
      · exact Or.inr ⟨q', x', f1, f2, f3, LE_eq (F1.2 q' (by omega)) f4⟩
    refine hR (?_ : R (_, _, _, _, _, _))
    exact hR (zret_i rfl (Nat.le_refl _) (Or.inr rfl) (Or.inr ⟨x, by omega, e2, ⟨⟨ρ, hT1⟩, hI1, hK1, by omega, by omega⟩, rfl⟩))
noncomputable def upm (m : Nat → Option Int) (k : Nat) (l : Int) : Nat → Option Int := fun j => if j = k then some l else m j
/-- an image is as the tape is now -/
theorem im_img {ρ : Nat → Nat} {w w1 : zW} {l : Int} {m : Nat → Option Int} {g : Nat → Option Nat} {k p : Nat} (hT : TOP ρ w) (c1 : LE w 1 l) (c2 : zix w 7 = some (rfa 6 3 g)) (hk : k < 3) (hg : g k = some p) (hp45 : 45 ≤ p) (c3 : ∀ j, j < 3 → j ≠ k → (g j = none ∧ m j = none) ∨ ∃ q x, g j = some q ∧ m j = some x ∧ 45 ≤ q ∧ LE w q x) (c4 : ∀ i j q, i < 3 → j < 3 → g i = some q → g j = some q → i = j) (F : FRP p w w1) (hL : LE w1 p l) : IM w1 l (upm m k l) := by
  obtain ⟨y6, y7, h0, r1, r7, -⟩ := top_o hT
  have hp := im_role (l := 0) (m := fun _ => none) hT c2 hg
  refine ⟨LE_eq (F.2 1 (by omega)) c1, g, (F.2 7 (by omega)).trans c2, fun j hj => ?_, c4⟩
  by_cases e : j = k
  · subst e
    exact Or.inr ⟨p, l, hg, if_pos rfl, hp45, hL⟩
  · rcases c3 j hj e with ⟨f1, f2⟩ | ⟨q, x, f1, f2, f3, f4⟩
    · exact Or.inl ⟨f1, (if_neg e).trans f2⟩
    · have hqp : p ≠ q := fun e2 => e (c4 j k q hj hk f1 (by rw [← e2]; exact hg))
      have hb := blk hT.1 hp (im_role (l := 0) (m := fun _ => none) hT c2 f1) hqp 0 (by omega)
      exact Or.inr ⟨q, x, f1, (if_neg e).trans f2, f3, LE_eq (F.2 q hb) f4⟩
theorem ph3_up {c i p t n : Nat} {g : Nat → Option Nat} (hi : i < 3) (hn : g i = none) : ph3 c (some (rfa t n (va_up g i (some p)))) + c = ph3 c (some (rfa t n g)) := by
  show pnr c (va_up g i (some p) 0) + pnr c (va_up g i (some p) 1) + pnr c (va_up g i (some p) 2) + c = pnr c (g 0) + pnr c (g 1) + pnr c (g 2)
  have h : i = 0 ∨ i = 1 ∨ i = 2 := by omega
  rcases h with rfl | rfl | rfl
  · rw [up_s, up_n (by decide), up_n (by decide), hn]; show 0 + _ + _ + c = c + _ + _; omega
  · rw [up_s, up_n (by decide), up_n (by decide), hn]; show _ + 0 + _ + c = _ + c + _; omega
  · rw [up_s, up_n (by decide), up_n (by decide), hn]; show _ + _ + 0 + c = _ + _ + c; omega
theorem k_image {ρ : Nat → Nat} {w : zW} {l : Int} {m : Nat → Option Int} (hT : TOP ρ w) (hI : IM w l m) (d : Nat) (a1 : Int) (hr : -2147483648 ≤ a1 ∧ a1 ≤ 2147483647) : DET zTab (d + 3) iX11_image [.ref 0, .int (Int32.ofInt a1)] w (fun mc ms r w' => ((a1 < 0 ∨ 3 ≤ a1) ∧ TP w l m mc ms w' ∧ r = some (.int (Int32.ofInt 0))) ∨ ((0 ≤ a1 ∧ a1 < 3) ∧ TP w l (upm m a1.toNat l) mc ms w' ∧ r = some (.int (Int32.ofInt 1)))) := by
  obtain ⟨y6, y7, h0, r1, r7, -⟩ := top_o hT
  obtain ⟨a, b, hO, hl, ha, hb, -⟩ := told_o hT hI
  obtain ⟨c1, g, c2, c3, c4⟩ := hI
  have hI : IM w l m := ⟨c1, g, c2, c3, c4⟩
  by_cases hx : a1 < 0 ∨ 3 ≤ a1
  · refine det_of (mc := 0) (ms := 0) ?_
    refine zCl_i (M := kX11_image) rfl (Nat.le_of_ble_eq_true rfl) fun R hR => ?_
    have bad : R (9, [some (.ref 0), some (.int (Int32.ofInt a1))], [], w, 0, 0) := by
      refine hR (?_ : R (_, _, _, _, _, _))
      exact hR (zret_i rfl (Nat.le_refl _) (Or.inl rfl) (Or.inl ⟨hx, ⟨⟨ρ, hT⟩, hI, fun _ _ _ => rfl, by omega, by omega⟩, rfl⟩))
    refine hR (?_ : R (_, _, _, _, _, _))
    refine hR (k_lt (by omega) (fun hc => bad) (fun hc => ?_))
    iterate 2 refine hR (?_ : R (_, _, _, _, _, _))
    exact hR (j_lt (by omega) (by omega) (fun hc2 => by omega) (fun hc2 => bad))
  · have hk : a1.toNat < 3 := by omega
    rcases c3 a1.toNat hk with ⟨e1, e2⟩ | ⟨q, x, e1, e2, e3, e4⟩
    · refine det_of (mc := 6) (ms := 617) ?_
      refine zCl_i (M := kX11_image) rfl (Nat.le_of_ble_eq_true rfl) fun R hR => ?_
      refine hR (?_ : R (_, _, _, _, _, _))
      refine hR (k_lt (by omega) (fun hc => by omega) (fun hc => ?_))
      iterate 2 refine hR (?_ : R (_, _, _, _, _, _))
      refine hR (j_lt (by omega) (by omega) (fun hc2 => ?_) (fun hc2 => by omega))
      refine hR (?_ : R (_, _, _, _, _, _))
      refine hR (c_get h0 rfl ?_)
      refine hR (?_ : R (_, _, _, _, _, _))
      refine hR (c_rldE c2 rfl (by omega) (by omega) (Nat.le_of_ble_eq_true rfl) (v := .null) (by rw [e1]; rfl) ?_)
      iterate 2 refine hR (?_ : R (_, _, _, _, _, _))
      refine hR (c_get h0 rfl ?_)
      iterate 3 refine hR (?_ : R (_, _, _, _, _, _))
      refine hR (zcall_i 5 609 (Nat.le_of_ble_eq_true rfl) (Nat.le_of_ble_eq_true rfl) (n_Told hT.1 _ _ fun σ w1 hc1 g1 hl1 hr1 hn1 hL1 => ?_))
      refine (?_ : R (_, _, .ref w.length :: .int (Int32.ofInt a1) :: .ref 7 :: [], w1, 6, 617))
      obtain ⟨hT1, hI1, hp1, hK1, hx1⟩ := top_gro hT hc1 g1 (fun q a b => absurd b (hn1 q a))
      have h45 : 45 ≤ w.length := hT.2.2.2.2
      obtain ⟨z6, z7, k0, s1, s7, -⟩ := top_o hT1
      have d2 : zix w1 7 = some (rfa 6 3 g) := (g1.2 7 (by omega)).2.trans c2
      obtain ⟨x1, x2, x3, hN, -⟩ := CI_o2 hc1 hr1
      refine hR (c_rst hc1 (by rw [s7]; rfl) (by rw [s7]; rfl) rfl ⟨by rw [s7]; decide, by rw [s7]; decide⟩ d2 hr1 hN (by omega) (by omega) (Nat.le_of_ble_eq_true rfl) fun w2 hc2 f2 hg2 => ?_)
      have hf2 : wfR [8] σ w1 w2 := wfR_st (wfR_rf _ _ _) f2 (by rw [s7]; decide)
      have hT2 : TOP σ w2 := ⟨hc2, hT1.2.1, AWK_fr hc1 hf2 hT1.2.2.1 (by decide), hT1.2.2.2.1, by rw [f2.1]; exact hT1.2.2.2.2⟩
      have hK2 : KEEP w1 w2 := fun q a b => f2.2 q (by omega)
      have hp2 : phi w2 + 700 = phi w1 := by
        have := ph3_up (c := 700) (p := w.length) (t := 6) (n := 3) hk e1
        unfold phi
        rw [d2, hg2, f2.2 0 (by decide), f2.2 12 (by decide), f2.2 13 (by decide)]
        omega
      have k02 := (f2.2 0 (by decide)).trans k0
      refine hR (?_ : R (_, _, _, _, _, _))
      refine hR (c_get k02 rfl ?_)
      refine hR (?_ : R (_, _, _, _, _, _))
      refine hR (c_rldE hg2 rfl (by omega) (by omega) (Nat.le_of_ble_eq_true rfl) (v := .ref w.length) (by rw [up_s]; rfl) ?_)
      refine hR (?_ : R (_, _, _, _, _, _))
      refine hR (c_get k02 rfl ?_)
      have hN2 := (f2.2 w.length (by omega)).trans hN
      have hL12 : LE w2 1 l := LE_eq ((f2.2 1 (by decide)).trans (g1.2 1 (by omega)).2) c1
      refine hR (c_obj hN2 (zcall_i 0 0 (Nat.le_of_ble_eq_true rfl) (Nat.le_of_ble_eq_true rfl) (c_becomes _ w.length 1 l hc2 hr1 s1 (by omega) hL12 _ fun w3 hw3 F3 hL3 => ?_)))
      refine (?_ : R (_, _, [], w3, 6, 617))
      obtain ⟨hT3, hp3, hK3⟩ := frp_top hT2 hr1 hw3 F3
      have hI3 : IM w3 l (upm m a1.toNat l) := by
        refine im_img hT2 hL12 hg2 hk up_s (by omega) (fun j hj hne => ?_) (fun i j q hi hj f1 f3 => ?_) F3 hL3
        · rw [up_n hne]
          rcases c3 j hj with e | ⟨q', x', f1, f3, f4, f5⟩
          · exact Or.inl e
          · have hq' : q' < w.length := CI_lt hT.1 (by rw [im_role (l := 0) (m := fun _ => none) hT c2 f1]; decide)
            exact Or.inr ⟨q', x', f1, f3, f4, LE_eq ((f2.2 q' (by omega)).trans (g1.2 q' hq').2) f5⟩
        · have hlt : ∀ j q', g j = some q' → q' < w.length := fun j q' f => CI_lt hT.1 (by rw [im_role (l := 0) (m := fun _ => none) hT c2 f]; decide)
          by_cases ei : i = a1.toNat <;> by_cases ej : j = a1.toNat
          · omega
          · rw [ei, up_s] at f1; cases f1; rw [up_n ej] at f3; have := hlt _ _ f3; omega
          · rw [ej, up_s] at f3; cases f3; rw [up_n ei] at f1; have := hlt _ _ f1; omega
          · rw [up_n ei] at f1; rw [up_n ej] at f3; exact c4 i j q hi hj f1 f3
      refine hR (?_ : R (_, _, _, _, _, _))
      exact hR (zret_i rfl (Nat.le_refl _) (Or.inr rfl) (Or.inr ⟨by omega, ⟨⟨σ, hT3⟩, hI3, KEEP_tr hK1 (KEEP_tr hK2 hK3), by omega, by omega⟩, rfl⟩))
    · have hq := im_role (l := 0) (m := fun _ => none) hT c2 e1
      obtain ⟨x1, x2, x3, hN, -⟩ := CI_o2 hT.1 hq
      refine det_of (mc := 0) (ms := 0) ?_
      refine zCl_i (M := kX11_image) rfl (Nat.le_of_ble_eq_true rfl) fun R hR => ?_
      refine hR (?_ : R (_, _, _, _, _, _))
      refine hR (k_lt (by omega) (fun hc => by omega) (fun hc => ?_))
      iterate 2 refine hR (?_ : R (_, _, _, _, _, _))
      refine hR (j_lt (by omega) (by omega) (fun hc2 => ?_) (fun hc2 => by omega))
      refine hR (?_ : R (_, _, _, _, _, _))
      refine hR (c_get h0 rfl ?_)
      refine hR (?_ : R (_, _, _, _, _, _))
      refine hR (c_rldE c2 rfl (by omega) (by omega) (Nat.le_of_ble_eq_true rfl) (v := .ref q) (by rw [e1]; rfl) ?_)
      iterate 2 refine hR (?_ : R (_, _, _, _, _, _))
      refine hR (c_get h0 rfl ?_)
      refine hR (?_ : R (_, _, _, _, _, _))
      refine hR (c_rldE c2 rfl (by omega) (by omega) (Nat.le_of_ble_eq_true rfl) (v := .ref q) (by rw [e1]; rfl) ?_)
      refine hR (?_ : R (_, _, _, _, _, _))
      refine hR (c_get h0 rfl ?_)
      refine hR (c_obj hN (zcall_i 0 0 (Nat.le_of_ble_eq_true rfl) (Nat.le_of_ble_eq_true rfl) (c_becomes _ q 1 l hT.1 hq r1 (by omega) c1 _ fun w1 hw1 F1 hL1 => ?_)))
      refine (?_ : R (_, _, [], w1, 0, 0))
      obtain ⟨hT1, hp1, hK1⟩ := frp_top hT hq hw1 F1
      have hI1 := im_img (m := m) hT c1 c2 hk e1 e3 (fun j hj _ => c3 j hj) c4 F1 hL1
      refine hR (?_ : R (_, _, _, _, _, _))
      exact hR (zret_i rfl (Nat.le_refl _) (Or.inr rfl) (Or.inr ⟨by omega, ⟨⟨ρ, hT1⟩, hI1, hK1, by omega, by omega⟩, rfl⟩))
/-! TEXT. -/
theorem rls_19 {r0 r : Nat} (h : r ∈ rls r0) (h1 : r0 ≠ 19) : r ≠ 19 ∧ r ≠ 25 ∧ r ≠ 26 := by
  unfold rls at h
  split at h
  all_goals first | (exact absurd rfl h1) | (simp only [List.mem_cons, List.not_mem_nil, or_false] at h; omega) | (cases h)
noncomputable def to20 (ρ : Nat → Nat) (n : Nat) : Nat → Nat := fun x => if x = n then 20 else if x = n + 3 then 23 else if x = n + 4 then 24 else ρ x
theorem to20_n {ρ : Nat → Nat} {n x : Nat} (h : x ≠ n ∧ x ≠ n + 3 ∧ x ≠ n + 4) : to20 ρ n x = ρ x := by
  unfold to20
  rw [if_neg h.1, if_neg h.2.1, if_neg h.2.2]
theorem CI_to20 {σ : Nat → Nat} {w : zW} {n : Nat} (hw : CI σ w) (hn : σ n = 19) (hR : REL w (n + 3)) : CI (to20 σ n) w := by
  obtain ⟨x0, x1, x2, hO, a0, a1, a2, b1, b2, b3, b4⟩ := CI_o19 hw hn
  have e0 : to20 σ n n = 20 := if_pos rfl
  have e3 : to20 σ n (n + 3) = 23 := by unfold to20; rw [if_neg (by omega), if_pos rfl]
  have e4 : to20 σ n (n + 4) = 24 := by unfold to20; rw [if_neg (by omega), if_neg (by omega), if_pos rfl]
  have hk : ∀ x r, σ x = r → r ≠ 19 → r ≠ 25 → r ≠ 26 → to20 σ n x = r := by
    intro x r e h1 h2 h3
    refine (to20_n ⟨fun e' => ?_, fun e' => ?_, fun e' => ?_⟩).trans e
    · rw [e', hn] at e; exact h1 e.symm
    · rw [e', b3] at e; exact h2 e.symm
    · rw [e', b4] at e; exact h3 e.symm
  refine ⟨fun q hq => ?_, fun q hq => ?_, fun q hq => ?_⟩
  · by_cases q0 : q = n
    · subst q0
      refine ⟨_, hO, ?_⟩
      unfold rOK
      rw [e0]
      exact ⟨x0, x1, x2, rfl, a0, a1, a2, hk _ _ b1 (by decide) (by decide) (by decide), hk _ _ b2 (by decide) (by decide) (by decide), e3, e4⟩
    · by_cases q3 : q = n + 3
      · subst q3
        obtain ⟨g, h1, h2⟩ := CI_ar hw (q := n + 3) (by rw [b3]; rfl)
        refine ⟨_, h1, ?_⟩
        unfold rOK
        rw [e3]
        exact ⟨g, rfl, h2⟩
      · by_cases q4 : q = n + 4
        · subst q4
          obtain ⟨g, h1, h2⟩ := CI_ar hw (q := n + 4) (by rw [b4]; rfl)
          refine ⟨_, h1, ?_⟩
          unfold rOK
          rw [e4]
          exact ⟨g, rfl, h2⟩
        · have eq : to20 σ n q = σ q := to20_n ⟨q0, q3, q4⟩
          by_cases e19 : σ q = 19
          · obtain ⟨y0, y1, y2, hO', c0, c1, c2, d1, d2, d3, d4⟩ := CI_o19 hw e19
            refine ⟨_, hO', ?_⟩
            unfold rOK
            rw [eq, e19]
            refine ⟨y0, y1, y2, rfl, c0, c1, c2, hk _ _ d1 (by decide) (by decide) (by decide), hk _ _ d2 (by decide) (by decide) (by decide), (to20_n ⟨fun e => ?_, by omega, fun e => ?_⟩).trans d3, (to20_n ⟨fun e => ?_, fun e => ?_, by omega⟩).trans d4⟩
            · rw [e, hn] at d3; omega
            · rw [e, b4] at d3; omega
            · rw [e, hn] at d4; omega
            · rw [e, b3] at d4; omega
          · obtain ⟨c, h1, h2⟩ := hw.1 q hq
            refine ⟨c, h1, rOK_map eq (fun x r hr ex => ?_) h2⟩
            have hr' : r ≠ 19 ∧ r ≠ 25 ∧ r ≠ 26 := by
              rcases hr with hr | ⟨ti, len, hr⟩
              · exact rls_19 hr e19
              · have := rRf_12 hr; omega
            exact hk x r ex hr'.1 hr'.2.1 hr'.2.2
  · exact hk q 0 (hw.2.1 q hq) (by decide) (by decide) (by decide)
  · by_cases q3 : q = n + 3
    · subst q3
      obtain ⟨gk, gn, h1, h2, h3⟩ := hR
      exact ⟨e4, gk, gn, h1, h2, h3⟩
    · have hq' : σ q = 23 := by
        by_cases q0 : q = n
        · rw [q0, e0] at hq; cases hq
        · by_cases q4 : q = n + 4
          · rw [q4, e4] at hq; cases hq
          · exact (to20_n ⟨q0, q3, q4⟩).symm.trans hq
      obtain ⟨h1, h2⟩ := hw.2.2 q hq'
      exact ⟨hk _ _ h1 (by decide) (by decide) (by decide), h2⟩
/-- the same cells, other roles -/
theorem top_rol {σ τ : Nat → Nat} {w : zW} (hT : TOP σ w) (hc : CI τ w) (h0 : τ 0 = 1) (h6 : ∀ q, τ q = 60 → σ q = 60) (hm : ∀ q, 14 ≤ q → q ≤ 44 → τ q = 0) : TOP τ w := ⟨hc, h0, fun q hq => hT.2.2.1 q (h6 q hq), hm, hT.2.2.2.2⟩
noncomputable def PT (w : zW) (mc ms : Nat) (r : Option Value) (w' : zW) : Prop := (∃ σ, TOP σ w') ∧ (∀ l m, IM w l m → IM w' l m) ∧ KEEP w w' ∧ mc ≤ 20 ∧ ms + phi w' ≤ phi w + 200 ∧ ∃ v : Int, (v = 0 ∨ v = 1) ∧ r = some (.int (Int32.ofInt v))
/-- a store into a row of what is told -/
theorem top_told {σ : Nat → Nat} {w1 w2 : zW} {q0 : Nat} (hT : TOP σ w1) (hc : CI σ w2) (f : wfr q0 w1 w2) (hq : 3 ≤ σ q0 ∧ σ q0 ≤ 7) : TOP σ w2 ∧ (∀ l m, IM w1 l m → IM w2 l m) ∧ phi w2 = phi w1 ∧ KEEP w1 w2 := by
  have hf : wfR [3, 4, 5, 6, 7] σ w1 w2 := wfR_st (wfR_rf _ _ _) f (by simp only [List.mem_cons, List.not_mem_nil, or_false]; omega)
  exact top_fr hT hc hf (by decide) (AWK_fr hT.1 hf hT.2.2.1 (by decide))
theorem a_tellInto {ρ : Nat → Nat} {w : zW} (hT : TOP ρ w) (d : Nat) (a1 a2 a3 : Int) (h1 : 0 ≤ a1 ∧ a1 ≤ 2) (h2 : 0 ≤ a2 ∧ a2 ≤ 1) (h3 : 0 ≤ a3 ∧ a3 ≤ 600) : DET zTab (d + 9) iX11_tellInto [.ref 0, .int (Int32.ofInt a1), .int (Int32.ofInt a2), .int (Int32.ofInt a3)] w (PT w) := by
  have hs : a1 = 0 ∨ a1 = 1 ∨ a1 = 2 := by omega
  rcases hs with hs | hs | hs
  · skip
    refine det_of (mc := 5) (ms := 56) ?_
    refine zCl_i (M := kX11_tellInto) rfl (Nat.le_of_ble_eq_true rfl) fun R hR => ?_
    refine hR (?_ : R (_, _, _, _, _, _))
    refine hR (t_pc (pc2 := 28) (by rw [zti (e := a1) (by omega) (by omega)]; show (((1 : Nat) : Int) + Op.lookupswitch.offset [(0, 27), (1, 71)] 115 a1).toNat = 28; simp only [Op.lookupswitch.offset_cons]; (repeat' split) <;> first | omega | rfl) ?_)
    iterate 2 refine hR (?_ : R (_, _, _, _, _, _))
    refine hR (zcall_i 4 49 (Nat.le_of_ble_eq_true rfl) (Nat.le_of_ble_eq_true rfl) (n_Book hT.1 _ _ fun σ w1 hc1 g1 hl1 hr1 hn1 hRL => ?_))
    refine (?_ : R (_, _, .ref w.length :: [], w1, 5, 56))
    obtain ⟨hT1, hI1, hp1, hK1, hx1⟩ := top_gro hT hc1 g1 (fun q a b => absurd b (hn1 q a))
    obtain ⟨z6, z7, k0, s1, s7, s8, s9, s12, s13, -⟩ := top_o hT1
    obtain ⟨x1, x2, x3, hO, u1, -, -, -, u2, u3, u4, u5⟩ := CI_o2 hc1 s1
    obtain ⟨t0, t1, t2, t3, t4, t5, t6, t7, hU, -⟩ := CI_o9 hc1 s8
    iterate 2 refine hR (?_ : R (_, _, _, _, _, _))
    refine hR (c_get k0 rfl ?_)
    refine hR (?_ : R (_, _, _, _, _, _))
    refine hR (c_get k0 rfl ?_)
    refine hR (c_get hO rfl ?_)
    iterate 2 refine hR (?_ : R (_, _, _, _, _, _))
    refine hR (c_obj hU (zcall_i 0 0 (Nat.le_of_ble_eq_true rfl) (Nat.le_of_ble_eq_true rfl) (c_tell_b _ 8 2 w.length a3 hc1 s8 u1 hr1 h3 hRL _ fun v w2 hw2 f2 hv hRL2 => ?_)))
    refine (?_ : R (_, _, .int (Int32.ofInt v) :: [], w2, 5, 56))
    obtain ⟨hT2, hI2, hp2, hK2⟩ := top_fr hT1 hw2 f2 (by decide) (AWK_fr hc1 f2 hT1.2.2.1 (by decide))
    refine hR (k_eq (by omega) (fun hc => ?_) (fun hc => ?_))
    · refine hR (?_ : R (_, _, _, _, _, _))
      exact hR (zret_i rfl (Nat.le_refl _) (Or.inl rfl) ⟨⟨σ, hT2⟩, fun l m h => hI2 l m (hI1 l m h), KEEP_tr hK1 hK2, by omega, by omega, 0, Or.inl rfl, rfl⟩)
    · skip
      have hRL3 := hRL2.resolve_left hc
      have hN2 : σ w.length = 19 := hr1
      have hc2 := CI_to20 hw2 hr1 hRL3
      obtain ⟨-, -, -, -, -, -, -, m1, m2, m3, m4⟩ := CI_o19 hw2 hr1
      have h45 : 45 ≤ w.length := hT.2.2.2.2
      have lo : ∀ q, q < 45 → to20 σ w.length q = σ q := fun q hq => to20_n ⟨by omega, by omega, by omega⟩
      have hT3 : TOP (to20 σ w.length) w2 := top_rol hT2 hc2 ((lo 0 (by omega)).trans hT2.2.1) (fun q hq => by unfold to20 at hq; (repeat' split at hq) <;> first | cases hq | exact hq) (fun q a b => (lo q (by omega)).trans (hT2.2.2.2.1 q a b))
      have s3 : to20 σ w.length w.length = 20 := if_pos rfl
      have ua : to20 σ w.length 4 = 5 := (lo 4 (by omega)).trans u3
      obtain ⟨z6', z7', k02, s1', -⟩ := top_o hT3
      obtain ⟨y1, y2, y3, hO2, -⟩ := CI_o2 hc2 s1'
      obtain ⟨g, hg, -⟩ := CI_rf hc2 (q := 4) (by rw [ua]; rfl) (by rw [ua]; rfl)
      obtain ⟨_, _, _, hN, -⟩ := CI_o20 hc2 s3
      refine hR (?_ : R (_, _, _, _, _, _))
      refine hR (c_get k02 rfl ?_)
      refine hR (c_get hO2 rfl ?_)
      iterate 2 refine hR (?_ : R (_, _, _, _, _, _))
      refine hR (c_rst hc2 (by rw [ua]; rfl) (by rw [ua]; rfl) rfl ⟨by rw [ua]; decide, by rw [ua]; decide⟩ hg s3 hN (by omega) (by omega) (Nat.le_of_ble_eq_true rfl) fun w3 hc3 f3 hg3 => ?_)
      obtain ⟨hT4, hI4, hp4, hK4⟩ := top_told hT3 hc3 f3 (by rw [ua]; decide)
      refine hR (?_ : R (_, _, _, _, _, _))
      exact hR (zret_i rfl (Nat.le_refl _) (Or.inr rfl) ⟨⟨_, hT4⟩, fun l m h => hI4 l m (hI2 l m (hI1 l m h)), KEEP_tr hK1 (KEEP_tr hK2 hK4), by omega, by omega, 1, Or.inr rfl, rfl⟩)
  · skip
    refine det_of (mc := 4) (ms := 124) ?_
    refine zCl_i (M := kX11_tellInto) rfl (Nat.le_of_ble_eq_true rfl) fun R hR => ?_
    refine hR (?_ : R (_, _, _, _, _, _))
    refine hR (t_pc (pc2 := 72) (by rw [zti (e := a1) (by omega) (by omega)]; show (((1 : Nat) : Int) + Op.lookupswitch.offset [(0, 27), (1, 71)] 115 a1).toNat = 72; simp only [Op.lookupswitch.offset_cons]; (repeat' split) <;> first | omega | rfl) ?_)
    iterate 2 refine hR (?_ : R (_, _, _, _, _, _))
    refine hR (zcall_i 3 120 (Nat.le_of_ble_eq_true rfl) (Nat.le_of_ble_eq_true rfl) (n_Year hT.1 _ _ fun σ w1 hc1 g1 hl1 hr1 hn1 => ?_))
    refine (?_ : R (_, _, .ref w.length :: [], w1, 4, 124))
    obtain ⟨hT1, hI1, hp1, hK1, hx1⟩ := top_gro hT hc1 g1 (fun q a b => absurd b (hn1 q a))
    obtain ⟨z6, z7, k0, s1, s7, s8, s9, s12, s13, -⟩ := top_o hT1
    obtain ⟨x1, x2, x3, hO, u1, -, -, -, u2, u3, u4, u5⟩ := CI_o2 hc1 s1
    obtain ⟨t0, t1, t2, t3, t4, t5, t6, t7, hU, -⟩ := CI_o9 hc1 s8
    iterate 2 refine hR (?_ : R (_, _, _, _, _, _))
    refine hR (c_get k0 rfl ?_)
    refine hR (?_ : R (_, _, _, _, _, _))
    refine hR (c_get k0 rfl ?_)
    refine hR (c_get hO rfl ?_)
    iterate 2 refine hR (?_ : R (_, _, _, _, _, _))
    refine hR (c_obj hU (zcall_i 0 0 (Nat.le_of_ble_eq_true rfl) (Nat.le_of_ble_eq_true rfl) (c_tell_y _ 8 2 w.length a3 hc1 s8 u1 hr1 h3 _ fun v w2 hw2 f2 hv => ?_)))
    refine (?_ : R (_, _, .int (Int32.ofInt v) :: [], w2, 4, 124))
    obtain ⟨hT2, hI2, hp2, hK2⟩ := top_fr hT1 hw2 f2 (by decide) (AWK_fr hc1 f2 hT1.2.2.1 (by decide))
    refine hR (k_eq (by omega) (fun hc => ?_) (fun hc => ?_))
    · refine hR (?_ : R (_, _, _, _, _, _))
      exact hR (zret_i rfl (Nat.le_refl _) (Or.inl rfl) ⟨⟨σ, hT2⟩, fun l m h => hI2 l m (hI1 l m h), KEEP_tr hK1 hK2, by omega, by omega, 0, Or.inl rfl, rfl⟩)
    · skip
      have hT3 : TOP σ w2 := hT2
      have hc2 := hw2
      have s3 := hr1
      have ua : σ 5 = 6 := u4
      obtain ⟨z6', z7', k02, s1', -⟩ := top_o hT3
      obtain ⟨y1, y2, y3, hO2, -⟩ := CI_o2 hc2 s1'
      obtain ⟨g, hg, -⟩ := CI_rf hc2 (q := 5) (by rw [ua]; rfl) (by rw [ua]; rfl)
      obtain ⟨_, hN, -⟩ := CI_o30 hc2 s3
      refine hR (?_ : R (_, _, _, _, _, _))
      refine hR (c_get k02 rfl ?_)
      refine hR (c_get hO2 rfl ?_)
      iterate 2 refine hR (?_ : R (_, _, _, _, _, _))
      refine hR (c_rst hc2 (by rw [ua]; rfl) (by rw [ua]; rfl) rfl ⟨by rw [ua]; decide, by rw [ua]; decide⟩ hg s3 hN (by omega) (by omega) (Nat.le_of_ble_eq_true rfl) fun w3 hc3 f3 hg3 => ?_)
      obtain ⟨hT4, hI4, hp4, hK4⟩ := top_told hT3 hc3 f3 (by rw [ua]; decide)
      refine hR (?_ : R (_, _, _, _, _, _))
      exact hR (zret_i rfl (Nat.le_refl _) (Or.inr rfl) ⟨⟨_, hT4⟩, fun l m h => hI4 l m (hI2 l m (hI1 l m h)), KEEP_tr hK1 (KEEP_tr hK2 hK4), by omega, by omega, 1, Or.inr rfl, rfl⟩)
  · skip
    refine det_of (mc := 3) (ms := 15) ?_
    refine zCl_i (M := kX11_tellInto) rfl (Nat.le_of_ble_eq_true rfl) fun R hR => ?_
    refine hR (?_ : R (_, _, _, _, _, _))
    refine hR (t_pc (pc2 := 116) (by rw [zti (e := a1) (by omega) (by omega)]; show (((1 : Nat) : Int) + Op.lookupswitch.offset [(0, 27), (1, 71)] 115 a1).toNat = 116; simp only [Op.lookupswitch.offset_cons]; (repeat' split) <;> first | omega | rfl) ?_)
    iterate 2 refine hR (?_ : R (_, _, _, _, _, _))
    refine hR (zcall_i 2 12 (Nat.le_of_ble_eq_true rfl) (Nat.le_of_ble_eq_true rfl) (n_Sight hT.1 _ _ fun σ w1 hc1 g1 hl1 hr1 hn1 => ?_))
    refine (?_ : R (_, _, .ref w.length :: [], w1, 3, 15))
    obtain ⟨hT1, hI1, hp1, hK1, hx1⟩ := top_gro hT hc1 g1 (fun q a b => absurd b (hn1 q a))
    obtain ⟨z6, z7, k0, s1, s7, s8, s9, s12, s13, -⟩ := top_o hT1
    obtain ⟨x1, x2, x3, hO, u1, -, -, -, u2, u3, u4, u5⟩ := CI_o2 hc1 s1
    obtain ⟨t0, t1, t2, t3, t4, t5, t6, t7, hU, -⟩ := CI_o9 hc1 s8
    iterate 2 refine hR (?_ : R (_, _, _, _, _, _))
    refine hR (c_get k0 rfl ?_)
    refine hR (?_ : R (_, _, _, _, _, _))
    refine hR (c_get k0 rfl ?_)
    refine hR (c_get hO rfl ?_)
    iterate 2 refine hR (?_ : R (_, _, _, _, _, _))
    refine hR (c_obj hU (zcall_i 0 0 (Nat.le_of_ble_eq_true rfl) (Nat.le_of_ble_eq_true rfl) (c_tell_s _ 8 2 w.length a3 hc1 s8 u1 hr1 h3 _ fun v w2 hw2 f2 hv => ?_)))
    refine (?_ : R (_, _, .int (Int32.ofInt v) :: [], w2, 3, 15))
    obtain ⟨hT2, hI2, hp2, hK2⟩ := top_fr hT1 hw2 f2 (by decide) (AWK_fr hc1 f2 hT1.2.2.1 (by decide))
    refine hR (k_eq (by omega) (fun hc => ?_) (fun hc => ?_))
    · refine hR (?_ : R (_, _, _, _, _, _))
      exact hR (zret_i rfl (Nat.le_refl _) (Or.inl rfl) ⟨⟨σ, hT2⟩, fun l m h => hI2 l m (hI1 l m h), KEEP_tr hK1 hK2, by omega, by omega, 0, Or.inl rfl, rfl⟩)
    · skip
      have hT3 : TOP σ w2 := hT2
      have hc2 := hw2
      have s3 := hr1
      have ua : σ 6 = 7 := u5
      obtain ⟨z6', z7', k02, s1', -⟩ := top_o hT3
      obtain ⟨y1, y2, y3, hO2, -⟩ := CI_o2 hc2 s1'
      obtain ⟨g, hg, -⟩ := CI_rf hc2 (q := 6) (by rw [ua]; rfl) (by rw [ua]; rfl)
      obtain ⟨_, hN, -⟩ := CI_o40 hc2 s3
      refine hR (?_ : R (_, _, _, _, _, _))
      refine hR (c_get k02 rfl ?_)
      refine hR (c_get hO2 rfl ?_)
      iterate 2 refine hR (?_ : R (_, _, _, _, _, _))
      refine hR (c_rst hc2 (by rw [ua]; rfl) (by rw [ua]; rfl) rfl ⟨by rw [ua]; decide, by rw [ua]; decide⟩ hg s3 hN (by omega) (by omega) (Nat.le_of_ble_eq_true rfl) fun w3 hc3 f3 hg3 => ?_)
      obtain ⟨hT4, hI4, hp4, hK4⟩ := top_told hT3 hc3 f3 (by rw [ua]; decide)
      refine hR (?_ : R (_, _, _, _, _, _))
      exact hR (zret_i rfl (Nat.le_refl _) (Or.inr rfl) ⟨⟨_, hT4⟩, fun l m h => hI4 l m (hI2 l m (hI1 l m h)), KEEP_tr hK1 (KEEP_tr hK2 hK4), by omega, by omega, 1, Or.inr rfl, rfl⟩)
noncomputable def PX (w : zW) (m : Nat → Option Int) (mc ms : Nat) (r : Option Value) (w' : zW) : Prop := TP w 0 m mc ms w' ∧ ∃ v, r = some (.int v)
theorem k_text {ρ : Nat → Nat} {w : zW} {l : Int} {m : Nat → Option Int} (hT : TOP ρ w) (hI : IM w l m) (d : Nat) (a1 a2 : Int) (hr1 : -2147483648 ≤ a1 ∧ a1 ≤ 2147483647) (hr2 : -2147483648 ≤ a2 ∧ a2 ≤ 2147483647) : DET zTab (d + 10) iX11_text [.ref 0, .int (Int32.ofInt a1), .int (Int32.ofInt a2)] w (PX w m) := by
  refine z_rel (M := kX11_text) _ rfl (Nat.le_of_ble_eq_true rfl) fun R hR0 => ?_
  have hR : ∀ {pc : Nat} {L : zL} {S : List Value} {w1 : zW} {k n : Nat}, zsc (zCl zTab (d + 9)) (d + 9) kX11_text none zTab k n (PX w m k n) pc L S w1 k n R → R (pc, L, S, w1, k, n) := fun h => hR0 _ _ (Nat.le_refl _) (Nat.le_refl _) h
  obtain ⟨y6, y7, h0, -⟩ := top_o hT
  obtain ⟨a, b, hO, hl, ha, hb, -⟩ := told_o hT hI
  refine hR (?_ : R (_, _, _, _, _, _))
  refine hR (c_get h0 rfl ?_)
  refine hR (c_get hO rfl ?_)
  iterate 2 refine hR (?_ : R (_, _, _, _, _, _))
  refine hR (c_get h0 rfl ?_)
  refine hR (?_ : R (_, _, _, _, _, _))
  refine hR (c_put hO rfl rfl fun w1 f1 hO1 => ?_)
  obtain ⟨hT1, hI1, hp1, hK1⟩ := told_put (l' := 0) hT hI f1 hO1 (by omega) ha hb
  obtain ⟨_, _, h01, -⟩ := top_o hT1
  refine hR (?_ : R (_, _, _, _, _, _))
  refine hR (c_get h01 rfl ?_)
  refine hR (?_ : R (_, _, _, _, _, _))
  refine hR (c_put hO1 rfl rfl fun w2 f2 hO2 => ?_)
  obtain ⟨hT2, hI2, hp2, hK2⟩ := told_put (l' := 0) (a := 0) hT1 hI1 f2 hO2 (by omega) (by omega) hb
  obtain ⟨_, _, h02, -⟩ := top_o hT2
  refine hR (?_ : R (_, _, _, _, _, _))
  refine hR (c_get h02 rfl ?_)
  refine hR (?_ : R (_, _, _, _, _, _))
  refine hR (c_put hO2 rfl rfl fun w3 f3 hO3 => ?_)
  obtain ⟨hT3, hI3, hp3, hK3⟩ := told_put (l' := 0) (a := 0) (b := -1) hT2 hI2 f3 hO3 (by omega) (by omega) (by omega)
  obtain ⟨_, _, h03, s1, s7, s8, -⟩ := top_o hT3
  obtain ⟨_, _, hO3, -, -, -, u2, u3, u4, u5, u6⟩ := told_o hT3 hI3
  have hK : KEEP w w3 := KEEP_tr hK1 (KEEP_tr hK2 hK3)
  have main : ∀ (nu v4 : Int), (0 ≤ nu ∧ nu ≤ 1) → (0 ≤ v4 ∧ v4 ≤ 2) → (0 ≤ a1 ∧ a1 ≤ 2) → R (95, [some (.ref 0), some (.int (Int32.ofInt a1)), some (.int (Int32.ofInt a2)), some (.int (Int32.ofInt l)), some (.int (Int32.ofInt v4)), some (.int (Int32.ofInt nu))], [], w3, 0, 0) := by
    intro nu v4 hnu hv4 ha1
    iterate 4 refine hR (?_ : R (_, _, _, _, _, _))
    obtain ⟨mc, ms, r, w4, ⟨⟨σ, hT4⟩, hI4, hK4, hm4, hp4, v, hv, rfl⟩, hrun⟩ := a_tellInto hT3 d a1 nu l ha1 hnu hl
    refine hR0 (0 + mc) (0 + ms) (Nat.le_add_right _ _) (Nat.le_add_right _ _) (c_obj h03 (zcall_i mc ms (Nat.le_refl _) (Nat.le_refl _) (hrun _ ?_)))
    refine (?_ : R (_, _, .int (Int32.ofInt v) :: [], w4, 0 + mc, 0 + ms))
    have hI4 := hI4 _ _ hI3
    obtain ⟨_, _, h04, r1, r7, r8, -⟩ := top_o hT4
    obtain ⟨c, e, hO4, -, hc, he, q2, q3, -⟩ := told_o hT4 hI4
    refine hR (k_ne (by omega) (fun hz => ?_) (fun hz => ?_))
    · refine hR (?_ : R (_, _, _, _, _, _))
      refine hR (c_get h04 rfl ?_)
      refine hR (c_get hO4 rfl ?_)
      iterate 4 refine hR (?_ : R (_, _, _, _, _, _))
      refine hR (t_add ?_)
      obtain ⟨vm, hvm, em⟩ := zmax_r (a := v4) (b := nu + 1) (by omega) (by omega)
      refine hR (zif_i (by rw [show Nat.ble (0 + mc) (0 + mc) = true from Nat.ble_eq.mpr (Nat.le_refl _), show Nat.ble (0 + ms) (0 + ms) = true from Nat.ble_eq.mpr (Nat.le_refl _)]; rfl) (t_c vm em ?_))
      refine hR (c_ast hT4.1 (by rw [q3]; rfl) ⟨by rw [q3]; decide, by rw [q3]; decide⟩ (by omega) (by omega) (by omega) (by omega) (by omega) (by omega) (Nat.le_of_ble_eq_true rfl) fun w5 hw5 f5 => ?_)
      obtain ⟨hT5, hI5, hp5, hK5⟩ := top_told hT4 hw5 f5 (by rw [q3]; decide)
      refine hR (?_ : R (_, _, _, _, _, _))
      exact hR (zret_i rfl (Nat.le_refl _) trivial ⟨⟨⟨σ, hT5⟩, hI5 _ _ hI4, KEEP_tr hK (KEEP_tr hK4 hK5), by omega, by omega⟩, _, rfl⟩)
    · obtain ⟨t0, t1, t2, t3, t4, t5, t6, t7, hU, -, -, -, -, -, -, hf6, hf7⟩ := CI_o9 hT4.1 r8
      refine hR (?_ : R (_, _, _, _, _, _))
      refine hR (c_get h04 rfl ?_)
      refine hR (?_ : R (_, _, _, _, _, _))
      refine hR (c_get h04 rfl ?_)
      refine hR (c_get hU rfl ?_)
      refine hR (c_put hO4 rfl rfl fun w5 f5 hO5 => ?_)
      obtain ⟨hT5, hI5, hp5, hK5⟩ := told_put (l' := 0) (a := t6) hT4 hI4 f5 hO5 (by omega) hf6 he
      obtain ⟨_, _, h05, -⟩ := top_o hT5
      have hU5 := (f5.2 8 (by decide)).trans hU
      refine hR (?_ : R (_, _, _, _, _, _))
      refine hR (c_get h05 rfl ?_)
      refine hR (?_ : R (_, _, _, _, _, _))
      refine hR (c_get h05 rfl ?_)
      refine hR (c_get hU5 rfl ?_)
      refine hR (c_put hO5 rfl rfl fun w6 f6 hO6 => ?_)
      obtain ⟨hT6, hI6, hp6, hK6⟩ := told_put (l' := 0) (a := t6) (b := t7) hT5 hI5 f6 hO6 (by omega) hf6 hf7
      refine hR (?_ : R (_, _, _, _, _, _))
      exact hR (zret_i rfl (Nat.le_refl _) trivial ⟨⟨⟨σ, hT6⟩, hI6, KEEP_tr hK (KEEP_tr hK4 (KEEP_tr hK5 hK6)), by omega, by omega⟩, _, rfl⟩)
  have ret : ∀ v : Int32, PX w m 0 0 (some (.int v)) w3 := fun v => ⟨⟨⟨ρ, hT3⟩, hI3, hK, by omega, by omega⟩, _, rfl⟩
  have b41 : ∀ (L : zL), R (41, L, [], w3, 0, 0) := by
    intro L
    refine hR (t_c (-2) (by decide) ?_)
    exact hR (zret_i rfl (Nat.le_refl _) trivial (ret _))
  have b79 : ∀ (L : zL), R (79, L, [], w3, 0, 0) := by
    intro L
    refine hR (t_c (-2) (by decide) ?_)
    exact hR (zret_i rfl (Nat.le_refl _) trivial (ret _))
  refine hR (?_ : R (_, _, _, _, _, _))
  refine hR (k_lt (by omega) (fun hc => b41 _) (fun hc => ?_))
  iterate 2 refine hR (?_ : R (_, _, _, _, _, _))
  refine hR (j_lt (by omega) (by omega) (fun hc2 => ?_) (fun hc2 => b41 _))
  refine hR (?_ : R (_, _, _, _, _, _))
  refine hR (c_get h03 rfl ?_)
  refine hR (c_get hO3 rfl ?_)
  refine hR (?_ : R (_, _, _, _, _, _))
  refine hR (c_ald hT3.1 (by rw [u3]; rfl) (by omega) (by omega) (Nat.le_of_ble_eq_true rfl) fun v4 lv uv => ?_)
  iterate 3 refine hR (?_ : R (_, _, _, _, _, _))
  refine hR (j_ne (by omega) (by omega) (fun hc3 => ?_) (fun hc3 => ?_))
  · refine hR (?_ : R (_, _, _, _, _, _))
    refine hR (k_lt (by omega) (fun hc => b79 _) (fun hc4 => ?_))
    iterate 2 refine hR (?_ : R (_, _, _, _, _, _))
    refine hR (j_lt (by omega) (by omega) (fun hc5 => ?_) (fun _ => b79 _))
    iterate 2 refine hR (?_ : R (_, _, _, _, _, _))
    refine hR (j_ne (by omega) (by omega) (fun _ => ?_) (fun hc6 => absurd hc6 hc3))
    iterate 2 refine hR (?_ : R (_, _, _, _, _, _))
    exact main a2 v4 (by omega) (by omega) (by omega)
  · iterate 2 refine hR (?_ : R (_, _, _, _, _, _))
    refine hR (j_lt (by omega) (by omega) (fun hc4 => ?_) (fun hc4 => ?_))
    · iterate 2 refine hR (?_ : R (_, _, _, _, _, _))
      refine hR (j_ne (by omega) (by omega) (fun hc6 => absurd hc3 hc6) (fun _ => ?_))
      iterate 3 refine hR (?_ : R (_, _, _, _, _, _))
      exact main v4 v4 (by omega) (by omega) (by omega)
    · refine hR (?_ : R (_, _, _, _, _, _))
      exact b79 _
