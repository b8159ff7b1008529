/-! FEED, END, IMAGE, AGAIN. -/
/-- a call of the class: the tape's length and the images behind it -/
def TP (w : zW) (l' : Int) (m' : Nat → Option Int) (mc ms : Nat) (w' : zW) : Prop := (∃ σ, TOP σ w') ∧ IM w' l' m' ∧ KEEP w w' ∧ mc ≤ 100 ∧ ms + phi w' ≤ phi w + 300
theorem told_put {ρ : Nat → Nat} {w w' : zW} {l l' a b : Int} {m : Nat → Option Int} (hT : TOP ρ w) (hI : IM w l m) (f : wfr 1 w w') (hO : zix w' 1 = some (.inr (7, [.ref 2, .int (Int32.ofInt l'), .int (Int32.ofInt a), .int (Int32.ofInt b), .ref 3, .ref 4, .ref 5, .ref 6]))) (h : 0 ≤ l' ∧ l' ≤ 600) (ha : -2147483648 ≤ a ∧ a ≤ 2147483647) (hb : -2147483648 ≤ b ∧ b ≤ 2147483647) : TOP ρ w' ∧ IM w' l' m ∧ phi w' = phi w ∧ KEEP w w' := by
  obtain ⟨y6, y7, h0, r1, r7, r8, r9, r12, r13, e6, e7⟩ := top_o hT
  obtain ⟨x1, x2, x3, -, p1, -, -, -, p2, p3, p4, p5⟩ := CI_o2 hT.1 r1
  have hc : CI ρ w' := CI_w2 hT.1 r1 f (x1 := l') (x2 := a) (x3 := b) hO ⟨p1, h, ha, hb, p2, p3, p4, p5⟩
  have hf : wfR [2] ρ w w' := wfR_st (wfR_rf _ _ _) f (by rw [r1]; decide)
  refine ⟨⟨hc, hT.2.1, AWK_fr hT.1 hf hT.2.2.1 (by decide), hT.2.2.2.1, by rw [f.1]; exact hT.2.2.2.2⟩, ?_, phi_eq (f.2 0 (by decide)) (f.2 7 (by decide)) (f.2 12 (by decide)) (f.2 13 (by decide)), fun q a b => f.2 q (by omega)⟩
  obtain ⟨c1, g, c2, c3, c4⟩ := hI
  refine ⟨⟨_, _, hO, h⟩, g, (f.2 7 (by decide)).trans c2, fun k hk => ?_, c4⟩
  rcases c3 k hk with e | ⟨q, x, e1, e2, e3, e4⟩
  · exact Or.inl e
  · exact Or.inr ⟨q, x, e1, e2, e3, LE_eq (f.2 q (by omega)) e4⟩
theorem told_o {ρ : Nat → Nat} {w : zW} {l : Int} {m : Nat → Option Int} (hT : TOP ρ w) (hI : IM w l m) : ∃ a b : Int, zix w 1 = some (.inr (7, [.ref 2, .int (Int32.ofInt l), .int (Int32.ofInt a), .int (Int32.ofInt b), .ref 3, .ref 4, .ref 5, .ref 6])) ∧ (0 ≤ l ∧ l ≤ 600) ∧ (-2147483648 ≤ a ∧ a ≤ 2147483647) ∧ (-2147483648 ≤ b ∧ b ≤ 2147483647) ∧ ρ 2 = 3 ∧ ρ 3 = 4 ∧ ρ 4 = 5 ∧ ρ 5 = 6 ∧ ρ 6 = 7 := by
  obtain ⟨y6, y7, h0, r1, r7, r8, r9, r12, r13, e6, e7⟩ := top_o hT
  obtain ⟨x1, x2, x3, hO, p1, q1, q2, q3, p2, p3, p4, p5⟩ := CI_o2 hT.1 r1
  obtain rfl := LE_u hI.1 hO q1
  exact ⟨x2, x3, hO, q1, q2, q3, p1, p2, p3, p4, p5⟩
theorem c_putBytes {ρ : Nat → Nat} {w : zW} (d : Nat) (a1 l : Int) (m : Nat → Option Int) (hT : TOP ρ w) (hI : IM w l m) (hl : l ≤ 596) (Q : zQ) (h : ∀ w', TOP ρ w' → IM w' (l + 4) m → phi w' = phi w → KEEP w w' → Q none w') : zCl zTab (d + 1) iX8_putBytes [.ref 1, .int (Int32.ofInt a1)] w 0 0 Q := by
  refine zCl_i (M := kX8_putBytes) rfl (Nat.le_of_ble_eq_true rfl) fun R hR => ?_
  obtain ⟨-, -, -, hl0, -⟩ := told_o hT hI
  have loop : ∀ (N : Nat) (sh lx : Int) (v : zW), (-8 ≤ sh ∧ sh ≤ 24) → 8 * (lx - l) = 24 - sh → TOP ρ v → IM v lx m → phi v = phi w → KEEP w v → sh + 9 < N → R (3, [some (.ref 1), some (.int (Int32.ofInt a1)), some (.int (Int32.ofInt sh))], [], v, 0, 0) := by
    intro N
    induction N with
    | zero => intros; omega
    | succ N ih =>
      intro sh lx v hs he hTv hIv hph hK hN
      obtain ⟨a, b, hO, hlx, ha, hb, p1, p2, p3, p4, p5⟩ := told_o hTv hIv
      refine hR (?_ : R (_, _, _, _, _, _))
      refine hR (k_lt (by omega) (fun hc => ?_) (fun hc => ?_))
      · obtain rfl : lx = l + 4 := by omega
        exact hR (zret_i rfl (Nat.le_refl _) rfl (h v hTv hIv hph hK))
      · refine hR (?_ : R (_, _, _, _, _, _))
        refine hR (c_get hO rfl ?_)
        refine hR (t_c 600 (by decide) ?_)
        refine hR (j_ge (by omega) (by omega) (fun hc => by omega) (fun hc => ?_))
        refine hR (?_ : R (_, _, _, _, _, _))
        refine hR (c_get hO rfl ?_)
        refine hR (?_ : R (_, _, _, _, _, _))
        refine hR (c_get hO rfl ?_)
        iterate 2 refine hR (?_ : R (_, _, _, _, _, _))
        refine hR (t_o fun v1 r1 => ?_)
        refine hR (t_o fun v2 r2 => ?_)
        refine hR (c_bst3 hTv.1 (by rw [p1]; rfl) ⟨by rw [p1]; decide, by rw [p1]; decide⟩ (by omega) (by omega) (Nat.le_of_ble_eq_true rfl) fun w1 hw1 f1 => ?_)
        have hf : wfR [3] ρ v w1 := wfR_st (wfR_rf _ _ _) f1 (by rw [p1]; decide)
        obtain ⟨hT1, hI1, hp1, hK1⟩ := top_fr hTv hw1 hf (by decide) (AWK_fr hTv.1 hf hTv.2.2.1 (by decide))
        have hO1 := (f1.2 1 (by decide)).trans hO
        iterate 2 refine hR (?_ : R (_, _, _, _, _, _))
        refine hR (c_get hO1 rfl ?_)
        refine hR (?_ : R (_, _, _, _, _, _))
        refine hR (t_add ?_)
        refine hR (c_put hO1 rfl rfl fun w2 f2 hO2 => ?_)
        obtain ⟨hT2, hI2, hp2, hK2⟩ := told_put hT1 (hI1 _ _ hIv) f2 hO2 (by omega) ha hb
        refine hR (t_inc ?_)
        refine hR (?_ : R (_, _, _, _, _, _))
        exact ih (sh + (-8)) (lx + 1) w2 (by omega) (by omega) hT2 hI2 (by omega) (KEEP_tr hK (KEEP_tr hK1 hK2)) (by omega)
  refine hR (t_c 24 (by decide) ?_)
  refine hR (?_ : R (_, _, _, _, _, _))
  exact loop 100 24 l w (by omega) (by omega) hT hI rfl (fun _ _ _ => rfl) (by omega)
theorem k_feed {ρ : Nat → Nat} {w : zW} {l : Int} {m : Nat → Option Int} (hT : TOP ρ w) (hI : IM w l m) (d : Nat) (a1 a2 a3 a4 a5 : Int) : DET zTab (d + 2) iX11_feed [.ref 0, .int (Int32.ofInt a1), .int (Int32.ofInt a2), .int (Int32.ofInt a3), .int (Int32.ofInt a4), .int (Int32.ofInt a5)] w (fun mc ms r w' => (580 < l ∧ TP w l m mc ms w' ∧ r = some (.int (Int32.ofInt (-1)))) ∨ (l ≤ 580 ∧ TP w (l + 20) m mc ms w' ∧ r = some (.int (Int32.ofInt (l + 20))))) := by
  refine det_of (mc := 0) (ms := 0) ?_
  refine zCl_i (M := kX11_feed) rfl (Nat.le_of_ble_eq_true rfl) fun R hR => ?_
  obtain ⟨y6, y7, h0, -⟩ := top_o hT
  obtain ⟨a, b, hO, hl, -⟩ := told_o hT hI
  refine hR (?_ : R (_, _, _, _, _, _))
  refine hR (c_get h0 rfl ?_)
  refine hR (c_get hO rfl ?_)
  refine hR (t_c 580 (by decide) ?_)
  refine hR (j_le (by omega) (by omega) (fun hc => ?_) (fun hc => ?_))
  rotate_left
  · refine hR (?_ : R (_, _, _, _, _, _))
    exact hR (zret_i rfl (Nat.le_refl _) trivial (Or.inl ⟨by omega, ⟨⟨ρ, hT⟩, hI, fun _ _ _ => rfl, by omega, by omega⟩, rfl⟩))
  refine hR (?_ : R (_, _, _, _, _, _))
  refine hR (c_get h0 rfl ?_)
  refine hR (?_ : R (_, _, _, _, _, _))
  refine hR (c_obj hO (zcall_i 0 0 (Nat.le_of_ble_eq_true rfl) (Nat.le_of_ble_eq_true rfl) (c_putBytes _ a1 l m hT hI (by omega) _ fun w1 hT1 hI1 hp1 hK1 => ?_)))
  refine (?_ : R (_, _, [], w1, 0, 0))
  obtain ⟨_, _, h01, -⟩ := top_o hT1
  obtain ⟨_, _, hO1, -⟩ := told_o hT1 hI1
  refine hR (?_ : R (_, _, _, _, _, _))
  refine hR (c_get h01 rfl ?_)
  refine hR (?_ : R (_, _, _, _, _, _))
  refine hR (c_obj hO1 (zcall_i 0 0 (Nat.le_of_ble_eq_true rfl) (Nat.le_of_ble_eq_true rfl) (c_putBytes _ a2 _ m hT1 hI1 (by omega) _ fun w2 hT2 hI2 hp2 hK2 => ?_)))
  refine (?_ : R (_, _, [], w2, 0, 0))
  obtain ⟨_, _, h02, -⟩ := top_o hT2
  obtain ⟨_, _, hO2, -⟩ := told_o hT2 hI2
  refine hR (?_ : R (_, _, _, _, _, _))
  refine hR (c_get h02 rfl ?_)
  refine hR (?_ : R (_, _, _, _, _, _))
  refine hR (c_obj hO2 (zcall_i 0 0 (Nat.le_of_ble_eq_true rfl) (Nat.le_of_ble_eq_true rfl) (c_putBytes _ a3 _ m hT2 hI2 (by omega) _ fun w3 hT3 hI3 hp3 hK3 => ?_)))
  refine (?_ : R (_, _, [], w3, 0, 0))
  obtain ⟨_, _, h03, -⟩ := top_o hT3
  obtain ⟨_, _, hO3, -⟩ := told_o hT3 hI3
  refine hR (?_ : R (_, _, _, _, _, _))
  refine hR (c_get h03 rfl ?_)
  refine hR (?_ : R (_, _, _, _, _, _))
  refine hR (c_obj hO3 (zcall_i 0 0 (Nat.le_of_ble_eq_true rfl) (Nat.le_of_ble_eq_true rfl) (c_putBytes _ a4 _ m hT3 hI3 (by omega) _ fun w4 hT4 hI4 hp4 hK4 => ?_)))
  refine (?_ : R (_, _, [], w4, 0, 0))
  obtain ⟨_, _, h04, -⟩ := top_o hT4
  obtain ⟨_, _, hO4, -⟩ := told_o hT4 hI4
  refine hR (?_ : R (_, _, _, _, _, _))
  refine hR (c_get h04 rfl ?_)
  refine hR (?_ : R (_, _, _, _, _, _))
  refine hR (c_obj hO4 (zcall_i 0 0 (Nat.le_of_ble_eq_true rfl) (Nat.le_of_ble_eq_true rfl) (c_putBytes _ a5 _ m hT4 hI4 (by omega) _ fun w5 hT5 hI5 hp5 hK5 => ?_)))
  refine (?_ : R (_, _, [], w5, 0, 0))
  have hI5 : IM w5 (l + 20) m := by rw [show l + 20 = l + 4 + 4 + 4 + 4 + 4 by omega]; exact hI5
  obtain ⟨_, _, h05, -⟩ := top_o hT5
  obtain ⟨_, _, hO5, -⟩ := told_o hT5 hI5
  refine hR (?_ : R (_, _, _, _, _, _))
  refine hR (c_get h05 rfl ?_)
  refine hR (c_get hO5 rfl ?_)
  exact hR (zret_i rfl (Nat.le_refl _) trivial (Or.inr ⟨by omega, ⟨⟨ρ, hT5⟩, hI5, KEEP_tr hK1 (KEEP_tr hK2 (KEEP_tr hK3 (KEEP_tr hK4 hK5))), by omega, by omega⟩, rfl⟩))
theorem k_end {ρ : Nat → Nat} {w : zW} {l : Int} {m : Nat → Option Int} (hT : TOP ρ w) (hI : IM w l m) (d : Nat) (a1 : Int) (hr : -2147483648 ≤ a1 ∧ a1 ≤ 2147483647) : DET zTab (d + 1) iX11_end [.ref 0, .int (Int32.ofInt a1)] w (fun mc ms r w' => ((a1 < 0 ∨ l < a1) ∧ TP w l m mc ms w' ∧ r = some (.int (Int32.ofInt (-1)))) ∨ ((0 ≤ a1 ∧ a1 ≤ l) ∧ TP w a1 m mc ms w' ∧ r = some (.int (Int32.ofInt a1)))) := by
  refine det_of (mc := 0) (ms := 0) ?_
  refine zCl_i (M := kX11_end) rfl (Nat.le_of_ble_eq_true rfl) fun R hR => ?_
  obtain ⟨y6, y7, h0, -⟩ := top_o hT
  obtain ⟨a, b, hO, hl, ha, hb, -⟩ := told_o hT hI
  have bad : (a1 < 0 ∨ l < a1) → R (15, [some (.ref 0), some (.int (Int32.ofInt a1))], [], w, 0, 0) := by
    intro hx
    refine hR (?_ : R (_, _, _, _, _, _))
    exact hR (zret_i rfl (Nat.le_refl _) trivial (Or.inl ⟨hx, ⟨⟨ρ, hT⟩, hI, fun _ _ _ => rfl, by omega, by omega⟩, rfl⟩))
  refine hR (?_ : R (_, _, _, _, _, _))
  refine hR (k_lt (by omega) (fun hc => bad (Or.inl hc)) (fun hc => ?_))
  iterate 2 refine hR (?_ : R (_, _, _, _, _, _))
  refine hR (c_get h0 rfl ?_)
  refine hR (c_get hO rfl ?_)
  refine hR (j_le (by omega) (by omega) (fun hc2 => ?_) (fun hc2 => bad (Or.inr (by omega))))
  refine hR (?_ : R (_, _, _, _, _, _))
  refine hR (c_get h0 rfl ?_)
  refine hR (?_ : R (_, _, _, _, _, _))
  refine hR (c_put hO rfl rfl fun w2 f2 hO2 => ?_)
  obtain ⟨hT2, hI2, hp2, hK2⟩ := told_put hT hI f2 hO2 (by omega) ha hb
  refine hR (?_ : R (_, _, _, _, _, _))
  exact hR (zret_i rfl (Nat.le_refl _) trivial (Or.inr ⟨by omega, ⟨⟨ρ, hT2⟩, hI2, hK2, by omega, by omega⟩, rfl⟩))
theorem out_blk {ρ : Nat → Nat} {w : zW} {p q : Nat} (hw : CI ρ w) (hp : ρ p = 2) (hq : ρ q < 2 ∨ 7 < ρ q) : q < p ∨ p + 5 < q := by
  obtain ⟨a1, a2, a3, -, b1, -, -, -, b2, b3, b4, b5⟩ := CI_o2 hw hp
  rcases Nat.lt_or_ge q p with h | h
  · exact Or.inl h
  · rcases Nat.lt_or_ge (p + 5) q with h2 | h2
    · exact Or.inr h2
    · exfalso
      have : q = p ∨ q = p + 1 ∨ q = p + 2 ∨ q = p + 3 ∨ q = p + 4 ∨ q = p + 5 := by omega
      rcases this with rfl | rfl | rfl | rfl | rfl | rfl <;> omega
theorem frp_top {ρ : Nat → Nat} {w w' : zW} {p : Nat} (hT : TOP ρ w) (hp : ρ p = 2) (hc : CI ρ w') (F : FRP p w w') : TOP ρ w' ∧ phi w' = phi w ∧ KEEP w w' := by
  obtain ⟨y6, y7, h0, r1, r7, r8, r9, r12, r13, e6, e7⟩ := top_o hT
  have eq : ∀ q, (ρ q < 2 ∨ 7 < ρ q) → zix w' q = zix w q := fun q hq => F.2 q (out_blk hT.1 hp hq)
  refine ⟨⟨hc, hT.2.1, fun q hq => ?_, hT.2.2.2.1, by rw [F.1]; exact hT.2.2.2.2⟩, phi_eq (eq 0 (by rw [hT.2.1]; decide)) (eq 7 (by omega)) (eq 12 (by omega)) (eq 13 (by omega)), fun q a b => eq q (by have := hT.2.2.2.1 q a b; omega)⟩
  obtain ⟨x0, hO6, hx0, k1, k2, k3, k4⟩ := CI_o60 hT.1 hq
  obtain ⟨sz, gq, gn, gb, ⟨a, b, c⟩, d', e', f⟩ := hT.2.2.1 q hq
  exact ⟨sz, gq, gn, gb, ⟨a, (eq _ (by omega)).trans b, (eq _ (by omega)).trans c⟩, (eq _ (by omega)).trans d', (eq _ (by omega)).trans e', f⟩
theorem k_again {ρ : Nat → Nat} {w : zW} {l : Int} {m : Nat → Option Int} (hT : TOP ρ w) (hI : IM w l m) (d : Nat) (a1 : Int) (hr : -2147483648 ≤ a1 ∧ a1 ≤ 2147483647) : DET zTab (d + 3) iX11_again [.ref 0, .int (Int32.ofInt a1)] w (fun mc ms r w' => (((a1 < 0 ∨ 3 ≤ a1) ∨ m a1.toNat = none) ∧ TP w l m mc ms w' ∧ r = some (.int (Int32.ofInt 0))) ∨ (∃ x, (0 ≤ a1 ∧ a1 < 3) ∧ m a1.toNat = some x ∧ TP w x m mc ms w' ∧ r = some (.int (Int32.ofInt 1)))) := by
  refine det_of (mc := 0) (ms := 0) ?_
  refine zCl_i (M := kX11_again) rfl (Nat.le_of_ble_eq_true rfl) fun R hR => ?_
  obtain ⟨y6, y7, h0, r1, r7, -⟩ := top_o hT
  obtain ⟨a, b, hO, hl, ha, hb, -⟩ := told_o hT hI
  have bad : ((a1 < 0 ∨ 3 ≤ a1) ∨ m a1.toNat = none) → R (18, [some (.ref 0), some (.int (Int32.ofInt a1))], [], w, 0, 0) := by
    intro hx
    refine hR (?_ : R (_, _, _, _, _, _))
    exact hR (zret_i rfl (Nat.le_refl _) (Or.inl rfl) (Or.inl ⟨hx, ⟨⟨ρ, hT⟩, hI, fun _ _ _ => rfl, by omega, by omega⟩, rfl⟩))
  refine hR (?_ : R (_, _, _, _, _, _))
  refine hR (k_lt (by omega) (fun hc => bad (Or.inl (Or.inl hc))) (fun hc => ?_))
  iterate 2 refine hR (?_ : R (_, _, _, _, _, _))
  refine hR (j_ge (by omega) (by omega) (fun hc2 => bad (Or.inl (Or.inr hc2))) (fun hc2 => ?_))
  obtain ⟨c1, g, c2, c3, c4⟩ := hI
  have hI : IM w l m := ⟨c1, g, c2, c3, c4⟩
  rcases c3 a1.toNat (by omega) with ⟨e1, e2⟩ | ⟨q, x, e1, e2, e3, e4⟩
  · refine hR (?_ : R (_, _, _, _, _, _))
    refine hR (c_get h0 rfl ?_)
    refine hR (?_ : R (_, _, _, _, _, _))
    refine hR (c_rldE c2 rfl (by omega) (by omega) (Nat.le_of_ble_eq_true rfl) (v := .null) (by rw [e1]; rfl) ?_)
    refine hR (?_ : R (_, _, _, _, _, _))
    exact bad (Or.inr e2)
  · have hq := im_role (l := 0) (m := fun _ => none) hT c2 e1
    refine hR (?_ : R (_, _, _, _, _, _))
    refine hR (c_get h0 rfl ?_)
    refine hR (?_ : R (_, _, _, _, _, _))
    refine hR (c_rldE c2 rfl (by omega) (by omega) (Nat.le_of_ble_eq_true rfl) (v := .ref q) (by rw [e1]; rfl) ?_)
    iterate 2 refine hR (?_ : R (_, _, _, _, _, _))
    refine hR (c_get h0 rfl ?_)
    refine hR (?_ : R (_, _, _, _, _, _))
    refine hR (c_get h0 rfl ?_)
    refine hR (?_ : R (_, _, _, _, _, _))
    refine hR (c_rldE c2 rfl (by omega) (by omega) (Nat.le_of_ble_eq_true rfl) (v := .ref q) (by rw [e1]; rfl) ?_)
    refine hR (c_obj hO (zcall_i 0 0 (Nat.le_of_ble_eq_true rfl) (Nat.le_of_ble_eq_true rfl) (c_becomes _ 1 q x hT.1 r1 hq (by omega) e4 _ fun w1 hw1 F1 hL1 => ?_)))
    refine (?_ : R (_, _, [], w1, 0, 0))
    obtain ⟨hT1, hp1, hK1⟩ := frp_top hT r1 hw1 F1
    have hI1 : IM w1 x m := by
      refine ⟨hL1, g, (F1.2 7 (by omega)).trans c2, fun k hk => ?_, c4⟩
      rcases c3 k hk with e | ⟨q', x', f1, f2, f3, f4⟩
      · exact Or.inl e
      · exact Or.inr ⟨q', x', f1, f2, f3, LE_eq (F1.2 q' (by omega)) f4⟩
    refine hR (?_ : R (_, _, _, _, _, _))
    exact hR (zret_i rfl (Nat.le_refl _) (Or.inr rfl) (Or.inr ⟨x, by omega, e2, ⟨⟨ρ, hT1⟩, hI1, hK1, by omega, by omega⟩, rfl⟩))
def upm (m : Nat → Option Int) (k : Nat) (l : Int) : Nat → Option Int := fun j => if j = k then some l else m j
/-- an image is as the tape is now -/
theorem im_img {ρ : Nat → Nat} {w w1 : zW} {l : Int} {m : Nat → Option Int} {g : Nat → Option Nat} {k p : Nat} (hT : TOP ρ w) (c1 : LE w 1 l) (c2 : zix w 7 = some (rfa 6 3 g)) (hk : k < 3) (hg : g k = some p) (hp45 : 45 ≤ p) (c3 : ∀ j, j < 3 → j ≠ k → (g j = none ∧ m j = none) ∨ ∃ q x, g j = some q ∧ m j = some x ∧ 45 ≤ q ∧ LE w q x) (c4 : ∀ i j q, i < 3 → j < 3 → g i = some q → g j = some q → i = j) (F : FRP p w w1) (hL : LE w1 p l) : IM w1 l (upm m k l) := by
  obtain ⟨y6, y7, h0, r1, r7, -⟩ := top_o hT
  have hp := im_role (l := 0) (m := fun _ => none) hT c2 hg
  refine ⟨LE_eq (F.2 1 (by omega)) c1, g, (F.2 7 (by omega)).trans c2, fun j hj => ?_, c4⟩
  by_cases e : j = k
  · subst e
    exact Or.inr ⟨p, l, hg, if_pos rfl, hp45, hL⟩
  · rcases c3 j hj e with ⟨f1, f2⟩ | ⟨q, x, f1, f2, f3, f4⟩
    · exact Or.inl ⟨f1, (if_neg e).trans f2⟩
    · have hqp : p ≠ q := fun e2 => e (c4 j k q hj hk f1 (by rw [← e2]; exact hg))
      have hb := blk hT.1 hp (im_role (l := 0) (m := fun _ => none) hT c2 f1) hqp 0 (by omega)
      exact Or.inr ⟨q, x, f1, (if_neg e).trans f2, f3, LE_eq (F.2 q hb) f4⟩
theorem ph3_up {c i p t n : Nat} {g : Nat → Option Nat} (hi : i < 3) (hn : g i = none) : ph3 c (some (rfa t n (va_up g i (some p)))) + c = ph3 c (some (rfa t n g)) := by
  show pnr c (va_up g i (some p) 0) + pnr c (va_up g i (some p) 1) + pnr c (va_up g i (some p) 2) + c = pnr c (g 0) + pnr c (g 1) + pnr c (g 2)
  have h : i = 0 ∨ i = 1 ∨ i = 2 := by omega
  rcases h with rfl | rfl | rfl
  · rw [up_s, up_n (by decide), up_n (by decide), hn]; show 0 + _ + _ + c = c + _ + _; omega
  · rw [up_s, up_n (by decide), up_n (by decide), hn]; show _ + 0 + _ + c = _ + c + _; omega
  · rw [up_s, up_n (by decide), up_n (by decide), hn]; show _ + _ + 0 + c = _ + _ + c; omega
theorem k_image {ρ : Nat → Nat} {w : zW} {l : Int} {m : Nat → Option Int} (hT : TOP ρ w) (hI : IM w l m) (d : Nat) (a1 : Int) (hr : -2147483648 ≤ a1 ∧ a1 ≤ 2147483647) : DET zTab (d + 3) iX11_image [.ref 0, .int (Int32.ofInt a1)] w (fun mc ms r w' => ((a1 < 0 ∨ 3 ≤ a1) ∧ TP w l m mc ms w' ∧ r = some (.int (Int32.ofInt 0))) ∨ ((0 ≤ a1 ∧ a1 < 3) ∧ TP w l (upm m a1.toNat l) mc ms w' ∧ r = some (.int (Int32.ofInt 1)))) := by
  obtain ⟨y6, y7, h0, r1, r7, -⟩ := top_o hT
  obtain ⟨a, b, hO, hl, ha, hb, -⟩ := told_o hT hI
  obtain ⟨c1, g, c2, c3, c4⟩ := hI
  have hI : IM w l m := ⟨c1, g, c2, c3, c4⟩
  by_cases hx : a1 < 0 ∨ 3 ≤ a1
  · refine det_of (mc := 0) (ms := 0) ?_
    refine zCl_i (M := kX11_image) rfl (Nat.le_of_ble_eq_true rfl) fun R hR => ?_
    have bad : R (9, [some (.ref 0), some (.int (Int32.ofInt a1))], [], w, 0, 0) := by
      refine hR (?_ : R (_, _, _, _, _, _))
      exact hR (zret_i rfl (Nat.le_refl _) (Or.inl rfl) (Or.inl ⟨hx, ⟨⟨ρ, hT⟩, hI, fun _ _ _ => rfl, by omega, by omega⟩, rfl⟩))
    refine hR (?_ : R (_, _, _, _, _, _))
    refine hR (k_lt (by omega) (fun hc => bad) (fun hc => ?_))
    iterate 2 refine hR (?_ : R (_, _, _, _, _, _))
    exact hR (j_lt (by omega) (by omega) (fun hc2 => by omega) (fun hc2 => bad))
  · have hk : a1.toNat < 3 := by omega
    rcases c3 a1.toNat hk with ⟨e1, e2⟩ | ⟨q, x, e1, e2, e3, e4⟩
    · refine det_of (mc := 6) (ms := 617) ?_
      refine zCl_i (M := kX11_image) rfl (Nat.le_of_ble_eq_true rfl) fun R hR => ?_
      refine hR (?_ : R (_, _, _, _, _, _))
      refine hR (k_lt (by omega) (fun hc => by omega) (fun hc => ?_))
      iterate 2 refine hR (?_ : R (_, _, _, _, _, _))
      refine hR (j_lt (by omega) (by omega) (fun hc2 => ?_) (fun hc2 => by omega))
      refine hR (?_ : R (_, _, _, _, _, _))
      refine hR (c_get h0 rfl ?_)
      refine hR (?_ : R (_, _, _, _, _, _))
      refine hR (c_rldE c2 rfl (by omega) (by omega) (Nat.le_of_ble_eq_true rfl) (v := .null) (by rw [e1]; rfl) ?_)
      iterate 2 refine hR (?_ : R (_, _, _, _, _, _))
      refine hR (c_get h0 rfl ?_)
      iterate 3 refine hR (?_ : R (_, _, _, _, _, _))
      refine hR (zcall_i 5 609 (Nat.le_of_ble_eq_true rfl) (Nat.le_of_ble_eq_true rfl) (n_Told hT.1 _ _ fun σ w1 hc1 g1 hl1 hr1 hn1 hL1 => ?_))
      refine (?_ : R (_, _, .ref w.length :: .int (Int32.ofInt a1) :: .ref 7 :: [], w1, 6, 617))
      obtain ⟨hT1, hI1, hp1, hK1, hx1⟩ := top_gro hT hc1 g1 (fun q a b => absurd b (hn1 q a))
      have h45 : 45 ≤ w.length := hT.2.2.2.2
      obtain ⟨z6, z7, k0, s1, s7, -⟩ := top_o hT1
      have d2 : zix w1 7 = some (rfa 6 3 g) := (g1.2 7 (by omega)).2.trans c2
      obtain ⟨x1, x2, x3, hN, -⟩ := CI_o2 hc1 hr1
      refine hR (c_rst hc1 (by rw [s7]; rfl) (by rw [s7]; rfl) rfl ⟨by rw [s7]; decide, by rw [s7]; decide⟩ d2 hr1 hN (by omega) (by omega) (Nat.le_of_ble_eq_true rfl) fun w2 hc2 f2 hg2 => ?_)
      have hf2 : wfR [8] σ w1 w2 := wfR_st (wfR_rf _ _ _) f2 (by rw [s7]; decide)
      have hT2 : TOP σ w2 := ⟨hc2, hT1.2.1, AWK_fr hc1 hf2 hT1.2.2.1 (by decide), hT1.2.2.2.1, by rw [f2.1]; exact hT1.2.2.2.2⟩
      have hK2 : KEEP w1 w2 := fun q a b => f2.2 q (by omega)
      have hp2 : phi w2 + 700 = phi w1 := by
        have := ph3_up (c := 700) (p := w.length) (t := 6) (n := 3) hk e1
        unfold phi
        rw [d2, hg2, f2.2 0 (by decide), f2.2 12 (by decide), f2.2 13 (by decide)]
        omega
      have k02 := (f2.2 0 (by decide)).trans k0
      refine hR (?_ : R (_, _, _, _, _, _))
      refine hR (c_get k02 rfl ?_)
      refine hR (?_ : R (_, _, _, _, _, _))
      refine hR (c_rldE hg2 rfl (by omega) (by omega) (Nat.le_of_ble_eq_true rfl) (v := .ref w.length) (by rw [up_s]; rfl) ?_)
      refine hR (?_ : R (_, _, _, _, _, _))
      refine hR (c_get k02 rfl ?_)
      have hN2 := (f2.2 w.length (by omega)).trans hN
      have hL12 : LE w2 1 l := LE_eq ((f2.2 1 (by decide)).trans (g1.2 1 (by omega)).2) c1
      refine hR (c_obj hN2 (zcall_i 0 0 (Nat.le_of_ble_eq_true rfl) (Nat.le_of_ble_eq_true rfl) (c_becomes _ w.length 1 l hc2 hr1 s1 (by omega) hL12 _ fun w3 hw3 F3 hL3 => ?_)))
      refine (?_ : R (_, _, [], w3, 6, 617))
      obtain ⟨hT3, hp3, hK3⟩ := frp_top hT2 hr1 hw3 F3
      have hI3 : IM w3 l (upm m a1.toNat l) := by
        refine im_img hT2 hL12 hg2 hk up_s (by omega) (fun j hj hne => ?_) (fun i j q hi hj f1 f3 => ?_) F3 hL3
        · rw [up_n hne]
          rcases c3 j hj with e | ⟨q', x', f1, f3, f4, f5⟩
          · exact Or.inl e
          · have hq' : q' < w.length := CI_lt hT.1 (by rw [im_role (l := 0) (m := fun _ => none) hT c2 f1]; decide)
            exact Or.inr ⟨q', x', f1, f3, f4, LE_eq ((f2.2 q' (by omega)).trans (g1.2 q' hq').2) f5⟩
        · have hlt : ∀ j q', g j = some q' → q' < w.length := fun j q' f => CI_lt hT.1 (by rw [im_role (l := 0) (m := fun _ => none) hT c2 f]; decide)
          by_cases ei : i = a1.toNat <;> by_cases ej : j = a1.toNat
          · omega
          · rw [ei, up_s] at f1; cases f1; rw [up_n ej] at f3; have := hlt _ _ f3; omega
          · rw [ej, up_s] at f3; cases f3; rw [up_n ei] at f1; have := hlt _ _ f1; omega
          · rw [up_n ei] at f1; rw [up_n ej] at f3; exact c4 i j q hi hj f1 f3
      refine hR (?_ : R (_, _, _, _, _, _))
      exact hR (zret_i rfl (Nat.le_refl _) (Or.inr rfl) (Or.inr ⟨by omega, ⟨⟨σ, hT3⟩, hI3, KEEP_tr hK1 (KEEP_tr hK2 hK3), by omega, by omega⟩, rfl⟩))
    · have hq := im_role (l := 0) (m := fun _ => none) hT c2 e1
      obtain ⟨x1, x2, x3, hN, -⟩ := CI_o2 hT.1 hq
      refine det_of (mc := 0) (ms := 0) ?_
      refine zCl_i (M := kX11_image) rfl (Nat.le_of_ble_eq_true rfl) fun R hR => ?_
      refine hR (?_ : R (_, _, _, _, _, _))
      refine hR (k_lt (by omega) (fun hc => by omega) (fun hc => ?_))
      iterate 2 refine hR (?_ : R (_, _, _, _, _, _))
      refine hR (j_lt (by omega) (by omega) (fun hc2 => ?_) (fun hc2 => by omega))
      refine hR (?_ : R (_, _, _, _, _, _))
      refine hR (c_get h0 rfl ?_)
      refine hR (?_ : R (_, _, _, _, _, _))
      refine hR (c_rldE c2 rfl (by omega) (by omega) (Nat.le_of_ble_eq_true rfl) (v := .ref q) (by rw [e1]; rfl) ?_)
      iterate 2 refine hR (?_ : R (_, _, _, _, _, _))
      refine hR (c_get h0 rfl ?_)
      refine hR (?_ : R (_, _, _, _, _, _))
      refine hR (c_rldE c2 rfl (by omega) (by omega) (Nat.le_of_ble_eq_true rfl) (v := .ref q) (by rw [e1]; rfl) ?_)
      refine hR (?_ : R (_, _, _, _, _, _))
      refine hR (c_get h0 rfl ?_)
      refine hR (c_obj hN (zcall_i 0 0 (Nat.le_of_ble_eq_true rfl) (Nat.le_of_ble_eq_true rfl) (c_becomes _ q 1 l hT.1 hq r1 (by omega) c1 _ fun w1 hw1 F1 hL1 => ?_)))
      refine (?_ : R (_, _, [], w1, 0, 0))
      obtain ⟨hT1, hp1, hK1⟩ := frp_top hT hq hw1 F1
      have hI1 := im_img (m := m) hT c1 c2 hk e1 e3 (fun j hj _ => c3 j hj) c4 F1 hL1
      refine hR (?_ : R (_, _, _, _, _, _))
      exact hR (zret_i rfl (Nat.le_refl _) (Or.inr rfl) (Or.inr ⟨by omega, ⟨⟨ρ, hT1⟩, hI1, hK1, by omega, by omega⟩, rfl⟩))
/-! TEXT. -/
theorem rls_19 {r0 r : Nat} (h : r ∈ rls r0) (h1 : r0 ≠ 19) : r ≠ 19 ∧ r ≠ 25 ∧ r ≠ 26 := by
  unfold rls at h
  split at h
  all_goals first | (exact absurd rfl h1) | (simp only [List.mem_cons, List.not_mem_nil, or_false] at h; omega) | (cases h)
def to20 (ρ : Nat → Nat) (n : Nat) : Nat → Nat := fun x => if x = n then 20 else if x = n + 3 then 23 else if x = n + 4 then 24 else ρ x
theorem to20_n {ρ : Nat → Nat} {n x : Nat} (h : x ≠ n ∧ x ≠ n + 3 ∧ x ≠ n + 4) : to20 ρ n x = ρ x := by
  unfold to20
  rw [if_neg h.1, if_neg h.2.1, if_neg h.2.2]
theorem CI_to20 {σ : Nat → Nat} {w : zW} {n : Nat} (hw : CI σ w) (hn : σ n = 19) (hR : REL w (n + 3)) : CI (to20 σ n) w := by
  obtain ⟨x0, x1, x2, hO, a0, a1, a2, b1, b2, b3, b4⟩ := CI_o19 hw hn
  have e0 : to20 σ n n = 20 := if_pos rfl
  have e3 : to20 σ n (n + 3) = 23 := by unfold to20; rw [if_neg (by omega), if_pos rfl]
  have e4 : to20 σ n (n + 4) = 24 := by unfold to20; rw [if_neg (by omega), if_neg (by omega), if_pos rfl]
  have hk : ∀ x r, σ x = r → r ≠ 19 → r ≠ 25 → r ≠ 26 → to20 σ n x = r := by
    intro x r e h1 h2 h3
    refine (to20_n ⟨fun e' => ?_, fun e' => ?_, fun e' => ?_⟩).trans e
    · rw [e', hn] at e; exact h1 e.symm
    · rw [e', b3] at e; exact h2 e.symm
    · rw [e', b4] at e; exact h3 e.symm
  refine ⟨fun q hq => ?_, fun q hq => ?_, fun q hq => ?_⟩
  · by_cases q0 : q = n
    · subst q0
      refine ⟨_, hO, ?_⟩
      unfold rOK
      rw [e0]
      exact ⟨x0, x1, x2, rfl, a0, a1, a2, hk _ _ b1 (by decide) (by decide) (by decide), hk _ _ b2 (by decide) (by decide) (by decide), e3, e4⟩
    · by_cases q3 : q = n + 3
      · subst q3
        obtain ⟨g, h1, h2⟩ := CI_ar hw (q := n + 3) (by rw [b3]; rfl)
        refine ⟨_, h1, ?_⟩
        unfold rOK
        rw [e3]
        exact ⟨g, rfl, h2⟩
      · by_cases q4 : q = n + 4
        · subst q4
          obtain ⟨g, h1, h2⟩ := CI_ar hw (q := n + 4) (by rw [b4]; rfl)
          refine ⟨_, h1, ?_⟩
          unfold rOK
          rw [e4]
          exact ⟨g, rfl, h2⟩
        · have eq : to20 σ n q = σ q := to20_n ⟨q0, q3, q4⟩
          by_cases e19 : σ q = 19
          · obtain ⟨y0, y1, y2, hO', c0, c1, c2, d1, d2, d3, d4⟩ := CI_o19 hw e19
            refine ⟨_, hO', ?_⟩
            unfold rOK
            rw [eq, e19]
            refine ⟨y0, y1, y2, rfl, c0, c1, c2, hk _ _ d1 (by decide) (by decide) (by decide), hk _ _ d2 (by decide) (by decide) (by decide), (to20_n ⟨fun e => ?_, by omega, fun e => ?_⟩).trans d3, (to20_n ⟨fun e => ?_, fun e => ?_, by omega⟩).trans d4⟩
            · rw [e, hn] at d3; omega
            · rw [e, b4] at d3; omega
            · rw [e, hn] at d4; omega
            · rw [e, b3] at d4; omega
          · obtain ⟨c, h1, h2⟩ := hw.1 q hq
            refine ⟨c, h1, rOK_map eq (fun x r hr ex => ?_) h2⟩
            have hr' : r ≠ 19 ∧ r ≠ 25 ∧ r ≠ 26 := by
              rcases hr with hr | ⟨ti, len, hr⟩
              · exact rls_19 hr e19
              · have := rRf_12 hr; omega
            exact hk x r ex hr'.1 hr'.2.1 hr'.2.2
  · exact hk q 0 (hw.2.1 q hq) (by decide) (by decide) (by decide)
  · by_cases q3 : q = n + 3
    · subst q3
      obtain ⟨gk, gn, h1, h2, h3⟩ := hR
      exact ⟨e4, gk, gn, h1, h2, h3⟩
    · have hq' : σ q = 23 := by
        by_cases q0 : q = n
        · rw [q0, e0] at hq; cases hq
        · by_cases q4 : q = n + 4
          · rw [q4, e4] at hq; cases hq
          · exact (to20_n ⟨q0, q3, q4⟩).symm.trans hq
      obtain ⟨h1, h2⟩ := hw.2.2 q hq'
      exact ⟨hk _ _ h1 (by decide) (by decide) (by decide), h2⟩
/-- the same cells, other roles -/
theorem top_rol {σ τ : Nat → Nat} {w : zW} (hT : TOP σ w) (hc : CI τ w) (h0 : τ 0 = 1) (h6 : ∀ q, τ q = 60 → σ q = 60) (hm : ∀ q, 14 ≤ q → q ≤ 44 → τ q = 0) : TOP τ w := ⟨hc, h0, fun q hq => hT.2.2.1 q (h6 q hq), hm, hT.2.2.2.2⟩
def PT (w : zW) (mc ms : Nat) (r : Option Value) (w' : zW) : Prop := (∃ σ, TOP σ w') ∧ (∀ l m, IM w l m → IM w' l m) ∧ KEEP w w' ∧ mc ≤ 20 ∧ ms + phi w' ≤ phi w + 200 ∧ ∃ v : Int, (v = 0 ∨ v = 1) ∧ r = some (.int (Int32.ofInt v))
/-- a store into a row of what is told -/
theorem top_told {σ : Nat → Nat} {w1 w2 : zW} {q0 : Nat} (hT : TOP σ w1) (hc : CI σ w2) (f : wfr q0 w1 w2) (hq : 3 ≤ σ q0 ∧ σ q0 ≤ 7) : TOP σ w2 ∧ (∀ l m, IM w1 l m → IM w2 l m) ∧ phi w2 = phi w1 ∧ KEEP w1 w2 := by
  have hf : wfR [3, 4, 5, 6, 7] σ w1 w2 := wfR_st (wfR_rf _ _ _) f (by simp only [List.mem_cons, List.not_mem_nil, or_false]; omega)
  exact top_fr hT hc hf (by decide) (AWK_fr hT.1 hf hT.2.2.1 (by decide))
theorem a_tellInto {ρ : Nat → Nat} {w : zW} (hT : TOP ρ w) (d : Nat) (a1 a2 a3 : Int) (h1 : 0 ≤ a1 ∧ a1 ≤ 2) (h2 : 0 ≤ a2 ∧ a2 ≤ 1) (h3 : 0 ≤ a3 ∧ a3 ≤ 600) : DET zTab (d + 9) iX11_tellInto [.ref 0, .int (Int32.ofInt a1), .int (Int32.ofInt a2), .int (Int32.ofInt a3)] w (PT w) := by
  have hs : a1 = 0 ∨ a1 = 1 ∨ a1 = 2 := by omega
  rcases hs with hs | hs | hs
  · skip
    refine det_of (mc := 5) (ms := 56) ?_
    refine zCl_i (M := kX11_tellInto) rfl (Nat.le_of_ble_eq_true rfl) fun R hR => ?_
    refine hR (?_ : R (_, _, _, _, _, _))
    refine hR (t_pc (pc2 := 28) (by rw [zti (e := a1) (by omega) (by omega)]; show (((1 : Nat) : Int) + Op.lookupswitch.offset [(0, 27), (1, 71)] 115 a1).toNat = 28; simp only [Op.lookupswitch.offset_cons]; (repeat' split) <;> first | omega | rfl) ?_)
    iterate 2 refine hR (?_ : R (_, _, _, _, _, _))
    refine hR (zcall_i 4 49 (Nat.le_of_ble_eq_true rfl) (Nat.le_of_ble_eq_true rfl) (n_Book hT.1 _ _ fun σ w1 hc1 g1 hl1 hr1 hn1 hRL => ?_))
    refine (?_ : R (_, _, .ref w.length :: [], w1, 5, 56))
    obtain ⟨hT1, hI1, hp1, hK1, hx1⟩ := top_gro hT hc1 g1 (fun q a b => absurd b (hn1 q a))
    obtain ⟨z6, z7, k0, s1, s7, s8, s9, s12, s13, -⟩ := top_o hT1
    obtain ⟨x1, x2, x3, hO, u1, -, -, -, u2, u3, u4, u5⟩ := CI_o2 hc1 s1
    obtain ⟨t0, t1, t2, t3, t4, t5, t6, t7, hU, -⟩ := CI_o9 hc1 s8
    iterate 2 refine hR (?_ : R (_, _, _, _, _, _))
    refine hR (c_get k0 rfl ?_)
    refine hR (?_ : R (_, _, _, _, _, _))
    refine hR (c_get k0 rfl ?_)
    refine hR (c_get hO rfl ?_)
    iterate 2 refine hR (?_ : R (_, _, _, _, _, _))
    refine hR (c_obj hU (zcall_i 0 0 (Nat.le_of_ble_eq_true rfl) (Nat.le_of_ble_eq_true rfl) (c_tell_b _ 8 2 w.length a3 hc1 s8 u1 hr1 h3 hRL _ fun v w2 hw2 f2 hv hRL2 => ?_)))
    refine (?_ : R (_, _, .int (Int32.ofInt v) :: [], w2, 5, 56))
    obtain ⟨hT2, hI2, hp2, hK2⟩ := top_fr hT1 hw2 f2 (by decide) (AWK_fr hc1 f2 hT1.2.2.1 (by decide))
    refine hR (k_eq (by omega) (fun hc => ?_) (fun hc => ?_))
    · refine hR (?_ : R (_, _, _, _, _, _))
      exact hR (zret_i rfl (Nat.le_refl _) (Or.inl rfl) ⟨⟨σ, hT2⟩, fun l m h => hI2 l m (hI1 l m h), KEEP_tr hK1 hK2, by omega, by omega, 0, Or.inl rfl, rfl⟩)
    · skip
      have hRL3 := hRL2.resolve_left hc
      have hN2 : σ w.length = 19 := hr1
      have hc2 := CI_to20 hw2 hr1 hRL3
      obtain ⟨-, -, -, -, -, -, -, m1, m2, m3, m4⟩ := CI_o19 hw2 hr1
      have h45 : 45 ≤ w.length := hT.2.2.2.2
      have lo : ∀ q, q < 45 → to20 σ w.length q = σ q := fun q hq => to20_n ⟨by omega, by omega, by omega⟩
      have hT3 : TOP (to20 σ w.length) w2 := top_rol hT2 hc2 ((lo 0 (by omega)).trans hT2.2.1) (fun q hq => by unfold to20 at hq; (repeat' split at hq) <;> first | cases hq | exact hq) (fun q a b => (lo q (by omega)).trans (hT2.2.2.2.1 q a b))
      have s3 : to20 σ w.length w.length = 20 := if_pos rfl
      have ua : to20 σ w.length 4 = 5 := (lo 4 (by omega)).trans u3
      obtain ⟨z6', z7', k02, s1', -⟩ := top_o hT3
      obtain ⟨y1, y2, y3, hO2, -⟩ := CI_o2 hc2 s1'
      obtain ⟨g, hg, -⟩ := CI_rf hc2 (q := 4) (by rw [ua]; rfl) (by rw [ua]; rfl)
      obtain ⟨_, _, _, hN, -⟩ := CI_o20 hc2 s3
      refine hR (?_ : R (_, _, _, _, _, _))
      refine hR (c_get k02 rfl ?_)
      refine hR (c_get hO2 rfl ?_)
      iterate 2 refine hR (?_ : R (_, _, _, _, _, _))
      refine hR (c_rst hc2 (by rw [ua]; rfl) (by rw [ua]; rfl) rfl ⟨by rw [ua]; decide, by rw [ua]; decide⟩ hg s3 hN (by omega) (by omega) (Nat.le_of_ble_eq_true rfl) fun w3 hc3 f3 hg3 => ?_)
      obtain ⟨hT4, hI4, hp4, hK4⟩ := top_told hT3 hc3 f3 (by rw [ua]; decide)
      refine hR (?_ : R (_, _, _, _, _, _))
      exact hR (zret_i rfl (Nat.le_refl _) (Or.inr rfl) ⟨⟨_, hT4⟩, fun l m h => hI4 l m (hI2 l m (hI1 l m h)), KEEP_tr hK1 (KEEP_tr hK2 hK4), by omega, by omega, 1, Or.inr rfl, rfl⟩)
  · skip
    refine det_of (mc := 4) (ms := 124) ?_
    refine zCl_i (M := kX11_tellInto) rfl (Nat.le_of_ble_eq_true rfl) fun R hR => ?_
    refine hR (?_ : R (_, _, _, _, _, _))
    refine hR (t_pc (pc2 := 72) (by rw [zti (e := a1) (by omega) (by omega)]; show (((1 : Nat) : Int) + Op.lookupswitch.offset [(0, 27), (1, 71)] 115 a1).toNat = 72; simp only [Op.lookupswitch.offset_cons]; (repeat' split) <;> first | omega | rfl) ?_)
    iterate 2 refine hR (?_ : R (_, _, _, _, _, _))
    refine hR (zcall_i 3 120 (Nat.le_of_ble_eq_true rfl) (Nat.le_of_ble_eq_true rfl) (n_Year hT.1 _ _ fun σ w1 hc1 g1 hl1 hr1 hn1 => ?_))
    refine (?_ : R (_, _, .ref w.length :: [], w1, 4, 124))
    obtain ⟨hT1, hI1, hp1, hK1, hx1⟩ := top_gro hT hc1 g1 (fun q a b => absurd b (hn1 q a))
    obtain ⟨z6, z7, k0, s1, s7, s8, s9, s12, s13, -⟩ := top_o hT1
    obtain ⟨x1, x2, x3, hO, u1, -, -, -, u2, u3, u4, u5⟩ := CI_o2 hc1 s1
    obtain ⟨t0, t1, t2, t3, t4, t5, t6, t7, hU, -⟩ := CI_o9 hc1 s8
    iterate 2 refine hR (?_ : R (_, _, _, _, _, _))
    refine hR (c_get k0 rfl ?_)
    refine hR (?_ : R (_, _, _, _, _, _))
    refine hR (c_get k0 rfl ?_)
    refine hR (c_get hO rfl ?_)
    iterate 2 refine hR (?_ : R (_, _, _, _, _, _))
    refine hR (c_obj hU (zcall_i 0 0 (Nat.le_of_ble_eq_true rfl) (Nat.le_of_ble_eq_true rfl) (c_tell_y _ 8 2 w.length a3 hc1 s8 u1 hr1 h3 _ fun v w2 hw2 f2 hv => ?_)))
    refine (?_ : R (_, _, .int (Int32.ofInt v) :: [], w2, 4, 124))
    obtain ⟨hT2, hI2, hp2, hK2⟩ := top_fr hT1 hw2 f2 (by decide) (AWK_fr hc1 f2 hT1.2.2.1 (by decide))
    refine hR (k_eq (by omega) (fun hc => ?_) (fun hc => ?_))
    · refine hR (?_ : R (_, _, _, _, _, _))
      exact hR (zret_i rfl (Nat.le_refl _) (Or.inl rfl) ⟨⟨σ, hT2⟩, fun l m h => hI2 l m (hI1 l m h), KEEP_tr hK1 hK2, by omega, by omega, 0, Or.inl rfl, rfl⟩)
    · skip
      have hT3 : TOP σ w2 := hT2
      have hc2 := hw2
      have s3 := hr1
      have ua : σ 5 = 6 := u4
      obtain ⟨z6', z7', k02, s1', -⟩ := top_o hT3
      obtain ⟨y1, y2, y3, hO2, -⟩ := CI_o2 hc2 s1'
      obtain ⟨g, hg, -⟩ := CI_rf hc2 (q := 5) (by rw [ua]; rfl) (by rw [ua]; rfl)
      obtain ⟨_, hN, -⟩ := CI_o30 hc2 s3
      refine hR (?_ : R (_, _, _, _, _, _))
      refine hR (c_get k02 rfl ?_)
      refine hR (c_get hO2 rfl ?_)
      iterate 2 refine hR (?_ : R (_, _, _, _, _, _))
      refine hR (c_rst hc2 (by rw [ua]; rfl) (by rw [ua]; rfl) rfl ⟨by rw [ua]; decide, by rw [ua]; decide⟩ hg s3 hN (by omega) (by omega) (Nat.le_of_ble_eq_true rfl) fun w3 hc3 f3 hg3 => ?_)
      obtain ⟨hT4, hI4, hp4, hK4⟩ := top_told hT3 hc3 f3 (by rw [ua]; decide)
      refine hR (?_ : R (_, _, _, _, _, _))
      exact hR (zret_i rfl (Nat.le_refl _) (Or.inr rfl) ⟨⟨_, hT4⟩, fun l m h => hI4 l m (hI2 l m (hI1 l m h)), KEEP_tr hK1 (KEEP_tr hK2 hK4), by omega, by omega, 1, Or.inr rfl, rfl⟩)
  · skip
    refine det_of (mc := 3) (ms := 15) ?_
    refine zCl_i (M := kX11_tellInto) rfl (Nat.le_of_ble_eq_true rfl) fun R hR => ?_
    refine hR (?_ : R (_, _, _, _, _, _))
    refine hR (t_pc (pc2 := 116) (by rw [zti (e := a1) (by omega) (by omega)]; show (((1 : Nat) : Int) + Op.lookupswitch.offset [(0, 27), (1, 71)] 115 a1).toNat = 116; simp only [Op.lookupswitch.offset_cons]; (repeat' split) <;> first | omega | rfl) ?_)
    iterate 2 refine hR (?_ : R (_, _, _, _, _, _))
    refine hR (zcall_i 2 12 (Nat.le_of_ble_eq_true rfl) (Nat.le_of_ble_eq_true rfl) (n_Sight hT.1 _ _ fun σ w1 hc1 g1 hl1 hr1 hn1 => ?_))
    refine (?_ : R (_, _, .ref w.length :: [], w1, 3, 15))
    obtain ⟨hT1, hI1, hp1, hK1, hx1⟩ := top_gro hT hc1 g1 (fun q a b => absurd b (hn1 q a))
    obtain ⟨z6, z7, k0, s1, s7, s8, s9, s12, s13, -⟩ := top_o hT1
    obtain ⟨x1, x2, x3, hO, u1, -, -, -, u2, u3, u4, u5⟩ := CI_o2 hc1 s1
    obtain ⟨t0, t1, t2, t3, t4, t5, t6, t7, hU, -⟩ := CI_o9 hc1 s8
    iterate 2 refine hR (?_ : R (_, _, _, _, _, _))
    refine hR (c_get k0 rfl ?_)
    refine hR (?_ : R (_, _, _, _, _, _))
    refine hR (c_get k0 rfl ?_)
    refine hR (c_get hO rfl ?_)
    iterate 2 refine hR (?_ : R (_, _, _, _, _, _))
    refine hR (c_obj hU (zcall_i 0 0 (Nat.le_of_ble_eq_true rfl) (Nat.le_of_ble_eq_true rfl) (c_tell_s _ 8 2 w.length a3 hc1 s8 u1 hr1 h3 _ fun v w2 hw2 f2 hv => ?_)))
    refine (?_ : R (_, _, .int (Int32.ofInt v) :: [], w2, 3, 15))
    obtain ⟨hT2, hI2, hp2, hK2⟩ := top_fr hT1 hw2 f2 (by decide) (AWK_fr hc1 f2 hT1.2.2.1 (by decide))
    refine hR (k_eq (by omega) (fun hc => ?_) (fun hc => ?_))
    · refine hR (?_ : R (_, _, _, _, _, _))
      exact hR (zret_i rfl (Nat.le_refl _) (Or.inl rfl) ⟨⟨σ, hT2⟩, fun l m h => hI2 l m (hI1 l m h), KEEP_tr hK1 hK2, by omega, by omega, 0, Or.inl rfl, rfl⟩)
    · skip
      have hT3 : TOP σ w2 := hT2
      have hc2 := hw2
      have s3 := hr1
      have ua : σ 6 = 7 := u5
      obtain ⟨z6', z7', k02, s1', -⟩ := top_o hT3
      obtain ⟨y1, y2, y3, hO2, -⟩ := CI_o2 hc2 s1'
      obtain ⟨g, hg, -⟩ := CI_rf hc2 (q := 6) (by rw [ua]; rfl) (by rw [ua]; rfl)
      obtain ⟨_, hN, -⟩ := CI_o40 hc2 s3
      refine hR (?_ : R (_, _, _, _, _, _))
      refine hR (c_get k02 rfl ?_)
      refine hR (c_get hO2 rfl ?_)
      iterate 2 refine hR (?_ : R (_, _, _, _, _, _))
      refine hR (c_rst hc2 (by rw [ua]; rfl) (by rw [ua]; rfl) rfl ⟨by rw [ua]; decide, by rw [ua]; decide⟩ hg s3 hN (by omega) (by omega) (Nat.le_of_ble_eq_true rfl) fun w3 hc3 f3 hg3 => ?_)
      obtain ⟨hT4, hI4, hp4, hK4⟩ := top_told hT3 hc3 f3 (by rw [ua]; decide)
      refine hR (?_ : R (_, _, _, _, _, _))
      exact hR (zret_i rfl (Nat.le_refl _) (Or.inr rfl) ⟨⟨_, hT4⟩, fun l m h => hI4 l m (hI2 l m (hI1 l m h)), KEEP_tr hK1 (KEEP_tr hK2 hK4), by omega, by omega, 1, Or.inr rfl, rfl⟩)
def PX (w : zW) (m : Nat → Option Int) (mc ms : Nat) (r : Option Value) (w' : zW) : Prop := TP w 0 m mc ms w' ∧ ∃ v, r = some (.int v)
theorem k_text {ρ : Nat → Nat} {w : zW} {l : Int} {m : Nat → Option Int} (hT : TOP ρ w) (hI : IM w l m) (d : Nat) (a1 a2 : Int) (hr1 : -2147483648 ≤ a1 ∧ a1 ≤ 2147483647) (hr2 : -2147483648 ≤ a2 ∧ a2 ≤ 2147483647) : DET zTab (d + 10) iX11_text [.ref 0, .int (Int32.ofInt a1), .int (Int32.ofInt a2)] w (PX w m) := by
  refine z_rel (M := kX11_text) _ rfl (Nat.le_of_ble_eq_true rfl) fun R hR0 => ?_
  have hR : ∀ {pc : Nat} {L : zL} {S : List Value} {w1 : zW} {k n : Nat}, zsc (zCl zTab (d + 9)) (d + 9) kX11_text none zTab k n (PX w m k n) pc L S w1 k n R → R (pc, L, S, w1, k, n) := fun h => hR0 _ _ (Nat.le_refl _) (Nat.le_refl _) h
  obtain ⟨y6, y7, h0, -⟩ := top_o hT
  obtain ⟨a, b, hO, hl, ha, hb, -⟩ := told_o hT hI
  refine hR (?_ : R (_, _, _, _, _, _))
  refine hR (c_get h0 rfl ?_)
  refine hR (c_get hO rfl ?_)
  iterate 2 refine hR (?_ : R (_, _, _, _, _, _))
  refine hR (c_get h0 rfl ?_)
  refine hR (?_ : R (_, _, _, _, _, _))
  refine hR (c_put hO rfl rfl fun w1 f1 hO1 => ?_)
  obtain ⟨hT1, hI1, hp1, hK1⟩ := told_put (l' := 0) hT hI f1 hO1 (by omega) ha hb
  obtain ⟨_, _, h01, -⟩ := top_o hT1
  refine hR (?_ : R (_, _, _, _, _, _))
  refine hR (c_get h01 rfl ?_)
  refine hR (?_ : R (_, _, _, _, _, _))
  refine hR (c_put hO1 rfl rfl fun w2 f2 hO2 => ?_)
  obtain ⟨hT2, hI2, hp2, hK2⟩ := told_put (l' := 0) (a := 0) hT1 hI1 f2 hO2 (by omega) (by omega) hb
  obtain ⟨_, _, h02, -⟩ := top_o hT2
  refine hR (?_ : R (_, _, _, _, _, _))
  refine hR (c_get h02 rfl ?_)
  refine hR (?_ : R (_, _, _, _, _, _))
  refine hR (c_put hO2 rfl rfl fun w3 f3 hO3 => ?_)
  obtain ⟨hT3, hI3, hp3, hK3⟩ := told_put (l' := 0) (a := 0) (b := -1) hT2 hI2 f3 hO3 (by omega) (by omega) (by omega)
  obtain ⟨_, _, h03, s1, s7, s8, -⟩ := top_o hT3
  obtain ⟨_, _, hO3, -, -, -, u2, u3, u4, u5, u6⟩ := told_o hT3 hI3
  have hK : KEEP w w3 := KEEP_tr hK1 (KEEP_tr hK2 hK3)
  have main : ∀ (nu v4 : Int), (0 ≤ nu ∧ nu ≤ 1) → (0 ≤ v4 ∧ v4 ≤ 2) → (0 ≤ a1 ∧ a1 ≤ 2) → R (95, [some (.ref 0), some (.int (Int32.ofInt a1)), some (.int (Int32.ofInt a2)), some (.int (Int32.ofInt l)), some (.int (Int32.ofInt v4)), some (.int (Int32.ofInt nu))], [], w3, 0, 0) := by
    intro nu v4 hnu hv4 ha1
    iterate 4 refine hR (?_ : R (_, _, _, _, _, _))
    obtain ⟨mc, ms, r, w4, ⟨⟨σ, hT4⟩, hI4, hK4, hm4, hp4, v, hv, rfl⟩, hrun⟩ := a_tellInto hT3 d a1 nu l ha1 hnu hl
    refine hR0 (0 + mc) (0 + ms) (Nat.le_add_right _ _) (Nat.le_add_right _ _) (c_obj h03 (zcall_i mc ms (Nat.le_refl _) (Nat.le_refl _) (hrun _ ?_)))
    refine (?_ : R (_, _, .int (Int32.ofInt v) :: [], w4, 0 + mc, 0 + ms))
    have hI4 := hI4 _ _ hI3
    obtain ⟨_, _, h04, r1, r7, r8, -⟩ := top_o hT4
    obtain ⟨c, e, hO4, -, hc, he, q2, q3, -⟩ := told_o hT4 hI4
    refine hR (k_ne (by omega) (fun hz => ?_) (fun hz => ?_))
    · refine hR (?_ : R (_, _, _, _, _, _))
      refine hR (c_get h04 rfl ?_)
      refine hR (c_get hO4 rfl ?_)
      iterate 4 refine hR (?_ : R (_, _, _, _, _, _))
      refine hR (t_add ?_)
      obtain ⟨vm, hvm, em⟩ := zmax_r (a := v4) (b := nu + 1) (by omega) (by omega)
      refine hR (zif_i (by rw [show Nat.ble (0 + mc) (0 + mc) = true from Nat.ble_eq.mpr (Nat.le_refl _), show Nat.ble (0 + ms) (0 + ms) = true from Nat.ble_eq.mpr (Nat.le_refl _)]; rfl) (t_c vm em ?_))
      refine hR (c_ast hT4.1 (by rw [q3]; rfl) ⟨by rw [q3]; decide, by rw [q3]; decide⟩ (by omega) (by omega) (by omega) (by omega) (by omega) (by omega) (Nat.le_of_ble_eq_true rfl) fun w5 hw5 f5 => ?_)
      obtain ⟨hT5, hI5, hp5, hK5⟩ := top_told hT4 hw5 f5 (by rw [q3]; decide)
      refine hR (?_ : R (_, _, _, _, _, _))
      exact hR (zret_i rfl (Nat.le_refl _) trivial ⟨⟨⟨σ, hT5⟩, hI5 _ _ hI4, KEEP_tr hK (KEEP_tr hK4 hK5), by omega, by omega⟩, _, rfl⟩)
    · obtain ⟨t0, t1, t2, t3, t4, t5, t6, t7, hU, -, -, -, -, -, -, hf6, hf7⟩ := CI_o9 hT4.1 r8
      refine hR (?_ : R (_, _, _, _, _, _))
      refine hR (c_get h04 rfl ?_)
      refine hR (?_ : R (_, _, _, _, _, _))
      refine hR (c_get h04 rfl ?_)
      refine hR (c_get hU rfl ?_)
      refine hR (c_put hO4 rfl rfl fun w5 f5 hO5 => ?_)
      obtain ⟨hT5, hI5, hp5, hK5⟩ := told_put (l' := 0) (a := t6) hT4 hI4 f5 hO5 (by omega) hf6 he
      obtain ⟨_, _, h05, -⟩ := top_o hT5
      have hU5 := (f5.2 8 (by decide)).trans hU
      refine hR (?_ : R (_, _, _, _, _, _))
      refine hR (c_get h05 rfl ?_)
      refine hR (?_ : R (_, _, _, _, _, _))
      refine hR (c_get h05 rfl ?_)
      refine hR (c_get hU5 rfl ?_)
      refine hR (c_put hO5 rfl rfl fun w6 f6 hO6 => ?_)
      obtain ⟨hT6, hI6, hp6, hK6⟩ := told_put (l' := 0) (a := t6) (b := t7) hT5 hI5 f6 hO6 (by omega) hf6 hf7
      refine hR (?_ : R (_, _, _, _, _, _))
      exact hR (zret_i rfl (Nat.le_refl _) trivial ⟨⟨⟨σ, hT6⟩, hI6, KEEP_tr hK (KEEP_tr hK4 (KEEP_tr hK5 hK6)), by omega, by omega⟩, _, rfl⟩)
  have ret : ∀ v : Int32, PX w m 0 0 (some (.int v)) w3 := fun v => ⟨⟨⟨ρ, hT3⟩, hI3, hK, by omega, by omega⟩, _, rfl⟩
  have b41 : ∀ (L : zL), R (41, L, [], w3, 0, 0) := by
    intro L
    refine hR (t_c (-2) (by decide) ?_)
    exact hR (zret_i rfl (Nat.le_refl _) trivial (ret _))
  have b79 : ∀ (L : zL), R (79, L, [], w3, 0, 0) := by
    intro L
    refine hR (t_c (-2) (by decide) ?_)
    exact hR (zret_i rfl (Nat.le_refl _) trivial (ret _))
  refine hR (?_ : R (_, _, _, _, _, _))
  refine hR (k_lt (by omega) (fun hc => b41 _) (fun hc => ?_))
  iterate 2 refine hR (?_ : R (_, _, _, _, _, _))
  refine hR (j_lt (by omega) (by omega) (fun hc2 => ?_) (fun hc2 => b41 _))
  refine hR (?_ : R (_, _, _, _, _, _))
  refine hR (c_get h03 rfl ?_)
  refine hR (c_get hO3 rfl ?_)
  refine hR (?_ : R (_, _, _, _, _, _))
  refine hR (c_ald hT3.1 (by rw [u3]; rfl) (by omega) (by omega) (Nat.le_of_ble_eq_true rfl) fun v4 lv uv => ?_)
  iterate 3 refine hR (?_ : R (_, _, _, _, _, _))
  refine hR (j_ne (by omega) (by omega) (fun hc3 => ?_) (fun hc3 => ?_))
  · refine hR (?_ : R (_, _, _, _, _, _))
    refine hR (k_lt (by omega) (fun hc => b79 _) (fun hc4 => ?_))
    iterate 2 refine hR (?_ : R (_, _, _, _, _, _))
    refine hR (j_lt (by omega) (by omega) (fun hc5 => ?_) (fun _ => b79 _))
    iterate 2 refine hR (?_ : R (_, _, _, _, _, _))
    refine hR (j_ne (by omega) (by omega) (fun _ => ?_) (fun hc6 => absurd hc6 hc3))
    iterate 2 refine hR (?_ : R (_, _, _, _, _, _))
    exact main a2 v4 (by omega) (by omega) (by omega)
  · iterate 2 refine hR (?_ : R (_, _, _, _, _, _))
    refine hR (j_lt (by omega) (by omega) (fun hc4 => ?_) (fun hc4 => ?_))
    · iterate 2 refine hR (?_ : R (_, _, _, _, _, _))
      refine hR (j_ne (by omega) (by omega) (fun hc6 => absurd hc3 hc6) (fun _ => ?_))
      iterate 3 refine hR (?_ : R (_, _, _, _, _, _))
      exact main v4 v4 (by omega) (by omega) (by omega)
    · refine hR (?_ : R (_, _, _, _, _, _))
      exact b79 _
theorem r_isText (d : Nat) (n : Int32) (w : zW) (Q : zQ) (h1 : ¬ n < 0 → n < 5461 → Q (some (.int (Int32.ofInt 1))) w) (h0 : n < 0 ∨ 5461 ≤ n → Q (some (.int (Int32.ofInt 0))) w) : zCl zTab (d + 1) iX11_isText [.int n] w 0 0 Q := by
  refine zCl_i (M := kX11_isText) rfl (Nat.le_of_ble_eq_true rfl) fun R hR => ?_
  refine hR (?_ : R (_, _, _, _, _, _))
  refine hR (And.intro (fun hc1 => ?_) (fun hc1 => ?_))
  · refine hR (?_ : R (_, _, _, _, _, _))
    refine hR (zret_i rfl (Nat.le_refl _) ?_ ?_)
    · exact Or.inl rfl
    · exact h0 (Or.inl hc1)
  iterate 2 refine hR (?_ : R (_, _, _, _, _, _))
  refine hR (And.intro (fun hc2 => ?_) (fun hc2 => ?_))
  · refine hR (?_ : R (_, _, _, _, _, _))
    refine hR (zret_i rfl (Nat.le_refl _) ?_ ?_)
    · exact Or.inl rfl
    · exact h0 (Or.inr hc2)
  iterate 2 refine hR (?_ : R (_, _, _, _, _, _))
  refine hR (zret_i rfl (Nat.le_refl _) ?_ ?_)
  · exact Or.inr rfl
  · exact h1 hc1 (Int32.not_le.mp hc2)
theorem m_in_1 (d : Nat) (v a b : Int32) (w : zW) (Q : zQ) (h1 : ¬ v < a → v ≤ b → Q (some (.int (Int32.ofInt 1))) w) (h0 : v < a ∨ b < v → Q (some (.int (Int32.ofInt 0))) w) : zCl zTab (d + 1) iX12_in [.int v, .int a, .int b] w 0 0 Q := by
  refine zCl_i (M := kX12_in) rfl (Nat.le_of_ble_eq_true rfl) fun R hR => ?_
  iterate 2 refine hR (?_ : R (_, _, _, _, _, _))
  refine hR (And.intro (fun hc1 => ?_) (fun hc1 => ?_))
  · refine hR (?_ : R (_, _, _, _, _, _))
    exact hR (zret_i rfl (Nat.le_refl _) (Or.inl rfl) (h0 (Or.inl hc1)))
  iterate 2 refine hR (?_ : R (_, _, _, _, _, _))
  refine hR (And.intro (fun hc2 => ?_) (fun hc2 => ?_))
  · refine hR (?_ : R (_, _, _, _, _, _))
    exact hR (zret_i rfl (Nat.le_refl _) (Or.inl rfl) (h0 (Or.inr hc2)))
  iterate 2 refine hR (?_ : R (_, _, _, _, _, _))
  exact hR (zret_i rfl (Nat.le_refl _) (Or.inr rfl) (h1 hc1 (Int32.not_lt.mp hc2)))
theorem zi_5460 {n : Int32} (h : n ≤ (Int16.ofInt 5460).toInt32) : n < 5461 := by
  rw [Int32.le_iff_toInt_le] at h
  rw [Int32.lt_iff_toInt_lt]
  have e1 : (Int16.ofInt 5460).toInt32.toInt = 5460 := by decide
  have e2 : (5461 : Int32).toInt = 5461 := by decide
  omega
theorem zi_5461 {n : Int32} (h : (Int16.ofInt 5460).toInt32 < n) : 5461 ≤ n := by
  rw [Int32.lt_iff_toInt_lt] at h
  rw [Int32.le_iff_toInt_le]
  have e1 : (Int16.ofInt 5460).toInt32.toInt = 5460 := by decide
  have e2 : (5461 : Int32).toInt = 5461 := by decide
  omega
theorem m_isText_1 (d : Nat) (n : Int32) (w : zW) (Q : zQ) (h1 : ¬ n < 0 → n < 5461 → Q (some (.int (Int32.ofInt 1))) w) (h0 : n < 0 ∨ 5461 ≤ n → Q (some (.int (Int32.ofInt 0))) w) : zCl zTab (d + 2) iX12_isText [.int n] w 0 0 Q := by
  refine zCl_i (M := kX12_isText) rfl (Nat.le_of_ble_eq_true rfl) fun R hR => ?_
  iterate 3 refine hR (?_ : R (_, _, _, _, _, _))
  refine hR (zcall_i 0 0 (Nat.le_of_ble_eq_true rfl) (Nat.le_of_ble_eq_true rfl) (m_in_1 _ _ _ _ _ _ (fun q1 q2 => ?_) (fun q => ?_)))
  · exact hR (zret_i rfl (Nat.le_refl _) (Or.inr rfl) (h1 q1 (zi_5460 q2)))
  · exact hR (zret_i rfl (Nat.le_refl _) (Or.inl rfl) (h0 (q.imp id zi_5461)))
theorem r_word (d : Nat) (x k : Int32) (t : zW) (Q : zQ) (h : Q (some (.int (vWord x k))) t) : zCl zTab (d + 4) iX11_word [.ref 0, .int x, .int k] t 0 0 Q := by
  refine zCl_i (M := kX11_word) rfl (Nat.le_of_ble_eq_true rfl) fun R hR => ?_
  refine hR (?_ : R (_, _, _, _, _, _))
  refine hR (zcall_i 0 0 (Nat.le_of_ble_eq_true rfl) (Nat.le_of_ble_eq_true rfl) (r_isText _ _ _ _ (fun q0 q1 => ?_) (fun q => ?_)))
  · obtain ⟨n, hn, hx⟩ := t_of q0 q1
    have hcl : x.toNatClampNeg = n := by rw [hx]; exact nI_clamp (by omega)
    have h6 := tLen_le n
    unfold vWord at h
    rw [if_neg (fun z => z.elim q0 (fun z => absurd q1 (Int32.not_lt.mpr z))), hcl] at h
    refine hR (And.intro (fun _ => ?_) (fun hc => absurd hc (by decide)))
    refine hR (?_ : R (_, _, _, _, _, _))
    refine hR (zcall_i 0 0 (Nat.le_of_ble_eq_true rfl) (Nat.le_of_ble_eq_true rfl) (r_lengthOf _ _ n hx hn _ _ ?_))
    iterate 3 refine hR (?_ : R (_, _, _, _, _, _))
    refine hR (And.intro (fun hk => ?_) (fun hk => ?_))
    · rw [if_neg hk] at h
      refine hR (?_ : R (_, _, _, _, _, _))
      refine hR (And.intro (fun hk1 => ?_) (fun hk1 => ?_))
      · rw [if_pos (Or.inl hk1)] at h
        iterate 2 refine hR (?_ : R (_, _, _, _, _, _))
        exact hR (zret_i rfl (Nat.le_refl _) trivial h)
      iterate 2 refine hR (?_ : R (_, _, _, _, _, _))
      refine hR (And.intro (fun hk2 => ?_) (fun hk2 => ?_))
      · rw [if_neg (fun z => z.elim hk1 (fun z => absurd hk2 (Int32.not_lt.mpr z)))] at h
        obtain ⟨j, hjl, hkj, hcj⟩ := t_kj hk1 hk2 h6
        rw [hcj] at h
        iterate 2 refine hR (?_ : R (_, _, _, _, _, _))
        refine hR (zcall_i 0 0 (Nat.le_of_ble_eq_true rfl) (Nat.le_of_ble_eq_true rfl) (r_wordAt _ _ _ n j hx hn hkj hjl _ _ ?_))
        exact hR (zret_i rfl (Nat.le_refl _) trivial h)
      · rw [if_pos (Or.inr (Int32.not_lt.mp hk2))] at h
        iterate 2 refine hR (?_ : R (_, _, _, _, _, _))
        exact hR (zret_i rfl (Nat.le_refl _) trivial h)
    · rw [if_pos hk] at h
      refine hR (?_ : R (_, _, _, _, _, _))
      exact hR (zret_i rfl (Nat.le_refl _) trivial h)
  · unfold vWord at h
    rw [if_pos q] at h
    refine hR (And.intro (fun hc => absurd (by decide) hc) (fun _ => ?_))
    refine hR (?_ : R (_, _, _, _, _, _))
    exact hR (zret_i rfl (Nat.le_refl _) trivial h)
set_option maxHeartbeats 1000000 in
theorem m_shorter_1 (d : Nat) (x : Int32) (n : Nat) (hx : x = nI n) (hn : n ≤ 7) (w : zW) (Q : zQ) (h : Q (some (.int (nI (tSh n)))) w) : zCl zTab (d + 1) iX12_shorter [.int x] w 0 0 Q := by
  refine zCl_i (M := kX12_shorter) rfl (Nat.le_of_ble_eq_true rfl) fun R hR => ?_
  have loop : ∀ (m : Nat) (s a k : Int32) (j : Nat), j + m = n → s = nI (tSh j) → a = nI (4 ^ j) → k = nI j → R (6, [some (.int x), some (.int s), some (.int a), some (.int k)], [], w, 0, 0) := by
    intro m
    induction m with
    | zero =>
      intro s a k j hj hs ha hk
      iterate 2 refine hR (?_ : R (_, _, _, _, _, _))
      refine hR (pk_le n j (fun _ => ?_) (fun z => by omega) hx hk)
      refine hR (?_ : R (_, _, _, _, _, _))
      have e : j = n := by omega
      subst e
      subst hs
      exact hR (zret_i rfl (Nat.le_refl _) trivial h)
    | succ m ih =>
      intro s a k j hj hs ha hk
      have h7 := tSh_s j (by omega)
      iterate 2 refine hR (?_ : R (_, _, _, _, _, _))
      refine hR (pk_le n j (fun z => by omega) (fun _ => ?_) hx hk)
      iterate 10 refine hR (?_ : R (_, _, _, _, _, _))
      refine ih _ _ _ (j + 1) (by omega) ?_ ?_ ?_
      · rw [hs, ha, nI_add, h7.1]
      · rw [ha, nI4, pk_mul, Nat.pow_succ]
      · rw [hk, nI1, nI_add]
  iterate 6 refine hR (?_ : R (_, _, _, _, _, _))
  exact loop n _ _ _ 0 (by omega) (by decide) (by decide) nI0
set_option maxHeartbeats 1000000 in
theorem m_sizeOf_1 (d : Nat) (x : Int32) (t : Nat) (hx : x = nI t) (ht : t < 5461) (w : zW) (Q : zQ) (h : Q (some (.int (nI (tLen t)))) w) : zCl zTab (d + 2) iX12_sizeOf [.int x] w 0 0 Q := by
  have h6 := tLen_le t
  refine zCl_i (M := kX12_sizeOf) rfl (Nat.le_of_ble_eq_true rfl) fun R hR => ?_
  have loop : ∀ (m : Nat) (k : Int32) (j : Nat), j + m = tLen t → k = nI j → R (2, [some (.int x), some (.int k)], [], w, 0, 0) := by
    intro m
    induction m with
    | zero =>
      intro k j hj hk
      have hz := tSz t ht j (by omega)
      have h7 := tSh7 (j + 1) (by omega)
      iterate 3 refine hR (?_ : R (_, _, _, _, _, _))
      refine hR (zcall_i 0 0 (Nat.le_of_ble_eq_true rfl) (Nat.le_of_ble_eq_true rfl) (m_shorter_1 _ _ (j + 1) (by rw [hk, nI1, nI_add]) (by omega) _ _ ?_))
      refine hR (?_ : R (_, _, _, _, _, _))
      refine hR (pk_lt t (tSh (j + 1)) (fun _ => ?_) (fun z => by omega) hx rfl)
      refine hR (?_ : R (_, _, _, _, _, _))
      have h3 : ∀ z, z = nI (tLen t) → Q (some (.int z)) w := fun z hz => by rw [hz]; exact h
      exact hR (zret_i rfl (Nat.le_refl _) trivial (h3 _ (by rw [hk]; exact congrArg nI (by omega))))
    | succ m ih =>
      intro k j hj hk
      have hz := tSz t ht j (by omega)
      have h7 := tSh7 (j + 1) (by omega)
      iterate 3 refine hR (?_ : R (_, _, _, _, _, _))
      refine hR (zcall_i 0 0 (Nat.le_of_ble_eq_true rfl) (Nat.le_of_ble_eq_true rfl) (m_shorter_1 _ _ (j + 1) (by rw [hk, nI1, nI_add]) (by omega) _ _ ?_))
      refine hR (?_ : R (_, _, _, _, _, _))
      refine hR (pk_lt t (tSh (j + 1)) (fun z => by omega) (fun _ => ?_) hx rfl)
      iterate 2 refine hR (?_ : R (_, _, _, _, _, _))
      exact ih _ (j + 1) (by omega) (by rw [hk, nI1, nI_add])
  iterate 2 refine hR (?_ : R (_, _, _, _, _, _))
  exact loop (tLen t) _ 0 (by omega) nI0
set_option maxHeartbeats 1000000 in
theorem m_spell25_1 {c0 c1 c2 c3 c4 c5 c6 c7 c8 c9 c10 c11 c12 c13 : va_E} {x0 x9 x10 x11 x12 x13 x15 x16 x17 x20 x21 x22 x23 x26 x28 x31 x32 x33 x38 x41 x44 : Int32} {x14 : Int64} {g15 g16 g17 g18 g19 g20 g21 g22 g23 g24 g25 g26 g27 g28 g29 g30 g31 g32 g33 g34 g35 g36 g37 g38 g39 g40 g41 g42 g43 g44 : Nat → Int32} {t : zW} (d : Nat) (x : Int32) (t9 : Nat) (hx : x = nI t9) (ht : t9 < 5461) (Q : zQ) (h : ∀ f, (∀ i, i < tLen t9 → f i = nI (tW t9 i)) → Q none (zMg c0 c1 c2 c3 c4 c5 c6 c7 c8 c9 c10 c11 c12 c13 x0 x9 x10 x11 x12 x13 x15 x16 x17 x20 x21 x22 x23 x26 x28 x31 x32 x33 x38 x41 x44 x14 g15 g16 g17 g18 g19 g20 g21 g22 g23 g24 f g26 g27 g28 g29 g30 g31 g32 g33 g34 g35 g36 g37 g38 g39 g40 g41 g42 g43 g44 t)) : zCl zTab (d + 3) iX12_spell [.int x, .ref 25] (zMg c0 c1 c2 c3 c4 c5 c6 c7 c8 c9 c10 c11 c12 c13 x0 x9 x10 x11 x12 x13 x15 x16 x17 x20 x21 x22 x23 x26 x28 x31 x32 x33 x38 x41 x44 x14 g15 g16 g17 g18 g19 g20 g21 g22 g23 g24 g25 g26 g27 g28 g29 g30 g31 g32 g33 g34 g35 g36 g37 g38 g39 g40 g41 g42 g43 g44 t) 0 0 Q := by
  have h6 := tLen_le t9
  have hs := tSh_le t9 ht
  refine zCl_i (M := kX12_spell) rfl (Nat.le_of_ble_eq_true rfl) fun R hR => ?_
  have loop : ∀ (j : Nat) (l k : Int32) (f : Nat → Int32), j ≤ tLen t9 → l = nI (tF t9 / 4 ^ (tLen t9 - j)) → k.toInt = (j : Int) - 1 → (∀ i, j ≤ i → i < tLen t9 → f i = nI (tW t9 i)) → R (17, [some (.int x), some (.ref 25), some (.int (nI (tLen t9))), some (.int l), some (.int k)], [], (zMg c0 c1 c2 c3 c4 c5 c6 c7 c8 c9 c10 c11 c12 c13 x0 x9 x10 x11 x12 x13 x15 x16 x17 x20 x21 x22 x23 x26 x28 x31 x32 x33 x38 x41 x44 x14 g15 g16 g17 g18 g19 g20 g21 g22 g23 g24 f g26 g27 g28 g29 g30 g31 g32 g33 g34 g35 g36 g37 g38 g39 g40 g41 g42 g43 g44 t), 0, 0) := by
    intro j
    induction j with
    | zero =>
      intro l k f hj hl hk hf
      refine hR (?_ : R (_, _, _, _, _, _))
      refine hR (And.intro (fun _ => ?_) (fun hc => absurd (zlt_i.mpr (by rw [hk]; decide)) hc))
      exact hR (zret_i rfl (Nat.le_refl _) rfl (h _ (fun i hi => hf i (Nat.zero_le _) hi)))
    | succ j ih =>
      intro l k f hj hl hk hf
      have hkj : k = nI j := zeq_i.mpr (by rw [hk, nI_toInt (by omega)]; omega)
      have hlt : tF t9 / 4 ^ (tLen t9 - (j + 1)) < 4096 := Nat.lt_of_le_of_lt (Nat.div_le_self _ _) hs.2.2.2
      refine hR (?_ : R (_, _, _, _, _, _))
      refine hR (And.intro (fun hc => absurd (zlt_i.mp hc) (by rw [hk]; show ¬ ((_ : Int) < 0); omega)) (fun _ => ?_))
      iterate 4 refine hR (?_ : R (_, _, _, _, _, _))
      refine hR (And.intro (by decide) ?_)
      refine hR (And.intro (by rw [hkj]; exact nI_in (by omega) (by omega)) ?_)
      iterate 2 refine hR (?_ : R (_, _, _, _, _, _))
      refine hR (And.intro (by decide) ?_)
      iterate 3 refine hR (?_ : R (_, _, _, _, _, _))
      refine ih _ _ _ (by omega) ?_ ?_ ?_
      · rw [hl, nI4, pk_div (by omega) (by omega) (by omega), Nat.div_div_eq_div_mul, ← Nat.pow_succ, show (tLen t9 - (j + 1)).succ = tLen t9 - j by omega]
      · rw [zadd (by rw [hk]; show (-2147483648 : Int) ≤ _ + -1; omega) (by rw [hk]; show _ + (-1 : Int) < _; omega), hk]
        show _ + (-1 : Int) = _
        omega
      · intro i hi1 hi2
        rw [hkj, nI_clamp (by omega)]
        by_cases hij : i = j
        · subst hij
          rw [pk_us, hl, nI4, pk_rem (by omega) (by omega) (by omega)]
          unfold tW
          rw [show tLen t9 - 1 - i = tLen t9 - (i + 1) by omega]
        · rw [pk_un hij]
          exact hf i (by omega) hi2
  refine hR (?_ : R (_, _, _, _, _, _))
  refine hR (zcall_i 0 0 (Nat.le_of_ble_eq_true rfl) (Nat.le_of_ble_eq_true rfl) (m_sizeOf_1 _ _ t9 hx ht _ _ ?_))
  iterate 3 refine hR (?_ : R (_, _, _, _, _, _))
  refine hR (zcall_i 0 0 (Nat.le_of_ble_eq_true rfl) (Nat.le_of_ble_eq_true rfl) (m_shorter_1 _ _ (tLen t9) rfl (by omega) _ _ ?_))
  iterate 6 refine hR (?_ : R (_, _, _, _, _, _))
  refine loop (tLen t9) _ _ g25 (Nat.le_refl _) ?_ ?_ (fun i h1 h2 => by omega)
  · rw [hx, pk_sub hs.1, Nat.sub_self]
    show nI (tF t9) = _
    rw [Nat.pow_zero, Nat.div_one]
  · rw [nI1, pk_sub_toInt (by omega) (by omega)]
    omega
set_option maxHeartbeats 1000000 in
theorem m_spell26_1 {c0 c1 c2 c3 c4 c5 c6 c7 c8 c9 c10 c11 c12 c13 : va_E} {x0 x9 x10 x11 x12 x13 x15 x16 x17 x20 x21 x22 x23 x26 x28 x31 x32 x33 x38 x41 x44 : Int32} {x14 : Int64} {g15 g16 g17 g18 g19 g20 g21 g22 g23 g24 g25 g26 g27 g28 g29 g30 g31 g32 g33 g34 g35 g36 g37 g38 g39 g40 g41 g42 g43 g44 : Nat → Int32} {t : zW} (d : Nat) (x : Int32) (t9 : Nat) (hx : x = nI t9) (ht : t9 < 5461) (Q : zQ) (h : ∀ f, (∀ i, i < tLen t9 → f i = nI (tW t9 i)) → Q none (zMg c0 c1 c2 c3 c4 c5 c6 c7 c8 c9 c10 c11 c12 c13 x0 x9 x10 x11 x12 x13 x15 x16 x17 x20 x21 x22 x23 x26 x28 x31 x32 x33 x38 x41 x44 x14 g15 g16 g17 g18 g19 g20 g21 g22 g23 g24 g25 f g27 g28 g29 g30 g31 g32 g33 g34 g35 g36 g37 g38 g39 g40 g41 g42 g43 g44 t)) : zCl zTab (d + 3) iX12_spell [.int x, .ref 26] (zMg c0 c1 c2 c3 c4 c5 c6 c7 c8 c9 c10 c11 c12 c13 x0 x9 x10 x11 x12 x13 x15 x16 x17 x20 x21 x22 x23 x26 x28 x31 x32 x33 x38 x41 x44 x14 g15 g16 g17 g18 g19 g20 g21 g22 g23 g24 g25 g26 g27 g28 g29 g30 g31 g32 g33 g34 g35 g36 g37 g38 g39 g40 g41 g42 g43 g44 t) 0 0 Q := by
  have h6 := tLen_le t9
  have hs := tSh_le t9 ht
  refine zCl_i (M := kX12_spell) rfl (Nat.le_of_ble_eq_true rfl) fun R hR => ?_
  have loop : ∀ (j : Nat) (l k : Int32) (f : Nat → Int32), j ≤ tLen t9 → l = nI (tF t9 / 4 ^ (tLen t9 - j)) → k.toInt = (j : Int) - 1 → (∀ i, j ≤ i → i < tLen t9 → f i = nI (tW t9 i)) → R (17, [some (.int x), some (.ref 26), some (.int (nI (tLen t9))), some (.int l), some (.int k)], [], (zMg c0 c1 c2 c3 c4 c5 c6 c7 c8 c9 c10 c11 c12 c13 x0 x9 x10 x11 x12 x13 x15 x16 x17 x20 x21 x22 x23 x26 x28 x31 x32 x33 x38 x41 x44 x14 g15 g16 g17 g18 g19 g20 g21 g22 g23 g24 g25 f g27 g28 g29 g30 g31 g32 g33 g34 g35 g36 g37 g38 g39 g40 g41 g42 g43 g44 t), 0, 0) := by
    intro j
    induction j with
    | zero =>
      intro l k f hj hl hk hf
      refine hR (?_ : R (_, _, _, _, _, _))
      refine hR (And.intro (fun _ => ?_) (fun hc => absurd (zlt_i.mpr (by rw [hk]; decide)) hc))
      exact hR (zret_i rfl (Nat.le_refl _) rfl (h _ (fun i hi => hf i (Nat.zero_le _) hi)))
    | succ j ih =>
      intro l k f hj hl hk hf
      have hkj : k = nI j := zeq_i.mpr (by rw [hk, nI_toInt (by omega)]; omega)
      have hlt : tF t9 / 4 ^ (tLen t9 - (j + 1)) < 4096 := Nat.lt_of_le_of_lt (Nat.div_le_self _ _) hs.2.2.2
      refine hR (?_ : R (_, _, _, _, _, _))
      refine hR (And.intro (fun hc => absurd (zlt_i.mp hc) (by rw [hk]; show ¬ ((_ : Int) < 0); omega)) (fun _ => ?_))
      iterate 4 refine hR (?_ : R (_, _, _, _, _, _))
      refine hR (And.intro (by decide) ?_)
      refine hR (And.intro (by rw [hkj]; exact nI_in (by omega) (by omega)) ?_)
      iterate 2 refine hR (?_ : R (_, _, _, _, _, _))
      refine hR (And.intro (by decide) ?_)
      iterate 3 refine hR (?_ : R (_, _, _, _, _, _))
      refine ih _ _ _ (by omega) ?_ ?_ ?_
      · rw [hl, nI4, pk_div (by omega) (by omega) (by omega), Nat.div_div_eq_div_mul, ← Nat.pow_succ, show (tLen t9 - (j + 1)).succ = tLen t9 - j by omega]
      · rw [zadd (by rw [hk]; show (-2147483648 : Int) ≤ _ + -1; omega) (by rw [hk]; show _ + (-1 : Int) < _; omega), hk]
        show _ + (-1 : Int) = _
        omega
      · intro i hi1 hi2
        rw [hkj, nI_clamp (by omega)]
        by_cases hij : i = j
        · subst hij
          rw [pk_us, hl, nI4, pk_rem (by omega) (by omega) (by omega)]
          unfold tW
          rw [show tLen t9 - 1 - i = tLen t9 - (i + 1) by omega]
        · rw [pk_un hij]
          exact hf i (by omega) hi2
  refine hR (?_ : R (_, _, _, _, _, _))
  refine hR (zcall_i 0 0 (Nat.le_of_ble_eq_true rfl) (Nat.le_of_ble_eq_true rfl) (m_sizeOf_1 _ _ t9 hx ht _ _ ?_))
  iterate 3 refine hR (?_ : R (_, _, _, _, _, _))
  refine hR (zcall_i 0 0 (Nat.le_of_ble_eq_true rfl) (Nat.le_of_ble_eq_true rfl) (m_shorter_1 _ _ (tLen t9) rfl (by omega) _ _ ?_))
  iterate 6 refine hR (?_ : R (_, _, _, _, _, _))
  refine loop (tLen t9) _ _ g26 (Nat.le_refl _) ?_ ?_ (fun i h1 h2 => by omega)
  · rw [hx, pk_sub hs.1, Nat.sub_self]
    show nI (tF t9) = _
    rw [Nat.pow_zero, Nat.div_one]
  · rw [nI1, pk_sub_toInt (by omega) (by omega)]
    omega
theorem m_word_1 {c0 c1 c2 c3 c4 c5 c6 c7 c8 c9 c10 c11 c12 c13 : va_E} {x0 x9 x10 x11 x12 x13 x15 x16 x17 x20 x21 x22 x23 x26 x28 x31 x32 x33 x38 x41 x44 : Int32} {x14 : Int64} {g15 g16 g17 g18 g19 g20 g21 g22 g23 g24 g25 g26 g27 g28 g29 g30 g31 g32 g33 g34 g35 g36 g37 g38 g39 g40 g41 g42 g43 g44 : Nat → Int32} {t : zW} (d : Nat) (x k : Int32) (Q : zQ) (h : ∀ w, Q (some (.int (vWord x k))) w) : zCl zTab (d + 4) iX12_word [.ref 14, .int x, .int k] (zMg c0 c1 c2 c3 c4 c5 c6 c7 c8 c9 c10 c11 c12 c13 x0 x9 x10 x11 x12 x13 x15 x16 x17 x20 x21 x22 x23 x26 x28 x31 x32 x33 x38 x41 x44 x14 g15 g16 g17 g18 g19 g20 g21 g22 g23 g24 g25 g26 g27 g28 g29 g30 g31 g32 g33 g34 g35 g36 g37 g38 g39 g40 g41 g42 g43 g44 t) 0 0 Q := by
  refine zCl_i (M := kX12_word) rfl (Nat.le_of_ble_eq_true rfl) fun R hR => ?_
  iterate 4 refine hR (?_ : R (_, _, _, _, _, _))
  refine hR (zcall_i 0 0 (Nat.le_of_ble_eq_true rfl) (Nat.le_of_ble_eq_true rfl) (m_isText_1 _ _ _ _ (fun q0 q1 => ?_) (fun q => ?_)))
  · obtain ⟨n, hn, hx⟩ := t_of q0 q1
    have hcl : x.toNatClampNeg = n := by rw [hx]; exact nI_clamp (by omega)
    have h6 := tLen_le n
    unfold vWord at h
    rw [if_neg (fun z => z.elim q0 (fun z => absurd q1 (Int32.not_lt.mpr z))), hcl] at h
    refine hR (And.intro (fun hc => absurd hc (by decide)) (fun _ => ?_))
    iterate 3 refine hR (?_ : R (_, _, _, _, _, _))
    refine hR (zcall_i 0 0 (Nat.le_of_ble_eq_true rfl) (Nat.le_of_ble_eq_true rfl) (m_sizeOf_1 _ _ n hx hn _ _ ?_))
    iterate 2 refine hR (?_ : R (_, _, _, _, _, _))
    have hm1 : (nI (tLen n) - Int32.ofInt 1).toInt = (tLen n : Int) - 1 := by rw [nI1, pk_sub_toInt (by omega) (by omega)]; rfl
    have em : (Int32.ofInt (-1)).toInt = -1 := by decide
    have e0 : (0 : Int32).toInt = 0 := rfl
    refine hR (zcall_i 0 0 (Nat.le_of_ble_eq_true rfl) (Nat.le_of_ble_eq_true rfl) (m_in_1 _ _ _ _ _ _ (fun p1 p2 => ?_) (fun p => ?_)))
    · rw [zlt_i, em] at p1
      rw [zle_i, hm1] at p2
      refine hR (And.intro (fun _ => ?_) (fun hc => absurd hc (by decide)))
      iterate 3 refine hR (?_ : R (_, _, _, _, _, _))
      refine hR (zcall_i 0 0 (Nat.le_of_ble_eq_true rfl) (Nat.le_of_ble_eq_true rfl) (m_spell25_1 _ _ n hx hn _ (fun f hf => ?_)))
      iterate 2 refine hR (?_ : R (_, _, _, _, _, _))
      refine hR (And.intro (fun hk => ?_) (fun hk => ?_))
      · have hk0 : 0 ≤ k.toInt := by
          rw [zeq_i, em] at hk
          omega
        have hkn : ¬ k < 0 := by rw [zlt_i, e0]; omega
        obtain ⟨j, hj, hkj⟩ := nI_of hkn
        have hcj : k.toNatClampNeg = j := by rw [hkj]; exact nI_clamp hj
        have hjl : j < tLen n := by
          rw [hkj, nI_toInt hj] at p2
          omega
        have hnle : ¬ nI (tLen n) ≤ k := by rw [zle_i, hkj, nI_toInt hj, nI_toInt (by omega)]; omega
        rw [if_neg hk, if_neg (fun z => z.elim hkn hnle), hcj] at h
        iterate 3 refine hR (?_ : R (_, _, _, _, _, _))
        refine hR (And.intro (by rw [hkj]; exact nI_in (by omega) (by omega)) ?_)
        refine hR (zret_i rfl (Nat.le_refl _) trivial ?_)
        have h2 : ∀ y w, y = nI (tW n j) → Q (some (.int y)) w := fun y w hy => by rw [hy]; exact h w
        refine h2 _ _ ?_
        show f k.toNatClampNeg = _
        rw [hcj]
        exact hf j hjl
      · rw [if_pos hk] at h
        refine hR (?_ : R (_, _, _, _, _, _))
        refine hR (zcall_i 0 0 (Nat.le_of_ble_eq_true rfl) (Nat.le_of_ble_eq_true rfl) (m_sizeOf_1 _ _ n hx hn _ _ ?_))
        refine hR (?_ : R (_, _, _, _, _, _))
        exact hR (zret_i rfl (Nat.le_refl _) trivial (h _))
    · rw [zlt_i, zlt_i, em, hm1] at p
      have hk1 : ¬ k = Int32.ofInt (-1) := by rw [zeq_i, em]; omega
      have hk2 : k < 0 ∨ nI (tLen n) ≤ k := by rw [zlt_i, zle_i, e0, nI_toInt (by omega)]; omega
      rw [if_neg hk1, if_pos hk2] at h
      refine hR (And.intro (fun hc => absurd (by decide) hc) (fun _ => ?_))
      refine hR (?_ : R (_, _, _, _, _, _))
      exact hR (zret_i rfl (Nat.le_refl _) trivial (h _))
  · unfold vWord at h
    rw [if_pos q] at h
    refine hR (And.intro (fun _ => ?_) (fun hc => absurd (by decide) hc))
    refine hR (?_ : R (_, _, _, _, _, _))
    exact hR (zret_i rfl (Nat.le_refl _) trivial (h _))
theorem m_lesser_1 (d : Nat) (x y : Int32) (p q : Nat) (hx : x = nI p) (hy : y = nI q) (hp : p < 1000) (hq : q < 1000) (w : zW) (Q : zQ) (h : Q (some (.int (nI (min p q)))) w) : zCl zTab (d + 1) iX12_lesser [.int x, .int y] w 0 0 Q := by
  refine zCl_i (M := kX12_lesser) rfl (Nat.le_of_ble_eq_true rfl) fun R hR => ?_
  have h3 : ∀ z, z = nI (min p q) → Q (some (.int z)) w := fun z hz => by rw [hz]; exact h
  iterate 2 refine hR (?_ : R (_, _, _, _, _, _))
  refine hR (pk_le q p (fun c => ?_) (fun c => ?_) hy hx)
  · refine hR (?_ : R (_, _, _, _, _, _))
    exact hR (zret_i rfl (Nat.le_refl _) trivial (h3 _ (by rw [hy, Nat.min_eq_right c])))
  · iterate 2 refine hR (?_ : R (_, _, _, _, _, _))
    exact hR (zret_i rfl (Nat.le_refl _) trivial (h3 _ (by rw [hx, Nat.min_eq_left (by omega)])))
set_option maxHeartbeats 4000000 in
theorem m_apart_1 {c0 c1 c2 c3 c4 c5 c6 c7 c8 c9 c10 c11 c12 c13 : va_E} {x0 x9 x10 x11 x12 x13 x15 x16 x17 x20 x21 x22 x23 x26 x28 x31 x32 x33 x38 x41 x44 : Int32} {x14 : Int64} {g15 g16 g17 g18 g19 g20 g21 g22 g23 g24 g25 g26 g27 g28 g29 g30 g31 g32 g33 g34 g35 g36 g37 g38 g39 g40 g41 g42 g43 g44 : Nat → Int32} {t : zW} (d : Nat) (x y : Int32) (a b : Nat) (hx : x = nI a) (ha : a < 5461) (hy : y = nI b) (hb : b < 5461) (Q : zQ) (h : ∀ w, Q (some (.int (nI (eD (tW a) (tW b) (tLen a) (tLen b))))) w) : zCl zTab (d + 4) iX12_apart [.ref 14, .int x, .int y] (zMg c0 c1 c2 c3 c4 c5 c6 c7 c8 c9 c10 c11 c12 c13 x0 x9 x10 x11 x12 x13 x15 x16 x17 x20 x21 x22 x23 x26 x28 x31 x32 x33 x38 x41 x44 x14 g15 g16 g17 g18 g19 g20 g21 g22 g23 g24 g25 g26 g27 g28 g29 g30 g31 g32 g33 g34 g35 g36 g37 g38 g39 g40 g41 g42 g43 g44 t) 0 0 Q := by
  have hn := tLen_le a
  have hm := tLen_le b
  refine zCl_i (M := kX12_apart) rfl (Nat.le_of_ble_eq_true rfl) fun R hR => ?_
  have main : ∀ (fa fb : Nat → Int32), (∀ i, i < tLen a → fa i = nI (tW a i)) → (∀ i, i < tLen b → fb i = nI (tW b i)) → ∀ (z6 z7 : Option Value), R (30, [some (.ref 14), some (.int x), some (.int y), some (.int (nI (tLen a))), some (.int (nI (tLen b))), some (.int (Int32.ofInt 0)), z6, z7], [], (zMg c0 c1 c2 c3 c4 c5 c6 c7 c8 c9 c10 c11 c12 c13 x0 x9 x10 x11 x12 x13 x15 x16 x17 x20 x21 x22 x23 x26 x28 x31 x32 x33 x38 x41 x44 x14 g15 g16 g17 g18 g19 g20 g21 g22 g23 g24 fa fb g27 g28 g29 g30 g31 g32 g33 g34 g35 g36 g37 g38 g39 g40 g41 g42 g43 g44 t), 0, 0) := by
    intro fa fb hfa hfb
    have inner : ∀ (i9 : Nat) (i : Int32), i = nI i9 → i9 ≤ tLen a → (∀ (T : Nat → Int32) (z6 z7 : Option Value), (∀ i', i' ≤ i9 → ∀ k', k' ≤ tLen b → T (7 * i' + k') = nI (eD (tW a) (tW b) i' k')) → R (185, [some (.ref 14), some (.int x), some (.int y), some (.int (nI (tLen a))), some (.int (nI (tLen b))), some (.int i), z6, z7], [], (zMg c0 c1 c2 c3 c4 c5 c6 c7 c8 c9 c10 c11 c12 c13 x0 x9 x10 x11 x12 x13 x15 x16 x17 x20 x21 x22 x23 x26 x28 x31 x32 x33 x38 x41 x44 x14 g15 g16 g17 g18 g19 g20 g21 g22 g23 g24 fa fb T g28 g29 g30 g31 g32 g33 g34 g35 g36 g37 g38 g39 g40 g41 g42 g43 g44 t), 0, 0)) → ∀ (m9 k9 : Nat) (k : Int32) (T : Nat → Int32) (z7 : Option Value), k9 + m9 = tLen b + 1 → k = nI k9 → (∀ i', i' < i9 → ∀ k', k' ≤ tLen b → T (7 * i' + k') = nI (eD (tW a) (tW b) i' k')) → (∀ k', k' < k9 → T (7 * i9 + k') = nI (eD (tW a) (tW b) i9 k')) → R (39, [some (.ref 14), some (.int x), some (.int y), some (.int (nI (tLen a))), some (.int (nI (tLen b))), some (.int i), some (.int k), z7], [], (zMg c0 c1 c2 c3 c4 c5 c6 c7 c8 c9 c10 c11 c12 c13 x0 x9 x10 x11 x12 x13 x15 x16 x17 x20 x21 x22 x23 x26 x28 x31 x32 x33 x38 x41 x44 x14 g15 g16 g17 g18 g19 g20 g21 g22 g23 g24 fa fb T g28 g29 g30 g31 g32 g33 g34 g35 g36 g37 g38 g39 g40 g41 g42 g43 g44 t), 0, 0) := by
      intro i9 i hi hi9 hexit m9
      induction m9 with
      | zero =>
        intro k9 k T z7 hk9 hk h1 h2
        iterate 2 refine hR (?_ : R (_, _, _, _, _, _))
        refine hR (pk_lt (tLen b) k9 (fun _ => ?_) (fun z => by omega) rfl hk)
        refine hexit T _ _ (fun i' hi' k' hk' => ?_)
        by_cases hq : i' = i9
        · subst hq
          exact h2 k' (by omega)
        · exact h1 i' (by omega) k' hk'
      | succ m9 ih =>
        intro k9 k T z7 hk9 hk h1 h2
        have fin : ∀ (bs : Int32), bs = nI (eD (tW a) (tW b) i9 k9) → R (164, [some (.ref 14), some (.int x), some (.int y), some (.int (nI (tLen a))), some (.int (nI (tLen b))), some (.int i), some (.int k), some (.int bs)], [], (zMg c0 c1 c2 c3 c4 c5 c6 c7 c8 c9 c10 c11 c12 c13 x0 x9 x10 x11 x12 x13 x15 x16 x17 x20 x21 x22 x23 x26 x28 x31 x32 x33 x38 x41 x44 x14 g15 g16 g17 g18 g19 g20 g21 g22 g23 g24 fa fb T g28 g29 g30 g31 g32 g33 g34 g35 g36 g37 g38 g39 g40 g41 g42 g43 g44 t), 0, 0) := by
          intro bs hbs
          have ei : (Int8.ofInt 7).toInt32 * i + k = nI (7 * i9 + k9) := by rw [nI7, hi, hk, pk_mul, nI_add]
          iterate 8 refine hR (?_ : R (_, _, _, _, _, _))
          refine hR (And.intro (by rw [ei]; exact nI_in (by omega) (by omega)) ?_)
          iterate 2 refine hR (?_ : R (_, _, _, _, _, _))
          have ec : ((Int8.ofInt 7).toInt32 * i + k).toNatClampNeg = 7 * i9 + k9 := by rw [ei]; exact nI_clamp (by omega)
          refine ih (k9 + 1) _ _ _ (by omega) (by rw [hk, nI1, nI_add]) (fun i' hi' k' hk' => ?_) (fun k' hk' => ?_)
          · rw [ec, pk_un (by omega)]
            exact h1 i' hi' k' hk'
          · rw [ec]
            by_cases hq : k' = k9
            · subst hq
              rw [pk_us, hbs]
            · rw [pk_un (by omega)]
              exact h2 k' (by omega)
        iterate 2 refine hR (?_ : R (_, _, _, _, _, _))
        refine hR (pk_lt (tLen b) k9 (fun z => by omega) (fun _ => ?_) rfl hk)
        refine hR (?_ : R (_, _, _, _, _, _))
        by_cases hi0 : i9 = 0
        · have hiz : i = 0 := by rw [hi, hi0]; rfl
          refine hR (And.intro (fun hc => absurd hiz hc) (fun _ => ?_))
          iterate 2 refine hR (?_ : R (_, _, _, _, _, _))
          iterate 2 refine hR (?_ : R (_, _, _, _, _, _))
          refine hR (And.intro (fun _ => ?_) (fun hc => absurd (by rw [hiz]; decide) hc))
          exact fin _ (by rw [hk, hi0, eD_0])
        have hin : ¬ i = 0 := by rw [hi]; exact nI_ne0 (by omega) (by omega)
        have hil : ¬ i ≤ 0 := by rw [hi]; exact nI_nle (by omega) (by omega)
        refine hR (And.intro (fun _ => ?_) (fun hc => absurd hc hin))
        refine hR (?_ : R (_, _, _, _, _, _))
        by_cases hk0 : k9 = 0
        · have hkz : k = 0 := by rw [hk, hk0]; rfl
          refine hR (And.intro (fun hc => absurd hkz hc) (fun _ => ?_))
          iterate 2 refine hR (?_ : R (_, _, _, _, _, _))
          iterate 2 refine hR (?_ : R (_, _, _, _, _, _))
          refine hR (And.intro (fun hc => absurd hc hil) (fun _ => ?_))
          refine hR (?_ : R (_, _, _, _, _, _))
          refine hR (And.intro (fun _ => ?_) (fun hc => absurd (by rw [hkz]; decide) hc))
          exact fin _ (by rw [hi, hk0, eD_z])
        have hkn : ¬ k = 0 := by rw [hk]; exact nI_ne0 (by omega) (by omega)
        have hkl : ¬ k ≤ 0 := by rw [hk]; exact nI_nle (by omega) (by omega)
        obtain ⟨i8, ei8⟩ : ∃ i8, i9 = i8 + 1 := ⟨i9 - 1, by omega⟩
        obtain ⟨k8, ek8⟩ : ∃ k8, k9 = k8 + 1 := ⟨k9 - 1, by omega⟩
        have d1 := eD_le (tW a) (tW b) i8 k8
        have d2 := eD_le (tW a) (tW b) i8 (k8 + 1)
        have d3 := eD_le (tW a) (tW b) (i8 + 1) k8
        have d4 := ed1_le (tW a i8) (tW b k8)
        have x1 : (Int8.ofInt 7).toInt32 * (i - Int32.ofInt 1) + k - Int32.ofInt 1 = nI (7 * i8 + k8) := by rw [nI7, hi, hk, ei8, ek8, nI1, pk_sub (by omega), Nat.add_sub_cancel, pk_mul, nI_add, pk_sub (by omega)]; exact congrArg nI (by omega)
        have x2 : i - Int32.ofInt 1 = nI i8 := by rw [hi, ei8, nI1, pk_sub (by omega), Nat.add_sub_cancel]
        have x3 : k - Int32.ofInt 1 = nI k8 := by rw [hk, ek8, nI1, pk_sub (by omega), Nat.add_sub_cancel]
        have x4 : (Int8.ofInt 7).toInt32 * (i - Int32.ofInt 1) + k = nI (7 * i8 + (k8 + 1)) := by rw [x2, nI7, hk, ek8, pk_mul, nI_add]
        have x5 : (Int8.ofInt 7).toInt32 * i + k - Int32.ofInt 1 = nI (7 * (i8 + 1) + k8) := by rw [nI7, hi, hk, ei8, ek8, pk_mul, nI_add, nI1, pk_sub (by omega)]; exact congrArg nI (by omega)
        have v1 : T ((Int8.ofInt 7).toInt32 * (i - Int32.ofInt 1) + k - Int32.ofInt 1).toNatClampNeg = nI (eD (tW a) (tW b) i8 k8) := by rw [x1, nI_clamp (by omega)]; exact h1 i8 (by omega) k8 (by omega)
        have v2 : fa (i - Int32.ofInt 1).toNatClampNeg = nI (tW a i8) := by rw [x2, nI_clamp (by omega)]; exact hfa i8 (by omega)
        have v3 : fb (k - Int32.ofInt 1).toNatClampNeg = nI (tW b k8) := by rw [x3, nI_clamp (by omega)]; exact hfb k8 (by omega)
        have v4 : T ((Int8.ofInt 7).toInt32 * (i - Int32.ofInt 1) + k).toNatClampNeg = nI (eD (tW a) (tW b) i8 (k8 + 1)) := by rw [x4, nI_clamp (by omega)]; exact h1 i8 (by omega) (k8 + 1) (by omega)
        have v5 : T ((Int8.ofInt 7).toInt32 * i + k - Int32.ofInt 1).toNatClampNeg = nI (eD (tW a) (tW b) (i8 + 1) k8) := by
          rw [x5, nI_clamp (by omega), ← ei8]
          exact h2 k8 (by omega)
        have rest : ∀ (bs : Int32), bs = nI (eD (tW a) (tW b) i8 k8 + ed1 (tW a i8) (tW b k8)) → R (112, [some (.ref 14), some (.int x), some (.int y), some (.int (nI (tLen a))), some (.int (nI (tLen b))), some (.int i), some (.int k), some (.int bs)], [], (zMg c0 c1 c2 c3 c4 c5 c6 c7 c8 c9 c10 c11 c12 c13 x0 x9 x10 x11 x12 x13 x15 x16 x17 x20 x21 x22 x23 x26 x28 x31 x32 x33 x38 x41 x44 x14 g15 g16 g17 g18 g19 g20 g21 g22 g23 g24 fa fb T g28 g29 g30 g31 g32 g33 g34 g35 g36 g37 g38 g39 g40 g41 g42 g43 g44 t), 0, 0) := by
          intro bs hbs
          refine hR (?_ : R (_, _, _, _, _, _))
          refine hR (And.intro (fun hc => absurd hc hil) (fun _ => ?_))
          refine hR (?_ : R (_, _, _, _, _, _))
          refine hR (And.intro (fun hc => absurd hc hkl) (fun _ => ?_))
          iterate 11 refine hR (?_ : R (_, _, _, _, _, _))
          refine hR (And.intro (by rw [x4]; exact nI_in (by omega) (by omega)) ?_)
          iterate 9 refine hR (?_ : R (_, _, _, _, _, _))
          refine hR (And.intro (by rw [x5]; exact nI_in (by omega) (by omega)) ?_)
          refine hR (zcall_i 0 0 (Nat.le_of_ble_eq_true rfl) (Nat.le_of_ble_eq_true rfl) (m_lesser_1 _ _ _ (eD (tW a) (tW b) i8 (k8 + 1)) (eD (tW a) (tW b) (i8 + 1) k8) v4 v5 (by omega) (by omega) _ _ ?_))
          refine hR (?_ : R (_, _, _, _, _, _))
          refine hR (zcall_i 0 0 (Nat.le_of_ble_eq_true rfl) (Nat.le_of_ble_eq_true rfl) (m_lesser_1 _ _ _ (eD (tW a) (tW b) i8 k8 + ed1 (tW a i8) (tW b k8)) (1 + min (eD (tW a) (tW b) i8 (k8 + 1)) (eD (tW a) (tW b) (i8 + 1) k8)) hbs (by rw [nI1, nI_add]) (by omega) (by omega) _ _ ?_))
          refine hR (?_ : R (_, _, _, _, _, _))
          exact fin _ (by rw [ei8, ek8, eD_s])
        refine hR (And.intro (fun _ => ?_) (fun hc => absurd hc hkn))
        iterate 11 refine hR (?_ : R (_, _, _, _, _, _))
        refine hR (And.intro (by rw [x1]; exact nI_in (by omega) (by omega)) ?_)
        iterate 5 refine hR (?_ : R (_, _, _, _, _, _))
        refine hR (And.intro (by rw [x2]; exact nI_in (by omega) (by omega)) ?_)
        iterate 5 refine hR (?_ : R (_, _, _, _, _, _))
        refine hR (And.intro (by rw [x3]; exact nI_in (by omega) (by omega)) ?_)
        have l1 : tW a i8 < 4 := Nat.mod_lt _ (by omega)
        have l2 : tW b k8 < 4 := Nat.mod_lt _ (by omega)
        refine hR (pk_eq (tW a i8) (tW b k8) (fun q => ?_) (fun q => ?_) v2 v3).symm
        · iterate 4 refine hR (?_ : R (_, _, _, _, _, _))
          exact rest _ (by rw [v1, nI0, nI_add, show ed1 (tW a i8) (tW b k8) = 0 from if_pos q])
        · iterate 3 refine hR (?_ : R (_, _, _, _, _, _))
          exact rest _ (by rw [v1, nI1, nI_add, show ed1 (tW a i8) (tW b k8) = 1 from if_neg q])
    have outer : ∀ (m9 i9 : Nat) (i : Int32) (T : Nat → Int32) (z6 z7 : Option Value), i9 + m9 = tLen a + 1 → i = nI i9 → (∀ i', i' < i9 → ∀ k', k' ≤ tLen b → T (7 * i' + k') = nI (eD (tW a) (tW b) i' k')) → R (30, [some (.ref 14), some (.int x), some (.int y), some (.int (nI (tLen a))), some (.int (nI (tLen b))), some (.int i), z6, z7], [], (zMg c0 c1 c2 c3 c4 c5 c6 c7 c8 c9 c10 c11 c12 c13 x0 x9 x10 x11 x12 x13 x15 x16 x17 x20 x21 x22 x23 x26 x28 x31 x32 x33 x38 x41 x44 x14 g15 g16 g17 g18 g19 g20 g21 g22 g23 g24 fa fb T g28 g29 g30 g31 g32 g33 g34 g35 g36 g37 g38 g39 g40 g41 g42 g43 g44 t), 0, 0) := by
      intro m9
      induction m9 with
      | zero =>
        intro i9 i T z6 z7 hi9 hi h1
        iterate 2 refine hR (?_ : R (_, _, _, _, _, _))
        refine hR (pk_lt (tLen a) i9 (fun _ => ?_) (fun z => by omega) rfl hi)
        have x1 : (Int8.ofInt 7).toInt32 * nI (tLen a) + nI (tLen b) = nI (7 * tLen a + tLen b) := by rw [nI7, pk_mul, nI_add]
        iterate 7 refine hR (?_ : R (_, _, _, _, _, _))
        refine hR (And.intro (by rw [x1]; exact nI_in (by omega) (by omega)) ?_)
        have h3 : ∀ z w, z = nI (eD (tW a) (tW b) (tLen a) (tLen b)) → Q (some (.int z)) w := fun z w hz => by rw [hz]; exact h w
        refine hR (zret_i rfl (Nat.le_refl _) trivial (h3 _ _ ?_))
        rw [x1, nI_clamp (by omega)]
        exact h1 (tLen a) (by omega) (tLen b) (by omega)
      | succ m9 ih =>
        intro i9 i T z6 z7 hi9 hi h1
        iterate 2 refine hR (?_ : R (_, _, _, _, _, _))
        refine hR (pk_lt (tLen a) i9 (fun z => by omega) (fun _ => ?_) rfl hi)
        iterate 2 refine hR (?_ : R (_, _, _, _, _, _))
        refine inner i9 i hi (by omega) ?_ (tLen b + 1) 0 _ T _ (by omega) nI0 h1 (fun k' hk' => by omega)
        intro T z6 z7 h5
        iterate 2 refine hR (?_ : R (_, _, _, _, _, _))
        exact ih (i9 + 1) _ T _ _ (by omega) (by rw [hi, nI1, nI_add]) (fun i' hi' k' hk' => h5 i' (by omega) k' hk')
    intro z6 z7
    exact outer (tLen a + 1) 0 _ g27 _ _ (by omega) nI0 (fun i' hi' => by omega)
  refine hR (?_ : R (_, _, _, _, _, _))
  refine hR (zcall_i 0 0 (Nat.le_of_ble_eq_true rfl) (Nat.le_of_ble_eq_true rfl) (m_sizeOf_1 _ _ a hx ha _ _ ?_))
  iterate 2 refine hR (?_ : R (_, _, _, _, _, _))
  refine hR (zcall_i 0 0 (Nat.le_of_ble_eq_true rfl) (Nat.le_of_ble_eq_true rfl) (m_sizeOf_1 _ _ b hy hb _ _ ?_))
  iterate 4 refine hR (?_ : R (_, _, _, _, _, _))
  refine hR (zcall_i 0 0 (Nat.le_of_ble_eq_true rfl) (Nat.le_of_ble_eq_true rfl) (m_spell25_1 _ _ a hx ha _ (fun fa hfa => ?_)))
  iterate 3 refine hR (?_ : R (_, _, _, _, _, _))
  refine hR (zcall_i 0 0 (Nat.le_of_ble_eq_true rfl) (Nat.le_of_ble_eq_true rfl) (m_spell26_1 _ _ b hy hb _ (fun fb hfb => ?_)))
  iterate 2 refine hR (?_ : R (_, _, _, _, _, _))
  exact main fa fb hfa hfb _ _
def vDrift (x y : Int32) : Int32 := if (x < 0 ∨ 5461 ≤ x) ∨ (y < 0 ∨ 5461 ≤ y) then Int32.ofInt (-1) else nI (eD (tW x.toNatClampNeg) (tW y.toNatClampNeg) (tLen x.toNatClampNeg) (tLen y.toNatClampNeg))
theorem ed_cong {u u' v v' : Nat → Nat} {n m : Nat} (hu : ∀ i, i < n → u i = u' i) (hv : ∀ i, i < m → v i = v' i) : eD u v n m = eD u' v' n m := by
  have key : ∀ (f g : Nat → Nat) (n : Nat), (∀ i, i < n → f i = g i) → rl f n = rl g n := by
    intro f g n
    induction n with
    | zero => intro _; rfl
    | succ n ih => intro hh; show f n :: rl f n = g n :: rl g n; rw [hh n (by omega), ih (fun i hi => hh i (by omega))]
  unfold eD
  rw [key u u' n hu, key v v' m hv]
theorem ue_eD (a b : Nat) : eD (ue a) (ue b) (tLen a) (tLen b) = eD (tW a) (tW b) (tLen a) (tLen b) := by
  rw [← eD_rev (tW a) (tW b) (tLen a) (tLen b)]
  refine ed_cong (fun i hi => ?_) (fun i hi => ?_)
  · have h := tB_w a (tLen a - 1 - i) (by omega)
    rw [show tLen a - 1 - (tLen a - 1 - i) = i by omega] at h
    exact h
  · have h := tB_w b (tLen b - 1 - i) (by omega)
    rw [show tLen b - 1 - (tLen b - 1 - i) = i by omega] at h
    exact h
theorem vDrift_in {x y : Int32} {a b : Nat} (hx : x = nI a) (ha : a < 5461) (hy : y = nI b) (hb : b < 5461) (p0 : ¬ x < 0) (p1 : x < 5461) (q0 : ¬ y < 0) (q1 : y < 5461) : vDrift x y = nI (eD (tW a) (tW b) (tLen a) (tLen b)) := by
  unfold vDrift
  rw [if_neg (fun z => z.elim (fun z => z.elim p0 (fun z => absurd p1 (Int32.not_lt.mpr z))) (fun z => z.elim q0 (fun z => absurd q1 (Int32.not_lt.mpr z)))), hx, hy, nI_clamp (by omega), nI_clamp (by omega)]
theorem r_drift (d : Nat) (x y : Int32) (t : zW) (Q : zQ) (h : Q (some (.int (vDrift x y))) t) : zCl zTab (d + 4) iX11_drift [.ref 0, .int x, .int y] t 0 0 Q := by
  have h3 : ∀ z, z = vDrift x y → Q (some (.int z)) t := fun z hz => by rw [hz]; exact h
  refine zCl_i (M := kX11_drift) rfl (Nat.le_of_ble_eq_true rfl) fun R hR => ?_
  refine hR (?_ : R (_, _, _, _, _, _))
  refine hR (zcall_i 0 0 (Nat.le_of_ble_eq_true rfl) (Nat.le_of_ble_eq_true rfl) (r_isText _ _ _ _ (fun p0 p1 => ?_) (fun q => ?_)))
  · refine hR (And.intro (fun hc => absurd hc (by decide)) (fun _ => ?_))
    refine hR (?_ : R (_, _, _, _, _, _))
    refine hR (zcall_i 0 0 (Nat.le_of_ble_eq_true rfl) (Nat.le_of_ble_eq_true rfl) (r_isText _ _ _ _ (fun q0 q1 => ?_) (fun q => ?_)))
    · obtain ⟨a, ha, hx⟩ := t_of p0 p1
      obtain ⟨b, hb, hy⟩ := t_of q0 q1
      refine hR (And.intro (fun hc => absurd hc (by decide)) (fun _ => ?_))
      iterate 2 refine hR (?_ : R (_, _, _, _, _, _))
      refine hR (zcall_i 0 0 (Nat.le_of_ble_eq_true rfl) (Nat.le_of_ble_eq_true rfl) (r_driftOf _ _ _ a b hx ha hy hb _ _ ?_))
      refine hR (?_ : R (_, _, _, _, _, _))
      exact hR (zret_i rfl (Nat.le_refl _) trivial (h3 _ (by rw [vDrift_in hx ha hy hb p0 p1 q0 q1, ue_eD])))
    · refine hR (And.intro (fun _ => ?_) (fun hc => absurd (by decide) hc))
      refine hR (?_ : R (_, _, _, _, _, _))
      exact hR (zret_i rfl (Nat.le_refl _) trivial (h3 _ (by unfold vDrift; rw [if_pos (Or.inr q)])))
  · refine hR (And.intro (fun _ => ?_) (fun hc => absurd (by decide) hc))
    refine hR (?_ : R (_, _, _, _, _, _))
    exact hR (zret_i rfl (Nat.le_refl _) trivial (h3 _ (by unfold vDrift; rw [if_pos (Or.inl q)])))
theorem m_drift_1 {c0 c1 c2 c3 c4 c5 c6 c7 c8 c9 c10 c11 c12 c13 : va_E} {x0 x9 x10 x11 x12 x13 x15 x16 x17 x20 x21 x22 x23 x26 x28 x31 x32 x33 x38 x41 x44 : Int32} {x14 : Int64} {g15 g16 g17 g18 g19 g20 g21 g22 g23 g24 g25 g26 g27 g28 g29 g30 g31 g32 g33 g34 g35 g36 g37 g38 g39 g40 g41 g42 g43 g44 : Nat → Int32} {t : zW} (d : Nat) (x y : Int32) (Q : zQ) (h : ∀ w, Q (some (.int (vDrift x y))) w) : zCl zTab (d + 5) iX12_drift [.ref 14, .int x, .int y] (zMg c0 c1 c2 c3 c4 c5 c6 c7 c8 c9 c10 c11 c12 c13 x0 x9 x10 x11 x12 x13 x15 x16 x17 x20 x21 x22 x23 x26 x28 x31 x32 x33 x38 x41 x44 x14 g15 g16 g17 g18 g19 g20 g21 g22 g23 g24 g25 g26 g27 g28 g29 g30 g31 g32 g33 g34 g35 g36 g37 g38 g39 g40 g41 g42 g43 g44 t) 0 0 Q := by
  have h3 : ∀ z w, z = vDrift x y → Q (some (.int z)) w := fun z w hz => by rw [hz]; exact h w
  refine zCl_i (M := kX12_drift) rfl (Nat.le_of_ble_eq_true rfl) fun R hR => ?_
  iterate 4 refine hR (?_ : R (_, _, _, _, _, _))
  refine hR (zcall_i 0 0 (Nat.le_of_ble_eq_true rfl) (Nat.le_of_ble_eq_true rfl) (m_isText_1 _ _ _ _ (fun p0 p1 => ?_) (fun q => ?_)))
  · refine hR (And.intro (fun hc => absurd hc (by decide)) (fun _ => ?_))
    refine hR (?_ : R (_, _, _, _, _, _))
    refine hR (zcall_i 0 0 (Nat.le_of_ble_eq_true rfl) (Nat.le_of_ble_eq_true rfl) (m_isText_1 _ _ _ _ (fun q0 q1 => ?_) (fun q => ?_)))
    · obtain ⟨a, ha, hx⟩ := t_of p0 p1
      obtain ⟨b, hb, hy⟩ := t_of q0 q1
      refine hR (And.intro (fun hc => absurd hc (by decide)) (fun _ => ?_))
      iterate 3 refine hR (?_ : R (_, _, _, _, _, _))
      refine hR (zcall_i 0 0 (Nat.le_of_ble_eq_true rfl) (Nat.le_of_ble_eq_true rfl) (m_apart_1 _ _ _ a b hx ha hy hb _ (fun _ => ?_)))
      refine hR (?_ : R (_, _, _, _, _, _))
      exact hR (zret_i rfl (Nat.le_refl _) trivial (h3 _ _ (by rw [vDrift_in hx ha hy hb p0 p1 q0 q1])))
    · refine hR (And.intro (fun _ => ?_) (fun hc => absurd (by decide) hc))
      refine hR (?_ : R (_, _, _, _, _, _))
      exact hR (zret_i rfl (Nat.le_refl _) trivial (h3 _ _ (by unfold vDrift; rw [if_pos (Or.inr q)])))
  · refine hR (And.intro (fun _ => ?_) (fun hc => absurd (by decide) hc))
    refine hR (?_ : R (_, _, _, _, _, _))
    exact hR (zret_i rfl (Nat.le_refl _) trivial (h3 _ _ (by unfold vDrift; rw [if_pos (Or.inl q)])))
def num (l : List Nat) : Nat := l.foldl (fun t w => 4 * t + 1 + w) 0
theorem num_snoc (l : List Nat) (w : Nat) : num (l ++ [w]) = 4 * num l + 1 + w := by unfold num; rw [List.foldl_append]; rfl
theorem tSh_4 : ∀ j, j < 8 → tSh (j + 1) = 4 * tSh j + 1 := by decide +kernel
theorem tLen_of {t n : Nat} (hn : n ≤ 6) (h1 : tSh n ≤ t) (h2 : t < tSh (n + 1)) : tLen t = n ∧ t < 5461 := by
  obtain ⟨e0, e1, e2, e3, e4, e5, e6, e7⟩ := tSh_v
  have hc : n = 0 ∨ n = 1 ∨ n = 2 ∨ n = 3 ∨ n = 4 ∨ n = 5 ∨ n = 6 := by omega
  have ht : t < 5461 := by
    rcases hc with rfl | rfl | rfl | rfl | rfl | rfl | rfl <;> simp only [e0, e1, e2, e3, e4, e5, e6, e7] at h1 h2 <;> omega
  refine ⟨?_, ht⟩
  rcases tLen_v t ht with ⟨h3, h⟩ | ⟨h3, h4, h⟩ | ⟨h3, h4, h⟩ | ⟨h3, h4, h⟩ | ⟨h3, h4, h⟩ | ⟨h3, h4, h⟩ | ⟨h3, h⟩ <;> rw [h] <;> rcases hc with rfl | rfl | rfl | rfl | rfl | rfl | rfl <;> simp only [e0, e1, e2, e3, e4, e5, e6, e7] at h1 h2 <;> omega
theorem numP : ∀ (n : Nat) (l : List Nat), l.length = n → n ≤ 6 → (∀ x ∈ l, x < 4) → (tSh n ≤ num l ∧ num l < tSh (n + 1)) ∧ ∀ k, k < n → (num l - tSh n) / 4 ^ (n - 1 - k) % 4 = l.getD k 0
  | 0, l, hl, _, _ => by
    have : l = [] := List.length_eq_zero_iff.mp hl
    subst this
    exact ⟨by decide, fun k hk => absurd hk (Nat.not_lt_zero _)⟩
  | n + 1, l, hl, hn, hx => by
    rcases List.eq_nil_or_concat l with rfl | ⟨L, w, rfl⟩
    · simp at hl
    · rw [List.concat_eq_append] at hl hx ⊢
      have hL : L.length = n := by rw [List.length_append] at hl; simpa using hl
      have hw : w < 4 := hx w (by simp)
      obtain ⟨⟨p1, p2⟩, p3⟩ := numP n L hL (by omega) (fun x h => hx x (by simp [h]))
      have e1 := tSh_4 n (by omega)
      have e2 := tSh_4 (n + 1) (by omega)
      rw [num_snoc]
      refine ⟨by omega, fun k hk => ?_⟩
      have e3 : 4 * num L + 1 + w - tSh (n + 1) = 4 * (num L - tSh n) + w := by omega
      rw [e3]
      by_cases hkn : k = n
      · subst hkn
        rw [show k + 1 - 1 - k = 0 by omega, Nat.pow_zero, Nat.div_one]
        have e4 : (L ++ [w]).getD k 0 = w := by
          rw [List.getD_eq_getElem?_getD, List.getElem?_append_right (by omega), hL, Nat.sub_self]
          rfl
        rw [e4]
        omega
      · have e4 : (L ++ [w]).getD k 0 = L.getD k 0 := by
          rw [List.getD_eq_getElem?_getD, List.getD_eq_getElem?_getD, List.getElem?_append_left (by omega)]
        rw [e4, ← p3 k (by omega), show n + 1 - 1 - k = (n - 1 - k) + 1 by omega, Nat.pow_succ', ← Nat.div_div_eq_div_mul, show (4 * (num L - tSh n) + w) / 4 = num L - tSh n by omega]
theorem num_t (l : List Nat) (hl : l.length ≤ 6) (hx : ∀ x ∈ l, x < 4) : tLen (num l) = l.length ∧ num l < 5461 ∧ ∀ k, k < l.length → tW (num l) k = l.getD k 0 := by
  obtain ⟨⟨p1, p2⟩, p3⟩ := numP l.length l rfl hl hx
  obtain ⟨q1, q2⟩ := tLen_of hl p1 p2
  refine ⟨q1, q2, fun k hk => ?_⟩
  rw [← p3 k hk]
  unfold tW tF
  rw [q1]
theorem num_inj {l l' : List Nat} (hl : l.length ≤ 6) (hx : ∀ x ∈ l, x < 4) (hl' : l'.length ≤ 6) (hx' : ∀ x ∈ l', x < 4) (h : num l = num l') : l = l' := by
  obtain ⟨a1, -, a3⟩ := num_t l hl hx
  obtain ⟨b1, -, b3⟩ := num_t l' hl' hx'
  have hlen : l.length = l'.length := by rw [← a1, ← b1, h]
  apply List.ext_getElem hlen
  intro k h1 h2
  have e1 := a3 k h1
  have e2 := b3 k h2
  rw [h] at e1
  rw [e1, List.getD_eq_getElem?_getD, List.getD_eq_getElem?_getD, List.getElem?_eq_getElem h1, List.getElem?_eq_getElem h2] at e2
  exact e2
def pick (u : Nat → Nat) (s : Nat) : Nat → List Nat
  | 0 => []
  | k + 1 => if s / 2 ^ k % 2 = 1 then pick u s k ++ [u k] else pick u s k
theorem pick_1 {u : Nat → Nat} {s k : Nat} (h : s / 2 ^ k % 2 = 1) : pick u s (k + 1) = pick u s k ++ [u k] := if_pos h
theorem pick_0 {u : Nat → Nat} {s k : Nat} (h : ¬ s / 2 ^ k % 2 = 1) : pick u s (k + 1) = pick u s k := if_neg h
theorem pick_len (u : Nat → Nat) (s : Nat) : ∀ k, (pick u s k).length ≤ k
  | 0 => Nat.le_refl _
  | k + 1 => by
    have h := pick_len u s k
    by_cases hb : s / 2 ^ k % 2 = 1
    · rw [pick_1 hb, List.length_append, List.length_singleton]; omega
    · rw [pick_0 hb]; omega
theorem pick_lt {u : Nat → Nat} (hu : ∀ i, u i < 4) (s : Nat) : ∀ k, ∀ x ∈ pick u s k, x < 4
  | 0, x, h => absurd h List.not_mem_nil
  | k + 1, x, h => by
    by_cases hb : s / 2 ^ k % 2 = 1
    · rw [pick_1 hb] at h
      rcases List.mem_append.mp h with h | h
      · exact pick_lt hu s k x h
      · rw [List.mem_singleton.mp h]; exact hu k
    · rw [pick_0 hb] at h
      exact pick_lt hu s k x h
theorem pick_cong {u : Nat → Nat} {s s' : Nat} : ∀ k, (∀ j, j < k → s / 2 ^ j % 2 = s' / 2 ^ j % 2) → pick u s k = pick u s' k
  | 0, _ => rfl
  | k + 1, h => by
    have h1 := pick_cong (u := u) k (fun j hj => h j (by omega))
    have h2 := h k (by omega)
    by_cases hb : s / 2 ^ k % 2 = 1
    · rw [pick_1 hb, pick_1 (by rw [← h2]; exact hb), h1]
    · rw [pick_0 hb, pick_0 (by rw [← h2]; exact hb), h1]
theorem pick_pre (u : Nat → Nat) (s : Nat) (j : Nat) : ∀ k, j ≤ k → ∃ l, pick u s k = pick u s j ++ l
  | 0, h => ⟨[], by rw [show j = 0 by omega]; rfl⟩
  | k + 1, h => by
    by_cases hj : j = k + 1
    · exact ⟨[], by rw [hj, List.append_nil]⟩
    · obtain ⟨l, hl⟩ := pick_pre u s j k (by omega)
      by_cases hb : s / 2 ^ k % 2 = 1
      · exact ⟨l ++ [u k], by rw [pick_1 hb, hl, List.append_assoc]⟩
      · exact ⟨l, by rw [pick_0 hb, hl]⟩
def fnd (u : Nat → Nat) (l : List Nat) : Nat → Nat
  | 0 => 0
  | k + 1 => if fnd u l k < l.length ∧ u k = l.getD (fnd u l k) 0 then fnd u l k + 1 else fnd u l k
theorem fnd_le (u : Nat → Nat) (l : List Nat) : ∀ k, fnd u l k ≤ l.length
  | 0 => Nat.zero_le _
  | k + 1 => by
    have h := fnd_le u l k
    unfold fnd
    split <;> omega
theorem fnd_pick (u : Nat → Nat) (l : List Nat) : ∀ k, ∃ s, s < 2 ^ k ∧ pick u s k = l.take (fnd u l k)
  | 0 => ⟨0, by decide, by simp [pick, fnd]⟩
  | k + 1 => by
    obtain ⟨s, hs, hp⟩ := fnd_pick u l k
    have h2 : 2 ^ (k + 1) = 2 * 2 ^ k := Nat.pow_succ'
    by_cases hc : fnd u l k < l.length ∧ u k = l.getD (fnd u l k) 0
    · have e : fnd u l (k + 1) = fnd u l k + 1 := if_pos hc
      have hbit : (s + 2 ^ k) / 2 ^ k % 2 = 1 := by
        rw [Nat.add_div_right _ (Nat.two_pow_pos k), Nat.div_eq_of_lt hs]
      refine ⟨s + 2 ^ k, by omega, ?_⟩
      rw [pick_1 hbit, pick_cong (s' := s) k (fun j hj => ?_), hp, e, List.take_add_one, hc.2]
      · have hc1 := hc.1
        have e5 : l.getD (fnd u l k) 0 = l[fnd u l k] := by rw [List.getD_eq_getElem?_getD, List.getElem?_eq_getElem hc1]; rfl
        rw [List.getElem?_eq_getElem hc1]
        exact congrArg (fun z => List.take (fnd u l k) l ++ [z]) e5
      · have e3 : 2 ^ k = 2 ^ j * (2 * 2 ^ (k - j - 1)) := by
          rw [← Nat.pow_succ', ← Nat.pow_add]
          congr 1
          omega
        rw [e3, Nat.add_mul_div_left _ _ (Nat.two_pow_pos j), Nat.add_mul_mod_self_left]
    · have e : fnd u l (k + 1) = fnd u l k := if_neg hc
      have hbit : ¬ s / 2 ^ k % 2 = 1 := by rw [Nat.div_eq_of_lt hs]; decide
      exact ⟨s, by omega, by rw [pick_0 hbit, e]; exact hp⟩
theorem pick_fnd (u : Nat → Nat) (s m : Nat) : ∀ k, k ≤ m → (pick u s k).length ≤ fnd u (pick u s m) k
  | 0, _ => Nat.zero_le _
  | k + 1, hk => by
    have h := pick_fnd u s m k (by omega)
    have hmono : fnd u (pick u s m) k ≤ fnd u (pick u s m) (k + 1) := by
      conv => rhs; unfold fnd
      split
      · exact Nat.le_succ _
      · exact Nat.le_refl _
    by_cases hb : s / 2 ^ k % 2 = 1
    · obtain ⟨r, hr⟩ := pick_pre u s (k + 1) m hk
      rw [pick_1 hb] at hr ⊢
      rw [List.length_append, List.length_singleton]
      by_cases hq : (pick u s k).length < fnd u (pick u s m) k
      · omega
      · have he : fnd u (pick u s m) k = (pick u s k).length := by omega
        have hget : (pick u s m).getD (pick u s k).length 0 = u k := by
          rw [hr, List.getD_eq_getElem?_getD, List.append_assoc, List.getElem?_append_right (Nat.le_refl _), Nat.sub_self]
          rfl
        have hlt : (pick u s k).length < (pick u s m).length := by
          rw [hr]
          simp
        have : fnd u (pick u s m) (k + 1) = fnd u (pick u s m) k + 1 := if_pos ⟨by rw [he]; exact hlt, by rw [he, hget]⟩
        omega
    · rw [pick_0 hb]
      omega
def isL (u : Nat → Nat) (m t : Nat) : Prop := ∃ s, s < 2 ^ m ∧ num (pick u s m) = t
theorem isL_fnd {u : Nat → Nat} (hu : ∀ i, u i < 4) {m : Nat} (hm : m ≤ 6) {l : List Nat} (hl : l.length ≤ 6) (hx : ∀ x ∈ l, x < 4) : isL u m (num l) ↔ fnd u l m = l.length := by
  constructor
  · rintro ⟨s, hs, hn⟩
    have e := num_inj (Nat.le_trans (pick_len u s m) hm) (pick_lt hu s m) hl hx hn
    have h1 := pick_fnd u s m m (Nat.le_refl _)
    rw [e] at h1
    have h2 := fnd_le u l m
    omega
  · intro h
    obtain ⟨s, hs, hp⟩ := fnd_pick u l m
    exact ⟨s, hs, by rw [hp, h, List.take_length]⟩
theorem tW_lt (t : Nat) : ∀ i, tW t i < 4 := fun i => Nat.mod_lt _ (by omega)
def btr (t b : Nat) : Prop := tLen b < tLen t ∨ (tLen t = tLen b ∧ t < b)
noncomputable def bst (u v : Nat → Nat) (n m : Nat) : Nat → Nat
  | 0 => 0
  | s + 1 => @ite Nat (btr (num (pick u s n)) (bst u v n m s) ∧ isL v m (num (pick u s n))) (Classical.propDecidable _) (num (pick u s n)) (bst u v n m s)
theorem bst_lt {u v : Nat → Nat} (hu : ∀ i, u i < 4) {n m : Nat} (hn : n ≤ 6) : ∀ s, bst u v n m s < 5461
  | 0 => by show 0 < 5461; omega
  | s + 1 => by
    have h := bst_lt (v := v) (m := m) hu hn s
    have h2 := (num_t (pick u s n) (Nat.le_trans (pick_len u s n) hn) (pick_lt hu s n)).2.1
    unfold bst
    split
    · exact h2
    · exact h
theorem bst_y {u v : Nat → Nat} {n m s : Nat} (h1 : btr (num (pick u s n)) (bst u v n m s)) (h2 : isL v m (num (pick u s n))) : bst u v n m (s + 1) = num (pick u s n) := if_pos ⟨h1, h2⟩
theorem bst_n {u v : Nat → Nat} {n m s : Nat} (h : ¬ (btr (num (pick u s n)) (bst u v n m s) ∧ isL v m (num (pick u s n)))) : bst u v n m (s + 1) = bst u v n m s := if_neg h
theorem s_sm : ∀ n, n < 32 → ((nI n &&& 31).toBitVec.smod 32).toNat = n := by decide +kernel
theorem s_2p : ∀ n, n < 7 → Int32.ofInt 1 <<< (nI n &&& 31) = nI (2 ^ n) ∧ 2 ^ n ≤ 64 := by decide +kernel
theorem r_longer (d : Nat) (x y : Int32) (t v : Nat) (hx : x = nI t) (hy : y = nI v) (w : zW) (Q : zQ) (h : Q (some (.int (nI (4 * t + 1 + v)))) w) : zCl zTab (d + 1) iX11_longer [.int x, .int y] w 0 0 Q := by
  have h3 : ∀ z, z = nI (4 * t + 1 + v) → Q (some (.int z)) w := fun z hz => by rw [hz]; exact h
  refine zCl_i (M := kX11_longer) rfl (Nat.le_of_ble_eq_true rfl) fun R hR => ?_
  iterate 7 refine hR (?_ : R (_, _, _, _, _, _))
  exact hR (zret_i rfl (Nat.le_refl _) trivial (h3 _ (by rw [nI4, nI1, hx, hy, pk_mul, nI_add, nI_add])))
theorem s_bit {s k : Nat} (hs : s < 2 ^ 31) (hk : k < 32) : (nI s >>> (nI k &&& 31)) &&& Int32.ofInt 1 = nI (s / 2 ^ k % 2) := by
  rw [pk_shrN hs _ k (s_sm k hk), pk_andN (Nat.lt_of_le_of_lt (Nat.div_le_self _ _) (by omega)) 1 (by decide)]
theorem r_isIn (d : Nat) (x y : Int32) (s k : Nat) (hx : x = nI s) (hs : s < 2 ^ 31) (hy : y = nI k) (hk : k < 32) (w : zW) (Q : zQ) (h1 : s / 2 ^ k % 2 = 1 → Q (some (.int (Int32.ofInt 1))) w) (h0 : ¬ s / 2 ^ k % 2 = 1 → Q (some (.int (Int32.ofInt 0))) w) : zCl zTab (d + 1) iX11_isIn [.int x, .int y] w 0 0 Q := by
  refine zCl_i (M := kX11_isIn) rfl (Nat.le_of_ble_eq_true rfl) fun R hR => ?_
  have e : (x >>> (y &&& 31)) &&& Int32.ofInt 1 = nI (s / 2 ^ k % 2) := by rw [hx, hy, s_bit hs hk]
  have hl : s / 2 ^ k % 2 < 2 := Nat.mod_lt _ (by omega)
  iterate 5 refine hR (?_ : R (_, _, _, _, _, _))
  refine hR (pk_eq (s / 2 ^ k % 2) 0 (fun q => ?_) (fun q => ?_) e rfl)
  · refine hR (?_ : R (_, _, _, _, _, _))
    exact hR (zret_i rfl (Nat.le_refl _) (Or.inl rfl) (h0 (by omega)))
  · iterate 2 refine hR (?_ : R (_, _, _, _, _, _))
    exact hR (zret_i rfl (Nat.le_refl _) (Or.inr rfl) (h1 (by omega)))
theorem fnd_full (u : Nat → Nat) (l : List Nat) (k : Nat) (h : fnd u l k = l.length) : ∀ m, k ≤ m → fnd u l m = l.length
  | 0, hm => by rw [show k = 0 by omega] at h; exact h
  | m + 1, hm => by
    by_cases hk : k = m + 1
    · rw [← hk]; exact h
    · have h2 := fnd_full u l k h m (by omega)
      have e : fnd u l (m + 1) = fnd u l m := if_neg (fun q => by omega)
      omega
set_option maxHeartbeats 2000000 in
theorem r_isLeftOf (d : Nat) (x y : Int32) (l : List Nat) (b : Nat) (hx : x = nI (num l)) (hl : l.length ≤ 6) (hd : ∀ z ∈ l, z < 4) (hy : y = nI b) (hb : b < 5461) (w : zW) (Q : zQ) (h1 : isL (tW b) (tLen b) (num l) → Q (some (.int (Int32.ofInt 1))) w) (h0 : ¬ isL (tW b) (tLen b) (num l) → Q (some (.int (Int32.ofInt 0))) w) : zCl zTab (d + 4) iX11_isLeftOf [.int x, .int y] w 0 0 Q := by
  obtain ⟨n1, n2, n3⟩ := num_t l hl hd
  have hm := tLen_le b
  have hiff := isL_fnd (tW_lt b) hm hl hd
  refine zCl_i (M := kX11_isLeftOf) rfl (Nat.le_of_ble_eq_true rfl) fun R hR => ?_
  have fin : ∀ (f k : Int32) (f9 : Nat), f = nI f9 → f9 ≤ l.length → (f9 = l.length ↔ fnd (tW b) l (tLen b) = l.length) → R (52, [some (.int x), some (.int y), some (.int (nI (tLen (num l)))), some (.int (nI (tLen b))), some (.int f), some (.int k)], [], w, 0, 0) := by
    intro f k f9 hf hf9 he
    iterate 2 refine hR (?_ : R (_, _, _, _, _, _))
    refine hR (pk_eq f9 (tLen (num l)) (fun q => ?_) (fun q => ?_) hf rfl).symm
    · iterate 2 refine hR (?_ : R (_, _, _, _, _, _))
      exact hR (zret_i rfl (Nat.le_refl _) (Or.inr rfl) (h1 (hiff.mpr (he.mp (by omega)))))
    · refine hR (?_ : R (_, _, _, _, _, _))
      exact hR (zret_i rfl (Nat.le_refl _) (Or.inl rfl) (h0 (fun z => q (by have := he.mpr (hiff.mp z); omega))))
  have loop : ∀ (m9 k9 : Nat) (f k : Int32), k9 + m9 = tLen b → f = nI (fnd (tW b) l k9) → k = nI k9 → R (16, [some (.int x), some (.int y), some (.int (nI (tLen (num l)))), some (.int (nI (tLen b))), some (.int f), some (.int k)], [], w, 0, 0) := by
    intro m9
    induction m9 with
    | zero =>
      intro k9 f k hk9 hf hk
      iterate 2 refine hR (?_ : R (_, _, _, _, _, _))
      refine hR (pk_le (tLen b) k9 (fun _ => ?_) (fun z => by omega) rfl hk)
      exact fin f k _ hf (fnd_le _ _ _) (by rw [show k9 = tLen b by omega])
    | succ m9 ih =>
      intro k9 f k hk9 hf hk
      have hfl := fnd_le (tW b) l k9
      iterate 2 refine hR (?_ : R (_, _, _, _, _, _))
      refine hR (pk_le (tLen b) k9 (fun z => by omega) (fun _ => ?_) rfl hk)
      iterate 2 refine hR (?_ : R (_, _, _, _, _, _))
      refine hR (pk_le (tLen (num l)) (fnd (tW b) l k9) (fun q => ?_) (fun q => ?_) rfl hf)
      · have he : fnd (tW b) l k9 = l.length := by omega
        exact fin f k _ hf hfl ⟨fun _ => fnd_full _ _ _ he _ (by omega), fun _ => he⟩
      · iterate 2 refine hR (?_ : R (_, _, _, _, _, _))
        refine hR (zcall_i 0 0 (Nat.le_of_ble_eq_true rfl) (Nat.le_of_ble_eq_true rfl) (r_wordAt _ _ _ b k9 hy hb hk (by omega) _ _ ?_))
        iterate 2 refine hR (?_ : R (_, _, _, _, _, _))
        refine hR (zcall_i 0 0 (Nat.le_of_ble_eq_true rfl) (Nat.le_of_ble_eq_true rfl) (r_wordAt _ _ _ (num l) (fnd (tW b) l k9) hx n2 hf (by omega) _ _ ?_))
        have g1 := tW_lt b k9
        have g2 := tW_lt (num l) (fnd (tW b) l k9)
        have g3 := n3 (fnd (tW b) l k9) (by omega)
        refine hR (pk_eq (tW b k9) (tW (num l) (fnd (tW b) l k9)) (fun q2 => ?_) (fun q2 => ?_) rfl rfl).symm
        · iterate 3 refine hR (?_ : R (_, _, _, _, _, _))
          have e : fnd (tW b) l (k9 + 1) = fnd (tW b) l k9 + 1 := if_pos ⟨by omega, by rw [q2, g3]⟩
          exact ih (k9 + 1) _ _ (by omega) (by rw [hf, nI1, nI_add, e]) (by rw [hk, nI1, nI_add])
        · iterate 2 refine hR (?_ : R (_, _, _, _, _, _))
          have e : fnd (tW b) l (k9 + 1) = fnd (tW b) l k9 := if_neg (fun z => q2 (by rw [z.2, g3]))
          exact ih (k9 + 1) _ _ (by omega) (by rw [hf, e]) (by rw [hk, nI1, nI_add])
  refine hR (?_ : R (_, _, _, _, _, _))
  refine hR (zcall_i 0 0 (Nat.le_of_ble_eq_true rfl) (Nat.le_of_ble_eq_true rfl) (r_lengthOf _ _ (num l) hx n2 _ _ ?_))
  iterate 2 refine hR (?_ : R (_, _, _, _, _, _))
  refine hR (zcall_i 0 0 (Nat.le_of_ble_eq_true rfl) (Nat.le_of_ble_eq_true rfl) (r_lengthOf _ _ b hy hb _ _ ?_))
  iterate 5 refine hR (?_ : R (_, _, _, _, _, _))
  exact loop (tLen b) 0 _ _ (by omega) nI0 nI0
set_option maxHeartbeats 4000000 in
theorem r_mostShared (d : Nat) (x y : Int32) (a b : Nat) (hx : x = nI a) (ha : a < 5461) (hy : y = nI b) (hb : b < 5461) (w : zW) (Q : zQ) (h : Q (some (.int (nI (bst (tW a) (tW b) (tLen a) (tLen b) (2 ^ tLen a))))) w) : zCl zTab (d + 5) iX11_mostShared [.int x, .int y] w 0 0 Q := by
  have hn := tLen_le a
  have h2p := s_2p (tLen a) (by omega)
  refine zCl_i (M := kX11_mostShared) rfl (Nat.le_of_ble_eq_true rfl) fun R hR => ?_
  have loop : ∀ (m9 s9 : Nat) (be ke : Int32) (z5 z6 : Option Value), s9 + m9 = 2 ^ tLen a → be = nI (bst (tW a) (tW b) (tLen a) (tLen b) s9) → ke = nI s9 → R (10, [some (.int x), some (.int y), some (.int (nI (tLen a))), some (.int be), some (.int ke), z5, z6], [], w, 0, 0) := by
    intro m9
    induction m9 with
    | zero =>
      intro s9 be ke z5 z6 hs hbe hke
      iterate 4 refine hR (?_ : R (_, _, _, _, _, _))
      refine hR (pk_le (2 ^ tLen a) s9 (fun _ => ?_) (fun z => by omega) h2p.1 hke)
      refine hR (?_ : R (_, _, _, _, _, _))
      have h3 : ∀ z, z = nI (bst (tW a) (tW b) (tLen a) (tLen b) (2 ^ tLen a)) → Q (some (.int z)) w := fun z hz => by rw [hz]; exact h
      exact hR (zret_i rfl (Nat.le_refl _) trivial (h3 _ (by rw [hbe, show s9 = 2 ^ tLen a by omega])))
    | succ m9 ih =>
      intro s9 be ke z5 z6 hs hbe hke
      have hpl := pick_len (tW a) s9 (tLen a)
      have hpx := pick_lt (tW_lt a) s9 (tLen a)
      obtain ⟨n1, n2, n3⟩ := num_t (pick (tW a) s9 (tLen a)) (by omega) hpx
      have hbl := bst_lt (v := tW b) (m := tLen b) (tW_lt a) hn s9
      have hb6 := tLen_le (bst (tW a) (tW b) (tLen a) (tLen b) s9)
      have ht6 := tLen_le (num (pick (tW a) s9 (tLen a)))
      have cont : ∀ (bs lf k : Int32), bs = nI (bst (tW a) (tW b) (tLen a) (tLen b) (s9 + 1)) → R (99, [some (.int x), some (.int y), some (.int (nI (tLen a))), some (.int bs), some (.int ke), some (.int lf), some (.int k)], [], w, 0, 0) := by
        intro bs lf k hbs
        iterate 2 refine hR (?_ : R (_, _, _, _, _, _))
        exact ih (s9 + 1) _ _ _ _ (by omega) hbs (by rw [hke, nI1, nI_add])
      have test : ∀ (lf k : Int32), lf = nI (num (pick (tW a) s9 (tLen a))) → btr (num (pick (tW a) s9 (tLen a))) (bst (tW a) (tW b) (tLen a) (tLen b) s9) → R (87, [some (.int x), some (.int y), some (.int (nI (tLen a))), some (.int be), some (.int ke), some (.int lf), some (.int k)], [], w, 0, 0) := by
        intro lf k hlf hbt
        iterate 2 refine hR (?_ : R (_, _, _, _, _, _))
        refine hR (zcall_i 0 0 (Nat.le_of_ble_eq_true rfl) (Nat.le_of_ble_eq_true rfl) (r_isLeftOf _ _ _ (pick (tW a) s9 (tLen a)) b hlf (by omega) hpx hy hb _ _ (fun q => ?_) (fun q => ?_)))
        · refine hR (And.intro (fun hc => absurd hc (by decide)) (fun _ => ?_))
          iterate 2 refine hR (?_ : R (_, _, _, _, _, _))
          exact cont _ _ _ (by rw [hlf, bst_y hbt q])
        · refine hR (And.intro (fun _ => ?_) (fun hc => absurd (by decide) hc))
          exact cont _ _ _ (by rw [hbe, bst_n (fun z => q z.2)])
      have after : ∀ (lf k : Int32), lf = nI (num (pick (tW a) s9 (tLen a))) → R (59, [some (.int x), some (.int y), some (.int (nI (tLen a))), some (.int be), some (.int ke), some (.int lf), some (.int k)], [], w, 0, 0) := by
        intro lf k hlf
        refine hR (?_ : R (_, _, _, _, _, _))
        refine hR (zcall_i 0 0 (Nat.le_of_ble_eq_true rfl) (Nat.le_of_ble_eq_true rfl) (r_lengthOf _ _ (num (pick (tW a) s9 (tLen a))) hlf n2 _ _ ?_))
        refine hR (?_ : R (_, _, _, _, _, _))
        refine hR (zcall_i 0 0 (Nat.le_of_ble_eq_true rfl) (Nat.le_of_ble_eq_true rfl) (r_lengthOf _ _ (bst (tW a) (tW b) (tLen a) (tLen b) s9) hbe hbl _ _ ?_))
        have ed9 : (nI (tLen (num (pick (tW a) s9 (tLen a)))) - nI (tLen (bst (tW a) (tW b) (tLen a) (tLen b) s9))).toInt = (tLen (num (pick (tW a) s9 (tLen a))) : Int) - (tLen (bst (tW a) (tW b) (tLen a) (tLen b) s9) : Int) := pk_sub_toInt (by omega) (by omega)
        have e0 : (0 : Int32).toInt = 0 := rfl
        iterate 3 refine hR (?_ : R (_, _, _, _, _, _))
        refine hR (And.intro (fun hc => ?_) (fun hc => ?_))
        · have z := zlt_i.mp hc
          rw [ed9, e0] at z
          exact test lf _ hlf (Or.inl (by omega))
        refine hR (?_ : R (_, _, _, _, _, _))
        refine hR (And.intro (fun hc2 => ?_) (fun hc2 => ?_))
        · have z1 : ¬ (0 : Int32).toInt < _ := fun q => hc (zlt_i.mpr q)
          rw [ed9, e0] at z1
          have z2 : ¬ _ = (0 : Int32).toInt := fun q => hc2 (zeq_i.mpr q)
          rw [ed9, e0] at z2
          exact cont be _ _ (by rw [hbe, bst_n (fun z => by rcases z.1 with q | q <;> omega)])
        · have z2 := zeq_i.mp hc2
          rw [ed9, e0] at z2
          iterate 2 refine hR (?_ : R (_, _, _, _, _, _))
          refine hR (pk_le (bst (tW a) (tW b) (tLen a) (tLen b) s9) (num (pick (tW a) s9 (tLen a))) (fun q => ?_) (fun q => ?_) hbe hlf)
          · exact cont be _ _ (by rw [hbe, bst_n (fun z => by rcases z.1 with q | q <;> omega)])
          · exact test lf _ hlf (Or.inr ⟨by omega, q⟩)
      have inner : ∀ (r9 k9 : Nat) (lf k : Int32), k9 + r9 = tLen a → lf = nI (num (pick (tW a) s9 k9)) → k = nI k9 → R (24, [some (.int x), some (.int y), some (.int (nI (tLen a))), some (.int be), some (.int ke), some (.int lf), some (.int k)], [], w, 0, 0) := by
        intro r9
        induction r9 with
        | zero =>
          intro k9 lf k hk9 hlf hk
          iterate 2 refine hR (?_ : R (_, _, _, _, _, _))
          refine hR (pk_le (tLen a) k9 (fun _ => ?_) (fun z => by omega) rfl hk)
          exact after lf k (by rw [hlf, show k9 = tLen a by omega])
        | succ r9 ih2 =>
          intro k9 lf k hk9 hlf hk
          iterate 2 refine hR (?_ : R (_, _, _, _, _, _))
          refine hR (pk_le (tLen a) k9 (fun z => by omega) (fun _ => ?_) rfl hk)
          iterate 2 refine hR (?_ : R (_, _, _, _, _, _))
          refine hR (zcall_i 0 0 (Nat.le_of_ble_eq_true rfl) (Nat.le_of_ble_eq_true rfl) (r_isIn _ _ _ s9 k9 hke (by omega) hk (by omega) _ _ (fun q => ?_) (fun q => ?_)))
          · refine hR (And.intro (fun hc => absurd hc (by decide)) (fun _ => ?_))
            iterate 3 refine hR (?_ : R (_, _, _, _, _, _))
            refine hR (zcall_i 0 0 (Nat.le_of_ble_eq_true rfl) (Nat.le_of_ble_eq_true rfl) (r_wordAt _ _ _ a k9 hx ha hk (by omega) _ _ ?_))
            refine hR (zcall_i 0 0 (Nat.le_of_ble_eq_true rfl) (Nat.le_of_ble_eq_true rfl) (r_longer _ _ _ (num (pick (tW a) s9 k9)) (tW a k9) hlf rfl _ _ ?_))
            iterate 3 refine hR (?_ : R (_, _, _, _, _, _))
            exact ih2 (k9 + 1) _ _ (by omega) (by rw [pick_1 q, num_snoc]) (by rw [hk, nI1, nI_add])
          · refine hR (And.intro (fun _ => ?_) (fun hc => absurd (by decide) hc))
            iterate 2 refine hR (?_ : R (_, _, _, _, _, _))
            exact ih2 (k9 + 1) _ _ (by omega) (by rw [hlf, pick_0 q]) (by rw [hk, nI1, nI_add])
      iterate 4 refine hR (?_ : R (_, _, _, _, _, _))
      refine hR (pk_le (2 ^ tLen a) s9 (fun z => by omega) (fun _ => ?_) h2p.1 hke)
      iterate 4 refine hR (?_ : R (_, _, _, _, _, _))
      exact inner (tLen a) 0 _ _ (by omega) nI0 nI0
  refine hR (?_ : R (_, _, _, _, _, _))
  refine hR (zcall_i 0 0 (Nat.le_of_ble_eq_true rfl) (Nat.le_of_ble_eq_true rfl) (r_lengthOf _ _ a hx ha _ _ ?_))
  iterate 5 refine hR (?_ : R (_, _, _, _, _, _))
  exact loop (2 ^ tLen a) 0 _ _ _ _ (by omega) nI0 nI0
noncomputable def vShared (x y p : Int32) : Int32 := if (x < 0 ∨ 5461 ≤ x) ∨ (y < 0 ∨ 5461 ≤ y) then Int32.ofInt (-1) else if p = 0 then nI (tLen (bst (tW x.toNatClampNeg) (tW y.toNatClampNeg) (tLen x.toNatClampNeg) (tLen y.toNatClampNeg) (2 ^ tLen x.toNatClampNeg))) else nI (bst (tW x.toNatClampNeg) (tW y.toNatClampNeg) (tLen x.toNatClampNeg) (tLen y.toNatClampNeg) (2 ^ tLen x.toNatClampNeg))
theorem vShared_in {x y p : Int32} {a b : Nat} (hx : x = nI a) (ha : a < 5461) (hy : y = nI b) (hb : b < 5461) (p0 : ¬ x < 0) (p1 : x < 5461) (q0 : ¬ y < 0) (q1 : y < 5461) : vShared x y p = if p = 0 then nI (tLen (bst (tW a) (tW b) (tLen a) (tLen b) (2 ^ tLen a))) else nI (bst (tW a) (tW b) (tLen a) (tLen b) (2 ^ tLen a)) := by
  unfold vShared
  rw [if_neg (fun z => z.elim (fun z => z.elim p0 (fun z => absurd p1 (Int32.not_lt.mpr z))) (fun z => z.elim q0 (fun z => absurd q1 (Int32.not_lt.mpr z)))), hx, hy, nI_clamp (by omega), nI_clamp (by omega)]
theorem r_shared (d : Nat) (x y p : Int32) (t : zW) (Q : zQ) (h : Q (some (.int (vShared x y p))) t) : zCl zTab (d + 6) iX11_shared [.ref 0, .int x, .int y, .int p] t 0 0 Q := by
  have h3 : ∀ z, z = vShared x y p → Q (some (.int z)) t := fun z hz => by rw [hz]; exact h
  refine zCl_i (M := kX11_shared) rfl (Nat.le_of_ble_eq_true rfl) fun R hR => ?_
  refine hR (?_ : R (_, _, _, _, _, _))
  refine hR (zcall_i 0 0 (Nat.le_of_ble_eq_true rfl) (Nat.le_of_ble_eq_true rfl) (r_isText _ _ _ _ (fun p0 p1 => ?_) (fun q => ?_)))
  · refine hR (And.intro (fun hc => absurd hc (by decide)) (fun _ => ?_))
    refine hR (?_ : R (_, _, _, _, _, _))
    refine hR (zcall_i 0 0 (Nat.le_of_ble_eq_true rfl) (Nat.le_of_ble_eq_true rfl) (r_isText _ _ _ _ (fun q0 q1 => ?_) (fun q => ?_)))
    · obtain ⟨a, ha, hx⟩ := t_of p0 p1
      obtain ⟨b, hb, hy⟩ := t_of q0 q1
      have hbl := bst_lt (v := tW b) (m := tLen b) (tW_lt a) (tLen_le a) (2 ^ tLen a)
      refine hR (And.intro (fun _ => ?_) (fun hc => absurd hc (by decide)))
      iterate 2 refine hR (?_ : R (_, _, _, _, _, _))
      refine hR (zcall_i 0 0 (Nat.le_of_ble_eq_true rfl) (Nat.le_of_ble_eq_true rfl) (r_mostShared _ _ _ a b hx ha hy hb _ _ ?_))
      iterate 2 refine hR (?_ : R (_, _, _, _, _, _))
      refine hR (And.intro (fun hp => ?_) (fun hp => ?_))
      · refine hR (?_ : R (_, _, _, _, _, _))
        refine hR (zcall_i 0 0 (Nat.le_of_ble_eq_true rfl) (Nat.le_of_ble_eq_true rfl) (r_lengthOf _ _ (bst (tW a) (tW b) (tLen a) (tLen b) (2 ^ tLen a)) rfl hbl _ _ ?_))
        exact hR (zret_i rfl (Nat.le_refl _) trivial (h3 _ (by rw [vShared_in hx ha hy hb p0 p1 q0 q1, if_pos hp])))
      · iterate 2 refine hR (?_ : R (_, _, _, _, _, _))
        exact hR (zret_i rfl (Nat.le_refl _) trivial (h3 _ (by rw [vShared_in hx ha hy hb p0 p1 q0 q1, if_neg hp])))
    · refine hR (And.intro (fun hc => absurd (by decide) hc) (fun _ => ?_))
      refine hR (?_ : R (_, _, _, _, _, _))
      exact hR (zret_i rfl (Nat.le_refl _) trivial (h3 _ (by unfold vShared; rw [if_pos (Or.inr q)])))
  · refine hR (And.intro (fun _ => ?_) (fun hc => absurd (by decide) hc))
    refine hR (?_ : R (_, _, _, _, _, _))
    exact hR (zret_i rfl (Nat.le_refl _) trivial (h3 _ (by unfold vShared; rw [if_pos (Or.inl q)])))
theorem m_has_1 (d : Nat) (x y : Int32) (s k : Nat) (hx : x = nI s) (hs : s < 2 ^ 31) (hy : y = nI k) (hk : k < 32) (w : zW) (Q : zQ) (h1 : s / 2 ^ k % 2 = 1 → Q (some (.int (Int32.ofInt 1))) w) (h0 : ¬ s / 2 ^ k % 2 = 1 → Q (some (.int (Int32.ofInt 0))) w) : zCl zTab (d + 1) iX12_has [.int x, .int y] w 0 0 Q := by
  refine zCl_i (M := kX12_has) rfl (Nat.le_of_ble_eq_true rfl) fun R hR => ?_
  have e : (x >>> (y &&& 31)) &&& Int32.ofInt 1 = nI (s / 2 ^ k % 2) := by rw [hx, hy, s_bit hs hk]
  have hl : s / 2 ^ k % 2 < 2 := Nat.mod_lt _ (by omega)
  iterate 6 refine hR (?_ : R (_, _, _, _, _, _))
  refine hR (pk_eq (s / 2 ^ k % 2) 1 (fun q => ?_) (fun q => ?_) e nI1).symm
  · iterate 2 refine hR (?_ : R (_, _, _, _, _, _))
    exact hR (zret_i rfl (Nat.le_refl _) (Or.inr rfl) (h1 q))
  · refine hR (?_ : R (_, _, _, _, _, _))
    exact hR (zret_i rfl (Nat.le_refl _) (Or.inl rfl) (h0 q))
theorem take_s {l : List Nat} {k : Nat} (h : k < l.length) : l.take (k + 1) = l.take k ++ [l.getD k 0] := by
  rw [List.take_add_one, List.getD_eq_getElem?_getD, List.getElem?_eq_getElem h]
  rfl
set_option maxHeartbeats 2000000 in
theorem m_numberOf_1 {c0 c1 c2 c3 c4 c5 c6 c7 c8 c9 c10 c11 c12 c13 : va_E} {x0 x9 x10 x11 x12 x13 x15 x16 x17 x20 x21 x22 x23 x26 x28 x31 x32 x33 x38 x41 x44 : Int32} {x14 : Int64} {g15 g16 g17 g18 g19 g20 g21 g22 g23 g24 g25 g26 g27 g28 g29 g30 g31 g32 g33 g34 g35 g36 g37 g38 g39 g40 g41 g42 g43 g44 : Nat → Int32} {t : zW} (d : Nat) (y : Int32) (l : List Nat) (hy : y = nI l.length) (hl : l.length ≤ 6) (hd : ∀ z ∈ l, z < 4) (hf : ∀ i, i < l.length → g25 i = nI (l.getD i 0)) (Q : zQ) (h : Q (some (.int (nI (num l)))) (zMg c0 c1 c2 c3 c4 c5 c6 c7 c8 c9 c10 c11 c12 c13 x0 x9 x10 x11 x12 x13 x15 x16 x17 x20 x21 x22 x23 x26 x28 x31 x32 x33 x38 x41 x44 x14 g15 g16 g17 g18 g19 g20 g21 g22 g23 g24 g25 g26 g27 g28 g29 g30 g31 g32 g33 g34 g35 g36 g37 g38 g39 g40 g41 g42 g43 g44 t)) : zCl zTab (d + 2) iX12_numberOf [.ref 14, .int y] (zMg c0 c1 c2 c3 c4 c5 c6 c7 c8 c9 c10 c11 c12 c13 x0 x9 x10 x11 x12 x13 x15 x16 x17 x20 x21 x22 x23 x26 x28 x31 x32 x33 x38 x41 x44 x14 g15 g16 g17 g18 g19 g20 g21 g22 g23 g24 g25 g26 g27 g28 g29 g30 g31 g32 g33 g34 g35 g36 g37 g38 g39 g40 g41 g42 g43 g44 t) 0 0 Q := by
  have hP : ∀ k, k ≤ l.length → tSh k ≤ num (l.take k) ∧ num (l.take k) < tSh (k + 1) := fun k hk => (numP k (l.take k) (by rw [List.length_take]; omega) (by omega) (fun z hz => hd z (List.mem_of_mem_take hz))).1
  refine zCl_i (M := kX12_numberOf) rfl (Nat.le_of_ble_eq_true rfl) fun R hR => ?_
  have loop : ∀ (m9 k9 : Nat) (f k : Int32), k9 + m9 = l.length → f = nI (num (l.take k9) - tSh k9) → k = nI k9 → R (4, [some (.ref 14), some (.int y), some (.int f), some (.int k)], [], (zMg c0 c1 c2 c3 c4 c5 c6 c7 c8 c9 c10 c11 c12 c13 x0 x9 x10 x11 x12 x13 x15 x16 x17 x20 x21 x22 x23 x26 x28 x31 x32 x33 x38 x41 x44 x14 g15 g16 g17 g18 g19 g20 g21 g22 g23 g24 g25 g26 g27 g28 g29 g30 g31 g32 g33 g34 g35 g36 g37 g38 g39 g40 g41 g42 g43 g44 t), 0, 0) := by
    intro m9
    induction m9 with
    | zero =>
      intro k9 f k hk9 hff hk
      have p1 := hP k9 (by omega)
      have e9 : k9 = l.length := by omega
      iterate 2 refine hR (?_ : R (_, _, _, _, _, _))
      refine hR (pk_le l.length k9 (fun _ => ?_) (fun z => by omega) hy hk)
      refine hR (?_ : R (_, _, _, _, _, _))
      refine hR (zcall_i 0 0 (Nat.le_of_ble_eq_true rfl) (Nat.le_of_ble_eq_true rfl) (m_shorter_1 _ _ l.length hy (by omega) _ _ ?_))
      iterate 2 refine hR (?_ : R (_, _, _, _, _, _))
      have h3 : ∀ z, z = nI (num l) → Q (some (.int z)) (zMg c0 c1 c2 c3 c4 c5 c6 c7 c8 c9 c10 c11 c12 c13 x0 x9 x10 x11 x12 x13 x15 x16 x17 x20 x21 x22 x23 x26 x28 x31 x32 x33 x38 x41 x44 x14 g15 g16 g17 g18 g19 g20 g21 g22 g23 g24 g25 g26 g27 g28 g29 g30 g31 g32 g33 g34 g35 g36 g37 g38 g39 g40 g41 g42 g43 g44 t) := fun z hz => by rw [hz]; exact h
      refine hR (zret_i rfl (Nat.le_refl _) trivial (h3 _ ?_))
      rw [e9, List.take_length] at hff p1
      rw [hff, nI_add]
      exact congrArg nI (by omega)
    | succ m9 ih =>
      intro k9 f k hk9 hff hk
      have p1 := hP k9 (by omega)
      have e4 := tSh_4 k9 (by omega)
      have ev : g25 k.toNatClampNeg = nI (l.getD k9 0) := by rw [hk, nI_clamp (by omega)]; exact hf k9 (by omega)
      iterate 2 refine hR (?_ : R (_, _, _, _, _, _))
      refine hR (pk_le l.length k9 (fun z => by omega) (fun _ => ?_) hy hk)
      iterate 6 refine hR (?_ : R (_, _, _, _, _, _))
      refine hR (And.intro (by rw [hk]; exact nI_in (by omega) (by omega)) ?_)
      iterate 4 refine hR (?_ : R (_, _, _, _, _, _))
      refine ih (k9 + 1) _ _ (by omega) ?_ (by rw [hk, nI1, nI_add])
      rw [ev, hff, nI4, pk_mul, nI_add, take_s (by omega), num_snoc]
      exact congrArg nI (by omega)
  iterate 4 refine hR (?_ : R (_, _, _, _, _, _))
  exact loop l.length 0 _ _ (by omega) nI0 nI0
set_option maxHeartbeats 4000000 in
theorem m_someOf_1 {c0 c1 c2 c3 c4 c5 c6 c7 c8 c9 c10 c11 c12 c13 : va_E} {x0 x9 x10 x11 x12 x13 x15 x16 x17 x20 x21 x22 x23 x26 x28 x31 x32 x33 x38 x41 x44 : Int32} {x14 : Int64} {g15 g16 g17 g18 g19 g20 g21 g22 g23 g24 g25 g26 g27 g28 g29 g30 g31 g32 g33 g34 g35 g36 g37 g38 g39 g40 g41 g42 g43 g44 : Nat → Int32} {t : zW} (d : Nat) (x y : Int32) (a s9 : Nat) (hx : x = nI a) (ha : a < 5461) (hy : y = nI s9) (hs : s9 < 2 ^ 31) (Q : zQ) (h : ∀ f, Q (some (.int (nI (num (pick (tW a) s9 (tLen a)))))) (zMg c0 c1 c2 c3 c4 c5 c6 c7 c8 c9 c10 c11 c12 c13 x0 x9 x10 x11 x12 x13 x15 x16 x17 x20 x21 x22 x23 x26 x28 x31 x32 x33 x38 x41 x44 x14 g15 g16 g17 g18 g19 g20 g21 g22 g23 g24 f g26 g27 g28 g29 g30 g31 g32 g33 g34 g35 g36 g37 g38 g39 g40 g41 g42 g43 g44 t)) : zCl zTab (d + 4) iX12_someOf [.ref 14, .int x, .int y] (zMg c0 c1 c2 c3 c4 c5 c6 c7 c8 c9 c10 c11 c12 c13 x0 x9 x10 x11 x12 x13 x15 x16 x17 x20 x21 x22 x23 x26 x28 x31 x32 x33 x38 x41 x44 x14 g15 g16 g17 g18 g19 g20 g21 g22 g23 g24 g25 g26 g27 g28 g29 g30 g31 g32 g33 g34 g35 g36 g37 g38 g39 g40 g41 g42 g43 g44 t) 0 0 Q := by
  have hn := tLen_le a
  refine zCl_i (M := kX12_someOf) rfl (Nat.le_of_ble_eq_true rfl) fun R hR => ?_
  have loop : ∀ (m9 k9 : Nat) (n k : Int32) (f : Nat → Int32), k9 + m9 = tLen a → n = nI (pick (tW a) s9 k9).length → k = nI k9 → (∀ i, i < (pick (tW a) s9 k9).length → f i = nI ((pick (tW a) s9 k9).getD i 0)) → (∀ i, k9 ≤ i → i < tLen a → f i = nI (tW a i)) → R (13, [some (.ref 14), some (.int x), some (.int y), some (.int n), some (.int k)], [], (zMg c0 c1 c2 c3 c4 c5 c6 c7 c8 c9 c10 c11 c12 c13 x0 x9 x10 x11 x12 x13 x15 x16 x17 x20 x21 x22 x23 x26 x28 x31 x32 x33 x38 x41 x44 x14 g15 g16 g17 g18 g19 g20 g21 g22 g23 g24 f g26 g27 g28 g29 g30 g31 g32 g33 g34 g35 g36 g37 g38 g39 g40 g41 g42 g43 g44 t), 0, 0) := by
    intro m9
    induction m9 with
    | zero =>
      intro k9 n k f hk9 hnn hk h1 h2
      have e9 : k9 = tLen a := by omega
      have hpl := pick_len (tW a) s9 k9
      have hpx := pick_lt (tW_lt a) s9 k9
      iterate 2 refine hR (?_ : R (_, _, _, _, _, _))
      refine hR (zcall_i 0 0 (Nat.le_of_ble_eq_true rfl) (Nat.le_of_ble_eq_true rfl) (m_sizeOf_1 _ _ a hx ha _ _ ?_))
      refine hR (pk_le (tLen a) k9 (fun _ => ?_) (fun z => by omega) rfl hk)
      iterate 2 refine hR (?_ : R (_, _, _, _, _, _))
      refine hR (zcall_i 0 0 (Nat.le_of_ble_eq_true rfl) (Nat.le_of_ble_eq_true rfl) (m_numberOf_1 _ _ (pick (tW a) s9 k9) hnn (by omega) hpx h1 _ ?_))
      have h3 : ∀ z w, z = nI (num (pick (tW a) s9 (tLen a))) → (∀ z', Q (some (.int (nI (num (pick (tW a) s9 (tLen a)))))) w → z' = z → Q (some (.int z')) w) := fun z w hz z' hq hz' => by rw [hz', hz]; exact hq
      exact hR (zret_i rfl (Nat.le_refl _) trivial (h3 _ _ rfl _ (h f) (by rw [e9])))
    | succ m9 ih =>
      intro k9 n k f hk9 hnn hk h1 h2
      have hpl := pick_len (tW a) s9 k9
      iterate 2 refine hR (?_ : R (_, _, _, _, _, _))
      refine hR (zcall_i 0 0 (Nat.le_of_ble_eq_true rfl) (Nat.le_of_ble_eq_true rfl) (m_sizeOf_1 _ _ a hx ha _ _ ?_))
      refine hR (pk_le (tLen a) k9 (fun z => by omega) (fun _ => ?_) rfl hk)
      iterate 2 refine hR (?_ : R (_, _, _, _, _, _))
      refine hR (zcall_i 0 0 (Nat.le_of_ble_eq_true rfl) (Nat.le_of_ble_eq_true rfl) (m_has_1 _ _ _ s9 k9 hy hs hk (by omega) _ _ (fun q => ?_) (fun q => ?_)))
      · have ev : f k.toNatClampNeg = nI (tW a k9) := by rw [hk, nI_clamp (by omega)]; exact h2 k9 (Nat.le_refl _) (by omega)
        have ec : n.toNatClampNeg = (pick (tW a) s9 k9).length := by rw [hnn, nI_clamp (by omega)]
        refine hR (And.intro (fun hc => absurd hc (by decide)) (fun _ => ?_))
        iterate 6 refine hR (?_ : R (_, _, _, _, _, _))
        refine hR (And.intro (by rw [hk]; exact nI_in (by omega) (by omega)) ?_)
        refine hR (And.intro (by rw [hnn]; exact nI_in (by omega) (by omega)) ?_)
        iterate 3 refine hR (?_ : R (_, _, _, _, _, _))
        refine ih (k9 + 1) _ _ _ (by omega) (by rw [hnn, nI1, nI_add, pick_1 q, List.length_append, List.length_singleton]) (by rw [hk, nI1, nI_add]) (fun i hi => ?_) (fun i hi1 hi2 => ?_)
        · rw [ec, ev]
          rw [pick_1 q] at hi ⊢
          rw [List.length_append, List.length_singleton] at hi
          by_cases hq : i = (pick (tW a) s9 k9).length
          · subst hq
            rw [pk_us, List.getD_eq_getElem?_getD, List.getElem?_append_right (Nat.le_refl _), Nat.sub_self]
            rfl
          · rw [pk_un hq, h1 i (by omega), List.getD_eq_getElem?_getD, List.getD_eq_getElem?_getD, List.getElem?_append_left (by omega)]
        · rw [ec, pk_un (by omega)]
          exact h2 i (by omega) hi2
      · refine hR (And.intro (fun _ => ?_) (fun hc => absurd (by decide) hc))
        iterate 2 refine hR (?_ : R (_, _, _, _, _, _))
        refine ih (k9 + 1) _ _ f (by omega) (by rw [pick_0 q]; exact hnn) (by rw [hk, nI1, nI_add]) (fun i hi => ?_) (fun i hi1 hi2 => h2 i (by omega) hi2)
        rw [pick_0 q] at hi ⊢
        exact h1 i hi
  iterate 3 refine hR (?_ : R (_, _, _, _, _, _))
  refine hR (zcall_i 0 0 (Nat.le_of_ble_eq_true rfl) (Nat.le_of_ble_eq_true rfl) (m_spell25_1 _ _ a hx ha _ (fun f hf => ?_)))
  iterate 4 refine hR (?_ : R (_, _, _, _, _, _))
  exact loop (tLen a) 0 _ _ f (by omega) nI0 nI0 (fun i hi => absurd hi (Nat.not_lt_zero _)) (fun i _ hi2 => hf i hi2)
set_option maxHeartbeats 2000000 in
theorem m_isLeft_1 {c0 c1 c2 c3 c4 c5 c6 c7 c8 c9 c10 c11 c12 c13 : va_E} {x0 x9 x10 x11 x12 x13 x15 x16 x17 x20 x21 x22 x23 x26 x28 x31 x32 x33 x38 x41 x44 : Int32} {x14 : Int64} {g15 g16 g17 g18 g19 g20 g21 g22 g23 g24 g25 g26 g27 g28 g29 g30 g31 g32 g33 g34 g35 g36 g37 g38 g39 g40 g41 g42 g43 g44 : Nat → Int32} {t : zW} (d : Nat) (x y : Int32) (b t9 : Nat) (hx : x = nI b) (hb : b < 5461) (hy : y = nI t9) (ht : t9 < 5461) (Q : zQ) (h1 : isL (tW b) (tLen b) t9 → ∀ f, Q (some (.int (Int32.ofInt 1))) (zMg c0 c1 c2 c3 c4 c5 c6 c7 c8 c9 c10 c11 c12 c13 x0 x9 x10 x11 x12 x13 x15 x16 x17 x20 x21 x22 x23 x26 x28 x31 x32 x33 x38 x41 x44 x14 g15 g16 g17 g18 g19 g20 g21 g22 g23 g24 f g26 g27 g28 g29 g30 g31 g32 g33 g34 g35 g36 g37 g38 g39 g40 g41 g42 g43 g44 t)) (h0 : ¬ isL (tW b) (tLen b) t9 → ∀ f, Q (some (.int (Int32.ofInt 0))) (zMg c0 c1 c2 c3 c4 c5 c6 c7 c8 c9 c10 c11 c12 c13 x0 x9 x10 x11 x12 x13 x15 x16 x17 x20 x21 x22 x23 x26 x28 x31 x32 x33 x38 x41 x44 x14 g15 g16 g17 g18 g19 g20 g21 g22 g23 g24 f g26 g27 g28 g29 g30 g31 g32 g33 g34 g35 g36 g37 g38 g39 g40 g41 g42 g43 g44 t)) : zCl zTab (d + 5) iX12_isLeft [.ref 14, .int x, .int y] (zMg c0 c1 c2 c3 c4 c5 c6 c7 c8 c9 c10 c11 c12 c13 x0 x9 x10 x11 x12 x13 x15 x16 x17 x20 x21 x22 x23 x26 x28 x31 x32 x33 x38 x41 x44 x14 g15 g16 g17 g18 g19 g20 g21 g22 g23 g24 g25 g26 g27 g28 g29 g30 g31 g32 g33 g34 g35 g36 g37 g38 g39 g40 g41 g42 g43 g44 t) 0 0 Q := by
  have hm := tLen_le b
  have h2p := s_2p (tLen b) (by omega)
  refine zCl_i (M := kX12_isLeft) rfl (Nat.le_of_ble_eq_true rfl) fun R hR => ?_
  have loop : ∀ (m9 s9 : Nat) (se : Int32) (f : Nat → Int32), s9 + m9 = 2 ^ tLen b → se = nI s9 → (∀ s', s' < s9 → num (pick (tW b) s' (tLen b)) ≠ t9) → R (2, [some (.ref 14), some (.int x), some (.int y), some (.int se)], [], (zMg c0 c1 c2 c3 c4 c5 c6 c7 c8 c9 c10 c11 c12 c13 x0 x9 x10 x11 x12 x13 x15 x16 x17 x20 x21 x22 x23 x26 x28 x31 x32 x33 x38 x41 x44 x14 g15 g16 g17 g18 g19 g20 g21 g22 g23 g24 f g26 g27 g28 g29 g30 g31 g32 g33 g34 g35 g36 g37 g38 g39 g40 g41 g42 g43 g44 t), 0, 0) := by
    intro m9
    induction m9 with
    | zero =>
      intro s9 se f hs hse hno
      iterate 3 refine hR (?_ : R (_, _, _, _, _, _))
      refine hR (zcall_i 0 0 (Nat.le_of_ble_eq_true rfl) (Nat.le_of_ble_eq_true rfl) (m_sizeOf_1 _ _ b hx hb _ _ ?_))
      refine hR (?_ : R (_, _, _, _, _, _))
      refine hR (pk_le (2 ^ tLen b) s9 (fun _ => ?_) (fun z => by omega) h2p.1 hse)
      refine hR (?_ : R (_, _, _, _, _, _))
      exact hR (zret_i rfl (Nat.le_refl _) (Or.inl rfl) (h0 (fun ⟨s', q1, q2⟩ => hno s' (by omega) q2) f))
    | succ m9 ih =>
      intro s9 se f hs hse hno
      have n2 := (num_t (pick (tW b) s9 (tLen b)) (Nat.le_trans (pick_len _ _ _) hm) (pick_lt (tW_lt b) s9 (tLen b))).2.1
      iterate 3 refine hR (?_ : R (_, _, _, _, _, _))
      refine hR (zcall_i 0 0 (Nat.le_of_ble_eq_true rfl) (Nat.le_of_ble_eq_true rfl) (m_sizeOf_1 _ _ b hx hb _ _ ?_))
      refine hR (?_ : R (_, _, _, _, _, _))
      refine hR (pk_le (2 ^ tLen b) s9 (fun z => by omega) (fun _ => ?_) h2p.1 hse)
      iterate 3 refine hR (?_ : R (_, _, _, _, _, _))
      refine hR (zcall_i 0 0 (Nat.le_of_ble_eq_true rfl) (Nat.le_of_ble_eq_true rfl) (m_someOf_1 _ _ _ b s9 hx hb hse (by omega) _ (fun f2 => ?_)))
      refine hR (?_ : R (_, _, _, _, _, _))
      refine hR (pk_eq (num (pick (tW b) s9 (tLen b))) t9 (fun q => ?_) (fun q => ?_) rfl hy).symm
      · refine hR (?_ : R (_, _, _, _, _, _))
        exact hR (zret_i rfl (Nat.le_refl _) (Or.inr rfl) (h1 ⟨s9, by omega, q⟩ f2))
      · iterate 2 refine hR (?_ : R (_, _, _, _, _, _))
        refine ih (s9 + 1) _ f2 (by omega) (by rw [hse, nI1, nI_add]) (fun s' hs' => ?_)
        by_cases e : s' = s9
        · rw [e]; exact q
        · exact hno s' (by omega)
  iterate 2 refine hR (?_ : R (_, _, _, _, _, _))
  exact loop (2 ^ tLen b) 0 _ g25 (by omega) nI0 (fun s' hs' => absurd hs' (Nat.not_lt_zero _))
set_option maxHeartbeats 4000000 in
theorem m_shared_1 {c0 c1 c2 c3 c4 c5 c6 c7 c8 c9 c10 c11 c12 c13 : va_E} {x0 x9 x10 x11 x12 x13 x15 x16 x17 x20 x21 x22 x23 x26 x28 x31 x32 x33 x38 x41 x44 : Int32} {x14 : Int64} {g15 g16 g17 g18 g19 g20 g21 g22 g23 g24 g25 g26 g27 g28 g29 g30 g31 g32 g33 g34 g35 g36 g37 g38 g39 g40 g41 g42 g43 g44 : Nat → Int32} {t : zW} (d : Nat) (x y p : Int32) (Q : zQ) (h : ∀ w, Q (some (.int (vShared x y p))) w) : zCl zTab (d + 6) iX12_shared [.ref 14, .int x, .int y, .int p] (zMg c0 c1 c2 c3 c4 c5 c6 c7 c8 c9 c10 c11 c12 c13 x0 x9 x10 x11 x12 x13 x15 x16 x17 x20 x21 x22 x23 x26 x28 x31 x32 x33 x38 x41 x44 x14 g15 g16 g17 g18 g19 g20 g21 g22 g23 g24 g25 g26 g27 g28 g29 g30 g31 g32 g33 g34 g35 g36 g37 g38 g39 g40 g41 g42 g43 g44 t) 0 0 Q := by
  have h3 : ∀ z w, z = vShared x y p → Q (some (.int z)) w := fun z w hz => by rw [hz]; exact h w
  refine zCl_i (M := kX12_shared) rfl (Nat.le_of_ble_eq_true rfl) fun R hR => ?_
  have main : ∀ (a b : Nat), x = nI a → a < 5461 → y = nI b → b < 5461 → (∀ (be se : Int32) (z6 z7 : Option Value) (f : Nat → Int32), be = nI (bst (tW a) (tW b) (tLen a) (tLen b) (2 ^ tLen a)) → R (117, [some (.ref 14), some (.int x), some (.int y), some (.int p), some (.int be), some (.int se), z6, z7], [], (zMg c0 c1 c2 c3 c4 c5 c6 c7 c8 c9 c10 c11 c12 c13 (Int32.ofInt 0) x9 x10 x11 x12 x13 x15 x16 x17 x20 x21 x22 x23 x26 x28 x31 x32 x33 x38 x41 x44 x14 g15 g16 g17 g18 g19 g20 g21 g22 g23 g24 f g26 g27 g28 g29 g30 g31 g32 g33 g34 g35 g36 g37 g38 g39 g40 g41 g42 g43 g44 t), 0, 0)) → ∀ (m9 s9 : Nat) (be se : Int32) (z6 z7 : Option Value) (f : Nat → Int32), s9 + m9 = 2 ^ tLen a → be = nI (bst (tW a) (tW b) (tLen a) (tLen b) s9) → se = nI s9 → R (27, [some (.ref 14), some (.int x), some (.int y), some (.int p), some (.int be), some (.int se), z6, z7], [], (zMg c0 c1 c2 c3 c4 c5 c6 c7 c8 c9 c10 c11 c12 c13 (Int32.ofInt 0) x9 x10 x11 x12 x13 x15 x16 x17 x20 x21 x22 x23 x26 x28 x31 x32 x33 x38 x41 x44 x14 g15 g16 g17 g18 g19 g20 g21 g22 g23 g24 f g26 g27 g28 g29 g30 g31 g32 g33 g34 g35 g36 g37 g38 g39 g40 g41 g42 g43 g44 t), 0, 0) := by
    intro a b hx ha hy hb hexit
    have hn := tLen_le a
    have h2p := s_2p (tLen a) (by omega)
    intro m9
    induction m9 with
    | zero =>
      intro s9 be se z6 z7 f hs hbe hse
      iterate 3 refine hR (?_ : R (_, _, _, _, _, _))
      refine hR (zcall_i 0 0 (Nat.le_of_ble_eq_true rfl) (Nat.le_of_ble_eq_true rfl) (m_sizeOf_1 _ _ a hx ha _ _ ?_))
      refine hR (?_ : R (_, _, _, _, _, _))
      refine hR (pk_le (2 ^ tLen a) s9 (fun _ => ?_) (fun z => by omega) h2p.1 hse)
      exact hexit be se _ _ f (by rw [hbe, show s9 = 2 ^ tLen a by omega])
    | succ m9 ih =>
      intro s9 be se z6 z7 f hs hbe hse
      have hpl := pick_len (tW a) s9 (tLen a)
      have hpx := pick_lt (tW_lt a) s9 (tLen a)
      obtain ⟨n1, n2, n3⟩ := num_t (pick (tW a) s9 (tLen a)) (by omega) hpx
      have hbl := bst_lt (v := tW b) (m := tLen b) (tW_lt a) hn s9
      have hb6 := tLen_le (bst (tW a) (tW b) (tLen a) (tLen b) s9)
      have ht6 := tLen_le (num (pick (tW a) s9 (tLen a)))
      have cont : ∀ (bs tt mo : Int32) (f : Nat → Int32), bs = nI (bst (tW a) (tW b) (tLen a) (tLen b) (s9 + 1)) → R (109, [some (.ref 14), some (.int x), some (.int y), some (.int p), some (.int be), some (.int se), some (.int tt), some (.int mo)], [.int bs], (zMg c0 c1 c2 c3 c4 c5 c6 c7 c8 c9 c10 c11 c12 c13 (Int32.ofInt 0) x9 x10 x11 x12 x13 x15 x16 x17 x20 x21 x22 x23 x26 x28 x31 x32 x33 x38 x41 x44 x14 g15 g16 g17 g18 g19 g20 g21 g22 g23 g24 f g26 g27 g28 g29 g30 g31 g32 g33 g34 g35 g36 g37 g38 g39 g40 g41 g42 g43 g44 t), 0, 0) := by
        intro bs tt mo f hbs
        iterate 3 refine hR (?_ : R (_, _, _, _, _, _))
        exact ih (s9 + 1) _ _ _ _ f (by omega) hbs (by rw [hse, nI1, nI_add])
      have yes : ∀ (tt : Int32) (z7 : Option Value) (f : Nat → Int32), tt = nI (num (pick (tW a) s9 (tLen a))) → btr (num (pick (tW a) s9 (tLen a))) (bst (tW a) (tW b) (tLen a) (tLen b) s9) → R (80, [some (.ref 14), some (.int x), some (.int y), some (.int p), some (.int be), some (.int se), some (.int tt), z7], [], (zMg c0 c1 c2 c3 c4 c5 c6 c7 c8 c9 c10 c11 c12 c13 (Int32.ofInt 0) x9 x10 x11 x12 x13 x15 x16 x17 x20 x21 x22 x23 x26 x28 x31 x32 x33 x38 x41 x44 x14 g15 g16 g17 g18 g19 g20 g21 g22 g23 g24 f g26 g27 g28 g29 g30 g31 g32 g33 g34 g35 g36 g37 g38 g39 g40 g41 g42 g43 g44 t), 0, 0) := by
        intro tt z7 f htt hbt
        iterate 4 refine hR (?_ : R (_, _, _, _, _, _))
        refine hR (And.intro (fun hc => absurd hc (by decide)) (fun _ => ?_))
        iterate 3 refine hR (?_ : R (_, _, _, _, _, _))
        refine hR (zcall_i 0 0 (Nat.le_of_ble_eq_true rfl) (Nat.le_of_ble_eq_true rfl) (m_isLeft_1 _ _ _ b (num (pick (tW a) s9 (tLen a))) hy hb htt n2 _ (fun q f2 => ?_) (fun q f2 => ?_)))
        · refine hR (And.intro (fun hc => absurd hc (by decide)) (fun _ => ?_))
          iterate 2 refine hR (?_ : R (_, _, _, _, _, _))
          exact cont _ _ _ f2 (by rw [htt, bst_y hbt q])
        · refine hR (And.intro (fun _ => ?_) (fun hc => absurd (by decide) hc))
          refine hR (?_ : R (_, _, _, _, _, _))
          exact cont _ _ _ f2 (by rw [hbe, bst_n (fun z => q z.2)])
      have no : ∀ (tt : Int32) (z7 : Option Value) (f : Nat → Int32), ¬ btr (num (pick (tW a) s9 (tLen a))) (bst (tW a) (tW b) (tLen a) (tLen b) s9) → R (84, [some (.ref 14), some (.int x), some (.int y), some (.int p), some (.int be), some (.int se), some (.int tt), z7], [], (zMg c0 c1 c2 c3 c4 c5 c6 c7 c8 c9 c10 c11 c12 c13 (Int32.ofInt 0) x9 x10 x11 x12 x13 x15 x16 x17 x20 x21 x22 x23 x26 x28 x31 x32 x33 x38 x41 x44 x14 g15 g16 g17 g18 g19 g20 g21 g22 g23 g24 f g26 g27 g28 g29 g30 g31 g32 g33 g34 g35 g36 g37 g38 g39 g40 g41 g42 g43 g44 t), 0, 0) := by
        intro tt z7 f hbt
        iterate 3 refine hR (?_ : R (_, _, _, _, _, _))
        refine hR (And.intro (fun _ => ?_) (fun hc => absurd (by decide) hc))
        refine hR (?_ : R (_, _, _, _, _, _))
        exact cont _ _ _ f (by rw [hbe, bst_n (fun z => hbt z.1)])
      iterate 3 refine hR (?_ : R (_, _, _, _, _, _))
      refine hR (zcall_i 0 0 (Nat.le_of_ble_eq_true rfl) (Nat.le_of_ble_eq_true rfl) (m_sizeOf_1 _ _ a hx ha _ _ ?_))
      refine hR (?_ : R (_, _, _, _, _, _))
      refine hR (pk_le (2 ^ tLen a) s9 (fun z => by omega) (fun _ => ?_) h2p.1 hse)
      iterate 3 refine hR (?_ : R (_, _, _, _, _, _))
      refine hR (zcall_i 0 0 (Nat.le_of_ble_eq_true rfl) (Nat.le_of_ble_eq_true rfl) (m_someOf_1 _ _ _ a s9 hx ha hse (by omega) _ (fun f2 => ?_)))
      iterate 2 refine hR (?_ : R (_, _, _, _, _, _))
      refine hR (zcall_i 0 0 (Nat.le_of_ble_eq_true rfl) (Nat.le_of_ble_eq_true rfl) (m_sizeOf_1 _ _ (num (pick (tW a) s9 (tLen a))) rfl n2 _ _ ?_))
      refine hR (?_ : R (_, _, _, _, _, _))
      refine hR (zcall_i 0 0 (Nat.le_of_ble_eq_true rfl) (Nat.le_of_ble_eq_true rfl) (m_sizeOf_1 _ _ (bst (tW a) (tW b) (tLen a) (tLen b) s9) hbe hbl _ _ ?_))
      refine hR (pk_lt (tLen (bst (tW a) (tW b) (tLen a) (tLen b) s9)) (tLen (num (pick (tW a) s9 (tLen a)))) (fun q => ?_) (fun q => ?_) rfl rfl)
      · exact yes _ _ f2 rfl (Or.inl q)
      refine hR (?_ : R (_, _, _, _, _, _))
      refine hR (zcall_i 0 0 (Nat.le_of_ble_eq_true rfl) (Nat.le_of_ble_eq_true rfl) (m_sizeOf_1 _ _ (num (pick (tW a) s9 (tLen a))) rfl n2 _ _ ?_))
      refine hR (?_ : R (_, _, _, _, _, _))
      refine hR (zcall_i 0 0 (Nat.le_of_ble_eq_true rfl) (Nat.le_of_ble_eq_true rfl) (m_sizeOf_1 _ _ (bst (tW a) (tW b) (tLen a) (tLen b) s9) hbe hbl _ _ ?_))
      refine hR (pk_eq (tLen (num (pick (tW a) s9 (tLen a)))) (tLen (bst (tW a) (tW b) (tLen a) (tLen b) s9)) (fun q2 => ?_) (fun q2 => ?_) rfl rfl).symm
      · iterate 2 refine hR (?_ : R (_, _, _, _, _, _))
        refine hR (pk_le (bst (tW a) (tW b) (tLen a) (tLen b) s9) (num (pick (tW a) s9 (tLen a))) (fun q3 => ?_) (fun q3 => ?_) hbe rfl)
        · exact no _ _ f2 (fun z => by rcases z with z | z <;> omega)
        · exact yes _ _ f2 rfl (Or.inr ⟨q2, q3⟩)
      · exact no _ _ f2 (fun z => by rcases z with z | z <;> omega)
  iterate 4 refine hR (?_ : R (_, _, _, _, _, _))
  refine hR (zcall_i 0 0 (Nat.le_of_ble_eq_true rfl) (Nat.le_of_ble_eq_true rfl) (m_isText_1 _ _ _ _ (fun p0 p1 => ?_) (fun q => ?_)))
  · refine hR (And.intro (fun hc => absurd hc (by decide)) (fun _ => ?_))
    refine hR (?_ : R (_, _, _, _, _, _))
    refine hR (zcall_i 0 0 (Nat.le_of_ble_eq_true rfl) (Nat.le_of_ble_eq_true rfl) (m_isText_1 _ _ _ _ (fun q0 q1 => ?_) (fun q => ?_)))
    · obtain ⟨a, ha, hx⟩ := t_of p0 p1
      obtain ⟨b, hb, hy⟩ := t_of q0 q1
      have hbl := bst_lt (v := tW b) (m := tLen b) (tW_lt a) (tLen_le a) (2 ^ tLen a)
      refine hR (And.intro (fun _ => ?_) (fun hc => absurd hc (by decide)))
      iterate 4 refine hR (?_ : R (_, _, _, _, _, _))
      refine main a b hx ha hy hb ?_ (2 ^ tLen a) 0 _ _ _ _ g25 (by omega) nI0 nI0
      intro be se z6 z7 f hbe
      refine hR (?_ : R (_, _, _, _, _, _))
      refine hR (And.intro (fun hp => ?_) (fun hp => ?_))
      · refine hR (?_ : R (_, _, _, _, _, _))
        refine hR (zcall_i 0 0 (Nat.le_of_ble_eq_true rfl) (Nat.le_of_ble_eq_true rfl) (m_sizeOf_1 _ _ (bst (tW a) (tW b) (tLen a) (tLen b) (2 ^ tLen a)) hbe hbl _ _ ?_))
        exact hR (zret_i rfl (Nat.le_refl _) trivial (h3 _ _ (by rw [vShared_in hx ha hy hb p0 p1 q0 q1, if_pos hp])))
      · iterate 2 refine hR (?_ : R (_, _, _, _, _, _))
        exact hR (zret_i rfl (Nat.le_refl _) trivial (h3 _ _ (by rw [vShared_in hx ha hy hb p0 p1 q0 q1, if_neg hp, hbe])))
    · refine hR (And.intro (fun hc => absurd (by decide) hc) (fun _ => ?_))
      refine hR (?_ : R (_, _, _, _, _, _))
      exact hR (zret_i rfl (Nat.le_refl _) trivial (h3 _ _ (by unfold vShared; rw [if_pos (Or.inr q)])))
  · refine hR (And.intro (fun _ => ?_) (fun hc => absurd (by decide) hc))
    refine hR (?_ : R (_, _, _, _, _, _))
    exact hR (zret_i rfl (Nat.le_refl _) trivial (h3 _ _ (by unfold vShared; rw [if_pos (Or.inl q)])))
/-! TWO RUNS OF ONE CALL END ALIKE: so what is proved of its answer in one way, and of its world in another, holds together. -/
def sim (u v : zS) : Prop := u.1 = v.1 ∧ u.2.1 = v.2.1 ∧ u.2.2.1 = v.2.2.1 ∧ u.2.2.2.1 = v.2.2.2.1
def RLx (F G : zF) : Prop := ∀ mc ms Q K mc' ms' Q' K', F mc ms Q K → G mc' ms' Q' K' → (∃ u v, K u ∧ K' v ∧ sim u v) ∨ (∃ r w, Q r w ∧ Q' r w)
section RLs
variable {F G F2 G2 : zF}
theorem rl_F : RLx (fun _ _ _ _ => False) G := fun _ _ _ _ _ _ _ _ h => h.elim
theorem rl_K {u v : zS} (h : sim u v) : RLx (fun _ _ _ K => K u) (fun _ _ _ K => K v) := fun _ _ _ _ _ _ _ _ a b => Or.inl ⟨u, v, a, b, h⟩
theorem rl_zif {b : Nat → Nat → Bool} {c : Nat → Nat → Bool} (h : RLx F G) : RLx (fun mc ms Q K => zif (b mc ms) (F mc ms Q K)) (fun mc ms Q K => zif (c mc ms) (G mc ms Q K)) := by
  intro mc ms Q K mc' ms' Q' K' a d
  have a : zif (b mc ms) (F mc ms Q K) := a
  have d : zif (c mc' ms') (G mc' ms' Q' K') := d
  cases e1 : b mc ms <;> rw [e1] at a
  · exact a.elim
  · cases e2 : c mc' ms' <;> rw [e2] at d
    · exact d.elim
    · exact h _ _ _ _ _ _ _ _ a d
theorem rl_zor {b : Bool} (h : RLx F G) (h2 : RLx F2 G2) : RLx (fun mc ms Q K => zor b (F mc ms Q K) (F2 mc ms Q K)) (fun mc ms Q K => zor b (G mc ms Q K) (G2 mc ms Q K)) := by
  cases b
  · exact h2
  · exact h
theorem rl_and {P P' : Prop} (h : RLx F G) : RLx (fun mc ms Q K => P ∧ F mc ms Q K) (fun mc ms Q K => P' ∧ G mc ms Q K) := fun _ _ _ _ _ _ _ _ a b => h _ _ _ _ _ _ _ _ a.2 b.2
theorem rl_br {P : Prop} (h : RLx F G) (h2 : RLx F2 G2) : RLx (fun mc ms Q K => (P → F mc ms Q K) ∧ (¬ P → F2 mc ms Q K)) (fun mc ms Q K => (P → G mc ms Q K) ∧ (¬ P → G2 mc ms Q K)) := by
  intro _ _ _ _ _ _ _ _ a b
  by_cases hp : P
  · exact h _ _ _ _ _ _ _ _ (a.1 hp) (b.1 hp)
  · exact h2 _ _ _ _ _ _ _ _ (a.2 hp) (b.2 hp)
theorem rl_rb {P : Prop} (h : RLx F G) (h2 : RLx F2 G2) : RLx (fun mc ms Q K => (¬ P → F mc ms Q K) ∧ (P → F2 mc ms Q K)) (fun mc ms Q K => (¬ P → G mc ms Q K) ∧ (P → G2 mc ms Q K)) := by
  intro _ _ _ _ _ _ _ _ a b
  by_cases hp : P
  · exact h2 _ _ _ _ _ _ _ _ (a.2 hp) (b.2 hp)
  · exact h _ _ _ _ _ _ _ _ (a.1 hp) (b.1 hp)
theorem rl_ex {H H' : Int → zF} {o : Option Int} (h : ∀ x, RLx (H x) (H' x)) : RLx (fun mc ms Q K => ∃ x, o = some x ∧ H x mc ms Q K) (fun mc ms Q K => ∃ x, o = some x ∧ H' x mc ms Q K) := by
  rintro _ _ _ _ _ _ _ _ ⟨x, hx, a⟩ ⟨y, hy, b⟩
  rw [hx] at hy
  cases hy
  exact h x _ _ _ _ _ _ _ _ a b
theorem rl_fin {E : zX} {P P' : Prop} {r : Option Value} {w : zW} {k n k' n' : Nat} : RLx (fun mc ms Q _ => zfin E k n mc ms ∧ P ∧ Q r w) (fun mc ms Q _ => zfin E k' n' mc ms ∧ P' ∧ Q r w) := fun _ _ _ _ _ _ _ _ a b => Or.inr ⟨r, w, a.2.2, b.2.2⟩
theorem rl_call {C : zCT} (hC : ∀ a As w mc ms Q mc' ms' Q', C a As w mc ms Q → C a As w mc' ms' Q' → ∃ r w', Q r w' ∧ Q' r w') {a : Nat} {As S : List Value} {w : zW} {np k n k' n' : Nat} {L : zL} : RLx (fun mc ms _ K => zcall C a As S w k n mc ms np L K) (fun mc ms _ K => zcall C a As S w k' n' mc ms np L K) := by
  rintro _ _ _ _ _ _ _ _ ⟨m1, m2, _, h1⟩ ⟨m3, m4, _, h2⟩
  obtain ⟨r, w', x, y⟩ := hC _ _ _ _ _ _ _ _ _ h1 h2
  exact Or.inl ⟨_, _, x, y, rfl, rfl, rfl, rfl⟩
theorem rl_zbr {c : Jvm.ClassFile.Cond} {x y : Int32} (h : RLx F G) (h2 : RLx F2 G2) : RLx (fun mc ms Q K => zbr c x y (F mc ms Q K) (F2 mc ms Q K)) (fun mc ms Q K => zbr c x y (G mc ms Q K) (G2 mc ms Q K)) := by
  cases c
  · exact rl_br h h2
  · exact rl_rb h h2
  all_goals exact rl_br h h2
theorem rl_zbr0 {c : Jvm.ClassFile.Cond} {x : Int32} (h : RLx F G) (h2 : RLx F2 G2) : RLx (fun mc ms Q K => zbr0 c x (F mc ms Q K) (F2 mc ms Q K)) (fun mc ms Q K => zbr0 c x (G mc ms Q K) (G2 mc ms Q K)) := by
  cases c
  · exact rl_br h h2
  · exact rl_rb h h2
  all_goals exact rl_br h h2
theorem rl_zbra {c : Jvm.ClassFile.ACond} {x y : Option Nat} (h : RLx F G) (h2 : RLx F2 G2) : RLx (fun mc ms Q K => zbra c x y (F mc ms Q K) (F2 mc ms Q K)) (fun mc ms Q K => zbra c x y (G mc ms Q K) (G2 mc ms Q K)) := by
  cases c
  · exact rl_br h h2
  · exact rl_rb h h2
theorem rl_z1i {S : List Value} {H H' : Int32 → List Value → zF} (h : ∀ x t, RLx (H x t) (H' x t)) : RLx (fun mc ms Q K => z1i S fun x t => H x t mc ms Q K) (fun mc ms Q K => z1i S fun x t => H' x t mc ms Q K) := by
  rcases S with _ | ⟨v, t⟩
  · exact rl_F
  · cases v <;> first | exact h _ _ | exact rl_F
theorem rl_z1l {S : List Value} {H H' : Int64 → List Value → zF} (h : ∀ x t, RLx (H x t) (H' x t)) : RLx (fun mc ms Q K => z1l S fun x t => H x t mc ms Q K) (fun mc ms Q K => z1l S fun x t => H' x t mc ms Q K) := by
  rcases S with _ | ⟨v, t⟩
  · exact rl_F
  · cases v <;> first | exact h _ _ | exact rl_F
theorem rl_z1r {S : List Value} {H H' : Nat → List Value → zF} (h : ∀ x t, RLx (H x t) (H' x t)) : RLx (fun mc ms Q K => z1r S fun x t => H x t mc ms Q K) (fun mc ms Q K => z1r S fun x t => H' x t mc ms Q K) := by
  rcases S with _ | ⟨v, t⟩
  · exact rl_F
  · cases v <;> first | exact h _ _ | exact rl_F
theorem rl_z1v {S : List Value} {H H' : Value → List Value → zF} (h : ∀ x t, RLx (H x t) (H' x t)) : RLx (fun mc ms Q K => z1v S fun x t => H x t mc ms Q K) (fun mc ms Q K => z1v S fun x t => H' x t mc ms Q K) := by
  rcases S with _ | ⟨v, t⟩
  · exact rl_F
  · exact h _ _
theorem rl_z2i {S : List Value} {H H' : Int32 → Int32 → List Value → zF} (h : ∀ x y t, RLx (H x y t) (H' x y t)) : RLx (fun mc ms Q K => z2i S fun x y t => H x y t mc ms Q K) (fun mc ms Q K => z2i S fun x y t => H' x y t mc ms Q K) := by
  rcases S with _ | ⟨v, t⟩
  · exact rl_F
  · rcases t with _ | ⟨v2, t⟩
    · cases v <;> exact rl_F
    · cases v <;> cases v2 <;> first | exact h _ _ _ | exact rl_F
theorem rl_z2l {S : List Value} {H H' : Int64 → Int64 → List Value → zF} (h : ∀ x y t, RLx (H x y t) (H' x y t)) : RLx (fun mc ms Q K => z2l S fun x y t => H x y t mc ms Q K) (fun mc ms Q K => z2l S fun x y t => H' x y t mc ms Q K) := by
  rcases S with _ | ⟨v, t⟩
  · exact rl_F
  · rcases t with _ | ⟨v2, t⟩
    · cases v <;> exact rl_F
    · cases v <;> cases v2 <;> first | exact h _ _ _ | exact rl_F
theorem rl_zil {S : List Value} {H H' : Int64 → Int32 → List Value → zF} (h : ∀ x y t, RLx (H x y t) (H' x y t)) : RLx (fun mc ms Q K => zil S fun x y t => H x y t mc ms Q K) (fun mc ms Q K => zil S fun x y t => H' x y t mc ms Q K) := by
  rcases S with _ | ⟨v, t⟩
  · exact rl_F
  · rcases t with _ | ⟨v2, t⟩
    · cases v <;> exact rl_F
    · cases v <;> cases v2 <;> first | exact h _ _ _ | exact rl_F
theorem rl_zgf {S : List Value} {H H2 H' H2' : Nat → List Value → zF} (h : ∀ x t, RLx (H x t) (H' x t)) (h2 : ∀ x t, RLx (H2 x t) (H2' x t)) : RLx (fun mc ms Q K => zgf S (fun x t => H x t mc ms Q K) (fun x t => H2 x t mc ms Q K)) (fun mc ms Q K => zgf S (fun x t => H' x t mc ms Q K) (fun x t => H2' x t mc ms Q K)) := by
  rcases S with _ | ⟨v, t⟩
  · exact rl_F
  · cases v <;> first | exact h _ _ | exact h2 _ _ | exact rl_F
theorem rl_zlen1 {S : List Value} {H H2 H' H2' : Nat → List Value → zF} (h : ∀ x t, RLx (H x t) (H' x t)) (h2 : ∀ x t, RLx (H2 x t) (H2' x t)) : RLx (fun mc ms Q K => zlen1 S (fun x t => H x t mc ms Q K) (fun x t => H2 x t mc ms Q K)) (fun mc ms Q K => zlen1 S (fun x t => H' x t mc ms Q K) (fun x t => H2' x t mc ms Q K)) := by
  rcases S with _ | ⟨v, t⟩
  · exact rl_F
  · cases v <;> first | exact h _ _ | exact h2 _ _ | exact rl_F
theorem rl_zvt {w : zW} {q a : Nat} {H H' : Nat → Nat → zF} (h : ∀ x y, RLx (H x y) (H' x y)) : RLx (fun mc ms Q K => zvt w q a fun x y => H x y mc ms Q K) (fun mc ms Q K => zvt w q a fun x y => H' x y mc ms Q K) := by
  unfold zvt
  rcases zix w q with _ | c
  · exact rl_F
  · rcases c with c | ⟨ci, fs⟩
    · exact rl_F
    · dsimp only
      split
      · exact h _ _
      · exact h _ _
      · exact h _ _
      · exact rl_F
theorem rl_zvr {S : List Value} {H H' : Value → Nat → List Value → zF} (h : ∀ x y t, RLx (H x y t) (H' x y t)) : RLx (fun mc ms Q K => zvr S fun x y t => H x y t mc ms Q K) (fun mc ms Q K => zvr S fun x y t => H' x y t mc ms Q K) := by
  rcases S with _ | ⟨v, t⟩
  · exact rl_F
  · rcases t with _ | ⟨v2, t⟩
    · exact rl_F
    · cases v2 <;> first | exact h _ _ _ | exact rl_F
theorem rl_zvr2 {S : List Value} {H H' : Value → Value → List Value → zF} (h : ∀ x y t, RLx (H x y t) (H' x y t)) : RLx (fun mc ms Q K => zvr2 S fun x y t => H x y t mc ms Q K) (fun mc ms Q K => zvr2 S fun x y t => H' x y t mc ms Q K) := by
  rcases S with _ | ⟨v, t⟩
  · exact rl_F
  · rcases t with _ | ⟨v2, t⟩
    · exact rl_F
    · exact h _ _ _
theorem rl_zia {S : List Value} {H H2 H' H2' : Int32 → Nat → List Value → zF} (h : ∀ x y t, RLx (H x y t) (H' x y t)) (h2 : ∀ x y t, RLx (H2 x y t) (H2' x y t)) : RLx (fun mc ms Q K => zia S (fun x y t => H x y t mc ms Q K) (fun x y t => H2 x y t mc ms Q K)) (fun mc ms Q K => zia S (fun x y t => H' x y t mc ms Q K) (fun x y t => H2' x y t mc ms Q K)) := by
  rcases S with _ | ⟨v, t⟩
  · exact rl_F
  · rcases t with _ | ⟨v2, t⟩
    · cases v <;> exact rl_F
    · cases v <;> cases v2 <;> first | exact h _ _ _ | exact h2 _ _ _ | exact rl_F
theorem rl_zvia {S : List Value} {H H' : Value → Int32 → Nat → List Value → zF} (h : ∀ x y z t, RLx (H x y z t) (H' x y z t)) : RLx (fun mc ms Q K => zvia S fun x y z t => H x y z t mc ms Q K) (fun mc ms Q K => zvia S fun x y z t => H' x y z t mc ms Q K) := by
  rcases S with _ | ⟨v, t⟩
  · exact rl_F
  · rcases t with _ | ⟨v2, t⟩
    · exact rl_F
    · rcases t with _ | ⟨v3, t⟩
      · cases v2 <;> exact rl_F
      · cases v2 <;> cases v3 <;> first | exact h _ _ _ _ | exact rl_F
theorem rl_zli {L : zL} {j : Nat} {H H' : Int32 → zF} (h : ∀ x, RLx (H x) (H' x)) : RLx (fun mc ms Q K => zli L j fun x => H x mc ms Q K) (fun mc ms Q K => zli L j fun x => H' x mc ms Q K) := by
  unfold zli
  rcases zget L j with _ | v
  · exact rl_F
  · cases v <;> first | exact h _ | exact rl_F
theorem rl_zll {L : zL} {j : Nat} {H H' : Int64 → zF} (h : ∀ x, RLx (H x) (H' x)) : RLx (fun mc ms Q K => zll L j fun x => H x mc ms Q K) (fun mc ms Q K => zll L j fun x => H' x mc ms Q K) := by
  unfold zll
  rcases zget L j with _ | v
  · exact rl_F
  · cases v <;> first | exact h _ | exact rl_F
theorem rl_zla {L : zL} {j : Nat} {H H' : Value → zF} (h : ∀ x, RLx (H x) (H' x)) : RLx (fun mc ms Q K => zla L j fun x => H x mc ms Q K) (fun mc ms Q K => zla L j fun x => H' x mc ms Q K) := by
  unfold zla
  rcases zget L j with _ | v
  · exact rl_F
  · cases v <;> first | exact h _ | exact rl_F
theorem rl_zob {w : zW} {q ci : Nat} {H H' : List Value → zF} (h : ∀ x, RLx (H x) (H' x)) : RLx (fun mc ms Q K => zob w q ci fun x => H x mc ms Q K) (fun mc ms Q K => zob w q ci fun x => H' x mc ms Q K) := by
  unfold zob
  rcases zix w q with _ | c
  · exact rl_F
  · rcases c with c | ⟨c, fs⟩
    · exact rl_F
    · exact rl_zif (h _)
theorem rl_zai {w : zW} {q : Nat} {H H' : Nat → Nat → (Nat → Int32) → zF} (h : ∀ x y z, RLx (H x y z) (H' x y z)) : RLx (fun mc ms Q K => zai w q fun x y z => H x y z mc ms Q K) (fun mc ms Q K => zai w q fun x y z => H' x y z mc ms Q K) := by
  unfold zai
  rcases zix w q with _ | c
  · exact rl_F
  · rcases c with ⟨ti, len, c⟩ | c
    · rcases c with g | c
      · exact h _ _ _
      · exact rl_F
    · exact rl_F
theorem rl_zaq {w : zW} {q : Nat} {H H' : Nat → Nat → (Nat → Option Nat) → zF} (h : ∀ x y z, RLx (H x y z) (H' x y z)) : RLx (fun mc ms Q K => zaq w q fun x y z => H x y z mc ms Q K) (fun mc ms Q K => zaq w q fun x y z => H' x y z mc ms Q K) := by
  unfold zaq
  rcases zix w q with _ | c
  · exact rl_F
  · rcases c with ⟨ti, len, c⟩ | c
    · rcases c with g | g | g | g | g
      all_goals first | exact h _ _ _ | exact rl_F
    · exact rl_F
theorem rl_zin1 {S : List Value} {H H' : Value → zF} (h : ∀ x, RLx (H x) (H' x)) : RLx (fun mc ms Q K => zin1 S fun x => H x mc ms Q K) (fun mc ms Q K => zin1 S fun x => H' x mc ms Q K) := by
  rcases S with _ | ⟨v, t⟩
  · exact rl_F
  · rcases t with _ | ⟨v2, t⟩
    · exact h _
    · exact rl_F
theorem rl_z2r {S : List Value} {H H' : Option Nat → Option Nat → List Value → zF} (h : ∀ x y t, RLx (H x y t) (H' x y t)) : RLx (fun mc ms Q K => z2r S fun x y t => H x y t mc ms Q K) (fun mc ms Q K => z2r S fun x y t => H' x y t mc ms Q K) := by
  rcases S with _ | ⟨v, t⟩
  · exact rl_F
  · rcases t with _ | ⟨v2, t⟩
    · exact rl_F
    · cases v <;> cases v2 <;> first | exact h _ _ _ | exact rl_F
theorem rl_zasv {S : List Value} {H H' : Value → List Value → zF} (h : ∀ x t, RLx (H x t) (H' x t)) : RLx (fun mc ms Q K => zasv S fun x t => H x t mc ms Q K) (fun mc ms Q K => zasv S fun x t => H' x t mc ms Q K) := by
  rcases S with _ | ⟨v, t⟩
  · exact rl_F
  · cases v <;> first | exact h _ _ | exact rl_F
theorem rl_zrn {S : List Value} {H H2 H' H2' : List Value → zF} (h : ∀ t, RLx (H t) (H' t)) (h2 : ∀ t, RLx (H2 t) (H2' t)) : RLx (fun mc ms Q K => zrn S (fun t => H t mc ms Q K) (fun t => H2 t mc ms Q K)) (fun mc ms Q K => zrn S (fun t => H' t mc ms Q K) (fun t => H2' t mc ms Q K)) := by
  rcases S with _ | ⟨v, t⟩
  · exact rl_F
  · cases v <;> first | exact h _ | exact h2 _ | exact rl_F
theorem rl_zrn2 {v : Value} {H H' : Nat → zF} (h : ∀ t, RLx (H t) (H' t)) (h2 : RLx F G) : RLx (fun mc ms Q K => zrn2 v (fun t => H t mc ms Q K) (F mc ms Q K)) (fun mc ms Q K => zrn2 v (fun t => H' t mc ms Q K) (G mc ms Q K)) := by
  cases v <;> first | exact h _ | exact h2 | exact rl_F
theorem rl_zfld {fs : List Value} {b : Nat} {H H' : Value → zF} (h : ∀ x, RLx (H x) (H' x)) : RLx (fun mc ms Q K => zfld fs b fun x => H x mc ms Q K) (fun mc ms Q K => zfld fs b fun x => H' x mc ms Q K) := by
  unfold zfld
  rcases zix fs b with _ | v
  · exact rl_F
  · exact h _
theorem rl_zext {E : zX} {H H' : Nat → (Nat → Int32) → zF} (h : ∀ x y, RLx (H x y) (H' x y)) : RLx (fun mc ms Q K => zext E fun x y => H x y mc ms Q K) (fun mc ms Q K => zext E fun x y => H' x y mc ms Q K) := by
  rcases E with _ | q
  · exact rl_F
  · exact h _ _
theorem rl_zcpy {S : List Value} {H H' : Nat → Int32 → Nat → Int32 → Int32 → List Value → zF} (h : ∀ a b c d e t, RLx (H a b c d e t) (H' a b c d e t)) : RLx (fun mc ms Q K => zcpy S fun a b c d e t => H a b c d e t mc ms Q K) (fun mc ms Q K => zcpy S fun a b c d e t => H' a b c d e t mc ms Q K) := by
  unfold zcpy
  split
  · exact h _ _ _ _ _ _
  · exact rl_F
theorem rl_znil {S : List Value} (h : RLx F G) : RLx (fun mc ms Q K => znil S (F mc ms Q K)) (fun mc ms Q K => znil S (G mc ms Q K)) := by
  rcases S with _ | ⟨v, t⟩
  · exact h
  · exact rl_F
end RLs
set_option maxHeartbeats 4000000 in
theorem z_two {C : zCT} (hC : ∀ a As w mc ms Q mc' ms' Q', C a As w mc ms Q → C a As w mc' ms' Q' → ∃ r w', Q r w' ∧ Q' r w') {d : Nat} {M : zM} {E : zX} {tab : List zM} {pc : Nat} {L : zL} {S : List Value} {w : zW} {k n k' n' : Nat} {i : Instr} {np a b : Nat} : RLx (fun mc ms Q K => zins C d M E tab mc ms Q pc L S w k n i np a b K) (fun mc ms Q K => zins C d M E tab mc ms Q pc L S w k' n' i np a b K) := by
  cases i <;> first | exact rl_F | exact rl_K ⟨rfl, rfl, rfl, rfl⟩ | (unfold zins; dsimp only; repeat' first | exact rl_F | exact rl_K ⟨rfl, rfl, rfl, rfl⟩ | exact rl_fin | exact rl_call hC | refine rl_z2r fun _ _ _ => ?_ | refine rl_zif ?_ | refine rl_zor ?_ ?_ | refine rl_and ?_ | refine rl_br ?_ ?_ | refine rl_ex fun _ => ?_ | refine rl_zbr ?_ ?_ | refine rl_zbr0 ?_ ?_ | refine rl_zbra ?_ ?_ | refine rl_z1i fun _ _ => ?_ | refine rl_z1l fun _ _ => ?_ | refine rl_z1r fun _ _ => ?_ | refine rl_z1v fun _ _ => ?_ | refine rl_z2i fun _ _ _ => ?_ | refine rl_z2l fun _ _ _ => ?_ | refine rl_zil fun _ _ _ => ?_ | refine rl_zgf (fun _ _ => ?_) (fun _ _ => ?_) | refine rl_zlen1 (fun _ _ => ?_) (fun _ _ => ?_) | refine rl_zvt fun _ _ => ?_ | refine rl_zvr fun _ _ _ => ?_ | refine rl_zvr2 fun _ _ _ => ?_ | refine rl_zia (fun _ _ _ => ?_) (fun _ _ _ => ?_) | refine rl_zvia fun _ _ _ _ => ?_ | refine rl_zli fun _ => ?_ | refine rl_zll fun _ => ?_ | refine rl_zla fun _ => ?_ | refine rl_zob fun _ => ?_ | refine rl_zai fun _ _ _ => ?_ | refine rl_zaq fun _ _ _ => ?_ | refine rl_zin1 fun _ => ?_ | refine rl_zasv fun _ _ => ?_ | refine rl_zrn (fun _ => ?_) (fun _ => ?_) | refine rl_zrn2 (fun _ => ?_) ?_ | refine rl_zfld fun _ => ?_ | refine rl_zext fun _ _ => ?_ | refine rl_zcpy fun _ _ _ _ _ _ => ?_ | refine rl_znil ?_)
theorem zsc_two {C : zCT} (hC : ∀ a As w mc ms Q mc' ms' Q', C a As w mc ms Q → C a As w mc' ms' Q' → ∃ r w', Q r w' ∧ Q' r w') {d : Nat} {M : zM} {E : zX} {tab : List zM} {pc : Nat} {L : zL} {S : List Value} {w : zW} {k n k' n' : Nat} : RLx (fun mc ms Q K => zsc C d M E tab mc ms Q pc L S w k n K) (fun mc ms Q K => zsc C d M E tab mc ms Q pc L S w k' n' K) := by
  unfold zsc
  rcases zat M.2.2.2.2.2 pc with _ | e
  · exact rl_F
  · exact z_two hC
theorem zwp_unf {C : zCT} {d : Nat} {M : zM} {E : zX} {tab : List zM} {mc ms : Nat} {Q : zQ} {x : zS} (h : zwp C d M E tab mc ms Q x) : ∃ P : zS → Prop, (∀ u, P u → zwp C d M E tab mc ms Q u) ∧ zstep C d M E tab mc ms Q x P := by
  refine h (fun y => ∃ P : zS → Prop, (∀ u, P u → zwp C d M E tab mc ms Q u) ∧ zstep C d M E tab mc ms Q y P) ?_
  rintro y ⟨P, hPR, hs⟩
  refine ⟨P, fun u hu => ?_, hs⟩
  obtain ⟨P2, a, b⟩ := hPR u hu
  exact fun R hR => hR u ⟨P2, fun z hz => a z hz R hR, b⟩
theorem zwp_two {C : zCT} (hC : ∀ a As w mc ms Q mc' ms' Q', C a As w mc ms Q → C a As w mc' ms' Q' → ∃ r w', Q r w' ∧ Q' r w') {d : Nat} {M : zM} {E : zX} {tab : List zM} {mc ms mc' ms' : Nat} {Q Q' : zQ} {x : zS} (h : zwp C d M E tab mc ms Q x) : ∀ y, sim x y → zwp C d M E tab mc' ms' Q' y → ∃ r w', Q r w' ∧ Q' r w' := by
  refine h (fun x => ∀ y, sim x y → zwp C d M E tab mc' ms' Q' y → ∃ r w', Q r w' ∧ Q' r w') ?_
  rintro ⟨pc, L, S, w, k, n⟩ ⟨P, hPR, hs⟩ ⟨pc2, L2, S2, w2, k2, n2⟩ ⟨e1, e2, e3, e4⟩ hy
  dsimp only at e1 e2 e3 e4
  subst e1 e2 e3 e4
  obtain ⟨P2, hP2, hs2⟩ := zwp_unf hy
  rcases zsc_two hC mc ms Q P mc' ms' Q' P2 hs hs2 with ⟨u, v, a, b, c⟩ | ⟨r, w', a, b⟩
  · exact hPR u a v c (hP2 v b)
  · exact ⟨r, w', a, b⟩
theorem zCl_two {tab : List zM} : ∀ (d a : Nat) (As : List Value) (w : zW) (mc ms : Nat) (Q : zQ) (mc' ms' : Nat) (Q' : zQ), zCl tab d a As w mc ms Q → zCl tab d a As w mc' ms' Q' → ∃ r w', Q r w' ∧ Q' r w' := by
  intro d
  induction d with
  | zero => exact fun _ _ _ _ _ _ _ _ _ h => h.elim
  | succ d ih =>
    intro a As w mc ms Q mc' ms' Q' h h2
    unfold zCl at h h2
    revert h h2
    rcases zix tab a with _ | M
    · exact fun h => h.elim
    · rintro ⟨hl, hz⟩ ⟨hl2, hz2⟩
      exact zwp_two ih hz _ ⟨rfl, rfl, rfl, rfl⟩ hz2
/-! THE REFERENCE BETWEEN ITS CALLS. -/
def MI (w : zW) (sz kp : Nat → Int32) : Prop := ∃ (c0 c1 c2 c3 c4 c5 c6 c7 c8 c9 c10 c11 c12 c13 : va_E) (f0 f9 f10 f11 f12 f13 f15 f16 f17 f20 f21 f22 f23 f26 f28 f31 f32 f33 f38 f41 f44 : Int) (x14 : Int64) (g15 g17 g18 g19 g20 g21 g22 g23 g24 g25 g26 g27 g28 g29 g30 g31 g32 g33 g34 g35 g36 g37 g38 g39 g40 g41 g42 g43 : Nat → Int32) (t : zW), w = zMi c0 c1 c2 c3 c4 c5 c6 c7 c8 c9 c10 c11 c12 c13 f0 f9 f10 f11 f12 f13 f15 f16 f17 f20 f21 f22 f23 f26 f28 f31 f32 f33 f38 f41 f44 x14 g15 sz g17 g18 g19 g20 g21 g22 g23 g24 g25 g26 g27 g28 g29 g30 g31 g32 g33 g34 g35 g36 g37 g38 g39 g40 g41 g42 g43 kp t ∧ zB 0 600 sz ∧ zB 0 2 g19 ∧ bkOK g20 ∧ yrOK g21 ∧ siOK g22 ∧ zB 0 3 g25 ∧ zB 0 3 g26 ∧ zB 0 5460 g28 ∧ zB 0 5460 g30 ∧ zB 0 5460 g33 ∧ zB 0 5460 g38
def SAME (w w' : zW) : Prop := w'.length = w.length ∧ ∀ q, (q < 14 ∨ 44 < q) → zix w' q = zix w q
theorem same_M {c0 c1 c2 c3 c4 c5 c6 c7 c8 c9 c10 c11 c12 c13 : va_E} {f0 f9 f10 f11 f12 f13 f15 f16 f17 f20 f21 f22 f23 f26 f28 f31 f32 f33 f38 f41 f44 f0' f9' f10' f11' f12' f13' f15' f16' f17' f20' f21' f22' f23' f26' f28' f31' f32' f33' f38' f41' f44' : Int} {x14 x14' : Int64} {g15 g16 g17 g18 g19 g20 g21 g22 g23 g24 g25 g26 g27 g28 g29 g30 g31 g32 g33 g34 g35 g36 g37 g38 g39 g40 g41 g42 g43 g44 g15' g16' g17' g18' g19' g20' g21' g22' g23' g24' g25' g26' g27' g28' g29' g30' g31' g32' g33' g34' g35' g36' g37' g38' g39' g40' g41' g42' g43' g44' : Nat → Int32} {t : zW} : SAME (zMi c0 c1 c2 c3 c4 c5 c6 c7 c8 c9 c10 c11 c12 c13 f0 f9 f10 f11 f12 f13 f15 f16 f17 f20 f21 f22 f23 f26 f28 f31 f32 f33 f38 f41 f44 x14 g15 g16 g17 g18 g19 g20 g21 g22 g23 g24 g25 g26 g27 g28 g29 g30 g31 g32 g33 g34 g35 g36 g37 g38 g39 g40 g41 g42 g43 g44 t) (zMi c0 c1 c2 c3 c4 c5 c6 c7 c8 c9 c10 c11 c12 c13 f0' f9' f10' f11' f12' f13' f15' f16' f17' f20' f21' f22' f23' f26' f28' f31' f32' f33' f38' f41' f44' x14' g15' g16' g17' g18' g19' g20' g21' g22' g23' g24' g25' g26' g27' g28' g29' g30' g31' g32' g33' g34' g35' g36' g37' g38' g39' g40' g41' g42' g43' g44' t) := ⟨rfl, fun q h => by
  match q, h with
  | 0, _ => rfl
  | 1, _ => rfl
  | 2, _ => rfl
  | 3, _ => rfl
  | 4, _ => rfl
  | 5, _ => rfl
  | 6, _ => rfl
  | 7, _ => rfl
  | 8, _ => rfl
  | 9, _ => rfl
  | 10, _ => rfl
  | 11, _ => rfl
  | 12, _ => rfl
  | 13, _ => rfl
  | 14, h => exact absurd h (by decide)
  | 15, h => exact absurd h (by decide)
  | 16, h => exact absurd h (by decide)
  | 17, h => exact absurd h (by decide)
  | 18, h => exact absurd h (by decide)
  | 19, h => exact absurd h (by decide)
  | 20, h => exact absurd h (by decide)
  | 21, h => exact absurd h (by decide)
  | 22, h => exact absurd h (by decide)
  | 23, h => exact absurd h (by decide)
  | 24, h => exact absurd h (by decide)
  | 25, h => exact absurd h (by decide)
  | 26, h => exact absurd h (by decide)
  | 27, h => exact absurd h (by decide)
  | 28, h => exact absurd h (by decide)
  | 29, h => exact absurd h (by decide)
  | 30, h => exact absurd h (by decide)
  | 31, h => exact absurd h (by decide)
  | 32, h => exact absurd h (by decide)
  | 33, h => exact absurd h (by decide)
  | 34, h => exact absurd h (by decide)
  | 35, h => exact absurd h (by decide)
  | 36, h => exact absurd h (by decide)
  | 37, h => exact absurd h (by decide)
  | 38, h => exact absurd h (by decide)
  | 39, h => exact absurd h (by decide)
  | 40, h => exact absurd h (by decide)
  | 41, h => exact absurd h (by decide)
  | 42, h => exact absurd h (by decide)
  | 43, h => exact absurd h (by decide)
  | 44, h => exact absurd h (by decide)
  | n + 45, _ => rfl⟩
theorem hd1 {w : zW} {n : Nat} (h : n + 1 ≤ w.length) : ∃ c t, w = c :: t ∧ n ≤ t.length := by
  cases w with
  | nil => exact absurd h (by simp)
  | cons c t => exact ⟨c, t, rfl, by rw [List.length_cons] at h; omega⟩
theorem l45 {w : zW} (h0 : 45 ≤ w.length) : ∃ (d0 d1 d2 d3 d4 d5 d6 d7 d8 d9 d10 d11 d12 d13 d14 d15 d16 d17 d18 d19 d20 d21 d22 d23 d24 d25 d26 d27 d28 d29 d30 d31 d32 d33 d34 d35 d36 d37 d38 d39 d40 d41 d42 d43 d44 : va_E) (t : zW), w = d0 :: d1 :: d2 :: d3 :: d4 :: d5 :: d6 :: d7 :: d8 :: d9 :: d10 :: d11 :: d12 :: d13 :: d14 :: d15 :: d16 :: d17 :: d18 :: d19 :: d20 :: d21 :: d22 :: d23 :: d24 :: d25 :: d26 :: d27 :: d28 :: d29 :: d30 :: d31 :: d32 :: d33 :: d34 :: d35 :: d36 :: d37 :: d38 :: d39 :: d40 :: d41 :: d42 :: d43 :: d44 :: t := by
  obtain ⟨d0, w0, rfl, h1⟩ := hd1 (n := 44) h0
  obtain ⟨d1, w1, rfl, h2⟩ := hd1 (n := 43) h1
  obtain ⟨d2, w2, rfl, h3⟩ := hd1 (n := 42) h2
  obtain ⟨d3, w3, rfl, h4⟩ := hd1 (n := 41) h3
  obtain ⟨d4, w4, rfl, h5⟩ := hd1 (n := 40) h4
  obtain ⟨d5, w5, rfl, h6⟩ := hd1 (n := 39) h5
  obtain ⟨d6, w6, rfl, h7⟩ := hd1 (n := 38) h6
  obtain ⟨d7, w7, rfl, h8⟩ := hd1 (n := 37) h7
  obtain ⟨d8, w8, rfl, h9⟩ := hd1 (n := 36) h8
  obtain ⟨d9, w9, rfl, h10⟩ := hd1 (n := 35) h9
  obtain ⟨d10, w10, rfl, h11⟩ := hd1 (n := 34) h10
  obtain ⟨d11, w11, rfl, h12⟩ := hd1 (n := 33) h11
  obtain ⟨d12, w12, rfl, h13⟩ := hd1 (n := 32) h12
  obtain ⟨d13, w13, rfl, h14⟩ := hd1 (n := 31) h13
  obtain ⟨d14, w14, rfl, h15⟩ := hd1 (n := 30) h14
  obtain ⟨d15, w15, rfl, h16⟩ := hd1 (n := 29) h15
  obtain ⟨d16, w16, rfl, h17⟩ := hd1 (n := 28) h16
  obtain ⟨d17, w17, rfl, h18⟩ := hd1 (n := 27) h17
  obtain ⟨d18, w18, rfl, h19⟩ := hd1 (n := 26) h18
  obtain ⟨d19, w19, rfl, h20⟩ := hd1 (n := 25) h19
  obtain ⟨d20, w20, rfl, h21⟩ := hd1 (n := 24) h20
  obtain ⟨d21, w21, rfl, h22⟩ := hd1 (n := 23) h21
  obtain ⟨d22, w22, rfl, h23⟩ := hd1 (n := 22) h22
  obtain ⟨d23, w23, rfl, h24⟩ := hd1 (n := 21) h23
  obtain ⟨d24, w24, rfl, h25⟩ := hd1 (n := 20) h24
  obtain ⟨d25, w25, rfl, h26⟩ := hd1 (n := 19) h25
  obtain ⟨d26, w26, rfl, h27⟩ := hd1 (n := 18) h26
  obtain ⟨d27, w27, rfl, h28⟩ := hd1 (n := 17) h27
  obtain ⟨d28, w28, rfl, h29⟩ := hd1 (n := 16) h28
  obtain ⟨d29, w29, rfl, h30⟩ := hd1 (n := 15) h29
  obtain ⟨d30, w30, rfl, h31⟩ := hd1 (n := 14) h30
  obtain ⟨d31, w31, rfl, h32⟩ := hd1 (n := 13) h31
  obtain ⟨d32, w32, rfl, h33⟩ := hd1 (n := 12) h32
  obtain ⟨d33, w33, rfl, h34⟩ := hd1 (n := 11) h33
  obtain ⟨d34, w34, rfl, h35⟩ := hd1 (n := 10) h34
  obtain ⟨d35, w35, rfl, h36⟩ := hd1 (n := 9) h35
  obtain ⟨d36, w36, rfl, h37⟩ := hd1 (n := 8) h36
  obtain ⟨d37, w37, rfl, h38⟩ := hd1 (n := 7) h37
  obtain ⟨d38, w38, rfl, h39⟩ := hd1 (n := 6) h38
  obtain ⟨d39, w39, rfl, h40⟩ := hd1 (n := 5) h39
  obtain ⟨d40, w40, rfl, h41⟩ := hd1 (n := 4) h40
  obtain ⟨d41, w41, rfl, h42⟩ := hd1 (n := 3) h41
  obtain ⟨d42, w42, rfl, h43⟩ := hd1 (n := 2) h42
  obtain ⟨d43, w43, rfl, h44⟩ := hd1 (n := 1) h43
  obtain ⟨d44, w44, rfl, h45⟩ := hd1 (n := 0) h44
  exact ⟨d0, d1, d2, d3, d4, d5, d6, d7, d8, d9, d10, d11, d12, d13, d14, d15, d16, d17, d18, d19, d20, d21, d22, d23, d24, d25, d26, d27, d28, d29, d30, d31, d32, d33, d34, d35, d36, d37, d38, d39, d40, d41, d42, d43, d44, w44, rfl⟩
theorem mi_keep {w w' : zW} {sz kp : Nat → Int32} (h : MI w sz kp) (hk : KEEP w w') (h45 : 45 ≤ w'.length) : MI w' sz kp := by
  obtain ⟨c0, c1, c2, c3, c4, c5, c6, c7, c8, c9, c10, c11, c12, c13, f0, f9, f10, f11, f12, f13, f15, f16, f17, f20, f21, f22, f23, f26, f28, f31, f32, f33, f38, f41, f44, x14, g15, g17, g18, g19, g20, g21, g22, g23, g24, g25, g26, g27, g28, g29, g30, g31, g32, g33, g34, g35, g36, g37, g38, g39, g40, g41, g42, g43, t, rfl, hb⟩ := h
  obtain ⟨d0, d1, d2, d3, d4, d5, d6, d7, d8, d9, d10, d11, d12, d13, d14, d15, d16, d17, d18, d19, d20, d21, d22, d23, d24, d25, d26, d27, d28, d29, d30, d31, d32, d33, d34, d35, d36, d37, d38, d39, d40, d41, d42, d43, d44, t', rfl⟩ := l45 h45
  have e14 : d14 = _ := Option.some.inj (hk 14 (by decide) (by decide))
  have e15 : d15 = _ := Option.some.inj (hk 15 (by decide) (by decide))
  have e16 : d16 = _ := Option.some.inj (hk 16 (by decide) (by decide))
  have e17 : d17 = _ := Option.some.inj (hk 17 (by decide) (by decide))
  have e18 : d18 = _ := Option.some.inj (hk 18 (by decide) (by decide))
  have e19 : d19 = _ := Option.some.inj (hk 19 (by decide) (by decide))
  have e20 : d20 = _ := Option.some.inj (hk 20 (by decide) (by decide))
  have e21 : d21 = _ := Option.some.inj (hk 21 (by decide) (by decide))
  have e22 : d22 = _ := Option.some.inj (hk 22 (by decide) (by decide))
  have e23 : d23 = _ := Option.some.inj (hk 23 (by decide) (by decide))
  have e24 : d24 = _ := Option.some.inj (hk 24 (by decide) (by decide))
  have e25 : d25 = _ := Option.some.inj (hk 25 (by decide) (by decide))
  have e26 : d26 = _ := Option.some.inj (hk 26 (by decide) (by decide))
  have e27 : d27 = _ := Option.some.inj (hk 27 (by decide) (by decide))
  have e28 : d28 = _ := Option.some.inj (hk 28 (by decide) (by decide))
  have e29 : d29 = _ := Option.some.inj (hk 29 (by decide) (by decide))
  have e30 : d30 = _ := Option.some.inj (hk 30 (by decide) (by decide))
  have e31 : d31 = _ := Option.some.inj (hk 31 (by decide) (by decide))
  have e32 : d32 = _ := Option.some.inj (hk 32 (by decide) (by decide))
  have e33 : d33 = _ := Option.some.inj (hk 33 (by decide) (by decide))
  have e34 : d34 = _ := Option.some.inj (hk 34 (by decide) (by decide))
  have e35 : d35 = _ := Option.some.inj (hk 35 (by decide) (by decide))
  have e36 : d36 = _ := Option.some.inj (hk 36 (by decide) (by decide))
  have e37 : d37 = _ := Option.some.inj (hk 37 (by decide) (by decide))
  have e38 : d38 = _ := Option.some.inj (hk 38 (by decide) (by decide))
  have e39 : d39 = _ := Option.some.inj (hk 39 (by decide) (by decide))
  have e40 : d40 = _ := Option.some.inj (hk 40 (by decide) (by decide))
  have e41 : d41 = _ := Option.some.inj (hk 41 (by decide) (by decide))
  have e42 : d42 = _ := Option.some.inj (hk 42 (by decide) (by decide))
  have e43 : d43 = _ := Option.some.inj (hk 43 (by decide) (by decide))
  have e44 : d44 = _ := Option.some.inj (hk 44 (by decide) (by decide))
  rw [e14, e15, e16, e17, e18, e19, e20, e21, e22, e23, e24, e25, e26, e27, e28, e29, e30, e31, e32, e33, e34, e35, e36, e37, e38, e39, e40, e41, e42, e43, e44]
  exact ⟨d0, d1, d2, d3, d4, d5, d6, d7, d8, d9, d10, d11, d12, d13, f0, f9, f10, f11, f12, f13, f15, f16, f17, f20, f21, f22, f23, f26, f28, f31, f32, f33, f38, f41, f44, x14, g15, g17, g18, g19, g20, g21, g22, g23, g24, g25, g26, g27, g28, g29, g30, g31, g32, g33, g34, g35, g36, g37, g38, g39, g40, g41, g42, g43, t', rfl, hb⟩
theorem zBcp {lo hi : Int} {g : Nat → Int32} {n fr to c : Nat} (h : zB lo hi g) : zB lo hi (cpR g n fr to c) := by
  intro j
  unfold cpR
  split
  · exact h _
  · exact h _
theorem cp_or {v : Int} {k g k' : Nat → Int32} {P : (Nat → Int32) → Prop} (h : (v = 0 ∧ k = g) ∨ (v = 1 ∧ k = k')) (h0 : P g) (h1 : v = 1 → P k') : P k := by
  rcases h with ⟨_, e⟩ | ⟨hv, e⟩
  · rw [e]; exact h0
  · rw [e]; exact h1 hv
theorem zB_0 {lo hi : Int} {g k : Nat → Int32} (h : zB lo hi g) (h0 : lo ≤ (k 0).toInt ∧ (k 0).toInt ≤ hi) (hk : ∀ j, j ≠ 0 → k j = g j) : zB lo hi k := by
  intro j
  by_cases e : j = 0
  · rw [e]; exact h0
  · rw [hk j e]; exact h j
theorem mi_elim {w : zW} {sz kp : Nat → Int32} {P : Prop} (h : MI w sz kp) (k : ∀ (c0 c1 c2 c3 c4 c5 c6 c7 c8 c9 c10 c11 c12 c13 : va_E) (f0 f9 f10 f11 f12 f13 f15 f16 f17 f20 f21 f22 f23 f26 f28 f31 f32 f33 f38 f41 f44 : Int) (x14 : Int64) (g15 g17 g18 g19 g20 g21 g22 g23 g24 g25 g26 g27 g28 g29 g30 g31 g32 g33 g34 g35 g36 g37 g38 g39 g40 g41 g42 g43 : Nat → Int32) (t : zW), w = zMi c0 c1 c2 c3 c4 c5 c6 c7 c8 c9 c10 c11 c12 c13 f0 f9 f10 f11 f12 f13 f15 f16 f17 f20 f21 f22 f23 f26 f28 f31 f32 f33 f38 f41 f44 x14 g15 sz g17 g18 g19 g20 g21 g22 g23 g24 g25 g26 g27 g28 g29 g30 g31 g32 g33 g34 g35 g36 g37 g38 g39 g40 g41 g42 g43 kp t → (zB 0 600 sz) → (zB 0 2 g19) → (bkOK g20) → (yrOK g21) → (siOK g22) → (zB 0 3 g25) → (zB 0 3 g26) → (zB 0 5460 g28) → (zB 0 5460 g30) → (zB 0 5460 g33) → (zB 0 5460 g38) → P) : P := by
  obtain ⟨c0, c1, c2, c3, c4, c5, c6, c7, c8, c9, c10, c11, c12, c13, f0, f9, f10, f11, f12, f13, f15, f16, f17, f20, f21, f22, f23, f26, f28, f31, f32, f33, f38, f41, f44, x14, g15, g17, g18, g19, g20, g21, g22, g23, g24, g25, g26, g27, g28, g29, g30, g31, g32, g33, g34, g35, g36, g37, g38, g39, g40, g41, g42, g43, t, e, b16, b19, b20, b21, b22, b25, b26, b28, b30, b33, b38⟩ := h
  exact k c0 c1 c2 c3 c4 c5 c6 c7 c8 c9 c10 c11 c12 c13 f0 f9 f10 f11 f12 f13 f15 f16 f17 f20 f21 f22 f23 f26 f28 f31 f32 f33 f38 f41 f44 x14 g15 g17 g18 g19 g20 g21 g22 g23 g24 g25 g26 g27 g28 g29 g30 g31 g32 g33 g34 g35 g36 g37 g38 g39 g40 g41 g42 g43 t e b16 b19 b20 b21 b22 b25 b26 b28 b30 b33 b38
theorem q_feed {w : zW} {sz kp : Nat → Int32} (h : MI w sz kp) (d : Nat) (a1 a2 a3 a4 a5 : Int) (ha1 : -2147483648 ≤ a1 ∧ a1 ≤ 2147483647) (ha2 : -2147483648 ≤ a2 ∧ a2 ≤ 2147483647) (ha3 : -2147483648 ≤ a3 ∧ a3 ≤ 2147483647) (ha4 : -2147483648 ≤ a4 ∧ a4 ≤ 2147483647) (ha5 : -2147483648 ≤ a5 ∧ a5 ≤ 2147483647) : DET zTab (d + 2) iX12_feed [.ref 14, .int (Int32.ofInt a1), .int (Int32.ofInt a2), .int (Int32.ofInt a3), .int (Int32.ofInt a4), .int (Int32.ofInt a5)] w (fun mc ms r w' => (mc = 0 ∧ ms = 0) ∧ SAME w w' ∧ ∃ (v : Int) (k16 k44 : Nat → Int32), MI w' k16 k44 ∧ r = some (.int (Int32.ofInt v)) ∧ (((v = -1 ∧ 580 < (sz 0).toInt ∧ (k16 0).toInt = (sz 0).toInt) ∨ (v = (sz 0).toInt + 20 ∧ (sz 0).toInt ≤ 580 ∧ (k16 0).toInt = v))) ∧ ((∀ j, j ≠ 0 → k16 j = sz j)) ∧ k44 = kp) := by
  refine mi_elim h fun c0 c1 c2 c3 c4 c5 c6 c7 c8 c9 c10 c11 c12 c13 f0 f9 f10 f11 f12 f13 f15 f16 f17 f20 f21 f22 f23 f26 f28 f31 f32 f33 f38 f41 f44 x14 g15 g17 g18 g19 g20 g21 g22 g23 g24 g25 g26 g27 g28 g29 g30 g31 g32 g33 g34 g35 g36 g37 g38 g39 g40 g41 g42 g43 t e b16 b19 b20 b21 b22 b25 b26 b28 b30 b33 b38 => ?_
  subst e
  have z0 := b16 0
  exact det_of (mc := 0) (ms := 0) (m_feed d a1 a2 a3 a4 a5 (b16 0) _ fun v y0 k15 k16 p0 p1 => ⟨⟨rfl, rfl⟩, same_M, v, k16, _, ⟨_, _, _, _, _, _, _, _, _, _, _, _, _, _, _, _, _, _, _, _, _, _, _, _, _, _, _, _, _, _, _, _, _, _, _, _, _, _, _, _, _, _, _, _, _, _, _, _, _, _, _, _, _, _, _, _, _, _, _, _, _, _, _, _, _, rfl, (zB_0 b16 (by omega) p1), b19, b20, b21, b22, b25, b26, b28, b30, b33, b38⟩, rfl, p0, p1, rfl⟩)
theorem q_end {w : zW} {sz kp : Nat → Int32} (h : MI w sz kp) (d : Nat) (a1 : Int) (ha1 : -2147483648 ≤ a1 ∧ a1 ≤ 2147483647) : DET zTab (d + 2) iX12_end [.ref 14, .int (Int32.ofInt a1)] w (fun mc ms r w' => (mc = 0 ∧ ms = 0) ∧ SAME w w' ∧ ∃ (v : Int) (k16 k44 : Nat → Int32), MI w' k16 k44 ∧ r = some (.int (Int32.ofInt v)) ∧ (((v = -1 ∧ (a1 < 0 ∨ (sz 0).toInt < a1) ∧ (k16 0).toInt = (sz 0).toInt) ∨ (v = a1 ∧ 0 ≤ a1 ∧ a1 ≤ (sz 0).toInt ∧ (k16 0).toInt = a1))) ∧ ((∀ j, j ≠ 0 → k16 j = sz j)) ∧ k44 = kp) := by
  refine mi_elim h fun c0 c1 c2 c3 c4 c5 c6 c7 c8 c9 c10 c11 c12 c13 f0 f9 f10 f11 f12 f13 f15 f16 f17 f20 f21 f22 f23 f26 f28 f31 f32 f33 f38 f41 f44 x14 g15 g17 g18 g19 g20 g21 g22 g23 g24 g25 g26 g27 g28 g29 g30 g31 g32 g33 g34 g35 g36 g37 g38 g39 g40 g41 g42 g43 t e b16 b19 b20 b21 b22 b25 b26 b28 b30 b33 b38 => ?_
  subst e
  have z0 := b16 0
  exact det_of (mc := 0) (ms := 0) (m_end d a1 (b16 0) (by omega) _ fun v y0 k16 p0 p1 => ⟨⟨rfl, rfl⟩, same_M, v, k16, _, ⟨_, _, _, _, _, _, _, _, _, _, _, _, _, _, _, _, _, _, _, _, _, _, _, _, _, _, _, _, _, _, _, _, _, _, _, _, _, _, _, _, _, _, _, _, _, _, _, _, _, _, _, _, _, _, _, _, _, _, _, _, _, _, _, _, _, rfl, (zB_0 b16 (by omega) p1), b19, b20, b21, b22, b25, b26, b28, b30, b33, b38⟩, rfl, p0, p1, rfl⟩)
theorem q_text {w : zW} {sz kp : Nat → Int32} (h : MI w sz kp) (d : Nat) (a1 a2 : Int) (ha1 : -2147483648 ≤ a1 ∧ a1 ≤ 2147483647) (ha2 : -2147483648 ≤ a2 ∧ a2 ≤ 2147483647) : DET zTab (d + 10) iX12_text [.ref 14, .int (Int32.ofInt a1), .int (Int32.ofInt a2)] w (fun mc ms r w' => (mc = 0 ∧ ms = 0) ∧ SAME w w' ∧ ∃ (v : Int) (k16 k44 : Nat → Int32), MI w' k16 k44 ∧ r = some (.int (Int32.ofInt v)) ∧ (((k16 0).toInt = 0)) ∧ ((∀ j, j ≠ 0 → k16 j = sz j)) ∧ k44 = kp) := by
  refine mi_elim h fun c0 c1 c2 c3 c4 c5 c6 c7 c8 c9 c10 c11 c12 c13 f0 f9 f10 f11 f12 f13 f15 f16 f17 f20 f21 f22 f23 f26 f28 f31 f32 f33 f38 f41 f44 x14 g15 g17 g18 g19 g20 g21 g22 g23 g24 g25 g26 g27 g28 g29 g30 g31 g32 g33 g34 g35 g36 g37 g38 g39 g40 g41 g42 g43 t e b16 b19 b20 b21 b22 b25 b26 b28 b30 b33 b38 => ?_
  subst e
  have z0 := b16 0
  exact det_of (mc := 0) (ms := 0) (m_text d a1 a2 b19 b16 b20 b21 b22 (by omega) (by omega) _ fun v y0 y9 y10 y11 y12 y13 y14 y15 y16 y17 y21 k16 k17 k18 k19 k20 k21 k22 k23 k24 p0 p1 p2 p3 p4 p5 => ⟨⟨rfl, rfl⟩, same_M, v, k16, _, ⟨_, _, _, _, _, _, _, _, _, _, _, _, _, _, _, _, _, _, _, _, _, _, _, _, _, _, _, _, _, _, _, _, _, _, _, _, _, _, _, _, _, _, _, _, _, _, _, _, _, _, _, _, _, _, _, _, _, _, _, _, _, _, _, _, _, rfl, (zB_0 b16 (by omega) p2), p0, p3, p4, p5, b25, b26, b28, b30, b33, b38⟩, rfl, p1, p2, rfl⟩)
theorem q_fault {w : zW} {sz kp : Nat → Int32} (h : MI w sz kp) (d : Nat) (a1 : Int) (ha1 : -2147483648 ≤ a1 ∧ a1 ≤ 2147483647) : DET zTab (d + 1) iX12_fault [.ref 14, .int (Int32.ofInt a1)] w (fun mc ms r w' => (mc = 0 ∧ ms = 0) ∧ SAME w w' ∧ MI w' sz kp ∧ ∃ v, r = some (.int v)) := by
  refine mi_elim h fun c0 c1 c2 c3 c4 c5 c6 c7 c8 c9 c10 c11 c12 c13 f0 f9 f10 f11 f12 f13 f15 f16 f17 f20 f21 f22 f23 f26 f28 f31 f32 f33 f38 f41 f44 x14 g15 g17 g18 g19 g20 g21 g22 g23 g24 g25 g26 g27 g28 g29 g30 g31 g32 g33 g34 g35 g36 g37 g38 g39 g40 g41 g42 g43 t e b16 b19 b20 b21 b22 b25 b26 b28 b30 b33 b38 => ?_
  subst e
  have z0 := b16 0
  exact det_of (mc := 0) (ms := 0) (m_fault d a1 (by omega) _ fun v y0 => ⟨⟨rfl, rfl⟩, same_M, ⟨_, _, _, _, _, _, _, _, _, _, _, _, _, _, _, _, _, _, _, _, _, _, _, _, _, _, _, _, _, _, _, _, _, _, _, _, _, _, _, _, _, _, _, _, _, _, _, _, _, _, _, _, _, _, _, _, _, _, _, _, _, _, _, _, _, rfl, b16, b19, b20, b21, b22, b25, b26, b28, b30, b33, b38⟩, _, rfl⟩)
theorem q_book {w : zW} {sz kp : Nat → Int32} (h : MI w sz kp) (d : Nat) (a1 a2 : Int) (ha1 : -2147483648 ≤ a1 ∧ a1 ≤ 2147483647) (ha2 : -2147483648 ≤ a2 ∧ a2 ≤ 2147483647) : DET zTab (d + 4) iX12_book [.ref 14, .int (Int32.ofInt a1), .int (Int32.ofInt a2)] w (fun mc ms r w' => (mc = 0 ∧ ms = 0) ∧ SAME w w' ∧ MI w' sz kp ∧ ∃ v, r = some (.int v)) := by
  refine mi_elim h fun c0 c1 c2 c3 c4 c5 c6 c7 c8 c9 c10 c11 c12 c13 f0 f9 f10 f11 f12 f13 f15 f16 f17 f20 f21 f22 f23 f26 f28 f31 f32 f33 f38 f41 f44 x14 g15 g17 g18 g19 g20 g21 g22 g23 g24 g25 g26 g27 g28 g29 g30 g31 g32 g33 g34 g35 g36 g37 g38 g39 g40 g41 g42 g43 t e b16 b19 b20 b21 b22 b25 b26 b28 b30 b33 b38 => ?_
  subst e
  have z0 := b16 0
  exact det_of (mc := 0) (ms := 0) (m_book d a1 a2 b19 b20 (by omega) (by omega) _ fun v y0 y20 y22 y23 => ⟨⟨rfl, rfl⟩, same_M, ⟨_, _, _, _, _, _, _, _, _, _, _, _, _, _, _, _, _, _, _, _, _, _, _, _, _, _, _, _, _, _, _, _, _, _, _, _, _, _, _, _, _, _, _, _, _, _, _, _, _, _, _, _, _, _, _, _, _, _, _, _, _, _, _, _, _, rfl, b16, b19, b20, b21, b22, b25, b26, b28, b30, b33, b38⟩, _, rfl⟩)
theorem q_word {w : zW} {sz kp : Nat → Int32} (h : MI w sz kp) (d : Nat) (a1 a2 : Int) (ha1 : -2147483648 ≤ a1 ∧ a1 ≤ 2147483647) (ha2 : -2147483648 ≤ a2 ∧ a2 ≤ 2147483647) : DET zTab (d + 4) iX12_word [.ref 14, .int (Int32.ofInt a1), .int (Int32.ofInt a2)] w (fun mc ms r w' => (mc = 0 ∧ ms = 0) ∧ SAME w w' ∧ MI w' sz kp ∧ ∃ v, r = some (.int v)) := by
  refine mi_elim h fun c0 c1 c2 c3 c4 c5 c6 c7 c8 c9 c10 c11 c12 c13 f0 f9 f10 f11 f12 f13 f15 f16 f17 f20 f21 f22 f23 f26 f28 f31 f32 f33 f38 f41 f44 x14 g15 g17 g18 g19 g20 g21 g22 g23 g24 g25 g26 g27 g28 g29 g30 g31 g32 g33 g34 g35 g36 g37 g38 g39 g40 g41 g42 g43 t e b16 b19 b20 b21 b22 b25 b26 b28 b30 b33 b38 => ?_
  subst e
  have z0 := b16 0
  exact det_of (mc := 0) (ms := 0) (m_word d a1 a2 b25 (by omega) (by omega) _ fun v y0 k25 p0 => ⟨⟨rfl, rfl⟩, same_M, ⟨_, _, _, _, _, _, _, _, _, _, _, _, _, _, _, _, _, _, _, _, _, _, _, _, _, _, _, _, _, _, _, _, _, _, _, _, _, _, _, _, _, _, _, _, _, _, _, _, _, _, _, _, _, _, _, _, _, _, _, _, _, _, _, _, _, rfl, b16, b19, b20, b21, b22, p0, b26, b28, b30, b33, b38⟩, _, rfl⟩)
theorem q_drift {w : zW} {sz kp : Nat → Int32} (h : MI w sz kp) (d : Nat) (a1 a2 : Int) (ha1 : -2147483648 ≤ a1 ∧ a1 ≤ 2147483647) (ha2 : -2147483648 ≤ a2 ∧ a2 ≤ 2147483647) : DET zTab (d + 5) iX12_drift [.ref 14, .int (Int32.ofInt a1), .int (Int32.ofInt a2)] w (fun mc ms r w' => (mc = 0 ∧ ms = 0) ∧ SAME w w' ∧ MI w' sz kp ∧ ∃ v, r = some (.int v)) := by
  refine mi_elim h fun c0 c1 c2 c3 c4 c5 c6 c7 c8 c9 c10 c11 c12 c13 f0 f9 f10 f11 f12 f13 f15 f16 f17 f20 f21 f22 f23 f26 f28 f31 f32 f33 f38 f41 f44 x14 g15 g17 g18 g19 g20 g21 g22 g23 g24 g25 g26 g27 g28 g29 g30 g31 g32 g33 g34 g35 g36 g37 g38 g39 g40 g41 g42 g43 t e b16 b19 b20 b21 b22 b25 b26 b28 b30 b33 b38 => ?_
  subst e
  have z0 := b16 0
  exact det_of (mc := 0) (ms := 0) (m_drift d a1 a2 b25 b26 (by omega) (by omega) _ fun v y0 k25 k26 k27 p0 p1 => ⟨⟨rfl, rfl⟩, same_M, ⟨_, _, _, _, _, _, _, _, _, _, _, _, _, _, _, _, _, _, _, _, _, _, _, _, _, _, _, _, _, _, _, _, _, _, _, _, _, _, _, _, _, _, _, _, _, _, _, _, _, _, _, _, _, _, _, _, _, _, _, _, _, _, _, _, _, rfl, b16, b19, b20, b21, b22, p0, p1, b28, b30, b33, b38⟩, _, rfl⟩)
theorem q_read {w : zW} {sz kp : Nat → Int32} (h : MI w sz kp) (d : Nat) (a1 a2 a3 : Int) (ha1 : -2147483648 ≤ a1 ∧ a1 ≤ 2147483647) (ha2 : -2147483648 ≤ a2 ∧ a2 ≤ 2147483647) (ha3 : -2147483648 ≤ a3 ∧ a3 ≤ 2147483647) : DET zTab (d + 5) iX12_read [.ref 14, .int (Int32.ofInt a1), .int (Int32.ofInt a2), .int (Int32.ofInt a3)] w (fun mc ms r w' => (mc = 0 ∧ ms = 0) ∧ SAME w w' ∧ MI w' sz kp ∧ ∃ v, r = some (.int v)) := by
  refine mi_elim h fun c0 c1 c2 c3 c4 c5 c6 c7 c8 c9 c10 c11 c12 c13 f0 f9 f10 f11 f12 f13 f15 f16 f17 f20 f21 f22 f23 f26 f28 f31 f32 f33 f38 f41 f44 x14 g15 g17 g18 g19 g20 g21 g22 g23 g24 g25 g26 g27 g28 g29 g30 g31 g32 g33 g34 g35 g36 g37 g38 g39 g40 g41 g42 g43 t e b16 b19 b20 b21 b22 b25 b26 b28 b30 b33 b38 => ?_
  subst e
  have z0 := b16 0
  exact det_of (mc := 0) (ms := 0) (m_read d a1 a2 a3 b19 b25 b20 (by omega) (by omega) (by omega) _ fun v y0 y20 y22 y23 y26 k25 p0 => ⟨⟨rfl, rfl⟩, same_M, ⟨_, _, _, _, _, _, _, _, _, _, _, _, _, _, _, _, _, _, _, _, _, _, _, _, _, _, _, _, _, _, _, _, _, _, _, _, _, _, _, _, _, _, _, _, _, _, _, _, _, _, _, _, _, _, _, _, _, _, _, _, _, _, _, _, _, rfl, b16, b19, b20, b21, b22, p0, b26, b28, b30, b33, b38⟩, _, rfl⟩)
theorem q_deed {w : zW} {sz kp : Nat → Int32} (h : MI w sz kp) (d : Nat) (a1 a2 a3 : Int) (ha1 : -2147483648 ≤ a1 ∧ a1 ≤ 2147483647) (ha2 : -2147483648 ≤ a2 ∧ a2 ≤ 2147483647) (ha3 : -2147483648 ≤ a3 ∧ a3 ≤ 2147483647) : DET zTab (d + 4) iX12_deed [.ref 14, .int (Int32.ofInt a1), .int (Int32.ofInt a2), .int (Int32.ofInt a3)] w (fun mc ms r w' => (mc = 0 ∧ ms = 0) ∧ SAME w w' ∧ MI w' sz kp ∧ ∃ v, r = some (.int v)) := by
  refine mi_elim h fun c0 c1 c2 c3 c4 c5 c6 c7 c8 c9 c10 c11 c12 c13 f0 f9 f10 f11 f12 f13 f15 f16 f17 f20 f21 f22 f23 f26 f28 f31 f32 f33 f38 f41 f44 x14 g15 g17 g18 g19 g20 g21 g22 g23 g24 g25 g26 g27 g28 g29 g30 g31 g32 g33 g34 g35 g36 g37 g38 g39 g40 g41 g42 g43 t e b16 b19 b20 b21 b22 b25 b26 b28 b30 b33 b38 => ?_
  subst e
  have z0 := b16 0
  exact det_of (mc := 0) (ms := 0) (m_deed d a1 a2 a3 b19 b21 (by omega) (by omega) (by omega) _ fun v y0 y28 => ⟨⟨rfl, rfl⟩, same_M, ⟨_, _, _, _, _, _, _, _, _, _, _, _, _, _, _, _, _, _, _, _, _, _, _, _, _, _, _, _, _, _, _, _, _, _, _, _, _, _, _, _, _, _, _, _, _, _, _, _, _, _, _, _, _, _, _, _, _, _, _, _, _, _, _, _, _, rfl, b16, b19, b20, b21, b22, b25, b26, b28, b30, b33, b38⟩, _, rfl⟩)
theorem q_stop {w : zW} {sz kp : Nat → Int32} (h : MI w sz kp) (d : Nat) (a1 a2 : Int) (ha1 : -2147483648 ≤ a1 ∧ a1 ≤ 2147483647) (ha2 : -2147483648 ≤ a2 ∧ a2 ≤ 2147483647) : DET zTab (d + 8) iX12_stop [.ref 14, .int (Int32.ofInt a1), .int (Int32.ofInt a2)] w (fun mc ms r w' => (mc = 0 ∧ ms = 0) ∧ SAME w w' ∧ MI w' sz kp ∧ ∃ v, r = some (.int v)) := by
  refine mi_elim h fun c0 c1 c2 c3 c4 c5 c6 c7 c8 c9 c10 c11 c12 c13 f0 f9 f10 f11 f12 f13 f15 f16 f17 f20 f21 f22 f23 f26 f28 f31 f32 f33 f38 f41 f44 x14 g15 g17 g18 g19 g20 g21 g22 g23 g24 g25 g26 g27 g28 g29 g30 g31 g32 g33 g34 g35 g36 g37 g38 g39 g40 g41 g42 g43 t e b16 b19 b20 b21 b22 b25 b26 b28 b30 b33 b38 => ?_
  subst e
  have z0 := b16 0
  exact det_of (mc := 0) (ms := 0) (m_stop d a1 a2 b19 b25 b28 b20 b21 (by omega) (by omega) _ fun v y0 y20 y22 y23 y26 y28 y31 y32 y33 k25 k28 k29 p0 p1 => ⟨⟨rfl, rfl⟩, same_M, ⟨_, _, _, _, _, _, _, _, _, _, _, _, _, _, _, _, _, _, _, _, _, _, _, _, _, _, _, _, _, _, _, _, _, _, _, _, _, _, _, _, _, _, _, _, _, _, _, _, _, _, _, _, _, _, _, _, _, _, _, _, _, _, _, _, _, rfl, b16, b19, b20, b21, b22, p0, b26, p1, b30, b33, b38⟩, _, rfl⟩)
theorem q_state {w : zW} {sz kp : Nat → Int32} (h : MI w sz kp) (d : Nat) (a1 a2 a3 a4 : Int) (ha1 : -2147483648 ≤ a1 ∧ a1 ≤ 2147483647) (ha2 : -2147483648 ≤ a2 ∧ a2 ≤ 2147483647) (ha3 : -2147483648 ≤ a3 ∧ a3 ≤ 2147483647) (ha4 : -2147483648 ≤ a4 ∧ a4 ≤ 2147483647) : DET zTab (d + 8) iX12_state [.ref 14, .int (Int32.ofInt a1), .int (Int32.ofInt a2), .int (Int32.ofInt a3), .int (Int32.ofInt a4)] w (fun mc ms r w' => (mc = 0 ∧ ms = 0) ∧ SAME w w' ∧ MI w' sz kp ∧ ∃ v, r = some (.int v)) := by
  refine mi_elim h fun c0 c1 c2 c3 c4 c5 c6 c7 c8 c9 c10 c11 c12 c13 f0 f9 f10 f11 f12 f13 f15 f16 f17 f20 f21 f22 f23 f26 f28 f31 f32 f33 f38 f41 f44 x14 g15 g17 g18 g19 g20 g21 g22 g23 g24 g25 g26 g27 g28 g29 g30 g31 g32 g33 g34 g35 g36 g37 g38 g39 g40 g41 g42 g43 t e b16 b19 b20 b21 b22 b25 b26 b28 b30 b33 b38 => ?_
  subst e
  have z0 := b16 0
  exact det_of (mc := 0) (ms := 0) (m_state d a1 a2 a3 a4 b19 b25 b26 b28 b20 b21 (by omega) (by omega) (by omega) (by omega) _ fun v y0 y20 y22 y23 y26 y28 y31 y32 y33 k25 k26 k27 k28 k29 p0 p1 p2 => ⟨⟨rfl, rfl⟩, same_M, ⟨_, _, _, _, _, _, _, _, _, _, _, _, _, _, _, _, _, _, _, _, _, _, _, _, _, _, _, _, _, _, _, _, _, _, _, _, _, _, _, _, _, _, _, _, _, _, _, _, _, _, _, _, _, _, _, _, _, _, _, _, _, _, _, _, _, rfl, b16, b19, b20, b21, b22, p0, p1, p2, b30, b33, b38⟩, _, rfl⟩)
theorem q_making {w : zW} {sz kp : Nat → Int32} (h : MI w sz kp) (d : Nat) (a1 a2 a3 a4 : Int) (ha1 : -2147483648 ≤ a1 ∧ a1 ≤ 2147483647) (ha2 : -2147483648 ≤ a2 ∧ a2 ≤ 2147483647) (ha3 : -2147483648 ≤ a3 ∧ a3 ≤ 2147483647) (ha4 : -2147483648 ≤ a4 ∧ a4 ≤ 2147483647) : DET zTab (d + 7) iX12_making [.ref 14, .int (Int32.ofInt a1), .int (Int32.ofInt a2), .int (Int32.ofInt a3), .int (Int32.ofInt a4)] w (fun mc ms r w' => (mc = 0 ∧ ms = 0) ∧ SAME w w' ∧ MI w' sz kp ∧ ∃ v, r = some (.int v)) := by
  refine mi_elim h fun c0 c1 c2 c3 c4 c5 c6 c7 c8 c9 c10 c11 c12 c13 f0 f9 f10 f11 f12 f13 f15 f16 f17 f20 f21 f22 f23 f26 f28 f31 f32 f33 f38 f41 f44 x14 g15 g17 g18 g19 g20 g21 g22 g23 g24 g25 g26 g27 g28 g29 g30 g31 g32 g33 g34 g35 g36 g37 g38 g39 g40 g41 g42 g43 t e b16 b19 b20 b21 b22 b25 b26 b28 b30 b33 b38 => ?_
  subst e
  have z0 := b16 0
  exact det_of (mc := 0) (ms := 0) (m_making d a1 a2 a3 a4 b19 b25 b30 b20 (by omega) (by omega) (by omega) (by omega) _ fun v y0 y20 y21 y22 y23 y26 k25 k30 k32 p0 p1 => ⟨⟨rfl, rfl⟩, same_M, ⟨_, _, _, _, _, _, _, _, _, _, _, _, _, _, _, _, _, _, _, _, _, _, _, _, _, _, _, _, _, _, _, _, _, _, _, _, _, _, _, _, _, _, _, _, _, _, _, _, _, _, _, _, _, _, _, _, _, _, _, _, _, _, _, _, _, rfl, b16, b19, b20, b21, b22, p0, b26, b28, p1, b33, b38⟩, _, rfl⟩)
theorem q_ring {w : zW} {sz kp : Nat → Int32} (h : MI w sz kp) (d : Nat) (a1 a2 : Int) (ha1 : -2147483648 ≤ a1 ∧ a1 ≤ 2147483647) (ha2 : -2147483648 ≤ a2 ∧ a2 ≤ 2147483647) : DET zTab (d + 7) iX12_ring [.ref 14, .int (Int32.ofInt a1), .int (Int32.ofInt a2)] w (fun mc ms r w' => (mc = 0 ∧ ms = 0) ∧ SAME w w' ∧ MI w' sz kp ∧ ∃ v, r = some (.int v)) := by
  refine mi_elim h fun c0 c1 c2 c3 c4 c5 c6 c7 c8 c9 c10 c11 c12 c13 f0 f9 f10 f11 f12 f13 f15 f16 f17 f20 f21 f22 f23 f26 f28 f31 f32 f33 f38 f41 f44 x14 g15 g17 g18 g19 g20 g21 g22 g23 g24 g25 g26 g27 g28 g29 g30 g31 g32 g33 g34 g35 g36 g37 g38 g39 g40 g41 g42 g43 t e b16 b19 b20 b21 b22 b25 b26 b28 b30 b33 b38 => ?_
  subst e
  have z0 := b16 0
  exact det_of (mc := 0) (ms := 0) (m_ring d a1 a2 b19 b25 b30 b33 b20 (by omega) (by omega) _ fun v y0 y20 y21 y22 y23 y26 y38 k25 k30 k31 k33 p0 p1 p2 => ⟨⟨rfl, rfl⟩, same_M, ⟨_, _, _, _, _, _, _, _, _, _, _, _, _, _, _, _, _, _, _, _, _, _, _, _, _, _, _, _, _, _, _, _, _, _, _, _, _, _, _, _, _, _, _, _, _, _, _, _, _, _, _, _, _, _, _, _, _, _, _, _, _, _, _, _, _, rfl, b16, b19, b20, b21, b22, p0, b26, b28, p1, p2, b38⟩, _, rfl⟩)
theorem q_reach {w : zW} {sz kp : Nat → Int32} (h : MI w sz kp) (d : Nat) (a1 a2 a3 : Int) (ha1 : -2147483648 ≤ a1 ∧ a1 ≤ 2147483647) (ha2 : -2147483648 ≤ a2 ∧ a2 ≤ 2147483647) (ha3 : -2147483648 ≤ a3 ∧ a3 ≤ 2147483647) : DET zTab (d + 7) iX12_reach [.ref 14, .int (Int32.ofInt a1), .int (Int32.ofInt a2), .int (Int32.ofInt a3)] w (fun mc ms r w' => (mc = 0 ∧ ms = 0) ∧ SAME w w' ∧ MI w' sz kp ∧ ∃ v, r = some (.int v)) := by
  refine mi_elim h fun c0 c1 c2 c3 c4 c5 c6 c7 c8 c9 c10 c11 c12 c13 f0 f9 f10 f11 f12 f13 f15 f16 f17 f20 f21 f22 f23 f26 f28 f31 f32 f33 f38 f41 f44 x14 g15 g17 g18 g19 g20 g21 g22 g23 g24 g25 g26 g27 g28 g29 g30 g31 g32 g33 g34 g35 g36 g37 g38 g39 g40 g41 g42 g43 t e b16 b19 b20 b21 b22 b25 b26 b28 b30 b33 b38 => ?_
  subst e
  have z0 := b16 0
  exact det_of (mc := 0) (ms := 0) (m_reach d a1 a2 a3 b19 b25 b30 b33 b20 (by omega) (by omega) (by omega) _ fun v y0 y20 y21 y22 y23 y26 y38 k25 k30 k31 k33 p0 p1 p2 => ⟨⟨rfl, rfl⟩, same_M, ⟨_, _, _, _, _, _, _, _, _, _, _, _, _, _, _, _, _, _, _, _, _, _, _, _, _, _, _, _, _, _, _, _, _, _, _, _, _, _, _, _, _, _, _, _, _, _, _, _, _, _, _, _, _, _, _, _, _, _, _, _, _, _, _, _, _, rfl, b16, b19, b20, b21, b22, p0, b26, b28, p1, p2, b38⟩, _, rfl⟩)
theorem q_sound {w : zW} {sz kp : Nat → Int32} (h : MI w sz kp) (d : Nat) (a1 a2 : Int) (ha1 : -2147483648 ≤ a1 ∧ a1 ≤ 2147483647) (ha2 : -2147483648 ≤ a2 ∧ a2 ≤ 2147483647) : DET zTab (d + 6) iX12_sound [.ref 14, .int (Int32.ofInt a1), .int (Int32.ofInt a2)] w (fun mc ms r w' => (mc = 0 ∧ ms = 0) ∧ SAME w w' ∧ MI w' sz kp ∧ ∃ v, r = some (.int v)) := by
  refine mi_elim h fun c0 c1 c2 c3 c4 c5 c6 c7 c8 c9 c10 c11 c12 c13 f0 f9 f10 f11 f12 f13 f15 f16 f17 f20 f21 f22 f23 f26 f28 f31 f32 f33 f38 f41 f44 x14 g15 g17 g18 g19 g20 g21 g22 g23 g24 g25 g26 g27 g28 g29 g30 g31 g32 g33 g34 g35 g36 g37 g38 g39 g40 g41 g42 g43 t e b16 b19 b20 b21 b22 b25 b26 b28 b30 b33 b38 => ?_
  subst e
  have z0 := b16 0
  exact det_of (mc := 0) (ms := 0) (m_sound d a1 a2 b19 b25 b30 b20 (by omega) (by omega) _ fun v y0 y20 y21 y22 y23 y26 k25 k30 p0 p1 => ⟨⟨rfl, rfl⟩, same_M, ⟨_, _, _, _, _, _, _, _, _, _, _, _, _, _, _, _, _, _, _, _, _, _, _, _, _, _, _, _, _, _, _, _, _, _, _, _, _, _, _, _, _, _, _, _, _, _, _, _, _, _, _, _, _, _, _, _, _, _, _, _, _, _, _, _, _, rfl, b16, b19, b20, b21, b22, p0, b26, b28, p1, b33, b38⟩, _, rfl⟩)
theorem q_like {w : zW} {sz kp : Nat → Int32} (h : MI w sz kp) (d : Nat) (a1 a2 a3 : Int) (ha1 : -2147483648 ≤ a1 ∧ a1 ≤ 2147483647) (ha2 : -2147483648 ≤ a2 ∧ a2 ≤ 2147483647) (ha3 : -2147483648 ≤ a3 ∧ a3 ≤ 2147483647) : DET zTab (d + 6) iX12_like [.ref 14, .int (Int32.ofInt a1), .int (Int32.ofInt a2), .int (Int32.ofInt a3)] w (fun mc ms r w' => (mc = 0 ∧ ms = 0) ∧ SAME w w' ∧ MI w' sz kp ∧ ∃ v, r = some (.int v)) := by
  refine mi_elim h fun c0 c1 c2 c3 c4 c5 c6 c7 c8 c9 c10 c11 c12 c13 f0 f9 f10 f11 f12 f13 f15 f16 f17 f20 f21 f22 f23 f26 f28 f31 f32 f33 f38 f41 f44 x14 g15 g17 g18 g19 g20 g21 g22 g23 g24 g25 g26 g27 g28 g29 g30 g31 g32 g33 g34 g35 g36 g37 g38 g39 g40 g41 g42 g43 t e b16 b19 b20 b21 b22 b25 b26 b28 b30 b33 b38 => ?_
  subst e
  have z0 := b16 0
  exact det_of (mc := 0) (ms := 0) (m_like d a1 a2 a3 b19 b25 b30 b20 (by omega) (by omega) (by omega) _ fun v y0 y20 y21 y22 y23 y26 k25 k30 p0 p1 => ⟨⟨rfl, rfl⟩, same_M, ⟨_, _, _, _, _, _, _, _, _, _, _, _, _, _, _, _, _, _, _, _, _, _, _, _, _, _, _, _, _, _, _, _, _, _, _, _, _, _, _, _, _, _, _, _, _, _, _, _, _, _, _, _, _, _, _, _, _, _, _, _, _, _, _, _, _, rfl, b16, b19, b20, b21, b22, p0, b26, b28, p1, b33, b38⟩, _, rfl⟩)
theorem q_orbits {w : zW} {sz kp : Nat → Int32} (h : MI w sz kp) (d : Nat) (a1 a2 a3 : Int) (ha1 : -2147483648 ≤ a1 ∧ a1 ≤ 2147483647) (ha2 : -2147483648 ≤ a2 ∧ a2 ≤ 2147483647) (ha3 : -2147483648 ≤ a3 ∧ a3 ≤ 2147483647) : DET zTab (d + 6) iX12_orbits [.ref 14, .int (Int32.ofInt a1), .int (Int32.ofInt a2), .int (Int32.ofInt a3)] w (fun mc ms r w' => (mc = 0 ∧ ms = 0) ∧ SAME w w' ∧ MI w' sz kp ∧ ∃ v, r = some (.int v)) := by
  refine mi_elim h fun c0 c1 c2 c3 c4 c5 c6 c7 c8 c9 c10 c11 c12 c13 f0 f9 f10 f11 f12 f13 f15 f16 f17 f20 f21 f22 f23 f26 f28 f31 f32 f33 f38 f41 f44 x14 g15 g17 g18 g19 g20 g21 g22 g23 g24 g25 g26 g27 g28 g29 g30 g31 g32 g33 g34 g35 g36 g37 g38 g39 g40 g41 g42 g43 t e b16 b19 b20 b21 b22 b25 b26 b28 b30 b33 b38 => ?_
  subst e
  have z0 := b16 0
  exact det_of (mc := 0) (ms := 0) (m_orbits d a1 a2 a3 b19 b25 b30 b33 b20 (by omega) (by omega) (by omega) _ fun v y0 y20 y21 y22 y23 y26 k25 k30 k31 k33 k34 p0 p1 p2 => ⟨⟨rfl, rfl⟩, same_M, ⟨_, _, _, _, _, _, _, _, _, _, _, _, _, _, _, _, _, _, _, _, _, _, _, _, _, _, _, _, _, _, _, _, _, _, _, _, _, _, _, _, _, _, _, _, _, _, _, _, _, _, _, _, _, _, _, _, _, _, _, _, _, _, _, _, _, rfl, b16, b19, b20, b21, b22, p0, b26, b28, p1, p2, b38⟩, _, rfl⟩)
theorem q_rota {w : zW} {sz kp : Nat → Int32} (h : MI w sz kp) (d : Nat) (a1 a2 a3 : Int) (ha1 : -2147483648 ≤ a1 ∧ a1 ≤ 2147483647) (ha2 : -2147483648 ≤ a2 ∧ a2 ≤ 2147483647) (ha3 : -2147483648 ≤ a3 ∧ a3 ≤ 2147483647) : DET zTab (d + 6) iX12_rota [.ref 14, .int (Int32.ofInt a1), .int (Int32.ofInt a2), .int (Int32.ofInt a3)] w (fun mc ms r w' => (mc = 0 ∧ ms = 0) ∧ SAME w w' ∧ MI w' sz kp ∧ ∃ v, r = some (.int v)) := by
  refine mi_elim h fun c0 c1 c2 c3 c4 c5 c6 c7 c8 c9 c10 c11 c12 c13 f0 f9 f10 f11 f12 f13 f15 f16 f17 f20 f21 f22 f23 f26 f28 f31 f32 f33 f38 f41 f44 x14 g15 g17 g18 g19 g20 g21 g22 g23 g24 g25 g26 g27 g28 g29 g30 g31 g32 g33 g34 g35 g36 g37 g38 g39 g40 g41 g42 g43 t e b16 b19 b20 b21 b22 b25 b26 b28 b30 b33 b38 => ?_
  subst e
  have z0 := b16 0
  exact det_of (mc := 0) (ms := 0) (m_rota d a1 a2 a3 b19 b25 b26 b30 b20 (by omega) (by omega) (by omega) _ fun v y0 y20 y21 y22 y23 y26 k25 k26 k27 k30 k35 p0 p1 p2 => ⟨⟨rfl, rfl⟩, same_M, ⟨_, _, _, _, _, _, _, _, _, _, _, _, _, _, _, _, _, _, _, _, _, _, _, _, _, _, _, _, _, _, _, _, _, _, _, _, _, _, _, _, _, _, _, _, _, _, _, _, _, _, _, _, _, _, _, _, _, _, _, _, _, _, _, _, _, rfl, b16, b19, b20, b21, b22, p0, p1, b28, p2, b33, b38⟩, _, rfl⟩)
theorem q_mean {w : zW} {sz kp : Nat → Int32} (h : MI w sz kp) (d : Nat) (a1 a2 a3 : Int) (ha1 : -2147483648 ≤ a1 ∧ a1 ≤ 2147483647) (ha2 : -2147483648 ≤ a2 ∧ a2 ≤ 2147483647) (ha3 : -2147483648 ≤ a3 ∧ a3 ≤ 2147483647) : DET zTab (d + 6) iX12_mean [.ref 14, .int (Int32.ofInt a1), .int (Int32.ofInt a2), .int (Int32.ofInt a3)] w (fun mc ms r w' => (mc = 0 ∧ ms = 0) ∧ SAME w w' ∧ MI w' sz kp ∧ ∃ v, r = some (.long v)) := by
  refine mi_elim h fun c0 c1 c2 c3 c4 c5 c6 c7 c8 c9 c10 c11 c12 c13 f0 f9 f10 f11 f12 f13 f15 f16 f17 f20 f21 f22 f23 f26 f28 f31 f32 f33 f38 f41 f44 x14 g15 g17 g18 g19 g20 g21 g22 g23 g24 g25 g26 g27 g28 g29 g30 g31 g32 g33 g34 g35 g36 g37 g38 g39 g40 g41 g42 g43 t e b16 b19 b20 b21 b22 b25 b26 b28 b30 b33 b38 => ?_
  subst e
  have z0 := b16 0
  exact det_of (mc := 0) (ms := 0) (m_mean d a1 a2 a3 b19 b25 b26 b30 b20 (by omega) (by omega) (by omega) _ fun v y0 y20 y21 y22 y23 y26 k25 k26 k27 k30 k35 p0 p1 p2 => ⟨⟨rfl, rfl⟩, same_M, ⟨_, _, _, _, _, _, _, _, _, _, _, _, _, _, _, _, _, _, _, _, _, _, _, _, _, _, _, _, _, _, _, _, _, _, _, _, _, _, _, _, _, _, _, _, _, _, _, _, _, _, _, _, _, _, _, _, _, _, _, _, _, _, _, _, _, rfl, b16, b19, b20, b21, b22, p0, p1, b28, p2, b33, b38⟩, _, rfl⟩)
theorem q_elders {w : zW} {sz kp : Nat → Int32} (h : MI w sz kp) (d : Nat) (a1 a2 a3 a4 : Int) (ha1 : -2147483648 ≤ a1 ∧ a1 ≤ 2147483647) (ha2 : -2147483648 ≤ a2 ∧ a2 ≤ 2147483647) (ha3 : -2147483648 ≤ a3 ∧ a3 ≤ 2147483647) (ha4 : -2147483648 ≤ a4 ∧ a4 ≤ 2147483647) : DET zTab (d + 7) iX12_elders [.ref 14, .int (Int32.ofInt a1), .int (Int32.ofInt a2), .int (Int32.ofInt a3), .int (Int32.ofInt a4)] w (fun mc ms r w' => (mc = 0 ∧ ms = 0) ∧ SAME w w' ∧ MI w' sz kp ∧ ∃ v, r = some (.int v)) := by
  refine mi_elim h fun c0 c1 c2 c3 c4 c5 c6 c7 c8 c9 c10 c11 c12 c13 f0 f9 f10 f11 f12 f13 f15 f16 f17 f20 f21 f22 f23 f26 f28 f31 f32 f33 f38 f41 f44 x14 g15 g17 g18 g19 g20 g21 g22 g23 g24 g25 g26 g27 g28 g29 g30 g31 g32 g33 g34 g35 g36 g37 g38 g39 g40 g41 g42 g43 t e b16 b19 b20 b21 b22 b25 b26 b28 b30 b33 b38 => ?_
  subst e
  have z0 := b16 0
  exact det_of (mc := 0) (ms := 0) (m_elders d a1 a2 a3 a4 b19 b25 b30 b20 (by omega) (by omega) (by omega) (by omega) _ fun v y0 y20 y21 y22 y23 y26 k25 k30 k31 k32 p0 p1 => ⟨⟨rfl, rfl⟩, same_M, ⟨_, _, _, _, _, _, _, _, _, _, _, _, _, _, _, _, _, _, _, _, _, _, _, _, _, _, _, _, _, _, _, _, _, _, _, _, _, _, _, _, _, _, _, _, _, _, _, _, _, _, _, _, _, _, _, _, _, _, _, _, _, _, _, _, _, rfl, b16, b19, b20, b21, b22, p0, b26, b28, p1, b33, b38⟩, _, rfl⟩)
theorem q_play {w : zW} {sz kp : Nat → Int32} (h : MI w sz kp) (d : Nat) (a1 a2 a3 a4 a5 a6 : Int) (ha1 : -2147483648 ≤ a1 ∧ a1 ≤ 2147483647) (ha2 : -2147483648 ≤ a2 ∧ a2 ≤ 2147483647) (ha3 : -2147483648 ≤ a3 ∧ a3 ≤ 2147483647) (ha4 : -2147483648 ≤ a4 ∧ a4 ≤ 2147483647) (ha5 : -2147483648 ≤ a5 ∧ a5 ≤ 2147483647) (ha6 : -2147483648 ≤ a6 ∧ a6 ≤ 2147483647) : DET zTab (d + 6) iX12_play_ [.ref 14, .int (Int32.ofInt a1), .int (Int32.ofInt a2), .int (Int32.ofInt a3), .int (Int32.ofInt a4), .int (Int32.ofInt a5), .int (Int32.ofInt a6)] w (fun mc ms r w' => (mc = 0 ∧ ms = 0) ∧ SAME w w' ∧ MI w' sz kp ∧ ∃ v, r = some (.int v)) := by
  refine mi_elim h fun c0 c1 c2 c3 c4 c5 c6 c7 c8 c9 c10 c11 c12 c13 f0 f9 f10 f11 f12 f13 f15 f16 f17 f20 f21 f22 f23 f26 f28 f31 f32 f33 f38 f41 f44 x14 g15 g17 g18 g19 g20 g21 g22 g23 g24 g25 g26 g27 g28 g29 g30 g31 g32 g33 g34 g35 g36 g37 g38 g39 g40 g41 g42 g43 t e b16 b19 b20 b21 b22 b25 b26 b28 b30 b33 b38 => ?_
  subst e
  have z0 := b16 0
  exact det_of (mc := 0) (ms := 0) (m_play d a1 a2 a3 a4 a5 a6 b19 b25 b30 b20 (by omega) (by omega) (by omega) (by omega) (by omega) (by omega) _ fun v y0 y20 y21 y22 y23 y26 k25 k30 k35 p0 p1 => ⟨⟨rfl, rfl⟩, same_M, ⟨_, _, _, _, _, _, _, _, _, _, _, _, _, _, _, _, _, _, _, _, _, _, _, _, _, _, _, _, _, _, _, _, _, _, _, _, _, _, _, _, _, _, _, _, _, _, _, _, _, _, _, _, _, _, _, _, _, _, _, _, _, _, _, _, _, rfl, b16, b19, b20, b21, b22, p0, b26, b28, p1, b33, b38⟩, _, rfl⟩)
theorem q_fact {w : zW} {sz kp : Nat → Int32} (h : MI w sz kp) (d : Nat) (a1 a2 a3 : Int) (ha1 : -2147483648 ≤ a1 ∧ a1 ≤ 2147483647) (ha2 : -2147483648 ≤ a2 ∧ a2 ≤ 2147483647) (ha3 : -2147483648 ≤ a3 ∧ a3 ≤ 2147483647) : DET zTab (d + 4) iX12_fact [.ref 14, .int (Int32.ofInt a1), .int (Int32.ofInt a2), .int (Int32.ofInt a3)] w (fun mc ms r w' => (mc = 0 ∧ ms = 0) ∧ SAME w w' ∧ MI w' sz kp ∧ ∃ v, r = some (.int v)) := by
  refine mi_elim h fun c0 c1 c2 c3 c4 c5 c6 c7 c8 c9 c10 c11 c12 c13 f0 f9 f10 f11 f12 f13 f15 f16 f17 f20 f21 f22 f23 f26 f28 f31 f32 f33 f38 f41 f44 x14 g15 g17 g18 g19 g20 g21 g22 g23 g24 g25 g26 g27 g28 g29 g30 g31 g32 g33 g34 g35 g36 g37 g38 g39 g40 g41 g42 g43 t e b16 b19 b20 b21 b22 b25 b26 b28 b30 b33 b38 => ?_
  subst e
  have z0 := b16 0
  exact det_of (mc := 0) (ms := 0) (m_fact d a1 a2 a3 b19 b22 (by omega) (by omega) (by omega) _ fun v y0 y41 => ⟨⟨rfl, rfl⟩, same_M, ⟨_, _, _, _, _, _, _, _, _, _, _, _, _, _, _, _, _, _, _, _, _, _, _, _, _, _, _, _, _, _, _, _, _, _, _, _, _, _, _, _, _, _, _, _, _, _, _, _, _, _, _, _, _, _, _, _, _, _, _, _, _, _, _, _, _, rfl, b16, b19, b20, b21, b22, b25, b26, b28, b30, b33, b38⟩, _, rfl⟩)
theorem q_fits {w : zW} {sz kp : Nat → Int32} (h : MI w sz kp) (d : Nat) (a1 a2 a3 a4 : Int) (ha1 : -2147483648 ≤ a1 ∧ a1 ≤ 2147483647) (ha2 : -2147483648 ≤ a2 ∧ a2 ≤ 2147483647) (ha3 : -2147483648 ≤ a3 ∧ a3 ≤ 2147483647) (ha4 : -2147483648 ≤ a4 ∧ a4 ≤ 2147483647) : DET zTab (d + 7) iX12_fits [.ref 14, .int (Int32.ofInt a1), .int (Int32.ofInt a2), .int (Int32.ofInt a3), .int (Int32.ofInt a4)] w (fun mc ms r w' => (mc = 0 ∧ ms = 0) ∧ SAME w w' ∧ MI w' sz kp ∧ ∃ v, r = some (.int v)) := by
  refine mi_elim h fun c0 c1 c2 c3 c4 c5 c6 c7 c8 c9 c10 c11 c12 c13 f0 f9 f10 f11 f12 f13 f15 f16 f17 f20 f21 f22 f23 f26 f28 f31 f32 f33 f38 f41 f44 x14 g15 g17 g18 g19 g20 g21 g22 g23 g24 g25 g26 g27 g28 g29 g30 g31 g32 g33 g34 g35 g36 g37 g38 g39 g40 g41 g42 g43 t e b16 b19 b20 b21 b22 b25 b26 b28 b30 b33 b38 => ?_
  subst e
  have z0 := b16 0
  exact det_of (mc := 0) (ms := 0) (m_fits d a1 a2 a3 a4 b19 b25 b30 b20 b22 (by omega) (by omega) (by omega) (by omega) _ fun v y0 y20 y21 y22 y23 y26 y41 k25 k30 k36 k37 p0 p1 => ⟨⟨rfl, rfl⟩, same_M, ⟨_, _, _, _, _, _, _, _, _, _, _, _, _, _, _, _, _, _, _, _, _, _, _, _, _, _, _, _, _, _, _, _, _, _, _, _, _, _, _, _, _, _, _, _, _, _, _, _, _, _, _, _, _, _, _, _, _, _, _, _, _, _, _, _, _, rfl, b16, b19, b20, b21, b22, p0, b26, b28, p1, b33, b38⟩, _, rfl⟩)
theorem q_sure {w : zW} {sz kp : Nat → Int32} (h : MI w sz kp) (d : Nat) (a1 a2 a3 a4 : Int) (ha1 : -2147483648 ≤ a1 ∧ a1 ≤ 2147483647) (ha2 : -2147483648 ≤ a2 ∧ a2 ≤ 2147483647) (ha3 : -2147483648 ≤ a3 ∧ a3 ≤ 2147483647) (ha4 : -2147483648 ≤ a4 ∧ a4 ≤ 2147483647) : DET zTab (d + 7) iX12_sure [.ref 14, .int (Int32.ofInt a1), .int (Int32.ofInt a2), .int (Int32.ofInt a3), .int (Int32.ofInt a4)] w (fun mc ms r w' => (mc = 0 ∧ ms = 0) ∧ SAME w w' ∧ MI w' sz kp ∧ ∃ v, r = some (.int v)) := by
  refine mi_elim h fun c0 c1 c2 c3 c4 c5 c6 c7 c8 c9 c10 c11 c12 c13 f0 f9 f10 f11 f12 f13 f15 f16 f17 f20 f21 f22 f23 f26 f28 f31 f32 f33 f38 f41 f44 x14 g15 g17 g18 g19 g20 g21 g22 g23 g24 g25 g26 g27 g28 g29 g30 g31 g32 g33 g34 g35 g36 g37 g38 g39 g40 g41 g42 g43 t e b16 b19 b20 b21 b22 b25 b26 b28 b30 b33 b38 => ?_
  subst e
  have z0 := b16 0
  exact det_of (mc := 0) (ms := 0) (m_sure d a1 a2 a3 a4 b19 b25 b30 b20 b22 (by omega) (by omega) (by omega) (by omega) _ fun v y0 y20 y21 y22 y23 y26 y41 k25 k30 k36 k37 p0 p1 => ⟨⟨rfl, rfl⟩, same_M, ⟨_, _, _, _, _, _, _, _, _, _, _, _, _, _, _, _, _, _, _, _, _, _, _, _, _, _, _, _, _, _, _, _, _, _, _, _, _, _, _, _, _, _, _, _, _, _, _, _, _, _, _, _, _, _, _, _, _, _, _, _, _, _, _, _, _, rfl, b16, b19, b20, b21, b22, p0, b26, b28, p1, b33, b38⟩, _, rfl⟩)
theorem q_drawn {w : zW} {sz kp : Nat → Int32} (h : MI w sz kp) (d : Nat) (a1 a2 a3 a4 : Int) (ha1 : -2147483648 ≤ a1 ∧ a1 ≤ 2147483647) (ha2 : -2147483648 ≤ a2 ∧ a2 ≤ 2147483647) (ha3 : -2147483648 ≤ a3 ∧ a3 ≤ 2147483647) (ha4 : -2147483648 ≤ a4 ∧ a4 ≤ 2147483647) : DET zTab (d + 7) iX12_drawn [.ref 14, .int (Int32.ofInt a1), .int (Int32.ofInt a2), .int (Int32.ofInt a3), .int (Int32.ofInt a4)] w (fun mc ms r w' => (mc = 0 ∧ ms = 0) ∧ SAME w w' ∧ MI w' sz kp ∧ ∃ v, r = some (.int v)) := by
  refine mi_elim h fun c0 c1 c2 c3 c4 c5 c6 c7 c8 c9 c10 c11 c12 c13 f0 f9 f10 f11 f12 f13 f15 f16 f17 f20 f21 f22 f23 f26 f28 f31 f32 f33 f38 f41 f44 x14 g15 g17 g18 g19 g20 g21 g22 g23 g24 g25 g26 g27 g28 g29 g30 g31 g32 g33 g34 g35 g36 g37 g38 g39 g40 g41 g42 g43 t e b16 b19 b20 b21 b22 b25 b26 b28 b30 b33 b38 => ?_
  subst e
  have z0 := b16 0
  exact det_of (mc := 0) (ms := 0) (m_drawn d a1 a2 a3 a4 b19 b25 b26 b28 b20 (by omega) (by omega) (by omega) (by omega) _ fun v y0 y20 y22 y23 y26 y31 y32 y33 y44 k25 k26 k27 k28 k29 p0 p1 p2 => ⟨⟨rfl, rfl⟩, same_M, ⟨_, _, _, _, _, _, _, _, _, _, _, _, _, _, _, _, _, _, _, _, _, _, _, _, _, _, _, _, _, _, _, _, _, _, _, _, _, _, _, _, _, _, _, _, _, _, _, _, _, _, _, _, _, _, _, _, _, _, _, _, _, _, _, _, _, rfl, b16, b19, b20, b21, b22, p0, p1, p2, b30, b33, b38⟩, _, rfl⟩)
theorem q_kinship {w : zW} {sz kp : Nat → Int32} (h : MI w sz kp) (d : Nat) (a1 a2 a3 : Int) (ha1 : -2147483648 ≤ a1 ∧ a1 ≤ 2147483647) (ha2 : -2147483648 ≤ a2 ∧ a2 ≤ 2147483647) (ha3 : -2147483648 ≤ a3 ∧ a3 ≤ 2147483647) : DET zTab (d + 4) iX12_kinship [.ref 14, .int (Int32.ofInt a1), .int (Int32.ofInt a2), .int (Int32.ofInt a3)] w (fun mc ms r w' => (mc = 0 ∧ ms = 0) ∧ SAME w w' ∧ MI w' sz kp ∧ ∃ v, r = some (.int v)) := by
  refine mi_elim h fun c0 c1 c2 c3 c4 c5 c6 c7 c8 c9 c10 c11 c12 c13 f0 f9 f10 f11 f12 f13 f15 f16 f17 f20 f21 f22 f23 f26 f28 f31 f32 f33 f38 f41 f44 x14 g15 g17 g18 g19 g20 g21 g22 g23 g24 g25 g26 g27 g28 g29 g30 g31 g32 g33 g34 g35 g36 g37 g38 g39 g40 g41 g42 g43 t e b16 b19 b20 b21 b22 b25 b26 b28 b30 b33 b38 => ?_
  subst e
  have z0 := b16 0
  exact det_of (mc := 0) (ms := 0) (m_kinship d a1 a2 a3 b19 b20 (by omega) (by omega) (by omega) _ fun v y0 y20 y22 y23 => ⟨⟨rfl, rfl⟩, same_M, ⟨_, _, _, _, _, _, _, _, _, _, _, _, _, _, _, _, _, _, _, _, _, _, _, _, _, _, _, _, _, _, _, _, _, _, _, _, _, _, _, _, _, _, _, _, _, _, _, _, _, _, _, _, _, _, _, _, _, _, _, _, _, _, _, _, _, rfl, b16, b19, b20, b21, b22, b25, b26, b28, b30, b33, b38⟩, _, rfl⟩)
theorem q_shared {w : zW} {sz kp : Nat → Int32} (h : MI w sz kp) (d : Nat) (a1 a2 a3 : Int) (ha1 : -2147483648 ≤ a1 ∧ a1 ≤ 2147483647) (ha2 : -2147483648 ≤ a2 ∧ a2 ≤ 2147483647) (ha3 : -2147483648 ≤ a3 ∧ a3 ≤ 2147483647) : DET zTab (d + 6) iX12_shared [.ref 14, .int (Int32.ofInt a1), .int (Int32.ofInt a2), .int (Int32.ofInt a3)] w (fun mc ms r w' => (mc = 0 ∧ ms = 0) ∧ SAME w w' ∧ MI w' sz kp ∧ ∃ v, r = some (.int v)) := by
  refine mi_elim h fun c0 c1 c2 c3 c4 c5 c6 c7 c8 c9 c10 c11 c12 c13 f0 f9 f10 f11 f12 f13 f15 f16 f17 f20 f21 f22 f23 f26 f28 f31 f32 f33 f38 f41 f44 x14 g15 g17 g18 g19 g20 g21 g22 g23 g24 g25 g26 g27 g28 g29 g30 g31 g32 g33 g34 g35 g36 g37 g38 g39 g40 g41 g42 g43 t e b16 b19 b20 b21 b22 b25 b26 b28 b30 b33 b38 => ?_
  subst e
  have z0 := b16 0
  exact det_of (mc := 0) (ms := 0) (m_shared d a1 a2 a3 b25 (by omega) (by omega) (by omega) _ fun v y0 k25 p0 => ⟨⟨rfl, rfl⟩, same_M, ⟨_, _, _, _, _, _, _, _, _, _, _, _, _, _, _, _, _, _, _, _, _, _, _, _, _, _, _, _, _, _, _, _, _, _, _, _, _, _, _, _, _, _, _, _, _, _, _, _, _, _, _, _, _, _, _, _, _, _, _, _, _, _, _, _, _, rfl, b16, b19, b20, b21, b22, p0, b26, b28, b30, b33, b38⟩, _, rfl⟩)
theorem q_joined {w : zW} {sz kp : Nat → Int32} (h : MI w sz kp) (d : Nat) (a1 a2 a3 a4 : Int) (ha1 : -2147483648 ≤ a1 ∧ a1 ≤ 2147483647) (ha2 : -2147483648 ≤ a2 ∧ a2 ≤ 2147483647) (ha3 : -2147483648 ≤ a3 ∧ a3 ≤ 2147483647) (ha4 : -2147483648 ≤ a4 ∧ a4 ≤ 2147483647) : DET zTab (d + 7) iX12_joined [.ref 14, .int (Int32.ofInt a1), .int (Int32.ofInt a2), .int (Int32.ofInt a3), .int (Int32.ofInt a4)] w (fun mc ms r w' => (mc = 0 ∧ ms = 0) ∧ SAME w w' ∧ MI w' sz kp ∧ ∃ v, r = some (.int v)) := by
  refine mi_elim h fun c0 c1 c2 c3 c4 c5 c6 c7 c8 c9 c10 c11 c12 c13 f0 f9 f10 f11 f12 f13 f15 f16 f17 f20 f21 f22 f23 f26 f28 f31 f32 f33 f38 f41 f44 x14 g15 g17 g18 g19 g20 g21 g22 g23 g24 g25 g26 g27 g28 g29 g30 g31 g32 g33 g34 g35 g36 g37 g38 g39 g40 g41 g42 g43 t e b16 b19 b20 b21 b22 b25 b26 b28 b30 b33 b38 => ?_
  subst e
  have z0 := b16 0
  exact det_of (mc := 0) (ms := 0) (m_joined d a1 a2 a3 a4 b19 b25 b30 b33 b20 (by omega) (by omega) (by omega) (by omega) _ fun v y0 y20 y21 y22 y23 y26 y38 k25 k30 k31 k32 k33 p0 p1 p2 => ⟨⟨rfl, rfl⟩, same_M, ⟨_, _, _, _, _, _, _, _, _, _, _, _, _, _, _, _, _, _, _, _, _, _, _, _, _, _, _, _, _, _, _, _, _, _, _, _, _, _, _, _, _, _, _, _, _, _, _, _, _, _, _, _, _, _, _, _, _, _, _, _, _, _, _, _, _, rfl, b16, b19, b20, b21, b22, p0, b26, b28, p1, p2, b38⟩, _, rfl⟩)
theorem q_nearest {w : zW} {sz kp : Nat → Int32} (h : MI w sz kp) (d : Nat) (a1 a2 a3 a4 : Int) (ha1 : -2147483648 ≤ a1 ∧ a1 ≤ 2147483647) (ha2 : -2147483648 ≤ a2 ∧ a2 ≤ 2147483647) (ha3 : -2147483648 ≤ a3 ∧ a3 ≤ 2147483647) (ha4 : -2147483648 ≤ a4 ∧ a4 ≤ 2147483647) : DET zTab (d + 7) iX12_nearest [.ref 14, .int (Int32.ofInt a1), .int (Int32.ofInt a2), .int (Int32.ofInt a3), .int (Int32.ofInt a4)] w (fun mc ms r w' => (mc = 0 ∧ ms = 0) ∧ SAME w w' ∧ MI w' sz kp ∧ ∃ v, r = some (.int v)) := by
  refine mi_elim h fun c0 c1 c2 c3 c4 c5 c6 c7 c8 c9 c10 c11 c12 c13 f0 f9 f10 f11 f12 f13 f15 f16 f17 f20 f21 f22 f23 f26 f28 f31 f32 f33 f38 f41 f44 x14 g15 g17 g18 g19 g20 g21 g22 g23 g24 g25 g26 g27 g28 g29 g30 g31 g32 g33 g34 g35 g36 g37 g38 g39 g40 g41 g42 g43 t e b16 b19 b20 b21 b22 b25 b26 b28 b30 b33 b38 => ?_
  subst e
  have z0 := b16 0
  exact det_of (mc := 0) (ms := 0) (m_nearest d a1 a2 a3 a4 b19 b25 b26 b30 b33 b20 (by omega) (by omega) (by omega) (by omega) _ fun v y0 y20 y21 y22 y23 y26 y38 k25 k26 k27 k30 k31 k33 p0 p1 p2 p3 => ⟨⟨rfl, rfl⟩, same_M, ⟨_, _, _, _, _, _, _, _, _, _, _, _, _, _, _, _, _, _, _, _, _, _, _, _, _, _, _, _, _, _, _, _, _, _, _, _, _, _, _, _, _, _, _, _, _, _, _, _, _, _, _, _, _, _, _, _, _, _, _, _, _, _, _, _, _, rfl, b16, b19, b20, b21, b22, p0, p1, b28, p2, p3, b38⟩, _, rfl⟩)
theorem q_settles {w : zW} {sz kp : Nat → Int32} (h : MI w sz kp) (d : Nat) (a1 a2 a3 : Int) (ha1 : -2147483648 ≤ a1 ∧ a1 ≤ 2147483647) (ha2 : -2147483648 ≤ a2 ∧ a2 ≤ 2147483647) (ha3 : -2147483648 ≤ a3 ∧ a3 ≤ 2147483647) : DET zTab (d + 7) iX12_settles [.ref 14, .int (Int32.ofInt a1), .int (Int32.ofInt a2), .int (Int32.ofInt a3)] w (fun mc ms r w' => (mc = 0 ∧ ms = 0) ∧ SAME w w' ∧ MI w' sz kp ∧ ∃ v, r = some (.int v)) := by
  refine mi_elim h fun c0 c1 c2 c3 c4 c5 c6 c7 c8 c9 c10 c11 c12 c13 f0 f9 f10 f11 f12 f13 f15 f16 f17 f20 f21 f22 f23 f26 f28 f31 f32 f33 f38 f41 f44 x14 g15 g17 g18 g19 g20 g21 g22 g23 g24 g25 g26 g27 g28 g29 g30 g31 g32 g33 g34 g35 g36 g37 g38 g39 g40 g41 g42 g43 t e b16 b19 b20 b21 b22 b25 b26 b28 b30 b33 b38 => ?_
  subst e
  have z0 := b16 0
  exact det_of (mc := 0) (ms := 0) (m_settles d a1 a2 a3 b19 b25 b30 b33 b20 (by omega) (by omega) (by omega) _ fun v y0 y20 y21 y22 y23 y26 y38 k25 k30 k31 k33 p0 p1 p2 => ⟨⟨rfl, rfl⟩, same_M, ⟨_, _, _, _, _, _, _, _, _, _, _, _, _, _, _, _, _, _, _, _, _, _, _, _, _, _, _, _, _, _, _, _, _, _, _, _, _, _, _, _, _, _, _, _, _, _, _, _, _, _, _, _, _, _, _, _, _, _, _, _, _, _, _, _, _, rfl, b16, b19, b20, b21, b22, p0, b26, b28, p1, p2, b38⟩, _, rfl⟩)
theorem q_unmade {w : zW} {sz kp : Nat → Int32} (h : MI w sz kp) (d : Nat) (a1 a2 : Int) (ha1 : -2147483648 ≤ a1 ∧ a1 ≤ 2147483647) (ha2 : -2147483648 ≤ a2 ∧ a2 ≤ 2147483647) : DET zTab (d + 7) iX12_unmade [.ref 14, .int (Int32.ofInt a1), .int (Int32.ofInt a2)] w (fun mc ms r w' => (mc = 0 ∧ ms = 0) ∧ SAME w w' ∧ MI w' sz kp ∧ ∃ v, r = some (.int v)) := by
  refine mi_elim h fun c0 c1 c2 c3 c4 c5 c6 c7 c8 c9 c10 c11 c12 c13 f0 f9 f10 f11 f12 f13 f15 f16 f17 f20 f21 f22 f23 f26 f28 f31 f32 f33 f38 f41 f44 x14 g15 g17 g18 g19 g20 g21 g22 g23 g24 g25 g26 g27 g28 g29 g30 g31 g32 g33 g34 g35 g36 g37 g38 g39 g40 g41 g42 g43 t e b16 b19 b20 b21 b22 b25 b26 b28 b30 b33 b38 => ?_
  subst e
  have z0 := b16 0
  exact det_of (mc := 0) (ms := 0) (m_unmade d a1 a2 b19 b25 b30 b20 (by omega) (by omega) _ fun v y0 y20 y21 y22 y23 y26 k25 k30 k34 p0 p1 => ⟨⟨rfl, rfl⟩, same_M, ⟨_, _, _, _, _, _, _, _, _, _, _, _, _, _, _, _, _, _, _, _, _, _, _, _, _, _, _, _, _, _, _, _, _, _, _, _, _, _, _, _, _, _, _, _, _, _, _, _, _, _, _, _, _, _, _, _, _, _, _, _, _, _, _, _, _, rfl, b16, b19, b20, b21, b22, p0, b26, b28, p1, b33, b38⟩, _, rfl⟩)
theorem q_silenced {w : zW} {sz kp : Nat → Int32} (h : MI w sz kp) (d : Nat) (a1 a2 a3 : Int) (ha1 : -2147483648 ≤ a1 ∧ a1 ≤ 2147483647) (ha2 : -2147483648 ≤ a2 ∧ a2 ≤ 2147483647) (ha3 : -2147483648 ≤ a3 ∧ a3 ≤ 2147483647) : DET zTab (d + 7) iX12_silenced [.ref 14, .int (Int32.ofInt a1), .int (Int32.ofInt a2), .int (Int32.ofInt a3)] w (fun mc ms r w' => (mc = 0 ∧ ms = 0) ∧ SAME w w' ∧ MI w' sz kp ∧ ∃ v, r = some (.int v)) := by
  refine mi_elim h fun c0 c1 c2 c3 c4 c5 c6 c7 c8 c9 c10 c11 c12 c13 f0 f9 f10 f11 f12 f13 f15 f16 f17 f20 f21 f22 f23 f26 f28 f31 f32 f33 f38 f41 f44 x14 g15 g17 g18 g19 g20 g21 g22 g23 g24 g25 g26 g27 g28 g29 g30 g31 g32 g33 g34 g35 g36 g37 g38 g39 g40 g41 g42 g43 t e b16 b19 b20 b21 b22 b25 b26 b28 b30 b33 b38 => ?_
  subst e
  have z0 := b16 0
  exact det_of (mc := 0) (ms := 0) (m_silenced d a1 a2 a3 b19 b25 b30 b33 b20 (by omega) (by omega) (by omega) _ fun v y0 y20 y21 y22 y23 y26 y38 k25 k30 k31 k33 p0 p1 p2 => ⟨⟨rfl, rfl⟩, same_M, ⟨_, _, _, _, _, _, _, _, _, _, _, _, _, _, _, _, _, _, _, _, _, _, _, _, _, _, _, _, _, _, _, _, _, _, _, _, _, _, _, _, _, _, _, _, _, _, _, _, _, _, _, _, _, _, _, _, _, _, _, _, _, _, _, _, _, rfl, b16, b19, b20, b21, b22, p0, b26, b28, p1, p2, b38⟩, _, rfl⟩)
theorem q_circles {w : zW} {sz kp : Nat → Int32} (h : MI w sz kp) (d : Nat) (a1 a2 : Int) (ha1 : -2147483648 ≤ a1 ∧ a1 ≤ 2147483647) (ha2 : -2147483648 ≤ a2 ∧ a2 ≤ 2147483647) : DET zTab (d + 7) iX12_circles [.ref 14, .int (Int32.ofInt a1), .int (Int32.ofInt a2)] w (fun mc ms r w' => (mc = 0 ∧ ms = 0) ∧ SAME w w' ∧ MI w' sz kp ∧ ∃ v, r = some (.int v)) := by
  refine mi_elim h fun c0 c1 c2 c3 c4 c5 c6 c7 c8 c9 c10 c11 c12 c13 f0 f9 f10 f11 f12 f13 f15 f16 f17 f20 f21 f22 f23 f26 f28 f31 f32 f33 f38 f41 f44 x14 g15 g17 g18 g19 g20 g21 g22 g23 g24 g25 g26 g27 g28 g29 g30 g31 g32 g33 g34 g35 g36 g37 g38 g39 g40 g41 g42 g43 t e b16 b19 b20 b21 b22 b25 b26 b28 b30 b33 b38 => ?_
  subst e
  have z0 := b16 0
  exact det_of (mc := 0) (ms := 0) (m_circles d a1 a2 b19 b25 b30 b33 b38 b20 (by omega) (by omega) _ fun v y0 y20 y21 y22 y23 y26 k25 k30 k33 k38 k39 k40 k41 k42 k43 p0 p1 p2 p3 => ⟨⟨rfl, rfl⟩, same_M, ⟨_, _, _, _, _, _, _, _, _, _, _, _, _, _, _, _, _, _, _, _, _, _, _, _, _, _, _, _, _, _, _, _, _, _, _, _, _, _, _, _, _, _, _, _, _, _, _, _, _, _, _, _, _, _, _, _, _, _, _, _, _, _, _, _, _, rfl, b16, b19, b20, b21, b22, p0, b26, b28, p1, p2, p3⟩, _, rfl⟩)
theorem q_count {w : zW} {sz kp : Nat → Int32} (h : MI w sz kp) (d : Nat) (a1 : Int) (ha1 : -2147483648 ≤ a1 ∧ a1 ≤ 2147483647) : DET zTab (d + 2) iX12_count [.ref 14, .int (Int32.ofInt a1)] w (fun mc ms r w' => (mc = 0 ∧ ms = 0) ∧ SAME w w' ∧ MI w' sz kp ∧ ∃ v, r = some (.int v)) := by
  refine mi_elim h fun c0 c1 c2 c3 c4 c5 c6 c7 c8 c9 c10 c11 c12 c13 f0 f9 f10 f11 f12 f13 f15 f16 f17 f20 f21 f22 f23 f26 f28 f31 f32 f33 f38 f41 f44 x14 g15 g17 g18 g19 g20 g21 g22 g23 g24 g25 g26 g27 g28 g29 g30 g31 g32 g33 g34 g35 g36 g37 g38 g39 g40 g41 g42 g43 t e b16 b19 b20 b21 b22 b25 b26 b28 b30 b33 b38 => ?_
  subst e
  have z0 := b16 0
  exact det_of (mc := 0) (ms := 0) (m_count d a1 b19 (by omega) _ fun v y0 => ⟨⟨rfl, rfl⟩, same_M, ⟨_, _, _, _, _, _, _, _, _, _, _, _, _, _, _, _, _, _, _, _, _, _, _, _, _, _, _, _, _, _, _, _, _, _, _, _, _, _, _, _, _, _, _, _, _, _, _, _, _, _, _, _, _, _, _, _, _, _, _, _, _, _, _, _, _, rfl, b16, b19, b20, b21, b22, b25, b26, b28, b30, b33, b38⟩, _, rfl⟩)
theorem q_image {w : zW} {sz kp : Nat → Int32} (h : MI w sz kp) (d : Nat) (a1 : Int) (ha1 : -2147483648 ≤ a1 ∧ a1 ≤ 2147483647) : DET zTab (d + 3) iX12_image [.ref 14, .int (Int32.ofInt a1)] w (fun mc ms r w' => (mc = 0 ∧ ms = 0) ∧ SAME w w' ∧ ∃ (v : Int) (k16 k44 : Nat → Int32), MI w' k16 k44 ∧ r = some (.int (Int32.ofInt v)) ∧ (((v = 1 ∧ 0 ≤ a1 ∧ a1 ≤ 2) ∨ (v = 0 ∧ (a1 < 0 ∨ 2 < a1)))) ∧ (((v = 0 ∧ k44 = kp) ∨ (v = 1 ∧ k44 = upd kp a1.toNat (Int32.ofInt 1)))) ∧ (((v = 0 ∧ k16 = sz) ∨ (v = 1 ∧ k16 = cpR sz 1 0 (a1 + 1).toNat 1)))) := by
  refine mi_elim h fun c0 c1 c2 c3 c4 c5 c6 c7 c8 c9 c10 c11 c12 c13 f0 f9 f10 f11 f12 f13 f15 f16 f17 f20 f21 f22 f23 f26 f28 f31 f32 f33 f38 f41 f44 x14 g15 g17 g18 g19 g20 g21 g22 g23 g24 g25 g26 g27 g28 g29 g30 g31 g32 g33 g34 g35 g36 g37 g38 g39 g40 g41 g42 g43 t e b16 b19 b20 b21 b22 b25 b26 b28 b30 b33 b38 => ?_
  subst e
  have z0 := b16 0
  exact det_of (mc := 0) (ms := 0) (m_image d a1 (by omega) _ fun v y0 k15 k16 k17 k18 k19 k20 k21 k22 k44 p0 p1 p2 p3 p4 p5 p6 p7 p8 => ⟨⟨rfl, rfl⟩, same_M, v, k16, k44, ⟨_, _, _, _, _, _, _, _, _, _, _, _, _, _, _, _, _, _, _, _, _, _, _, _, _, _, _, _, _, _, _, _, _, _, _, _, _, _, _, _, _, _, _, _, _, _, _, _, _, _, _, _, _, _, _, _, _, _, _, _, _, _, _, _, _, rfl, (cp_or (P := zB 0 600) p2 b16 (fun hv => zBcp b16)), (cp_or (P := zB 0 2) p5 b19 (fun hv => zBcp b19)), (cp_or (P := bkOK) p6 b20 (fun hv => bk_cp b20 (by omega))), (cp_or (P := yrOK) p7 b21 (fun hv => yr_cp b21 (by omega))), (cp_or (P := siOK) p8 b22 (fun hv => si_cp b22 (by omega))), b25, b26, b28, b30, b33, b38⟩, rfl, p0, p1, p2⟩)
theorem q_again {w : zW} {sz kp : Nat → Int32} (h : MI w sz kp) (d : Nat) (a1 : Int) (ha1 : -2147483648 ≤ a1 ∧ a1 ≤ 2147483647) : DET zTab (d + 3) iX12_again [.ref 14, .int (Int32.ofInt a1)] w (fun mc ms r w' => (mc = 0 ∧ ms = 0) ∧ SAME w w' ∧ ∃ (v : Int) (k16 k44 : Nat → Int32), MI w' k16 k44 ∧ r = some (.int (Int32.ofInt v)) ∧ (((v = 1 ∧ 0 ≤ a1 ∧ a1 ≤ 2 ∧ (kp a1.toNat).toInt ≠ 0) ∨ (v = 0 ∧ (a1 < 0 ∨ 2 < a1 ∨ (kp a1.toNat).toInt = 0)))) ∧ (((v = 0 ∧ k16 = sz) ∨ (v = 1 ∧ k16 = cpR sz 1 (a1 + 1).toNat 0 1))) ∧ k44 = kp) := by
  refine mi_elim h fun c0 c1 c2 c3 c4 c5 c6 c7 c8 c9 c10 c11 c12 c13 f0 f9 f10 f11 f12 f13 f15 f16 f17 f20 f21 f22 f23 f26 f28 f31 f32 f33 f38 f41 f44 x14 g15 g17 g18 g19 g20 g21 g22 g23 g24 g25 g26 g27 g28 g29 g30 g31 g32 g33 g34 g35 g36 g37 g38 g39 g40 g41 g42 g43 t e b16 b19 b20 b21 b22 b25 b26 b28 b30 b33 b38 => ?_
  subst e
  have z0 := b16 0
  exact det_of (mc := 0) (ms := 0) (m_again d a1 (by omega) _ fun v y0 y21 k15 k16 k17 k18 k19 k20 k21 k22 p0 p1 p2 p3 p4 p5 p6 p7 => ⟨⟨rfl, rfl⟩, same_M, v, k16, _, ⟨_, _, _, _, _, _, _, _, _, _, _, _, _, _, _, _, _, _, _, _, _, _, _, _, _, _, _, _, _, _, _, _, _, _, _, _, _, _, _, _, _, _, _, _, _, _, _, _, _, _, _, _, _, _, _, _, _, _, _, _, _, _, _, _, _, rfl, (cp_or (P := zB 0 600) p1 b16 (fun hv => zBcp b16)), (cp_or (P := zB 0 2) p4 b19 (fun hv => zBcp b19)), (cp_or (P := bkOK) p5 b20 (fun hv => bk_cp b20 (by omega))), (cp_or (P := yrOK) p6 b21 (fun hv => yr_cp b21 (by omega))), (cp_or (P := siOK) p7 b22 (fun hv => si_cp b22 (by omega))), b25, b26, b28, b30, b33, b38⟩, rfl, p0, p1, rfl⟩)
