/-! FEED, END, IMAGE, AGAIN. -/
/-- a call of the class: the tape's length and the images behind it -/
def TP (w : zW) (l' : Int) (m' : Nat → Option Int) (mc ms : Nat) (w' : zW) : Prop := (∃ σ, TOP σ w') ∧ IM w' l' m' ∧ KEEP w w' ∧ mc ≤ 100 ∧ ms + phi w' ≤ phi w + 300
theorem told_put {ρ : Nat → Nat} {w w' : zW} {l l' a b : Int} {m : Nat → Option Int} (hT : TOP ρ w) (hI : IM w l m) (f : wfr 1 w w') (hO : zix w' 1 = some (.inr (7, [.ref 2, .int (Int32.ofInt l'), .int (Int32.ofInt a), .int (Int32.ofInt b), .ref 3, .ref 4, .ref 5, .ref 6]))) (h : 0 ≤ l' ∧ l' ≤ 600) (ha : -2147483648 ≤ a ∧ a ≤ 2147483647) (hb : -2147483648 ≤ b ∧ b ≤ 2147483647) : TOP ρ w' ∧ IM w' l' m ∧ phi w' = phi w ∧ KEEP w w' := by
  obtain ⟨y6, y7, h0, r1, r7, r8, r9, r12, r13, e6, e7⟩ := top_o hT
  obtain ⟨x1, x2, x3, -, p1, -, -, -, p2, p3, p4, p5⟩ := CI_o2 hT.1 r1
  have hc : CI ρ w' := CI_w2 hT.1 r1 f (x1 := l') (x2 := a) (x3 := b) hO ⟨p1, h, ha, hb, p2, p3, p4, p5⟩
  have hf : wfR [2] ρ w w' := wfR_st (wfR_rf _ _ _) f (by rw [r1]; decide)
  refine ⟨⟨hc, hT.2.1, AWK_fr hT.1 hf hT.2.2.1 (by decide), hT.2.2.2.1, by rw [f.1]; exact hT.2.2.2.2⟩, ?_, phi_eq (f.2 0 (by decide)) (f.2 7 (by decide)) (f.2 12 (by decide)) (f.2 13 (by decide)), fun q a b => f.2 q (by omega)⟩
  obtain ⟨c1, g, c2, c3, c4⟩ := hI
  refine ⟨⟨_, _, hO, h⟩, g, (f.2 7 (by decide)).trans c2, fun k hk => ?_, c4⟩
  rcases c3 k hk with e | ⟨q, x, e1, e2, e3, e4⟩
  · exact Or.inl e
  · exact Or.inr ⟨q, x, e1, e2, e3, LE_eq (f.2 q (by omega)) e4⟩
theorem told_o {ρ : Nat → Nat} {w : zW} {l : Int} {m : Nat → Option Int} (hT : TOP ρ w) (hI : IM w l m) : ∃ a b : Int, zix w 1 = some (.inr (7, [.ref 2, .int (Int32.ofInt l), .int (Int32.ofInt a), .int (Int32.ofInt b), .ref 3, .ref 4, .ref 5, .ref 6])) ∧ (0 ≤ l ∧ l ≤ 600) ∧ (-2147483648 ≤ a ∧ a ≤ 2147483647) ∧ (-2147483648 ≤ b ∧ b ≤ 2147483647) ∧ ρ 2 = 3 ∧ ρ 3 = 4 ∧ ρ 4 = 5 ∧ ρ 5 = 6 ∧ ρ 6 = 7 := by
  obtain ⟨y6, y7, h0, r1, r7, r8, r9, r12, r13, e6, e7⟩ := top_o hT
  obtain ⟨x1, x2, x3, hO, p1, q1, q2, q3, p2, p3, p4, p5⟩ := CI_o2 hT.1 r1
  obtain rfl := LE_u hI.1 hO q1
  exact ⟨x2, x3, hO, q1, q2, q3, p1, p2, p3, p4, p5⟩
theorem c_putBytes {ρ : Nat → Nat} {w : zW} (d : Nat) (a1 l : Int) (m : Nat → Option Int) (hT : TOP ρ w) (hI : IM w l m) (hl : l ≤ 596) (Q : zQ) (h : ∀ w', TOP ρ w' → IM w' (l + 4) m → phi w' = phi w → KEEP w w' → Q none w') : zCl zTab (d + 1) iX8_putBytes [.ref 1, .int (Int32.ofInt a1)] w 0 0 Q := by
  refine zCl_i (M := kX8_putBytes) rfl (Nat.le_of_ble_eq_true rfl) fun R hR => ?_
  obtain ⟨-, -, -, hl0, -⟩ := told_o hT hI
  have loop : ∀ (N : Nat) (sh lx : Int) (v : zW), (-8 ≤ sh ∧ sh ≤ 24) → 8 * (lx - l) = 24 - sh → TOP ρ v → IM v lx m → phi v = phi w → KEEP w v → sh + 9 < N → R (3, [some (.ref 1), some (.int (Int32.ofInt a1)), some (.int (Int32.ofInt sh))], [], v, 0, 0) := by
    intro N
    induction N with
    | zero => intros; omega
    | succ N ih =>
      intro sh lx v hs he hTv hIv hph hK hN
      obtain ⟨a, b, hO, hlx, ha, hb, p1, p2, p3, p4, p5⟩ := told_o hTv hIv
      refine hR (?_ : R (_, _, _, _, _, _))
      refine hR (k_lt (by omega) (fun hc => ?_) (fun hc => ?_))
      · obtain rfl : lx = l + 4 := by omega
        exact hR (zret_i rfl (Nat.le_refl _) rfl (h v hTv hIv hph hK))
      · refine hR (?_ : R (_, _, _, _, _, _))
        refine hR (c_get hO rfl ?_)
        refine hR (t_c 600 (by decide) ?_)
        refine hR (j_ge (by omega) (by omega) (fun hc => by omega) (fun hc => ?_))
        refine hR (?_ : R (_, _, _, _, _, _))
        refine hR (c_get hO rfl ?_)
        refine hR (?_ : R (_, _, _, _, _, _))
        refine hR (c_get hO rfl ?_)
        iterate 2 refine hR (?_ : R (_, _, _, _, _, _))
        refine hR (t_o fun v1 r1 => ?_)
        refine hR (t_o fun v2 r2 => ?_)
        refine hR (c_bst3 hTv.1 (by rw [p1]; rfl) ⟨by rw [p1]; decide, by rw [p1]; decide⟩ (by omega) (by omega) (Nat.le_of_ble_eq_true rfl) fun w1 hw1 f1 => ?_)
        have hf : wfR [3] ρ v w1 := wfR_st (wfR_rf _ _ _) f1 (by rw [p1]; decide)
        obtain ⟨hT1, hI1, hp1, hK1⟩ := top_fr hTv hw1 hf (by decide) (AWK_fr hTv.1 hf hTv.2.2.1 (by decide))
        have hO1 := (f1.2 1 (by decide)).trans hO
        iterate 2 refine hR (?_ : R (_, _, _, _, _, _))
        refine hR (c_get hO1 rfl ?_)
        refine hR (?_ : R (_, _, _, _, _, _))
        refine hR (t_add ?_)
        refine hR (c_put hO1 rfl rfl fun w2 f2 hO2 => ?_)
        obtain ⟨hT2, hI2, hp2, hK2⟩ := told_put hT1 (hI1 _ _ hIv) f2 hO2 (by omega) ha hb
        refine hR (t_inc ?_)
        refine hR (?_ : R (_, _, _, _, _, _))
        exact ih (sh + (-8)) (lx + 1) w2 (by omega) (by omega) hT2 hI2 (by omega) (KEEP_tr hK (KEEP_tr hK1 hK2)) (by omega)
  refine hR (t_c 24 (by decide) ?_)
  refine hR (?_ : R (_, _, _, _, _, _))
  exact loop 100 24 l w (by omega) (by omega) hT hI rfl (fun _ _ _ => rfl) (by omega)
theorem k_feed {ρ : Nat → Nat} {w : zW} {l : Int} {m : Nat → Option Int} (hT : TOP ρ w) (hI : IM w l m) (d : Nat) (a1 a2 a3 a4 a5 : Int) : DET zTab (d + 2) iX11_feed [.ref 0, .int (Int32.ofInt a1), .int (Int32.ofInt a2), .int (Int32.ofInt a3), .int (Int32.ofInt a4), .int (Int32.ofInt a5)] w (fun mc ms r w' => (580 < l ∧ TP w l m mc ms w' ∧ r = some (.int (Int32.ofInt (-1)))) ∨ (l ≤ 580 ∧ TP w (l + 20) m mc ms w' ∧ r = some (.int (Int32.ofInt (l + 20))))) := by
  refine det_of (mc := 0) (ms := 0) ?_
  refine zCl_i (M := kX11_feed) rfl (Nat.le_of_ble_eq_true rfl) fun R hR => ?_
  obtain ⟨y6, y7, h0, -⟩ := top_o hT
  obtain ⟨a, b, hO, hl, -⟩ := told_o hT hI
  refine hR (?_ : R (_, _, _, _, _, _))
  refine hR (c_get h0 rfl ?_)
  refine hR (c_get hO rfl ?_)
  refine hR (t_c 580 (by decide) ?_)
  refine hR (j_le (by omega) (by omega) (fun hc => ?_) (fun hc => ?_))
  rotate_left
  · refine hR (?_ : R (_, _, _, _, _, _))
    exact hR (zret_i rfl (Nat.le_refl _) trivial (Or.inl ⟨by omega, ⟨⟨ρ, hT⟩, hI, fun _ _ _ => rfl, by omega, by omega⟩, rfl⟩))
  refine hR (?_ : R (_, _, _, _, _, _))
  refine hR (c_get h0 rfl ?_)
  refine hR (?_ : R (_, _, _, _, _, _))
  refine hR (c_obj hO (zcall_i 0 0 (Nat.le_of_ble_eq_true rfl) (Nat.le_of_ble_eq_true rfl) (c_putBytes _ a1 l m hT hI (by omega) _ fun w1 hT1 hI1 hp1 hK1 => ?_)))
  refine (?_ : R (_, _, [], w1, 0, 0))
  obtain ⟨_, _, h01, -⟩ := top_o hT1
  obtain ⟨_, _, hO1, -⟩ := told_o hT1 hI1
  refine hR (?_ : R (_, _, _, _, _, _))
  refine hR (c_get h01 rfl ?_)
  refine hR (?_ : R (_, _, _, _, _, _))
  refine hR (c_obj hO1 (zcall_i 0 0 (Nat.le_of_ble_eq_true rfl) (Nat.le_of_ble_eq_true rfl) (c_putBytes _ a2 _ m hT1 hI1 (by omega) _ fun w2 hT2 hI2 hp2 hK2 => ?_)))
  refine (?_ : R (_, _, [], w2, 0, 0))
  obtain ⟨_, _, h02, -⟩ := top_o hT2
  obtain ⟨_, _, hO2, -⟩ := told_o hT2 hI2
  refine hR (?_ : R (_, _, _, _, _, _))
  refine hR (c_get h02 rfl ?_)
  refine hR (?_ : R (_, _, _, _, _, _))
  refine hR (c_obj hO2 (zcall_i 0 0 (Nat.le_of_ble_eq_true rfl) (Nat.le_of_ble_eq_true rfl) (c_putBytes _ a3 _ m hT2 hI2 (by omega) _ fun w3 hT3 hI3 hp3 hK3 => ?_)))
  refine (?_ : R (_, _, [], w3, 0, 0))
  obtain ⟨_, _, h03, -⟩ := top_o hT3
  obtain ⟨_, _, hO3, -⟩ := told_o hT3 hI3
  refine hR (?_ : R (_, _, _, _, _, _))
  refine hR (c_get h03 rfl ?_)
  refine hR (?_ : R (_, _, _, _, _, _))
  refine hR (c_obj hO3 (zcall_i 0 0 (Nat.le_of_ble_eq_true rfl) (Nat.le_of_ble_eq_true rfl) (c_putBytes _ a4 _ m hT3 hI3 (by omega) _ fun w4 hT4 hI4 hp4 hK4 => ?_)))
  refine (?_ : R (_, _, [], w4, 0, 0))
  obtain ⟨_, _, h04, -⟩ := top_o hT4
  obtain ⟨_, _, hO4, -⟩ := told_o hT4 hI4
  refine hR (?_ : R (_, _, _, _, _, _))
  refine hR (c_get h04 rfl ?_)
  refine hR (?_ : R (_, _, _, _, _, _))
  refine hR (c_obj hO4 (zcall_i 0 0 (Nat.le_of_ble_eq_true rfl) (Nat.le_of_ble_eq_true rfl) (c_putBytes _ a5 _ m hT4 hI4 (by omega) _ fun w5 hT5 hI5 hp5 hK5 => ?_)))
  refine (?_ : R (_, _, [], w5, 0, 0))
  have hI5 : IM w5 (l + 20) m := by rw [show l + 20 = l + 4 + 4 + 4 + 4 + 4 by omega]; exact hI5
  obtain ⟨_, _, h05, -⟩ := top_o hT5
  obtain ⟨_, _, hO5, -⟩ := told_o hT5 hI5
  refine hR (?_ : R (_, _, _, _, _, _))
  refine hR (c_get h05 rfl ?_)
  refine hR (c_get hO5 rfl ?_)
  exact hR (zret_i rfl (Nat.le_refl _) trivial (Or.inr ⟨by omega, ⟨⟨ρ, hT5⟩, hI5, KEEP_tr hK1 (KEEP_tr hK2 (KEEP_tr hK3 (KEEP_tr hK4 hK5))), by omega, by omega⟩, rfl⟩))
theorem k_end {ρ : Nat → Nat} {w : zW} {l : Int} {m : Nat → Option Int} (hT : TOP ρ w) (hI : IM w l m) (d : Nat) (a1 : Int) (hr : -2147483648 ≤ a1 ∧ a1 ≤ 2147483647) : DET zTab (d + 1) iX11_end [.ref 0, .int (Int32.ofInt a1)] w (fun mc ms r w' => ((a1 < 0 ∨ l < a1) ∧ TP w l m mc ms w' ∧ r = some (.int (Int32.ofInt (-1)))) ∨ ((0 ≤ a1 ∧ a1 ≤ l) ∧ TP w a1 m mc ms w' ∧ r = some (.int (Int32.ofInt a1)))) := by
  refine det_of (mc := 0) (ms := 0) ?_
  refine zCl_i (M := kX11_end) rfl (Nat.le_of_ble_eq_true rfl) fun R hR => ?_
  obtain ⟨y6, y7, h0, -⟩ := top_o hT
  obtain ⟨a, b, hO, hl, ha, hb, -⟩ := told_o hT hI
  have bad : (a1 < 0 ∨ l < a1) → R (15, [some (.ref 0), some (.int (Int32.ofInt a1))], [], w, 0, 0) := by
    intro hx
    refine hR (?_ : R (_, _, _, _, _, _))
    exact hR (zret_i rfl (Nat.le_refl _) trivial (Or.inl ⟨hx, ⟨⟨ρ, hT⟩, hI, fun _ _ _ => rfl, by omega, by omega⟩, rfl⟩))
  refine hR (?_ : R (_, _, _, _, _, _))
  refine hR (k_lt (by omega) (fun hc => bad (Or.inl hc)) (fun hc => ?_))
  iterate 2 refine hR (?_ : R (_, _, _, _, _, _))
  refine hR (c_get h0 rfl ?_)
  refine hR (c_get hO rfl ?_)
  refine hR (j_le (by omega) (by omega) (fun hc2 => ?_) (fun hc2 => bad (Or.inr (by omega))))
  refine hR (?_ : R (_, _, _, _, _, _))
  refine hR (c_get h0 rfl ?_)
  refine hR (?_ : R (_, _, _, _, _, _))
  refine hR (c_put hO rfl rfl fun w2 f2 hO2 => ?_)
  obtain ⟨hT2, hI2, hp2, hK2⟩ := told_put hT hI f2 hO2 (by omega) ha hb
  refine hR (?_ : R (_, _, _, _, _, _))
  exact hR (zret_i rfl (Nat.le_refl _) trivial (Or.inr ⟨by omega, ⟨⟨ρ, hT2⟩, hI2, hK2, by omega, by omega⟩, rfl⟩))
theorem out_blk {ρ : Nat → Nat} {w : zW} {p q : Nat} (hw : CI ρ w) (hp : ρ p = 2) (hq : ρ q < 2 ∨ 7 < ρ q) : q < p ∨ p + 5 < q := by
  obtain ⟨a1, a2, a3, -, b1, -, -, -, b2, b3, b4, b5⟩ := CI_o2 hw hp
  rcases Nat.lt_or_ge q p with h | h
  · exact Or.inl h
  · rcases Nat.lt_or_ge (p + 5) q with h2 | h2
    · exact Or.inr h2
    · exfalso
      have : q = p ∨ q = p + 1 ∨ q = p + 2 ∨ q = p + 3 ∨ q = p + 4 ∨ q = p + 5 := by omega
      rcases this with rfl | rfl | rfl | rfl | rfl | rfl <;> omega
theorem frp_top {ρ : Nat → Nat} {w w' : zW} {p : Nat} (hT : TOP ρ w) (hp : ρ p = 2) (hc : CI ρ w') (F : FRP p w w') : TOP ρ w' ∧ phi w' = phi w ∧ KEEP w w' := by
  obtain ⟨y6, y7, h0, r1, r7, r8, r9, r12, r13, e6, e7⟩ := top_o hT
  have eq : ∀ q, (ρ q < 2 ∨ 7 < ρ q) → zix w' q = zix w q := fun q hq => F.2 q (out_blk hT.1 hp hq)
  refine ⟨⟨hc, hT.2.1, fun q hq => ?_, hT.2.2.2.1, by rw [F.1]; exact hT.2.2.2.2⟩, phi_eq (eq 0 (by rw [hT.2.1]; decide)) (eq 7 (by omega)) (eq 12 (by omega)) (eq 13 (by omega)), fun q a b => eq q (by have := hT.2.2.2.1 q a b; omega)⟩
  obtain ⟨x0, hO6, hx0, k1, k2, k3, k4⟩ := CI_o60 hT.1 hq
  obtain ⟨sz, gq, gn, gb, ⟨a, b, c⟩, d', e', f⟩ := hT.2.2.1 q hq
  exact ⟨sz, gq, gn, gb, ⟨a, (eq _ (by omega)).trans b, (eq _ (by omega)).trans c⟩, (eq _ (by omega)).trans d', (eq _ (by omega)).trans e', f⟩
theorem k_again {ρ : Nat → Nat} {w : zW} {l : Int} {m : Nat → Option Int} (hT : TOP ρ w) (hI : IM w l m) (d : Nat) (a1 : Int) (hr : -2147483648 ≤ a1 ∧ a1 ≤ 2147483647) : DET zTab (d + 3) iX11_again [.ref 0, .int (Int32.ofInt a1)] w (fun mc ms r w' => (((a1 < 0 ∨ 3 ≤ a1) ∨ m a1.toNat = none) ∧ TP w l m mc ms w' ∧ r = some (.int (Int32.ofInt 0))) ∨ (∃ x, (0 ≤ a1 ∧ a1 < 3) ∧ m a1.toNat = some x ∧ TP w x m mc ms w' ∧ r = some (.int (Int32.ofInt 1)))) := by
  refine det_of (mc := 0) (ms := 0) ?_
  refine zCl_i (M := kX11_again) rfl (Nat.le_of_ble_eq_true rfl) fun R hR => ?_
  obtain ⟨y6, y7, h0, r1, r7, -⟩ := top_o hT
  obtain ⟨a, b, hO, hl, ha, hb, -⟩ := told_o hT hI
  have bad : ((a1 < 0 ∨ 3 ≤ a1) ∨ m a1.toNat = none) → R (18, [some (.ref 0), some (.int (Int32.ofInt a1))], [], w, 0, 0) := by
    intro hx
    refine hR (?_ : R (_, _, _, _, _, _))
    exact hR (zret_i rfl (Nat.le_refl _) (Or.inl rfl) (Or.inl ⟨hx, ⟨⟨ρ, hT⟩, hI, fun _ _ _ => rfl, by omega, by omega⟩, rfl⟩))
  refine hR (?_ : R (_, _, _, _, _, _))
  refine hR (k_lt (by omega) (fun hc => bad (Or.inl (Or.inl hc))) (fun hc => ?_))
  iterate 2 refine hR (?_ : R (_, _, _, _, _, _))
  refine hR (j_ge (by omega) (by omega) (fun hc2 => bad (Or.inl (Or.inr hc2))) (fun hc2 => ?_))
  obtain ⟨c1, g, c2, c3, c4⟩ := hI
  have hI : IM w l m := ⟨c1, g, c2, c3, c4⟩
  rcases c3 a1.toNat (by omega) with ⟨e1, e2⟩ | ⟨q, x, e1, e2, e3, e4⟩
  · refine hR (?_ : R (_, _, _, _, _, _))
    refine hR (c_get h0 rfl ?_)
    refine hR (?_ : R (_, _, _, _, _, _))
    refine hR (c_rldE c2 rfl (by omega) (by omega) (Nat.le_of_ble_eq_true rfl) (v := .null) (by rw [e1]; rfl) ?_)
    refine hR (?_ : R (_, _, _, _, _, _))
    exact bad (Or.inr e2)
  · have hq := im_role (l := 0) (m := fun _ => none) hT c2 e1
    refine hR (?_ : R (_, _, _, _, _, _))
    refine hR (c_get h0 rfl ?_)
    refine hR (?_ : R (_, _, _, _, _, _))
    refine hR (c_rldE c2 rfl (by omega) (by omega) (Nat.le_of_ble_eq_true rfl) (v := .ref q) (by rw [e1]; rfl) ?_)
    iterate 2 refine hR (?_ : R (_, _, _, _, _, _))
    refine hR (c_get h0 rfl ?_)
    refine hR (?_ : R (_, _, _, _, _, _))
    refine hR (c_get h0 rfl ?_)
    refine hR (?_ : R (_, _, _, _, _, _))
    refine hR (c_rldE c2 rfl (by omega) (by omega) (Nat.le_of_ble_eq_true rfl) (v := .ref q) (by rw [e1]; rfl) ?_)
    refine hR (c_obj hO (zcall_i 0 0 (Nat.le_of_ble_eq_true rfl) (Nat.le_of_ble_eq_true rfl) (c_becomes _ 1 q x hT.1 r1 hq (by omega) e4 _ fun w1 hw1 F1 hL1 => ?_)))
    refine (?_ : R (_, _, [], w1, 0, 0))
    obtain ⟨hT1, hp1, hK1⟩ := frp_top hT r1 hw1 F1
    have hI1 : IM w1 x m := by
      refine ⟨hL1, g, (F1.2 7 (by omega)).trans c2, fun k hk => ?_, c4⟩
      rcases c3 k hk with e | ⟨q', x', f1, f2, f3, f4⟩
      · exact Or.inl e
      · exact Or.inr ⟨q', x', f1, f2, f3, LE_eq (F1.2 q' (by omega)) f4⟩
    refine hR (?_ : R (_, _, _, _, _, _))
    exact hR (zret_i rfl (Nat.le_refl _) (Or.inr rfl) (Or.inr ⟨x, by omega, e2, ⟨⟨ρ, hT1⟩, hI1, hK1, by omega, by omega⟩, rfl⟩))
def upm (m : Nat → Option Int) (k : Nat) (l : Int) : Nat → Option Int := fun j => if j = k then some l else m j
/-- an image is as the tape is now -/
theorem im_img {ρ : Nat → Nat} {w w1 : zW} {l : Int} {m : Nat → Option Int} {g : Nat → Option Nat} {k p : Nat} (hT : TOP ρ w) (c1 : LE w 1 l) (c2 : zix w 7 = some (rfa 6 3 g)) (hk : k < 3) (hg : g k = some p) (hp45 : 45 ≤ p) (c3 : ∀ j, j < 3 → j ≠ k → (g j = none ∧ m j = none) ∨ ∃ q x, g j = some q ∧ m j = some x ∧ 45 ≤ q ∧ LE w q x) (c4 : ∀ i j q, i < 3 → j < 3 → g i = some q → g j = some q → i = j) (F : FRP p w w1) (hL : LE w1 p l) : IM w1 l (upm m k l) := by
  obtain ⟨y6, y7, h0, r1, r7, -⟩ := top_o hT
  have hp := im_role (l := 0) (m := fun _ => none) hT c2 hg
  refine ⟨LE_eq (F.2 1 (by omega)) c1, g, (F.2 7 (by omega)).trans c2, fun j hj => ?_, c4⟩
  by_cases e : j = k
  · subst e
    exact Or.inr ⟨p, l, hg, if_pos rfl, hp45, hL⟩
  · rcases c3 j hj e with ⟨f1, f2⟩ | ⟨q, x, f1, f2, f3, f4⟩
    · exact Or.inl ⟨f1, (if_neg e).trans f2⟩
    · have hqp : p ≠ q := fun e2 => e (c4 j k q hj hk f1 (by rw [← e2]; exact hg))
      have hb := blk hT.1 hp (im_role (l := 0) (m := fun _ => none) hT c2 f1) hqp 0 (by omega)
      exact Or.inr ⟨q, x, f1, (if_neg e).trans f2, f3, LE_eq (F.2 q hb) f4⟩
theorem ph3_up {c i p t n : Nat} {g : Nat → Option Nat} (hi : i < 3) (hn : g i = none) : ph3 c (some (rfa t n (va_up g i (some p)))) + c = ph3 c (some (rfa t n g)) := by
  show pnr c (va_up g i (some p) 0) + pnr c (va_up g i (some p) 1) + pnr c (va_up g i (some p) 2) + c = pnr c (g 0) + pnr c (g 1) + pnr c (g 2)
  have h : i = 0 ∨ i = 1 ∨ i = 2 := by omega
  rcases h with rfl | rfl | rfl
  · rw [up_s, up_n (by decide), up_n (by decide), hn]; show 0 + _ + _ + c = c + _ + _; omega
  · rw [up_s, up_n (by decide), up_n (by decide), hn]; show _ + 0 + _ + c = _ + c + _; omega
  · rw [up_s, up_n (by decide), up_n (by decide), hn]; show _ + _ + 0 + c = _ + _ + c; omega
theorem k_image {ρ : Nat → Nat} {w : zW} {l : Int} {m : Nat → Option Int} (hT : TOP ρ w) (hI : IM w l m) (d : Nat) (a1 : Int) (hr : -2147483648 ≤ a1 ∧ a1 ≤ 2147483647) : DET zTab (d + 3) iX11_image [.ref 0, .int (Int32.ofInt a1)] w (fun mc ms r w' => ((a1 < 0 ∨ 3 ≤ a1) ∧ TP w l m mc ms w' ∧ r = some (.int (Int32.ofInt 0))) ∨ ((0 ≤ a1 ∧ a1 < 3) ∧ TP w l (upm m a1.toNat l) mc ms w' ∧ r = some (.int (Int32.ofInt 1)))) := by
  obtain ⟨y6, y7, h0, r1, r7, -⟩ := top_o hT
  obtain ⟨a, b, hO, hl, ha, hb, -⟩ := told_o hT hI
  obtain ⟨c1, g, c2, c3, c4⟩ := hI
  have hI : IM w l m := ⟨c1, g, c2, c3, c4⟩
  by_cases hx : a1 < 0 ∨ 3 ≤ a1
  · refine det_of (mc := 0) (ms := 0) ?_
    refine zCl_i (M := kX11_image) rfl (Nat.le_of_ble_eq_true rfl) fun R hR => ?_
    have bad : R (9, [some (.ref 0), some (.int (Int32.ofInt a1))], [], w, 0, 0) := by
      refine hR (?_ : R (_, _, _, _, _, _))
      exact hR (zret_i rfl (Nat.le_refl _) (Or.inl rfl) (Or.inl ⟨hx, ⟨⟨ρ, hT⟩, hI, fun _ _ _ => rfl, by omega, by omega⟩, rfl⟩))
    refine hR (?_ : R (_, _, _, _, _, _))
    refine hR (k_lt (by omega) (fun hc => bad) (fun hc => ?_))
    iterate 2 refine hR (?_ : R (_, _, _, _, _, _))
    exact hR (j_lt (by omega) (by omega) (fun hc2 => by omega) (fun hc2 => bad))
  · have hk : a1.toNat < 3 := by omega
    rcases c3 a1.toNat hk with ⟨e1, e2⟩ | ⟨q, x, e1, e2, e3, e4⟩
    · refine det_of (mc := 6) (ms := 617) ?_
      refine zCl_i (M := kX11_image) rfl (Nat.le_of_ble_eq_true rfl) fun R hR => ?_
      refine hR (?_ : R (_, _, _, _, _, _))
      refine hR (k_lt (by omega) (fun hc => by omega) (fun hc => ?_))
      iterate 2 refine hR (?_ : R (_, _, _, _, _, _))
      refine hR (j_lt (by omega) (by omega) (fun hc2 => ?_) (fun hc2 => by omega))
      refine hR (?_ : R (_, _, _, _, _, _))
      refine hR (c_get h0 rfl ?_)
      refine hR (?_ : R (_, _, _, _, _, _))
      refine hR (c_rldE c2 rfl (by omega) (by omega) (Nat.le_of_ble_eq_true rfl) (v := .null) (by rw [e1]; rfl) ?_)
      iterate 2 refine hR (?_ : R (_, _, _, _, _, _))
      refine hR (c_get h0 rfl ?_)
      iterate 3 refine hR (?_ : R (_, _, _, _, _, _))
      refine hR (zcall_i 5 609 (Nat.le_of_ble_eq_true rfl) (Nat.le_of_ble_eq_true rfl) (n_Told hT.1 _ _ fun σ w1 hc1 g1 hl1 hr1 hn1 hL1 => ?_))
      refine (?_ : R (_, _, .ref w.length :: .int (Int32.ofInt a1) :: .ref 7 :: [], w1, 6, 617))
      obtain ⟨hT1, hI1, hp1, hK1, hx1⟩ := top_gro hT hc1 g1 (fun q a b => absurd b (hn1 q a))
      have h45 : 45 ≤ w.length := hT.2.2.2.2
      obtain ⟨z6, z7, k0, s1, s7, -⟩ := top_o hT1
      have d2 : zix w1 7 = some (rfa 6 3 g) := (g1.2 7 (by omega)).2.trans c2
      obtain ⟨x1, x2, x3, hN, -⟩ := CI_o2 hc1 hr1
      refine hR (c_rst hc1 (by rw [s7]; rfl) (by rw [s7]; rfl) rfl ⟨by rw [s7]; decide, by rw [s7]; decide⟩ d2 hr1 hN (by omega) (by omega) (Nat.le_of_ble_eq_true rfl) fun w2 hc2 f2 hg2 => ?_)
      have hf2 : wfR [8] σ w1 w2 := wfR_st (wfR_rf _ _ _) f2 (by rw [s7]; decide)
      have hT2 : TOP σ w2 := ⟨hc2, hT1.2.1, AWK_fr hc1 hf2 hT1.2.2.1 (by decide), hT1.2.2.2.1, by rw [f2.1]; exact hT1.2.2.2.2⟩
      have hK2 : KEEP w1 w2 := fun q a b => f2.2 q (by omega)
      have hp2 : phi w2 + 700 = phi w1 := by
        have := ph3_up (c := 700) (p := w.length) (t := 6) (n := 3) hk e1
        unfold phi
        rw [d2, hg2, f2.2 0 (by decide), f2.2 12 (by decide), f2.2 13 (by decide)]
        omega
      have k02 := (f2.2 0 (by decide)).trans k0
      refine hR (?_ : R (_, _, _, _, _, _))
      refine hR (c_get k02 rfl ?_)
      refine hR (?_ : R (_, _, _, _, _, _))
      refine hR (c_rldE hg2 rfl (by omega) (by omega) (Nat.le_of_ble_eq_true rfl) (v := .ref w.length) (by rw [up_s]; rfl) ?_)
      refine hR (?_ : R (_, _, _, _, _, _))
      refine hR (c_get k02 rfl ?_)
      have hN2 := (f2.2 w.length (by omega)).trans hN
      have hL12 : LE w2 1 l := LE_eq ((f2.2 1 (by decide)).trans (g1.2 1 (by omega)).2) c1
      refine hR (c_obj hN2 (zcall_i 0 0 (Nat.le_of_ble_eq_true rfl) (Nat.le_of_ble_eq_true rfl) (c_becomes _ w.length 1 l hc2 hr1 s1 (by omega) hL12 _ fun w3 hw3 F3 hL3 => ?_)))
      refine (?_ : R (_, _, [], w3, 6, 617))
      obtain ⟨hT3, hp3, hK3⟩ := frp_top hT2 hr1 hw3 F3
      have hI3 : IM w3 l (upm m a1.toNat l) := by
        refine im_img hT2 hL12 hg2 hk up_s (by omega) (fun j hj hne => ?_) (fun i j q hi hj f1 f3 => ?_) F3 hL3
        · rw [up_n hne]
          rcases c3 j hj with e | ⟨q', x', f1, f3, f4, f5⟩
          · exact Or.inl e
          · have hq' : q' < w.length := CI_lt hT.1 (by rw [im_role (l := 0) (m := fun _ => none) hT c2 f1]; decide)
            exact Or.inr ⟨q', x', f1, f3, f4, LE_eq ((f2.2 q' (by omega)).trans (g1.2 q' hq').2) f5⟩
        · have hlt : ∀ j q', g j = some q' → q' < w.length := fun j q' f => CI_lt hT.1 (by rw [im_role (l := 0) (m := fun _ => none) hT c2 f]; decide)
          by_cases ei : i = a1.toNat <;> by_cases ej : j = a1.toNat
          · omega
          · rw [ei, up_s] at f1; cases f1; rw [up_n ej] at f3; have := hlt _ _ f3; omega
          · rw [ej, up_s] at f3; cases f3; rw [up_n ei] at f1; have := hlt _ _ f1; omega
          · rw [up_n ei] at f1; rw [up_n ej] at f3; exact c4 i j q hi hj f1 f3
      refine hR (?_ : R (_, _, _, _, _, _))
      exact hR (zret_i rfl (Nat.le_refl _) (Or.inr rfl) (Or.inr ⟨by omega, ⟨⟨σ, hT3⟩, hI3, KEEP_tr hK1 (KEEP_tr hK2 hK3), by omega, by omega⟩, rfl⟩))
    · have hq := im_role (l := 0) (m := fun _ => none) hT c2 e1
      obtain ⟨x1, x2, x3, hN, -⟩ := CI_o2 hT.1 hq
      refine det_of (mc := 0) (ms := 0) ?_
      refine zCl_i (M := kX11_image) rfl (Nat.le_of_ble_eq_true rfl) fun R hR => ?_
      refine hR (?_ : R (_, _, _, _, _, _))
      refine hR (k_lt (by omega) (fun hc => by omega) (fun hc => ?_))
      iterate 2 refine hR (?_ : R (_, _, _, _, _, _))
      refine hR (j_lt (by omega) (by omega) (fun hc2 => ?_) (fun hc2 => by omega))
      refine hR (?_ : R (_, _, _, _, _, _))
      refine hR (c_get h0 rfl ?_)
      refine hR (?_ : R (_, _, _, _, _, _))
      refine hR (c_rldE c2 rfl (by omega) (by omega) (Nat.le_of_ble_eq_true rfl) (v := .ref q) (by rw [e1]; rfl) ?_)
      iterate 2 refine hR (?_ : R (_, _, _, _, _, _))
      refine hR (c_get h0 rfl ?_)
      refine hR (?_ : R (_, _, _, _, _, _))
      refine hR (c_rldE c2 rfl (by omega) (by omega) (Nat.le_of_ble_eq_true rfl) (v := .ref q) (by rw [e1]; rfl) ?_)
      refine hR (?_ : R (_, _, _, _, _, _))
      refine hR (c_get h0 rfl ?_)
      refine hR (c_obj hN (zcall_i 0 0 (Nat.le_of_ble_eq_true rfl) (Nat.le_of_ble_eq_true rfl) (c_becomes _ q 1 l hT.1 hq r1 (by omega) c1 _ fun w1 hw1 F1 hL1 => ?_)))
      refine (?_ : R (_, _, [], w1, 0, 0))
      obtain ⟨hT1, hp1, hK1⟩ := frp_top hT hq hw1 F1
      have hI1 := im_img (m := m) hT c1 c2 hk e1 e3 (fun j hj _ => c3 j hj) c4 F1 hL1
      refine hR (?_ : R (_, _, _, _, _, _))
      exact hR (zret_i rfl (Nat.le_refl _) (Or.inr rfl) (Or.inr ⟨by omega, ⟨⟨ρ, hT1⟩, hI1, hK1, by omega, by omega⟩, rfl⟩))
/-! TEXT. -/
theorem rls_19 {r0 r : Nat} (h : r ∈ rls r0) (h1 : r0 ≠ 19) : r ≠ 19 ∧ r ≠ 25 ∧ r ≠ 26 := by
  unfold rls at h
  split at h
  all_goals first | (exact absurd rfl h1) | (simp only [List.mem_cons, List.not_mem_nil, or_false] at h; omega) | (cases h)
def to20 (ρ : Nat → Nat) (n : Nat) : Nat → Nat := fun x => if x = n then 20 else if x = n + 3 then 23 else if x = n + 4 then 24 else ρ x
theorem to20_n {ρ : Nat → Nat} {n x : Nat} (h : x ≠ n ∧ x ≠ n + 3 ∧ x ≠ n + 4) : to20 ρ n x = ρ x := by
  unfold to20
  rw [if_neg h.1, if_neg h.2.1, if_neg h.2.2]
theorem CI_to20 {σ : Nat → Nat} {w : zW} {n : Nat} (hw : CI σ w) (hn : σ n = 19) (hR : REL w (n + 3)) : CI (to20 σ n) w := by
  obtain ⟨x0, x1, x2, hO, a0, a1, a2, b1, b2, b3, b4⟩ := CI_o19 hw hn
  have e0 : to20 σ n n = 20 := if_pos rfl
  have e3 : to20 σ n (n + 3) = 23 := by unfold to20; rw [if_neg (by omega), if_pos rfl]
  have e4 : to20 σ n (n + 4) = 24 := by unfold to20; rw [if_neg (by omega), if_neg (by omega), if_pos rfl]
  have hk : ∀ x r, σ x = r → r ≠ 19 → r ≠ 25 → r ≠ 26 → to20 σ n x = r := by
    intro x r e h1 h2 h3
    refine (to20_n ⟨fun e' => ?_, fun e' => ?_, fun e' => ?_⟩).trans e
    · rw [e', hn] at e; exact h1 e.symm
    · rw [e', b3] at e; exact h2 e.symm
    · rw [e', b4] at e; exact h3 e.symm
  refine ⟨fun q hq => ?_, fun q hq => ?_, fun q hq => ?_⟩
  · by_cases q0 : q = n
    · subst q0
      refine ⟨_, hO, ?_⟩
      unfold rOK
      rw [e0]
      exact ⟨x0, x1, x2, rfl, a0, a1, a2, hk _ _ b1 (by decide) (by decide) (by decide), hk _ _ b2 (by decide) (by decide) (by decide), e3, e4⟩
    · by_cases q3 : q = n + 3
      · subst q3
        obtain ⟨g, h1, h2⟩ := CI_ar hw (q := n + 3) (by rw [b3]; rfl)
        refine ⟨_, h1, ?_⟩
        unfold rOK
        rw [e3]
        exact ⟨g, rfl, h2⟩
      · by_cases q4 : q = n + 4
        · subst q4
          obtain ⟨g, h1, h2⟩ := CI_ar hw (q := n + 4) (by rw [b4]; rfl)
          refine ⟨_, h1, ?_⟩
          unfold rOK
          rw [e4]
          exact ⟨g, rfl, h2⟩
        · have eq : to20 σ n q = σ q := to20_n ⟨q0, q3, q4⟩
          by_cases e19 : σ q = 19
          · obtain ⟨y0, y1, y2, hO', c0, c1, c2, d1, d2, d3, d4⟩ := CI_o19 hw e19
            refine ⟨_, hO', ?_⟩
            unfold rOK
            rw [eq, e19]
            refine ⟨y0, y1, y2, rfl, c0, c1, c2, hk _ _ d1 (by decide) (by decide) (by decide), hk _ _ d2 (by decide) (by decide) (by decide), (to20_n ⟨fun e => ?_, by omega, fun e => ?_⟩).trans d3, (to20_n ⟨fun e => ?_, fun e => ?_, by omega⟩).trans d4⟩
            · rw [e, hn] at d3; omega
            · rw [e, b4] at d3; omega
            · rw [e, hn] at d4; omega
            · rw [e, b3] at d4; omega
          · obtain ⟨c, h1, h2⟩ := hw.1 q hq
            refine ⟨c, h1, rOK_map eq (fun x r hr ex => ?_) h2⟩
            have hr' : r ≠ 19 ∧ r ≠ 25 ∧ r ≠ 26 := by
              rcases hr with hr | ⟨ti, len, hr⟩
              · exact rls_19 hr e19
              · have := rRf_12 hr; omega
            exact hk x r ex hr'.1 hr'.2.1 hr'.2.2
  · exact hk q 0 (hw.2.1 q hq) (by decide) (by decide) (by decide)
  · by_cases q3 : q = n + 3
    · subst q3
      obtain ⟨gk, gn, h1, h2, h3⟩ := hR
      exact ⟨e4, gk, gn, h1, h2, h3⟩
    · have hq' : σ q = 23 := by
        by_cases q0 : q = n
        · rw [q0, e0] at hq; cases hq
        · by_cases q4 : q = n + 4
          · rw [q4, e4] at hq; cases hq
          · exact (to20_n ⟨q0, q3, q4⟩).symm.trans hq
      obtain ⟨h1, h2⟩ := hw.2.2 q hq'
      exact ⟨hk _ _ h1 (by decide) (by decide) (by decide), h2⟩
/-- the same cells, other roles -/
theorem top_rol {σ τ : Nat → Nat} {w : zW} (hT : TOP σ w) (hc : CI τ w) (h0 : τ 0 = 1) (h6 : ∀ q, τ q = 60 → σ q = 60) (hm : ∀ q, 14 ≤ q → q ≤ 44 → τ q = 0) : TOP τ w := ⟨hc, h0, fun q hq => hT.2.2.1 q (h6 q hq), hm, hT.2.2.2.2⟩
def PT (w : zW) (mc ms : Nat) (r : Option Value) (w' : zW) : Prop := (∃ σ, TOP σ w') ∧ (∀ l m, IM w l m → IM w' l m) ∧ KEEP w w' ∧ mc ≤ 20 ∧ ms + phi w' ≤ phi w + 200 ∧ ∃ v : Int, (v = 0 ∨ v = 1) ∧ r = some (.int (Int32.ofInt v))
/-- a store into a row of what is told -/
theorem top_told {σ : Nat → Nat} {w1 w2 : zW} {q0 : Nat} (hT : TOP σ w1) (hc : CI σ w2) (f : wfr q0 w1 w2) (hq : 3 ≤ σ q0 ∧ σ q0 ≤ 7) : TOP σ w2 ∧ (∀ l m, IM w1 l m → IM w2 l m) ∧ phi w2 = phi w1 ∧ KEEP w1 w2 := by
  have hf : wfR [3, 4, 5, 6, 7] σ w1 w2 := wfR_st (wfR_rf _ _ _) f (by simp only [List.mem_cons, List.not_mem_nil, or_false]; omega)
  exact top_fr hT hc hf (by decide) (AWK_fr hT.1 hf hT.2.2.1 (by decide))
theorem a_tellInto {ρ : Nat → Nat} {w : zW} (hT : TOP ρ w) (d : Nat) (a1 a2 a3 : Int) (h1 : 0 ≤ a1 ∧ a1 ≤ 2) (h2 : 0 ≤ a2 ∧ a2 ≤ 1) (h3 : 0 ≤ a3 ∧ a3 ≤ 600) : DET zTab (d + 9) iX11_tellInto [.ref 0, .int (Int32.ofInt a1), .int (Int32.ofInt a2), .int (Int32.ofInt a3)] w (PT w) := by
  have hs : a1 = 0 ∨ a1 = 1 ∨ a1 = 2 := by omega
  rcases hs with hs | hs | hs
  · skip
    refine det_of (mc := 5) (ms := 56) ?_
    refine zCl_i (M := kX11_tellInto) rfl (Nat.le_of_ble_eq_true rfl) fun R hR => ?_
    refine hR (?_ : R (_, _, _, _, _, _))
    refine hR (t_pc (pc2 := 28) (by rw [zti (e := a1) (by omega) (by omega)]; show (((1 : Nat) : Int) + Op.lookupswitch.offset [(0, 27), (1, 71)] 115 a1).toNat = 28; simp only [Op.lookupswitch.offset_cons]; (repeat' split) <;> first | omega | rfl) ?_)
    iterate 2 refine hR (?_ : R (_, _, _, _, _, _))
    refine hR (zcall_i 4 49 (Nat.le_of_ble_eq_true rfl) (Nat.le_of_ble_eq_true rfl) (n_Book hT.1 _ _ fun σ w1 hc1 g1 hl1 hr1 hn1 hRL => ?_))
    refine (?_ : R (_, _, .ref w.length :: [], w1, 5, 56))
    obtain ⟨hT1, hI1, hp1, hK1, hx1⟩ := top_gro hT hc1 g1 (fun q a b => absurd b (hn1 q a))
    obtain ⟨z6, z7, k0, s1, s7, s8, s9, s12, s13, -⟩ := top_o hT1
    obtain ⟨x1, x2, x3, hO, u1, -, -, -, u2, u3, u4, u5⟩ := CI_o2 hc1 s1
    obtain ⟨t0, t1, t2, t3, t4, t5, t6, t7, hU, -⟩ := CI_o9 hc1 s8
    iterate 2 refine hR (?_ : R (_, _, _, _, _, _))
    refine hR (c_get k0 rfl ?_)
    refine hR (?_ : R (_, _, _, _, _, _))
    refine hR (c_get k0 rfl ?_)
    refine hR (c_get hO rfl ?_)
    iterate 2 refine hR (?_ : R (_, _, _, _, _, _))
    refine hR (c_obj hU (zcall_i 0 0 (Nat.le_of_ble_eq_true rfl) (Nat.le_of_ble_eq_true rfl) (c_tell_b _ 8 2 w.length a3 hc1 s8 u1 hr1 h3 hRL _ fun v w2 hw2 f2 hv hRL2 => ?_)))
    refine (?_ : R (_, _, .int (Int32.ofInt v) :: [], w2, 5, 56))
    obtain ⟨hT2, hI2, hp2, hK2⟩ := top_fr hT1 hw2 f2 (by decide) (AWK_fr hc1 f2 hT1.2.2.1 (by decide))
    refine hR (k_eq (by omega) (fun hc => ?_) (fun hc => ?_))
    · refine hR (?_ : R (_, _, _, _, _, _))
      exact hR (zret_i rfl (Nat.le_refl _) (Or.inl rfl) ⟨⟨σ, hT2⟩, fun l m h => hI2 l m (hI1 l m h), KEEP_tr hK1 hK2, by omega, by omega, 0, Or.inl rfl, rfl⟩)
    · skip
      have hRL3 := hRL2.resolve_left hc
      have hN2 : σ w.length = 19 := hr1
      have hc2 := CI_to20 hw2 hr1 hRL3
      obtain ⟨-, -, -, -, -, -, -, m1, m2, m3, m4⟩ := CI_o19 hw2 hr1
      have h45 : 45 ≤ w.length := hT.2.2.2.2
      have lo : ∀ q, q < 45 → to20 σ w.length q = σ q := fun q hq => to20_n ⟨by omega, by omega, by omega⟩
      have hT3 : TOP (to20 σ w.length) w2 := top_rol hT2 hc2 ((lo 0 (by omega)).trans hT2.2.1) (fun q hq => by unfold to20 at hq; (repeat' split at hq) <;> first | cases hq | exact hq) (fun q a b => (lo q (by omega)).trans (hT2.2.2.2.1 q a b))
      have s3 : to20 σ w.length w.length = 20 := if_pos rfl
      have ua : to20 σ w.length 4 = 5 := (lo 4 (by omega)).trans u3
      obtain ⟨z6', z7', k02, s1', -⟩ := top_o hT3
      obtain ⟨y1, y2, y3, hO2, -⟩ := CI_o2 hc2 s1'
      obtain ⟨g, hg, -⟩ := CI_rf hc2 (q := 4) (by rw [ua]; rfl) (by rw [ua]; rfl)
      obtain ⟨_, _, _, hN, -⟩ := CI_o20 hc2 s3
      refine hR (?_ : R (_, _, _, _, _, _))
      refine hR (c_get k02 rfl ?_)
      refine hR (c_get hO2 rfl ?_)
      iterate 2 refine hR (?_ : R (_, _, _, _, _, _))
      refine hR (c_rst hc2 (by rw [ua]; rfl) (by rw [ua]; rfl) rfl ⟨by rw [ua]; decide, by rw [ua]; decide⟩ hg s3 hN (by omega) (by omega) (Nat.le_of_ble_eq_true rfl) fun w3 hc3 f3 hg3 => ?_)
      obtain ⟨hT4, hI4, hp4, hK4⟩ := top_told hT3 hc3 f3 (by rw [ua]; decide)
      refine hR (?_ : R (_, _, _, _, _, _))
      exact hR (zret_i rfl (Nat.le_refl _) (Or.inr rfl) ⟨⟨_, hT4⟩, fun l m h => hI4 l m (hI2 l m (hI1 l m h)), KEEP_tr hK1 (KEEP_tr hK2 hK4), by omega, by omega, 1, Or.inr rfl, rfl⟩)
  · skip
    refine det_of (mc := 4) (ms := 124) ?_
    refine zCl_i (M := kX11_tellInto) rfl (Nat.le_of_ble_eq_true rfl) fun R hR => ?_
    refine hR (?_ : R (_, _, _, _, _, _))
    refine hR (t_pc (pc2 := 72) (by rw [zti (e := a1) (by omega) (by omega)]; show (((1 : Nat) : Int) + Op.lookupswitch.offset [(0, 27), (1, 71)] 115 a1).toNat = 72; simp only [Op.lookupswitch.offset_cons]; (repeat' split) <;> first | omega | rfl) ?_)
    iterate 2 refine hR (?_ : R (_, _, _, _, _, _))
    refine hR (zcall_i 3 120 (Nat.le_of_ble_eq_true rfl) (Nat.le_of_ble_eq_true rfl) (n_Year hT.1 _ _ fun σ w1 hc1 g1 hl1 hr1 hn1 => ?_))
    refine (?_ : R (_, _, .ref w.length :: [], w1, 4, 124))
    obtain ⟨hT1, hI1, hp1, hK1, hx1⟩ := top_gro hT hc1 g1 (fun q a b => absurd b (hn1 q a))
    obtain ⟨z6, z7, k0, s1, s7, s8, s9, s12, s13, -⟩ := top_o hT1
    obtain ⟨x1, x2, x3, hO, u1, -, -, -, u2, u3, u4, u5⟩ := CI_o2 hc1 s1
    obtain ⟨t0, t1, t2, t3, t4, t5, t6, t7, hU, -⟩ := CI_o9 hc1 s8
    iterate 2 refine hR (?_ : R (_, _, _, _, _, _))
    refine hR (c_get k0 rfl ?_)
    refine hR (?_ : R (_, _, _, _, _, _))
    refine hR (c_get k0 rfl ?_)
    refine hR (c_get hO rfl ?_)
    iterate 2 refine hR (?_ : R (_, _, _, _, _, _))
    refine hR (c_obj hU (zcall_i 0 0 (Nat.le_of_ble_eq_true rfl) (Nat.le_of_ble_eq_true rfl) (c_tell_y _ 8 2 w.length a3 hc1 s8 u1 hr1 h3 _ fun v w2 hw2 f2 hv => ?_)))
    refine (?_ : R (_, _, .int (Int32.ofInt v) :: [], w2, 4, 124))
    obtain ⟨hT2, hI2, hp2, hK2⟩ := top_fr hT1 hw2 f2 (by decide) (AWK_fr hc1 f2 hT1.2.2.1 (by decide))
    refine hR (k_eq (by omega) (fun hc => ?_) (fun hc => ?_))
    · refine hR (?_ : R (_, _, _, _, _, _))
      exact hR (zret_i rfl (Nat.le_refl _) (Or.inl rfl) ⟨⟨σ, hT2⟩, fun l m h => hI2 l m (hI1 l m h), KEEP_tr hK1 hK2, by omega, by omega, 0, Or.inl rfl, rfl⟩)
    · skip
      have hT3 : TOP σ w2 := hT2
      have hc2 := hw2
      have s3 := hr1
      have ua : σ 5 = 6 := u4
      obtain ⟨z6', z7', k02, s1', -⟩ := top_o hT3
      obtain ⟨y1, y2, y3, hO2, -⟩ := CI_o2 hc2 s1'
      obtain ⟨g, hg, -⟩ := CI_rf hc2 (q := 5) (by rw [ua]; rfl) (by rw [ua]; rfl)
      obtain ⟨_, hN, -⟩ := CI_o30 hc2 s3
      refine hR (?_ : R (_, _, _, _, _, _))
      refine hR (c_get k02 rfl ?_)
      refine hR (c_get hO2 rfl ?_)
      iterate 2 refine hR (?_ : R (_, _, _, _, _, _))
      refine hR (c_rst hc2 (by rw [ua]; rfl) (by rw [ua]; rfl) rfl ⟨by rw [ua]; decide, by rw [ua]; decide⟩ hg s3 hN (by omega) (by omega) (Nat.le_of_ble_eq_true rfl) fun w3 hc3 f3 hg3 => ?_)
      obtain ⟨hT4, hI4, hp4, hK4⟩ := top_told hT3 hc3 f3 (by rw [ua]; decide)
      refine hR (?_ : R (_, _, _, _, _, _))
      exact hR (zret_i rfl (Nat.le_refl _) (Or.inr rfl) ⟨⟨_, hT4⟩, fun l m h => hI4 l m (hI2 l m (hI1 l m h)), KEEP_tr hK1 (KEEP_tr hK2 hK4), by omega, by omega, 1, Or.inr rfl, rfl⟩)
  · skip
    refine det_of (mc := 3) (ms := 15) ?_
    refine zCl_i (M := kX11_tellInto) rfl (Nat.le_of_ble_eq_true rfl) fun R hR => ?_
    refine hR (?_ : R (_, _, _, _, _, _))
    refine hR (t_pc (pc2 := 116) (by rw [zti (e := a1) (by omega) (by omega)]; show (((1 : Nat) : Int) + Op.lookupswitch.offset [(0, 27), (1, 71)] 115 a1).toNat = 116; simp only [Op.lookupswitch.offset_cons]; (repeat' split) <;> first | omega | rfl) ?_)
    iterate 2 refine hR (?_ : R (_, _, _, _, _, _))
    refine hR (zcall_i 2 12 (Nat.le_of_ble_eq_true rfl) (Nat.le_of_ble_eq_true rfl) (n_Sight hT.1 _ _ fun σ w1 hc1 g1 hl1 hr1 hn1 => ?_))
    refine (?_ : R (_, _, .ref w.length :: [], w1, 3, 15))
    obtain ⟨hT1, hI1, hp1, hK1, hx1⟩ := top_gro hT hc1 g1 (fun q a b => absurd b (hn1 q a))
    obtain ⟨z6, z7, k0, s1, s7, s8, s9, s12, s13, -⟩ := top_o hT1
    obtain ⟨x1, x2, x3, hO, u1, -, -, -, u2, u3, u4, u5⟩ := CI_o2 hc1 s1
    obtain ⟨t0, t1, t2, t3, t4, t5, t6, t7, hU, -⟩ := CI_o9 hc1 s8
    iterate 2 refine hR (?_ : R (_, _, _, _, _, _))
    refine hR (c_get k0 rfl ?_)
    refine hR (?_ : R (_, _, _, _, _, _))
    refine hR (c_get k0 rfl ?_)
    refine hR (c_get hO rfl ?_)
    iterate 2 refine hR (?_ : R (_, _, _, _, _, _))
    refine hR (c_obj hU (zcall_i 0 0 (Nat.le_of_ble_eq_true rfl) (Nat.le_of_ble_eq_true rfl) (c_tell_s _ 8 2 w.length a3 hc1 s8 u1 hr1 h3 _ fun v w2 hw2 f2 hv => ?_)))
    refine (?_ : R (_, _, .int (Int32.ofInt v) :: [], w2, 3, 15))
    obtain ⟨hT2, hI2, hp2, hK2⟩ := top_fr hT1 hw2 f2 (by decide) (AWK_fr hc1 f2 hT1.2.2.1 (by decide))
    refine hR (k_eq (by omega) (fun hc => ?_) (fun hc => ?_))
    · refine hR (?_ : R (_, _, _, _, _, _))
      exact hR (zret_i rfl (Nat.le_refl _) (Or.inl rfl) ⟨⟨σ, hT2⟩, fun l m h => hI2 l m (hI1 l m h), KEEP_tr hK1 hK2, by omega, by omega, 0, Or.inl rfl, rfl⟩)
    · skip
      have hT3 : TOP σ w2 := hT2
      have hc2 := hw2
      have s3 := hr1
      have ua : σ 6 = 7 := u5
      obtain ⟨z6', z7', k02, s1', -⟩ := top_o hT3
      obtain ⟨y1, y2, y3, hO2, -⟩ := CI_o2 hc2 s1'
      obtain ⟨g, hg, -⟩ := CI_rf hc2 (q := 6) (by rw [ua]; rfl) (by rw [ua]; rfl)
      obtain ⟨_, hN, -⟩ := CI_o40 hc2 s3
      refine hR (?_ : R (_, _, _, _, _, _))
      refine hR (c_get k02 rfl ?_)
      refine hR (c_get hO2 rfl ?_)
      iterate 2 refine hR (?_ : R (_, _, _, _, _, _))
      refine hR (c_rst hc2 (by rw [ua]; rfl) (by rw [ua]; rfl) rfl ⟨by rw [ua]; decide, by rw [ua]; decide⟩ hg s3 hN (by omega) (by omega) (Nat.le_of_ble_eq_true rfl) fun w3 hc3 f3 hg3 => ?_)
      obtain ⟨hT4, hI4, hp4, hK4⟩ := top_told hT3 hc3 f3 (by rw [ua]; decide)
      refine hR (?_ : R (_, _, _, _, _, _))
      exact hR (zret_i rfl (Nat.le_refl _) (Or.inr rfl) ⟨⟨_, hT4⟩, fun l m h => hI4 l m (hI2 l m (hI1 l m h)), KEEP_tr hK1 (KEEP_tr hK2 hK4), by omega, by omega, 1, Or.inr rfl, rfl⟩)
def PX (w : zW) (m : Nat → Option Int) (mc ms : Nat) (r : Option Value) (w' : zW) : Prop := TP w 0 m mc ms w' ∧ ∃ v, r = some (.int v)
theorem k_text {ρ : Nat → Nat} {w : zW} {l : Int} {m : Nat → Option Int} (hT : TOP ρ w) (hI : IM w l m) (d : Nat) (a1 a2 : Int) (hr1 : -2147483648 ≤ a1 ∧ a1 ≤ 2147483647) (hr2 : -2147483648 ≤ a2 ∧ a2 ≤ 2147483647) : DET zTab (d + 10) iX11_text [.ref 0, .int (Int32.ofInt a1), .int (Int32.ofInt a2)] w (PX w m) := by
  refine z_rel (M := kX11_text) _ rfl (Nat.le_of_ble_eq_true rfl) fun R hR0 => ?_
  have hR : ∀ {pc : Nat} {L : zL} {S : List Value} {w1 : zW} {k n : Nat}, zsc (zCl zTab (d + 9)) (d + 9) kX11_text none zTab k n (PX w m k n) pc L S w1 k n R → R (pc, L, S, w1, k, n) := fun h => hR0 _ _ (Nat.le_refl _) (Nat.le_refl _) h
  obtain ⟨y6, y7, h0, -⟩ := top_o hT
  obtain ⟨a, b, hO, hl, ha, hb, -⟩ := told_o hT hI
  refine hR (?_ : R (_, _, _, _, _, _))
  refine hR (c_get h0 rfl ?_)
  refine hR (c_get hO rfl ?_)
  iterate 2 refine hR (?_ : R (_, _, _, _, _, _))
  refine hR (c_get h0 rfl ?_)
  refine hR (?_ : R (_, _, _, _, _, _))
  refine hR (c_put hO rfl rfl fun w1 f1 hO1 => ?_)
  obtain ⟨hT1, hI1, hp1, hK1⟩ := told_put (l' := 0) hT hI f1 hO1 (by omega) ha hb
  obtain ⟨_, _, h01, -⟩ := top_o hT1
  refine hR (?_ : R (_, _, _, _, _, _))
  refine hR (c_get h01 rfl ?_)
  refine hR (?_ : R (_, _, _, _, _, _))
  refine hR (c_put hO1 rfl rfl fun w2 f2 hO2 => ?_)
  obtain ⟨hT2, hI2, hp2, hK2⟩ := told_put (l' := 0) (a := 0) hT1 hI1 f2 hO2 (by omega) (by omega) hb
  obtain ⟨_, _, h02, -⟩ := top_o hT2
  refine hR (?_ : R (_, _, _, _, _, _))
  refine hR (c_get h02 rfl ?_)
  refine hR (?_ : R (_, _, _, _, _, _))
  refine hR (c_put hO2 rfl rfl fun w3 f3 hO3 => ?_)
  obtain ⟨hT3, hI3, hp3, hK3⟩ := told_put (l' := 0) (a := 0) (b := -1) hT2 hI2 f3 hO3 (by omega) (by omega) (by omega)
  obtain ⟨_, _, h03, s1, s7, s8, -⟩ := top_o hT3
  obtain ⟨_, _, hO3, -, -, -, u2, u3, u4, u5, u6⟩ := told_o hT3 hI3
  have hK : KEEP w w3 := KEEP_tr hK1 (KEEP_tr hK2 hK3)
  have main : ∀ (nu v4 : Int), (0 ≤ nu ∧ nu ≤ 1) → (0 ≤ v4 ∧ v4 ≤ 2) → (0 ≤ a1 ∧ a1 ≤ 2) → R (95, [some (.ref 0), some (.int (Int32.ofInt a1)), some (.int (Int32.ofInt a2)), some (.int (Int32.ofInt l)), some (.int (Int32.ofInt v4)), some (.int (Int32.ofInt nu))], [], w3, 0, 0) := by
    intro nu v4 hnu hv4 ha1
    iterate 4 refine hR (?_ : R (_, _, _, _, _, _))
    obtain ⟨mc, ms, r, w4, ⟨⟨σ, hT4⟩, hI4, hK4, hm4, hp4, v, hv, rfl⟩, hrun⟩ := a_tellInto hT3 d a1 nu l ha1 hnu hl
    refine hR0 (0 + mc) (0 + ms) (Nat.le_add_right _ _) (Nat.le_add_right _ _) (c_obj h03 (zcall_i mc ms (Nat.le_refl _) (Nat.le_refl _) (hrun _ ?_)))
    refine (?_ : R (_, _, .int (Int32.ofInt v) :: [], w4, 0 + mc, 0 + ms))
    have hI4 := hI4 _ _ hI3
    obtain ⟨_, _, h04, r1, r7, r8, -⟩ := top_o hT4
    obtain ⟨c, e, hO4, -, hc, he, q2, q3, -⟩ := told_o hT4 hI4
    refine hR (k_ne (by omega) (fun hz => ?_) (fun hz => ?_))
    · refine hR (?_ : R (_, _, _, _, _, _))
      refine hR (c_get h04 rfl ?_)
      refine hR (c_get hO4 rfl ?_)
      iterate 4 refine hR (?_ : R (_, _, _, _, _, _))
      refine hR (t_add ?_)
      obtain ⟨vm, hvm, em⟩ := zmax_r (a := v4) (b := nu + 1) (by omega) (by omega)
      refine hR (zif_i (by rw [show Nat.ble (0 + mc) (0 + mc) = true from Nat.ble_eq.mpr (Nat.le_refl _), show Nat.ble (0 + ms) (0 + ms) = true from Nat.ble_eq.mpr (Nat.le_refl _)]; rfl) (t_c vm em ?_))
      refine hR (c_ast hT4.1 (by rw [q3]; rfl) ⟨by rw [q3]; decide, by rw [q3]; decide⟩ (by omega) (by omega) (by omega) (by omega) (by omega) (by omega) (Nat.le_of_ble_eq_true rfl) fun w5 hw5 f5 => ?_)
      obtain ⟨hT5, hI5, hp5, hK5⟩ := top_told hT4 hw5 f5 (by rw [q3]; decide)
      refine hR (?_ : R (_, _, _, _, _, _))
      exact hR (zret_i rfl (Nat.le_refl _) trivial ⟨⟨⟨σ, hT5⟩, hI5 _ _ hI4, KEEP_tr hK (KEEP_tr hK4 hK5), by omega, by omega⟩, _, rfl⟩)
    · obtain ⟨t0, t1, t2, t3, t4, t5, t6, t7, hU, -, -, -, -, -, -, hf6, hf7⟩ := CI_o9 hT4.1 r8
      refine hR (?_ : R (_, _, _, _, _, _))
      refine hR (c_get h04 rfl ?_)
      refine hR (?_ : R (_, _, _, _, _, _))
      refine hR (c_get h04 rfl ?_)
      refine hR (c_get hU rfl ?_)
      refine hR (c_put hO4 rfl rfl fun w5 f5 hO5 => ?_)
      obtain ⟨hT5, hI5, hp5, hK5⟩ := told_put (l' := 0) (a := t6) hT4 hI4 f5 hO5 (by omega) hf6 he
      obtain ⟨_, _, h05, -⟩ := top_o hT5
      have hU5 := (f5.2 8 (by decide)).trans hU
      refine hR (?_ : R (_, _, _, _, _, _))
      refine hR (c_get h05 rfl ?_)
      refine hR (?_ : R (_, _, _, _, _, _))
      refine hR (c_get h05 rfl ?_)
      refine hR (c_get hU5 rfl ?_)
      refine hR (c_put hO5 rfl rfl fun w6 f6 hO6 => ?_)
      obtain ⟨hT6, hI6, hp6, hK6⟩ := told_put (l' := 0) (a := t6) (b := t7) hT5 hI5 f6 hO6 (by omega) hf6 hf7
      refine hR (?_ : R (_, _, _, _, _, _))
      exact hR (zret_i rfl (Nat.le_refl _) trivial ⟨⟨⟨σ, hT6⟩, hI6, KEEP_tr hK (KEEP_tr hK4 (KEEP_tr hK5 hK6)), by omega, by omega⟩, _, rfl⟩)
  have ret : ∀ v : Int32, PX w m 0 0 (some (.int v)) w3 := fun v => ⟨⟨⟨ρ, hT3⟩, hI3, hK, by omega, by omega⟩, _, rfl⟩
  have b41 : ∀ (L : zL), R (41, L, [], w3, 0, 0) := by
    intro L
    refine hR (t_c (-2) (by decide) ?_)
    exact hR (zret_i rfl (Nat.le_refl _) trivial (ret _))
  have b79 : ∀ (L : zL), R (79, L, [], w3, 0, 0) := by
    intro L
    refine hR (t_c (-2) (by decide) ?_)
    exact hR (zret_i rfl (Nat.le_refl _) trivial (ret _))
  refine hR (?_ : R (_, _, _, _, _, _))
  refine hR (k_lt (by omega) (fun hc => b41 _) (fun hc => ?_))
  iterate 2 refine hR (?_ : R (_, _, _, _, _, _))
  refine hR (j_lt (by omega) (by omega) (fun hc2 => ?_) (fun hc2 => b41 _))
  refine hR (?_ : R (_, _, _, _, _, _))
  refine hR (c_get h03 rfl ?_)
  refine hR (c_get hO3 rfl ?_)
  refine hR (?_ : R (_, _, _, _, _, _))
  refine hR (c_ald hT3.1 (by rw [u3]; rfl) (by omega) (by omega) (Nat.le_of_ble_eq_true rfl) fun v4 lv uv => ?_)
  iterate 3 refine hR (?_ : R (_, _, _, _, _, _))
  refine hR (j_ne (by omega) (by omega) (fun hc3 => ?_) (fun hc3 => ?_))
  · refine hR (?_ : R (_, _, _, _, _, _))
    refine hR (k_lt (by omega) (fun hc => b79 _) (fun hc4 => ?_))
    iterate 2 refine hR (?_ : R (_, _, _, _, _, _))
    refine hR (j_lt (by omega) (by omega) (fun hc5 => ?_) (fun _ => b79 _))
    iterate 2 refine hR (?_ : R (_, _, _, _, _, _))
    refine hR (j_ne (by omega) (by omega) (fun _ => ?_) (fun hc6 => absurd hc6 hc3))
    iterate 2 refine hR (?_ : R (_, _, _, _, _, _))
    exact main a2 v4 (by omega) (by omega) (by omega)
  · iterate 2 refine hR (?_ : R (_, _, _, _, _, _))
    refine hR (j_lt (by omega) (by omega) (fun hc4 => ?_) (fun hc4 => ?_))
    · iterate 2 refine hR (?_ : R (_, _, _, _, _, _))
      refine hR (j_ne (by omega) (by omega) (fun hc6 => absurd hc3 hc6) (fun _ => ?_))
      iterate 3 refine hR (?_ : R (_, _, _, _, _, _))
      exact main v4 v4 (by omega) (by omega) (by omega)
    · refine hR (?_ : R (_, _, _, _, _, _))
      exact b79 _
/-! THE REFERENCE BETWEEN ITS CALLS. -/
def MI (w : zW) (sz kp : Nat → Int32) : Prop := ∃ (c0 c1 c2 c3 c4 c5 c6 c7 c8 c9 c10 c11 c12 c13 : va_E) (f0 f9 f10 f11 f12 f13 f15 f16 f17 f20 f21 f22 f23 f26 f28 f31 f32 f33 f38 f41 f44 : Int) (x14 : Int64) (g15 g17 g18 g19 g20 g21 g22 g23 g24 g25 g26 g27 g28 g29 g30 g31 g32 g33 g34 g35 g36 g37 g38 g39 g40 g41 g42 g43 : Nat → Int32) (t : zW), w = zMi c0 c1 c2 c3 c4 c5 c6 c7 c8 c9 c10 c11 c12 c13 f0 f9 f10 f11 f12 f13 f15 f16 f17 f20 f21 f22 f23 f26 f28 f31 f32 f33 f38 f41 f44 x14 g15 sz g17 g18 g19 g20 g21 g22 g23 g24 g25 g26 g27 g28 g29 g30 g31 g32 g33 g34 g35 g36 g37 g38 g39 g40 g41 g42 g43 kp t ∧ zB 0 600 sz ∧ zB 0 2 g19 ∧ bkOK g20 ∧ yrOK g21 ∧ siOK g22 ∧ zB 0 3 g25 ∧ zB 0 3 g26 ∧ zB 0 5460 g28 ∧ zB 0 5460 g30 ∧ zB 0 5460 g33 ∧ zB 0 5460 g38
def SAME (w w' : zW) : Prop := w'.length = w.length ∧ ∀ q, (q < 14 ∨ 44 < q) → zix w' q = zix w q
theorem same_M {c0 c1 c2 c3 c4 c5 c6 c7 c8 c9 c10 c11 c12 c13 : va_E} {f0 f9 f10 f11 f12 f13 f15 f16 f17 f20 f21 f22 f23 f26 f28 f31 f32 f33 f38 f41 f44 f0' f9' f10' f11' f12' f13' f15' f16' f17' f20' f21' f22' f23' f26' f28' f31' f32' f33' f38' f41' f44' : Int} {x14 x14' : Int64} {g15 g16 g17 g18 g19 g20 g21 g22 g23 g24 g25 g26 g27 g28 g29 g30 g31 g32 g33 g34 g35 g36 g37 g38 g39 g40 g41 g42 g43 g44 g15' g16' g17' g18' g19' g20' g21' g22' g23' g24' g25' g26' g27' g28' g29' g30' g31' g32' g33' g34' g35' g36' g37' g38' g39' g40' g41' g42' g43' g44' : Nat → Int32} {t : zW} : SAME (zMi c0 c1 c2 c3 c4 c5 c6 c7 c8 c9 c10 c11 c12 c13 f0 f9 f10 f11 f12 f13 f15 f16 f17 f20 f21 f22 f23 f26 f28 f31 f32 f33 f38 f41 f44 x14 g15 g16 g17 g18 g19 g20 g21 g22 g23 g24 g25 g26 g27 g28 g29 g30 g31 g32 g33 g34 g35 g36 g37 g38 g39 g40 g41 g42 g43 g44 t) (zMi c0 c1 c2 c3 c4 c5 c6 c7 c8 c9 c10 c11 c12 c13 f0' f9' f10' f11' f12' f13' f15' f16' f17' f20' f21' f22' f23' f26' f28' f31' f32' f33' f38' f41' f44' x14' g15' g16' g17' g18' g19' g20' g21' g22' g23' g24' g25' g26' g27' g28' g29' g30' g31' g32' g33' g34' g35' g36' g37' g38' g39' g40' g41' g42' g43' g44' t) := ⟨rfl, fun q h => by
  match q, h with
  | 0, _ => rfl
  | 1, _ => rfl
  | 2, _ => rfl
  | 3, _ => rfl
  | 4, _ => rfl
  | 5, _ => rfl
  | 6, _ => rfl
  | 7, _ => rfl
  | 8, _ => rfl
  | 9, _ => rfl
  | 10, _ => rfl
  | 11, _ => rfl
  | 12, _ => rfl
  | 13, _ => rfl
  | 14, h => exact absurd h (by decide)
  | 15, h => exact absurd h (by decide)
  | 16, h => exact absurd h (by decide)
  | 17, h => exact absurd h (by decide)
  | 18, h => exact absurd h (by decide)
  | 19, h => exact absurd h (by decide)
  | 20, h => exact absurd h (by decide)
  | 21, h => exact absurd h (by decide)
  | 22, h => exact absurd h (by decide)
  | 23, h => exact absurd h (by decide)
  | 24, h => exact absurd h (by decide)
  | 25, h => exact absurd h (by decide)
  | 26, h => exact absurd h (by decide)
  | 27, h => exact absurd h (by decide)
  | 28, h => exact absurd h (by decide)
  | 29, h => exact absurd h (by decide)
  | 30, h => exact absurd h (by decide)
  | 31, h => exact absurd h (by decide)
  | 32, h => exact absurd h (by decide)
  | 33, h => exact absurd h (by decide)
  | 34, h => exact absurd h (by decide)
  | 35, h => exact absurd h (by decide)
  | 36, h => exact absurd h (by decide)
  | 37, h => exact absurd h (by decide)
  | 38, h => exact absurd h (by decide)
  | 39, h => exact absurd h (by decide)
  | 40, h => exact absurd h (by decide)
  | 41, h => exact absurd h (by decide)
  | 42, h => exact absurd h (by decide)
  | 43, h => exact absurd h (by decide)
  | 44, h => exact absurd h (by decide)
  | n + 45, _ => rfl⟩
theorem hd1 {w : zW} {n : Nat} (h : n + 1 ≤ w.length) : ∃ c t, w = c :: t ∧ n ≤ t.length := by
  cases w with
  | nil => exact absurd h (by simp)
  | cons c t => exact ⟨c, t, rfl, by rw [List.length_cons] at h; omega⟩
theorem l45 {w : zW} (h0 : 45 ≤ w.length) : ∃ (d0 d1 d2 d3 d4 d5 d6 d7 d8 d9 d10 d11 d12 d13 d14 d15 d16 d17 d18 d19 d20 d21 d22 d23 d24 d25 d26 d27 d28 d29 d30 d31 d32 d33 d34 d35 d36 d37 d38 d39 d40 d41 d42 d43 d44 : va_E) (t : zW), w = d0 :: d1 :: d2 :: d3 :: d4 :: d5 :: d6 :: d7 :: d8 :: d9 :: d10 :: d11 :: d12 :: d13 :: d14 :: d15 :: d16 :: d17 :: d18 :: d19 :: d20 :: d21 :: d22 :: d23 :: d24 :: d25 :: d26 :: d27 :: d28 :: d29 :: d30 :: d31 :: d32 :: d33 :: d34 :: d35 :: d36 :: d37 :: d38 :: d39 :: d40 :: d41 :: d42 :: d43 :: d44 :: t := by
  obtain ⟨d0, w0, rfl, h1⟩ := hd1 (n := 44) h0
  obtain ⟨d1, w1, rfl, h2⟩ := hd1 (n := 43) h1
  obtain ⟨d2, w2, rfl, h3⟩ := hd1 (n := 42) h2
  obtain ⟨d3, w3, rfl, h4⟩ := hd1 (n := 41) h3
  obtain ⟨d4, w4, rfl, h5⟩ := hd1 (n := 40) h4
  obtain ⟨d5, w5, rfl, h6⟩ := hd1 (n := 39) h5
  obtain ⟨d6, w6, rfl, h7⟩ := hd1 (n := 38) h6
  obtain ⟨d7, w7, rfl, h8⟩ := hd1 (n := 37) h7
  obtain ⟨d8, w8, rfl, h9⟩ := hd1 (n := 36) h8
  obtain ⟨d9, w9, rfl, h10⟩ := hd1 (n := 35) h9
  obtain ⟨d10, w10, rfl, h11⟩ := hd1 (n := 34) h10
  obtain ⟨d11, w11, rfl, h12⟩ := hd1 (n := 33) h11
  obtain ⟨d12, w12, rfl, h13⟩ := hd1 (n := 32) h12
  obtain ⟨d13, w13, rfl, h14⟩ := hd1 (n := 31) h13
  obtain ⟨d14, w14, rfl, h15⟩ := hd1 (n := 30) h14
  obtain ⟨d15, w15, rfl, h16⟩ := hd1 (n := 29) h15
  obtain ⟨d16, w16, rfl, h17⟩ := hd1 (n := 28) h16
  obtain ⟨d17, w17, rfl, h18⟩ := hd1 (n := 27) h17
  obtain ⟨d18, w18, rfl, h19⟩ := hd1 (n := 26) h18
  obtain ⟨d19, w19, rfl, h20⟩ := hd1 (n := 25) h19
  obtain ⟨d20, w20, rfl, h21⟩ := hd1 (n := 24) h20
  obtain ⟨d21, w21, rfl, h22⟩ := hd1 (n := 23) h21
  obtain ⟨d22, w22, rfl, h23⟩ := hd1 (n := 22) h22
  obtain ⟨d23, w23, rfl, h24⟩ := hd1 (n := 21) h23
  obtain ⟨d24, w24, rfl, h25⟩ := hd1 (n := 20) h24
  obtain ⟨d25, w25, rfl, h26⟩ := hd1 (n := 19) h25
  obtain ⟨d26, w26, rfl, h27⟩ := hd1 (n := 18) h26
  obtain ⟨d27, w27, rfl, h28⟩ := hd1 (n := 17) h27
  obtain ⟨d28, w28, rfl, h29⟩ := hd1 (n := 16) h28
  obtain ⟨d29, w29, rfl, h30⟩ := hd1 (n := 15) h29
  obtain ⟨d30, w30, rfl, h31⟩ := hd1 (n := 14) h30
  obtain ⟨d31, w31, rfl, h32⟩ := hd1 (n := 13) h31
  obtain ⟨d32, w32, rfl, h33⟩ := hd1 (n := 12) h32
  obtain ⟨d33, w33, rfl, h34⟩ := hd1 (n := 11) h33
  obtain ⟨d34, w34, rfl, h35⟩ := hd1 (n := 10) h34
  obtain ⟨d35, w35, rfl, h36⟩ := hd1 (n := 9) h35
  obtain ⟨d36, w36, rfl, h37⟩ := hd1 (n := 8) h36
  obtain ⟨d37, w37, rfl, h38⟩ := hd1 (n := 7) h37
  obtain ⟨d38, w38, rfl, h39⟩ := hd1 (n := 6) h38
  obtain ⟨d39, w39, rfl, h40⟩ := hd1 (n := 5) h39
  obtain ⟨d40, w40, rfl, h41⟩ := hd1 (n := 4) h40
  obtain ⟨d41, w41, rfl, h42⟩ := hd1 (n := 3) h41
  obtain ⟨d42, w42, rfl, h43⟩ := hd1 (n := 2) h42
  obtain ⟨d43, w43, rfl, h44⟩ := hd1 (n := 1) h43
  obtain ⟨d44, w44, rfl, h45⟩ := hd1 (n := 0) h44
  exact ⟨d0, d1, d2, d3, d4, d5, d6, d7, d8, d9, d10, d11, d12, d13, d14, d15, d16, d17, d18, d19, d20, d21, d22, d23, d24, d25, d26, d27, d28, d29, d30, d31, d32, d33, d34, d35, d36, d37, d38, d39, d40, d41, d42, d43, d44, w44, rfl⟩
theorem mi_keep {w w' : zW} {sz kp : Nat → Int32} (h : MI w sz kp) (hk : KEEP w w') (h45 : 45 ≤ w'.length) : MI w' sz kp := by
  obtain ⟨c0, c1, c2, c3, c4, c5, c6, c7, c8, c9, c10, c11, c12, c13, f0, f9, f10, f11, f12, f13, f15, f16, f17, f20, f21, f22, f23, f26, f28, f31, f32, f33, f38, f41, f44, x14, g15, g17, g18, g19, g20, g21, g22, g23, g24, g25, g26, g27, g28, g29, g30, g31, g32, g33, g34, g35, g36, g37, g38, g39, g40, g41, g42, g43, t, rfl, hb⟩ := h
  obtain ⟨d0, d1, d2, d3, d4, d5, d6, d7, d8, d9, d10, d11, d12, d13, d14, d15, d16, d17, d18, d19, d20, d21, d22, d23, d24, d25, d26, d27, d28, d29, d30, d31, d32, d33, d34, d35, d36, d37, d38, d39, d40, d41, d42, d43, d44, t', rfl⟩ := l45 h45
  have e14 : d14 = _ := Option.some.inj (hk 14 (by decide) (by decide))
  have e15 : d15 = _ := Option.some.inj (hk 15 (by decide) (by decide))
  have e16 : d16 = _ := Option.some.inj (hk 16 (by decide) (by decide))
  have e17 : d17 = _ := Option.some.inj (hk 17 (by decide) (by decide))
  have e18 : d18 = _ := Option.some.inj (hk 18 (by decide) (by decide))
  have e19 : d19 = _ := Option.some.inj (hk 19 (by decide) (by decide))
  have e20 : d20 = _ := Option.some.inj (hk 20 (by decide) (by decide))
  have e21 : d21 = _ := Option.some.inj (hk 21 (by decide) (by decide))
  have e22 : d22 = _ := Option.some.inj (hk 22 (by decide) (by decide))
  have e23 : d23 = _ := Option.some.inj (hk 23 (by decide) (by decide))
  have e24 : d24 = _ := Option.some.inj (hk 24 (by decide) (by decide))
  have e25 : d25 = _ := Option.some.inj (hk 25 (by decide) (by decide))
  have e26 : d26 = _ := Option.some.inj (hk 26 (by decide) (by decide))
  have e27 : d27 = _ := Option.some.inj (hk 27 (by decide) (by decide))
  have e28 : d28 = _ := Option.some.inj (hk 28 (by decide) (by decide))
  have e29 : d29 = _ := Option.some.inj (hk 29 (by decide) (by decide))
  have e30 : d30 = _ := Option.some.inj (hk 30 (by decide) (by decide))
  have e31 : d31 = _ := Option.some.inj (hk 31 (by decide) (by decide))
  have e32 : d32 = _ := Option.some.inj (hk 32 (by decide) (by decide))
  have e33 : d33 = _ := Option.some.inj (hk 33 (by decide) (by decide))
  have e34 : d34 = _ := Option.some.inj (hk 34 (by decide) (by decide))
  have e35 : d35 = _ := Option.some.inj (hk 35 (by decide) (by decide))
  have e36 : d36 = _ := Option.some.inj (hk 36 (by decide) (by decide))
  have e37 : d37 = _ := Option.some.inj (hk 37 (by decide) (by decide))
  have e38 : d38 = _ := Option.some.inj (hk 38 (by decide) (by decide))
  have e39 : d39 = _ := Option.some.inj (hk 39 (by decide) (by decide))
  have e40 : d40 = _ := Option.some.inj (hk 40 (by decide) (by decide))
  have e41 : d41 = _ := Option.some.inj (hk 41 (by decide) (by decide))
  have e42 : d42 = _ := Option.some.inj (hk 42 (by decide) (by decide))
  have e43 : d43 = _ := Option.some.inj (hk 43 (by decide) (by decide))
  have e44 : d44 = _ := Option.some.inj (hk 44 (by decide) (by decide))
  rw [e14, e15, e16, e17, e18, e19, e20, e21, e22, e23, e24, e25, e26, e27, e28, e29, e30, e31, e32, e33, e34, e35, e36, e37, e38, e39, e40, e41, e42, e43, e44]
  exact ⟨d0, d1, d2, d3, d4, d5, d6, d7, d8, d9, d10, d11, d12, d13, f0, f9, f10, f11, f12, f13, f15, f16, f17, f20, f21, f22, f23, f26, f28, f31, f32, f33, f38, f41, f44, x14, g15, g17, g18, g19, g20, g21, g22, g23, g24, g25, g26, g27, g28, g29, g30, g31, g32, g33, g34, g35, g36, g37, g38, g39, g40, g41, g42, g43, t', rfl, hb⟩
theorem zBcp {lo hi : Int} {g : Nat → Int32} {n fr to c : Nat} (h : zB lo hi g) : zB lo hi (cpR g n fr to c) := by
  intro j
  unfold cpR
  split
  · exact h _
  · exact h _
theorem cp_or {v : Int} {k g k' : Nat → Int32} {P : (Nat → Int32) → Prop} (h : (v = 0 ∧ k = g) ∨ (v = 1 ∧ k = k')) (h0 : P g) (h1 : v = 1 → P k') : P k := by
  rcases h with ⟨_, e⟩ | ⟨hv, e⟩
  · rw [e]; exact h0
  · rw [e]; exact h1 hv
theorem zB_0 {lo hi : Int} {g k : Nat → Int32} (h : zB lo hi g) (h0 : lo ≤ (k 0).toInt ∧ (k 0).toInt ≤ hi) (hk : ∀ j, j ≠ 0 → k j = g j) : zB lo hi k := by
  intro j
  by_cases e : j = 0
  · rw [e]; exact h0
  · rw [hk j e]; exact h j
theorem mi_elim {w : zW} {sz kp : Nat → Int32} {P : Prop} (h : MI w sz kp) (k : ∀ (c0 c1 c2 c3 c4 c5 c6 c7 c8 c9 c10 c11 c12 c13 : va_E) (f0 f9 f10 f11 f12 f13 f15 f16 f17 f20 f21 f22 f23 f26 f28 f31 f32 f33 f38 f41 f44 : Int) (x14 : Int64) (g15 g17 g18 g19 g20 g21 g22 g23 g24 g25 g26 g27 g28 g29 g30 g31 g32 g33 g34 g35 g36 g37 g38 g39 g40 g41 g42 g43 : Nat → Int32) (t : zW), w = zMi c0 c1 c2 c3 c4 c5 c6 c7 c8 c9 c10 c11 c12 c13 f0 f9 f10 f11 f12 f13 f15 f16 f17 f20 f21 f22 f23 f26 f28 f31 f32 f33 f38 f41 f44 x14 g15 sz g17 g18 g19 g20 g21 g22 g23 g24 g25 g26 g27 g28 g29 g30 g31 g32 g33 g34 g35 g36 g37 g38 g39 g40 g41 g42 g43 kp t → (zB 0 600 sz) → (zB 0 2 g19) → (bkOK g20) → (yrOK g21) → (siOK g22) → (zB 0 3 g25) → (zB 0 3 g26) → (zB 0 5460 g28) → (zB 0 5460 g30) → (zB 0 5460 g33) → (zB 0 5460 g38) → P) : P := by
  obtain ⟨c0, c1, c2, c3, c4, c5, c6, c7, c8, c9, c10, c11, c12, c13, f0, f9, f10, f11, f12, f13, f15, f16, f17, f20, f21, f22, f23, f26, f28, f31, f32, f33, f38, f41, f44, x14, g15, g17, g18, g19, g20, g21, g22, g23, g24, g25, g26, g27, g28, g29, g30, g31, g32, g33, g34, g35, g36, g37, g38, g39, g40, g41, g42, g43, t, e, b16, b19, b20, b21, b22, b25, b26, b28, b30, b33, b38⟩ := h
  exact k c0 c1 c2 c3 c4 c5 c6 c7 c8 c9 c10 c11 c12 c13 f0 f9 f10 f11 f12 f13 f15 f16 f17 f20 f21 f22 f23 f26 f28 f31 f32 f33 f38 f41 f44 x14 g15 g17 g18 g19 g20 g21 g22 g23 g24 g25 g26 g27 g28 g29 g30 g31 g32 g33 g34 g35 g36 g37 g38 g39 g40 g41 g42 g43 t e b16 b19 b20 b21 b22 b25 b26 b28 b30 b33 b38
theorem q_feed {w : zW} {sz kp : Nat → Int32} (h : MI w sz kp) (d : Nat) (a1 a2 a3 a4 a5 : Int) (ha1 : -2147483648 ≤ a1 ∧ a1 ≤ 2147483647) (ha2 : -2147483648 ≤ a2 ∧ a2 ≤ 2147483647) (ha3 : -2147483648 ≤ a3 ∧ a3 ≤ 2147483647) (ha4 : -2147483648 ≤ a4 ∧ a4 ≤ 2147483647) (ha5 : -2147483648 ≤ a5 ∧ a5 ≤ 2147483647) : DET zTab (d + 2) iX12_feed [.ref 14, .int (Int32.ofInt a1), .int (Int32.ofInt a2), .int (Int32.ofInt a3), .int (Int32.ofInt a4), .int (Int32.ofInt a5)] w (fun mc ms r w' => (mc = 0 ∧ ms = 0) ∧ SAME w w' ∧ ∃ (v : Int) (k16 k44 : Nat → Int32), MI w' k16 k44 ∧ r = some (.int (Int32.ofInt v)) ∧ (((v = -1 ∧ 580 < (sz 0).toInt ∧ (k16 0).toInt = (sz 0).toInt) ∨ (v = (sz 0).toInt + 20 ∧ (sz 0).toInt ≤ 580 ∧ (k16 0).toInt = v))) ∧ ((∀ j, j ≠ 0 → k16 j = sz j)) ∧ k44 = kp) := by
  refine mi_elim h fun c0 c1 c2 c3 c4 c5 c6 c7 c8 c9 c10 c11 c12 c13 f0 f9 f10 f11 f12 f13 f15 f16 f17 f20 f21 f22 f23 f26 f28 f31 f32 f33 f38 f41 f44 x14 g15 g17 g18 g19 g20 g21 g22 g23 g24 g25 g26 g27 g28 g29 g30 g31 g32 g33 g34 g35 g36 g37 g38 g39 g40 g41 g42 g43 t e b16 b19 b20 b21 b22 b25 b26 b28 b30 b33 b38 => ?_
  subst e
  have z0 := b16 0
  exact det_of (mc := 0) (ms := 0) (m_feed d a1 a2 a3 a4 a5 (b16 0) _ fun v y0 k15 k16 p0 p1 => ⟨⟨rfl, rfl⟩, same_M, v, k16, _, ⟨_, _, _, _, _, _, _, _, _, _, _, _, _, _, _, _, _, _, _, _, _, _, _, _, _, _, _, _, _, _, _, _, _, _, _, _, _, _, _, _, _, _, _, _, _, _, _, _, _, _, _, _, _, _, _, _, _, _, _, _, _, _, _, _, _, rfl, (zB_0 b16 (by omega) p1), b19, b20, b21, b22, b25, b26, b28, b30, b33, b38⟩, rfl, p0, p1, rfl⟩)
theorem q_end {w : zW} {sz kp : Nat → Int32} (h : MI w sz kp) (d : Nat) (a1 : Int) (ha1 : -2147483648 ≤ a1 ∧ a1 ≤ 2147483647) : DET zTab (d + 2) iX12_end [.ref 14, .int (Int32.ofInt a1)] w (fun mc ms r w' => (mc = 0 ∧ ms = 0) ∧ SAME w w' ∧ ∃ (v : Int) (k16 k44 : Nat → Int32), MI w' k16 k44 ∧ r = some (.int (Int32.ofInt v)) ∧ (((v = -1 ∧ (a1 < 0 ∨ (sz 0).toInt < a1) ∧ (k16 0).toInt = (sz 0).toInt) ∨ (v = a1 ∧ 0 ≤ a1 ∧ a1 ≤ (sz 0).toInt ∧ (k16 0).toInt = a1))) ∧ ((∀ j, j ≠ 0 → k16 j = sz j)) ∧ k44 = kp) := by
  refine mi_elim h fun c0 c1 c2 c3 c4 c5 c6 c7 c8 c9 c10 c11 c12 c13 f0 f9 f10 f11 f12 f13 f15 f16 f17 f20 f21 f22 f23 f26 f28 f31 f32 f33 f38 f41 f44 x14 g15 g17 g18 g19 g20 g21 g22 g23 g24 g25 g26 g27 g28 g29 g30 g31 g32 g33 g34 g35 g36 g37 g38 g39 g40 g41 g42 g43 t e b16 b19 b20 b21 b22 b25 b26 b28 b30 b33 b38 => ?_
  subst e
  have z0 := b16 0
  exact det_of (mc := 0) (ms := 0) (m_end d a1 (b16 0) (by omega) _ fun v y0 k16 p0 p1 => ⟨⟨rfl, rfl⟩, same_M, v, k16, _, ⟨_, _, _, _, _, _, _, _, _, _, _, _, _, _, _, _, _, _, _, _, _, _, _, _, _, _, _, _, _, _, _, _, _, _, _, _, _, _, _, _, _, _, _, _, _, _, _, _, _, _, _, _, _, _, _, _, _, _, _, _, _, _, _, _, _, rfl, (zB_0 b16 (by omega) p1), b19, b20, b21, b22, b25, b26, b28, b30, b33, b38⟩, rfl, p0, p1, rfl⟩)
theorem q_text {w : zW} {sz kp : Nat → Int32} (h : MI w sz kp) (d : Nat) (a1 a2 : Int) (ha1 : -2147483648 ≤ a1 ∧ a1 ≤ 2147483647) (ha2 : -2147483648 ≤ a2 ∧ a2 ≤ 2147483647) : DET zTab (d + 10) iX12_text [.ref 14, .int (Int32.ofInt a1), .int (Int32.ofInt a2)] w (fun mc ms r w' => (mc = 0 ∧ ms = 0) ∧ SAME w w' ∧ ∃ (v : Int) (k16 k44 : Nat → Int32), MI w' k16 k44 ∧ r = some (.int (Int32.ofInt v)) ∧ (((k16 0).toInt = 0)) ∧ ((∀ j, j ≠ 0 → k16 j = sz j)) ∧ k44 = kp) := by
  refine mi_elim h fun c0 c1 c2 c3 c4 c5 c6 c7 c8 c9 c10 c11 c12 c13 f0 f9 f10 f11 f12 f13 f15 f16 f17 f20 f21 f22 f23 f26 f28 f31 f32 f33 f38 f41 f44 x14 g15 g17 g18 g19 g20 g21 g22 g23 g24 g25 g26 g27 g28 g29 g30 g31 g32 g33 g34 g35 g36 g37 g38 g39 g40 g41 g42 g43 t e b16 b19 b20 b21 b22 b25 b26 b28 b30 b33 b38 => ?_
  subst e
  have z0 := b16 0
  exact det_of (mc := 0) (ms := 0) (m_text d a1 a2 b19 b16 b20 b21 b22 (by omega) (by omega) _ fun v y0 y9 y10 y11 y12 y13 y14 y15 y16 y17 y21 k16 k17 k18 k19 k20 k21 k22 k23 k24 p0 p1 p2 p3 p4 p5 => ⟨⟨rfl, rfl⟩, same_M, v, k16, _, ⟨_, _, _, _, _, _, _, _, _, _, _, _, _, _, _, _, _, _, _, _, _, _, _, _, _, _, _, _, _, _, _, _, _, _, _, _, _, _, _, _, _, _, _, _, _, _, _, _, _, _, _, _, _, _, _, _, _, _, _, _, _, _, _, _, _, rfl, (zB_0 b16 (by omega) p2), p0, p3, p4, p5, b25, b26, b28, b30, b33, b38⟩, rfl, p1, p2, rfl⟩)
theorem q_fault {w : zW} {sz kp : Nat → Int32} (h : MI w sz kp) (d : Nat) (a1 : Int) (ha1 : -2147483648 ≤ a1 ∧ a1 ≤ 2147483647) : DET zTab (d + 1) iX12_fault [.ref 14, .int (Int32.ofInt a1)] w (fun mc ms r w' => (mc = 0 ∧ ms = 0) ∧ SAME w w' ∧ MI w' sz kp ∧ ∃ v, r = some (.int v)) := by
  refine mi_elim h fun c0 c1 c2 c3 c4 c5 c6 c7 c8 c9 c10 c11 c12 c13 f0 f9 f10 f11 f12 f13 f15 f16 f17 f20 f21 f22 f23 f26 f28 f31 f32 f33 f38 f41 f44 x14 g15 g17 g18 g19 g20 g21 g22 g23 g24 g25 g26 g27 g28 g29 g30 g31 g32 g33 g34 g35 g36 g37 g38 g39 g40 g41 g42 g43 t e b16 b19 b20 b21 b22 b25 b26 b28 b30 b33 b38 => ?_
  subst e
  have z0 := b16 0
  exact det_of (mc := 0) (ms := 0) (m_fault d a1 (by omega) _ fun v y0 => ⟨⟨rfl, rfl⟩, same_M, ⟨_, _, _, _, _, _, _, _, _, _, _, _, _, _, _, _, _, _, _, _, _, _, _, _, _, _, _, _, _, _, _, _, _, _, _, _, _, _, _, _, _, _, _, _, _, _, _, _, _, _, _, _, _, _, _, _, _, _, _, _, _, _, _, _, _, rfl, b16, b19, b20, b21, b22, b25, b26, b28, b30, b33, b38⟩, _, rfl⟩)
theorem q_book {w : zW} {sz kp : Nat → Int32} (h : MI w sz kp) (d : Nat) (a1 a2 : Int) (ha1 : -2147483648 ≤ a1 ∧ a1 ≤ 2147483647) (ha2 : -2147483648 ≤ a2 ∧ a2 ≤ 2147483647) : DET zTab (d + 4) iX12_book [.ref 14, .int (Int32.ofInt a1), .int (Int32.ofInt a2)] w (fun mc ms r w' => (mc = 0 ∧ ms = 0) ∧ SAME w w' ∧ MI w' sz kp ∧ ∃ v, r = some (.int v)) := by
  refine mi_elim h fun c0 c1 c2 c3 c4 c5 c6 c7 c8 c9 c10 c11 c12 c13 f0 f9 f10 f11 f12 f13 f15 f16 f17 f20 f21 f22 f23 f26 f28 f31 f32 f33 f38 f41 f44 x14 g15 g17 g18 g19 g20 g21 g22 g23 g24 g25 g26 g27 g28 g29 g30 g31 g32 g33 g34 g35 g36 g37 g38 g39 g40 g41 g42 g43 t e b16 b19 b20 b21 b22 b25 b26 b28 b30 b33 b38 => ?_
  subst e
  have z0 := b16 0
  exact det_of (mc := 0) (ms := 0) (m_book d a1 a2 b19 b20 (by omega) (by omega) _ fun v y0 y20 y22 y23 => ⟨⟨rfl, rfl⟩, same_M, ⟨_, _, _, _, _, _, _, _, _, _, _, _, _, _, _, _, _, _, _, _, _, _, _, _, _, _, _, _, _, _, _, _, _, _, _, _, _, _, _, _, _, _, _, _, _, _, _, _, _, _, _, _, _, _, _, _, _, _, _, _, _, _, _, _, _, rfl, b16, b19, b20, b21, b22, b25, b26, b28, b30, b33, b38⟩, _, rfl⟩)
theorem q_word {w : zW} {sz kp : Nat → Int32} (h : MI w sz kp) (d : Nat) (a1 a2 : Int) (ha1 : -2147483648 ≤ a1 ∧ a1 ≤ 2147483647) (ha2 : -2147483648 ≤ a2 ∧ a2 ≤ 2147483647) : DET zTab (d + 4) iX12_word [.ref 14, .int (Int32.ofInt a1), .int (Int32.ofInt a2)] w (fun mc ms r w' => (mc = 0 ∧ ms = 0) ∧ SAME w w' ∧ MI w' sz kp ∧ ∃ v, r = some (.int v)) := by
  refine mi_elim h fun c0 c1 c2 c3 c4 c5 c6 c7 c8 c9 c10 c11 c12 c13 f0 f9 f10 f11 f12 f13 f15 f16 f17 f20 f21 f22 f23 f26 f28 f31 f32 f33 f38 f41 f44 x14 g15 g17 g18 g19 g20 g21 g22 g23 g24 g25 g26 g27 g28 g29 g30 g31 g32 g33 g34 g35 g36 g37 g38 g39 g40 g41 g42 g43 t e b16 b19 b20 b21 b22 b25 b26 b28 b30 b33 b38 => ?_
  subst e
  have z0 := b16 0
  exact det_of (mc := 0) (ms := 0) (m_word d a1 a2 b25 (by omega) (by omega) _ fun v y0 k25 p0 => ⟨⟨rfl, rfl⟩, same_M, ⟨_, _, _, _, _, _, _, _, _, _, _, _, _, _, _, _, _, _, _, _, _, _, _, _, _, _, _, _, _, _, _, _, _, _, _, _, _, _, _, _, _, _, _, _, _, _, _, _, _, _, _, _, _, _, _, _, _, _, _, _, _, _, _, _, _, rfl, b16, b19, b20, b21, b22, p0, b26, b28, b30, b33, b38⟩, _, rfl⟩)
theorem q_drift {w : zW} {sz kp : Nat → Int32} (h : MI w sz kp) (d : Nat) (a1 a2 : Int) (ha1 : -2147483648 ≤ a1 ∧ a1 ≤ 2147483647) (ha2 : -2147483648 ≤ a2 ∧ a2 ≤ 2147483647) : DET zTab (d + 5) iX12_drift [.ref 14, .int (Int32.ofInt a1), .int (Int32.ofInt a2)] w (fun mc ms r w' => (mc = 0 ∧ ms = 0) ∧ SAME w w' ∧ MI w' sz kp ∧ ∃ v, r = some (.int v)) := by
  refine mi_elim h fun c0 c1 c2 c3 c4 c5 c6 c7 c8 c9 c10 c11 c12 c13 f0 f9 f10 f11 f12 f13 f15 f16 f17 f20 f21 f22 f23 f26 f28 f31 f32 f33 f38 f41 f44 x14 g15 g17 g18 g19 g20 g21 g22 g23 g24 g25 g26 g27 g28 g29 g30 g31 g32 g33 g34 g35 g36 g37 g38 g39 g40 g41 g42 g43 t e b16 b19 b20 b21 b22 b25 b26 b28 b30 b33 b38 => ?_
  subst e
  have z0 := b16 0
  exact det_of (mc := 0) (ms := 0) (m_drift d a1 a2 b25 b26 (by omega) (by omega) _ fun v y0 k25 k26 k27 p0 p1 => ⟨⟨rfl, rfl⟩, same_M, ⟨_, _, _, _, _, _, _, _, _, _, _, _, _, _, _, _, _, _, _, _, _, _, _, _, _, _, _, _, _, _, _, _, _, _, _, _, _, _, _, _, _, _, _, _, _, _, _, _, _, _, _, _, _, _, _, _, _, _, _, _, _, _, _, _, _, rfl, b16, b19, b20, b21, b22, p0, p1, b28, b30, b33, b38⟩, _, rfl⟩)
theorem q_read {w : zW} {sz kp : Nat → Int32} (h : MI w sz kp) (d : Nat) (a1 a2 a3 : Int) (ha1 : -2147483648 ≤ a1 ∧ a1 ≤ 2147483647) (ha2 : -2147483648 ≤ a2 ∧ a2 ≤ 2147483647) (ha3 : -2147483648 ≤ a3 ∧ a3 ≤ 2147483647) : DET zTab (d + 5) iX12_read [.ref 14, .int (Int32.ofInt a1), .int (Int32.ofInt a2), .int (Int32.ofInt a3)] w (fun mc ms r w' => (mc = 0 ∧ ms = 0) ∧ SAME w w' ∧ MI w' sz kp ∧ ∃ v, r = some (.int v)) := by
  refine mi_elim h fun c0 c1 c2 c3 c4 c5 c6 c7 c8 c9 c10 c11 c12 c13 f0 f9 f10 f11 f12 f13 f15 f16 f17 f20 f21 f22 f23 f26 f28 f31 f32 f33 f38 f41 f44 x14 g15 g17 g18 g19 g20 g21 g22 g23 g24 g25 g26 g27 g28 g29 g30 g31 g32 g33 g34 g35 g36 g37 g38 g39 g40 g41 g42 g43 t e b16 b19 b20 b21 b22 b25 b26 b28 b30 b33 b38 => ?_
  subst e
  have z0 := b16 0
  exact det_of (mc := 0) (ms := 0) (m_read d a1 a2 a3 b19 b25 b20 (by omega) (by omega) (by omega) _ fun v y0 y20 y22 y23 y26 k25 p0 => ⟨⟨rfl, rfl⟩, same_M, ⟨_, _, _, _, _, _, _, _, _, _, _, _, _, _, _, _, _, _, _, _, _, _, _, _, _, _, _, _, _, _, _, _, _, _, _, _, _, _, _, _, _, _, _, _, _, _, _, _, _, _, _, _, _, _, _, _, _, _, _, _, _, _, _, _, _, rfl, b16, b19, b20, b21, b22, p0, b26, b28, b30, b33, b38⟩, _, rfl⟩)
theorem q_deed {w : zW} {sz kp : Nat → Int32} (h : MI w sz kp) (d : Nat) (a1 a2 a3 : Int) (ha1 : -2147483648 ≤ a1 ∧ a1 ≤ 2147483647) (ha2 : -2147483648 ≤ a2 ∧ a2 ≤ 2147483647) (ha3 : -2147483648 ≤ a3 ∧ a3 ≤ 2147483647) : DET zTab (d + 4) iX12_deed [.ref 14, .int (Int32.ofInt a1), .int (Int32.ofInt a2), .int (Int32.ofInt a3)] w (fun mc ms r w' => (mc = 0 ∧ ms = 0) ∧ SAME w w' ∧ MI w' sz kp ∧ ∃ v, r = some (.int v)) := by
  refine mi_elim h fun c0 c1 c2 c3 c4 c5 c6 c7 c8 c9 c10 c11 c12 c13 f0 f9 f10 f11 f12 f13 f15 f16 f17 f20 f21 f22 f23 f26 f28 f31 f32 f33 f38 f41 f44 x14 g15 g17 g18 g19 g20 g21 g22 g23 g24 g25 g26 g27 g28 g29 g30 g31 g32 g33 g34 g35 g36 g37 g38 g39 g40 g41 g42 g43 t e b16 b19 b20 b21 b22 b25 b26 b28 b30 b33 b38 => ?_
  subst e
  have z0 := b16 0
  exact det_of (mc := 0) (ms := 0) (m_deed d a1 a2 a3 b19 b21 (by omega) (by omega) (by omega) _ fun v y0 y28 => ⟨⟨rfl, rfl⟩, same_M, ⟨_, _, _, _, _, _, _, _, _, _, _, _, _, _, _, _, _, _, _, _, _, _, _, _, _, _, _, _, _, _, _, _, _, _, _, _, _, _, _, _, _, _, _, _, _, _, _, _, _, _, _, _, _, _, _, _, _, _, _, _, _, _, _, _, _, rfl, b16, b19, b20, b21, b22, b25, b26, b28, b30, b33, b38⟩, _, rfl⟩)
theorem q_stop {w : zW} {sz kp : Nat → Int32} (h : MI w sz kp) (d : Nat) (a1 a2 : Int) (ha1 : -2147483648 ≤ a1 ∧ a1 ≤ 2147483647) (ha2 : -2147483648 ≤ a2 ∧ a2 ≤ 2147483647) : DET zTab (d + 8) iX12_stop [.ref 14, .int (Int32.ofInt a1), .int (Int32.ofInt a2)] w (fun mc ms r w' => (mc = 0 ∧ ms = 0) ∧ SAME w w' ∧ MI w' sz kp ∧ ∃ v, r = some (.int v)) := by
  refine mi_elim h fun c0 c1 c2 c3 c4 c5 c6 c7 c8 c9 c10 c11 c12 c13 f0 f9 f10 f11 f12 f13 f15 f16 f17 f20 f21 f22 f23 f26 f28 f31 f32 f33 f38 f41 f44 x14 g15 g17 g18 g19 g20 g21 g22 g23 g24 g25 g26 g27 g28 g29 g30 g31 g32 g33 g34 g35 g36 g37 g38 g39 g40 g41 g42 g43 t e b16 b19 b20 b21 b22 b25 b26 b28 b30 b33 b38 => ?_
  subst e
  have z0 := b16 0
  exact det_of (mc := 0) (ms := 0) (m_stop d a1 a2 b19 b25 b28 b20 b21 (by omega) (by omega) _ fun v y0 y20 y22 y23 y26 y28 y31 y32 y33 k25 k28 k29 p0 p1 => ⟨⟨rfl, rfl⟩, same_M, ⟨_, _, _, _, _, _, _, _, _, _, _, _, _, _, _, _, _, _, _, _, _, _, _, _, _, _, _, _, _, _, _, _, _, _, _, _, _, _, _, _, _, _, _, _, _, _, _, _, _, _, _, _, _, _, _, _, _, _, _, _, _, _, _, _, _, rfl, b16, b19, b20, b21, b22, p0, b26, p1, b30, b33, b38⟩, _, rfl⟩)
theorem q_state {w : zW} {sz kp : Nat → Int32} (h : MI w sz kp) (d : Nat) (a1 a2 a3 a4 : Int) (ha1 : -2147483648 ≤ a1 ∧ a1 ≤ 2147483647) (ha2 : -2147483648 ≤ a2 ∧ a2 ≤ 2147483647) (ha3 : -2147483648 ≤ a3 ∧ a3 ≤ 2147483647) (ha4 : -2147483648 ≤ a4 ∧ a4 ≤ 2147483647) : DET zTab (d + 8) iX12_state [.ref 14, .int (Int32.ofInt a1), .int (Int32.ofInt a2), .int (Int32.ofInt a3), .int (Int32.ofInt a4)] w (fun mc ms r w' => (mc = 0 ∧ ms = 0) ∧ SAME w w' ∧ MI w' sz kp ∧ ∃ v, r = some (.int v)) := by
  refine mi_elim h fun c0 c1 c2 c3 c4 c5 c6 c7 c8 c9 c10 c11 c12 c13 f0 f9 f10 f11 f12 f13 f15 f16 f17 f20 f21 f22 f23 f26 f28 f31 f32 f33 f38 f41 f44 x14 g15 g17 g18 g19 g20 g21 g22 g23 g24 g25 g26 g27 g28 g29 g30 g31 g32 g33 g34 g35 g36 g37 g38 g39 g40 g41 g42 g43 t e b16 b19 b20 b21 b22 b25 b26 b28 b30 b33 b38 => ?_
  subst e
  have z0 := b16 0
  exact det_of (mc := 0) (ms := 0) (m_state d a1 a2 a3 a4 b19 b25 b26 b28 b20 b21 (by omega) (by omega) (by omega) (by omega) _ fun v y0 y20 y22 y23 y26 y28 y31 y32 y33 k25 k26 k27 k28 k29 p0 p1 p2 => ⟨⟨rfl, rfl⟩, same_M, ⟨_, _, _, _, _, _, _, _, _, _, _, _, _, _, _, _, _, _, _, _, _, _, _, _, _, _, _, _, _, _, _, _, _, _, _, _, _, _, _, _, _, _, _, _, _, _, _, _, _, _, _, _, _, _, _, _, _, _, _, _, _, _, _, _, _, rfl, b16, b19, b20, b21, b22, p0, p1, p2, b30, b33, b38⟩, _, rfl⟩)
theorem q_making {w : zW} {sz kp : Nat → Int32} (h : MI w sz kp) (d : Nat) (a1 a2 a3 a4 : Int) (ha1 : -2147483648 ≤ a1 ∧ a1 ≤ 2147483647) (ha2 : -2147483648 ≤ a2 ∧ a2 ≤ 2147483647) (ha3 : -2147483648 ≤ a3 ∧ a3 ≤ 2147483647) (ha4 : -2147483648 ≤ a4 ∧ a4 ≤ 2147483647) : DET zTab (d + 7) iX12_making [.ref 14, .int (Int32.ofInt a1), .int (Int32.ofInt a2), .int (Int32.ofInt a3), .int (Int32.ofInt a4)] w (fun mc ms r w' => (mc = 0 ∧ ms = 0) ∧ SAME w w' ∧ MI w' sz kp ∧ ∃ v, r = some (.int v)) := by
  refine mi_elim h fun c0 c1 c2 c3 c4 c5 c6 c7 c8 c9 c10 c11 c12 c13 f0 f9 f10 f11 f12 f13 f15 f16 f17 f20 f21 f22 f23 f26 f28 f31 f32 f33 f38 f41 f44 x14 g15 g17 g18 g19 g20 g21 g22 g23 g24 g25 g26 g27 g28 g29 g30 g31 g32 g33 g34 g35 g36 g37 g38 g39 g40 g41 g42 g43 t e b16 b19 b20 b21 b22 b25 b26 b28 b30 b33 b38 => ?_
  subst e
  have z0 := b16 0
  exact det_of (mc := 0) (ms := 0) (m_making d a1 a2 a3 a4 b19 b25 b30 b20 (by omega) (by omega) (by omega) (by omega) _ fun v y0 y20 y21 y22 y23 y26 k25 k30 k32 p0 p1 => ⟨⟨rfl, rfl⟩, same_M, ⟨_, _, _, _, _, _, _, _, _, _, _, _, _, _, _, _, _, _, _, _, _, _, _, _, _, _, _, _, _, _, _, _, _, _, _, _, _, _, _, _, _, _, _, _, _, _, _, _, _, _, _, _, _, _, _, _, _, _, _, _, _, _, _, _, _, rfl, b16, b19, b20, b21, b22, p0, b26, b28, p1, b33, b38⟩, _, rfl⟩)
theorem q_ring {w : zW} {sz kp : Nat → Int32} (h : MI w sz kp) (d : Nat) (a1 a2 : Int) (ha1 : -2147483648 ≤ a1 ∧ a1 ≤ 2147483647) (ha2 : -2147483648 ≤ a2 ∧ a2 ≤ 2147483647) : DET zTab (d + 7) iX12_ring [.ref 14, .int (Int32.ofInt a1), .int (Int32.ofInt a2)] w (fun mc ms r w' => (mc = 0 ∧ ms = 0) ∧ SAME w w' ∧ MI w' sz kp ∧ ∃ v, r = some (.int v)) := by
  refine mi_elim h fun c0 c1 c2 c3 c4 c5 c6 c7 c8 c9 c10 c11 c12 c13 f0 f9 f10 f11 f12 f13 f15 f16 f17 f20 f21 f22 f23 f26 f28 f31 f32 f33 f38 f41 f44 x14 g15 g17 g18 g19 g20 g21 g22 g23 g24 g25 g26 g27 g28 g29 g30 g31 g32 g33 g34 g35 g36 g37 g38 g39 g40 g41 g42 g43 t e b16 b19 b20 b21 b22 b25 b26 b28 b30 b33 b38 => ?_
  subst e
  have z0 := b16 0
  exact det_of (mc := 0) (ms := 0) (m_ring d a1 a2 b19 b25 b30 b33 b20 (by omega) (by omega) _ fun v y0 y20 y21 y22 y23 y26 y38 k25 k30 k31 k33 p0 p1 p2 => ⟨⟨rfl, rfl⟩, same_M, ⟨_, _, _, _, _, _, _, _, _, _, _, _, _, _, _, _, _, _, _, _, _, _, _, _, _, _, _, _, _, _, _, _, _, _, _, _, _, _, _, _, _, _, _, _, _, _, _, _, _, _, _, _, _, _, _, _, _, _, _, _, _, _, _, _, _, rfl, b16, b19, b20, b21, b22, p0, b26, b28, p1, p2, b38⟩, _, rfl⟩)
theorem q_reach {w : zW} {sz kp : Nat → Int32} (h : MI w sz kp) (d : Nat) (a1 a2 a3 : Int) (ha1 : -2147483648 ≤ a1 ∧ a1 ≤ 2147483647) (ha2 : -2147483648 ≤ a2 ∧ a2 ≤ 2147483647) (ha3 : -2147483648 ≤ a3 ∧ a3 ≤ 2147483647) : DET zTab (d + 7) iX12_reach [.ref 14, .int (Int32.ofInt a1), .int (Int32.ofInt a2), .int (Int32.ofInt a3)] w (fun mc ms r w' => (mc = 0 ∧ ms = 0) ∧ SAME w w' ∧ MI w' sz kp ∧ ∃ v, r = some (.int v)) := by
  refine mi_elim h fun c0 c1 c2 c3 c4 c5 c6 c7 c8 c9 c10 c11 c12 c13 f0 f9 f10 f11 f12 f13 f15 f16 f17 f20 f21 f22 f23 f26 f28 f31 f32 f33 f38 f41 f44 x14 g15 g17 g18 g19 g20 g21 g22 g23 g24 g25 g26 g27 g28 g29 g30 g31 g32 g33 g34 g35 g36 g37 g38 g39 g40 g41 g42 g43 t e b16 b19 b20 b21 b22 b25 b26 b28 b30 b33 b38 => ?_
  subst e
  have z0 := b16 0
  exact det_of (mc := 0) (ms := 0) (m_reach d a1 a2 a3 b19 b25 b30 b33 b20 (by omega) (by omega) (by omega) _ fun v y0 y20 y21 y22 y23 y26 y38 k25 k30 k31 k33 p0 p1 p2 => ⟨⟨rfl, rfl⟩, same_M, ⟨_, _, _, _, _, _, _, _, _, _, _, _, _, _, _, _, _, _, _, _, _, _, _, _, _, _, _, _, _, _, _, _, _, _, _, _, _, _, _, _, _, _, _, _, _, _, _, _, _, _, _, _, _, _, _, _, _, _, _, _, _, _, _, _, _, rfl, b16, b19, b20, b21, b22, p0, b26, b28, p1, p2, b38⟩, _, rfl⟩)
theorem q_sound {w : zW} {sz kp : Nat → Int32} (h : MI w sz kp) (d : Nat) (a1 a2 : Int) (ha1 : -2147483648 ≤ a1 ∧ a1 ≤ 2147483647) (ha2 : -2147483648 ≤ a2 ∧ a2 ≤ 2147483647) : DET zTab (d + 6) iX12_sound [.ref 14, .int (Int32.ofInt a1), .int (Int32.ofInt a2)] w (fun mc ms r w' => (mc = 0 ∧ ms = 0) ∧ SAME w w' ∧ MI w' sz kp ∧ ∃ v, r = some (.int v)) := by
  refine mi_elim h fun c0 c1 c2 c3 c4 c5 c6 c7 c8 c9 c10 c11 c12 c13 f0 f9 f10 f11 f12 f13 f15 f16 f17 f20 f21 f22 f23 f26 f28 f31 f32 f33 f38 f41 f44 x14 g15 g17 g18 g19 g20 g21 g22 g23 g24 g25 g26 g27 g28 g29 g30 g31 g32 g33 g34 g35 g36 g37 g38 g39 g40 g41 g42 g43 t e b16 b19 b20 b21 b22 b25 b26 b28 b30 b33 b38 => ?_
  subst e
  have z0 := b16 0
  exact det_of (mc := 0) (ms := 0) (m_sound d a1 a2 b19 b25 b30 b20 (by omega) (by omega) _ fun v y0 y20 y21 y22 y23 y26 k25 k30 p0 p1 => ⟨⟨rfl, rfl⟩, same_M, ⟨_, _, _, _, _, _, _, _, _, _, _, _, _, _, _, _, _, _, _, _, _, _, _, _, _, _, _, _, _, _, _, _, _, _, _, _, _, _, _, _, _, _, _, _, _, _, _, _, _, _, _, _, _, _, _, _, _, _, _, _, _, _, _, _, _, rfl, b16, b19, b20, b21, b22, p0, b26, b28, p1, b33, b38⟩, _, rfl⟩)
theorem q_like {w : zW} {sz kp : Nat → Int32} (h : MI w sz kp) (d : Nat) (a1 a2 a3 : Int) (ha1 : -2147483648 ≤ a1 ∧ a1 ≤ 2147483647) (ha2 : -2147483648 ≤ a2 ∧ a2 ≤ 2147483647) (ha3 : -2147483648 ≤ a3 ∧ a3 ≤ 2147483647) : DET zTab (d + 6) iX12_like [.ref 14, .int (Int32.ofInt a1), .int (Int32.ofInt a2), .int (Int32.ofInt a3)] w (fun mc ms r w' => (mc = 0 ∧ ms = 0) ∧ SAME w w' ∧ MI w' sz kp ∧ ∃ v, r = some (.int v)) := by
  refine mi_elim h fun c0 c1 c2 c3 c4 c5 c6 c7 c8 c9 c10 c11 c12 c13 f0 f9 f10 f11 f12 f13 f15 f16 f17 f20 f21 f22 f23 f26 f28 f31 f32 f33 f38 f41 f44 x14 g15 g17 g18 g19 g20 g21 g22 g23 g24 g25 g26 g27 g28 g29 g30 g31 g32 g33 g34 g35 g36 g37 g38 g39 g40 g41 g42 g43 t e b16 b19 b20 b21 b22 b25 b26 b28 b30 b33 b38 => ?_
  subst e
  have z0 := b16 0
  exact det_of (mc := 0) (ms := 0) (m_like d a1 a2 a3 b19 b25 b30 b20 (by omega) (by omega) (by omega) _ fun v y0 y20 y21 y22 y23 y26 k25 k30 p0 p1 => ⟨⟨rfl, rfl⟩, same_M, ⟨_, _, _, _, _, _, _, _, _, _, _, _, _, _, _, _, _, _, _, _, _, _, _, _, _, _, _, _, _, _, _, _, _, _, _, _, _, _, _, _, _, _, _, _, _, _, _, _, _, _, _, _, _, _, _, _, _, _, _, _, _, _, _, _, _, rfl, b16, b19, b20, b21, b22, p0, b26, b28, p1, b33, b38⟩, _, rfl⟩)
theorem q_orbits {w : zW} {sz kp : Nat → Int32} (h : MI w sz kp) (d : Nat) (a1 a2 a3 : Int) (ha1 : -2147483648 ≤ a1 ∧ a1 ≤ 2147483647) (ha2 : -2147483648 ≤ a2 ∧ a2 ≤ 2147483647) (ha3 : -2147483648 ≤ a3 ∧ a3 ≤ 2147483647) : DET zTab (d + 6) iX12_orbits [.ref 14, .int (Int32.ofInt a1), .int (Int32.ofInt a2), .int (Int32.ofInt a3)] w (fun mc ms r w' => (mc = 0 ∧ ms = 0) ∧ SAME w w' ∧ MI w' sz kp ∧ ∃ v, r = some (.int v)) := by
  refine mi_elim h fun c0 c1 c2 c3 c4 c5 c6 c7 c8 c9 c10 c11 c12 c13 f0 f9 f10 f11 f12 f13 f15 f16 f17 f20 f21 f22 f23 f26 f28 f31 f32 f33 f38 f41 f44 x14 g15 g17 g18 g19 g20 g21 g22 g23 g24 g25 g26 g27 g28 g29 g30 g31 g32 g33 g34 g35 g36 g37 g38 g39 g40 g41 g42 g43 t e b16 b19 b20 b21 b22 b25 b26 b28 b30 b33 b38 => ?_
  subst e
  have z0 := b16 0
  exact det_of (mc := 0) (ms := 0) (m_orbits d a1 a2 a3 b19 b25 b30 b33 b20 (by omega) (by omega) (by omega) _ fun v y0 y20 y21 y22 y23 y26 k25 k30 k31 k33 k34 p0 p1 p2 => ⟨⟨rfl, rfl⟩, same_M, ⟨_, _, _, _, _, _, _, _, _, _, _, _, _, _, _, _, _, _, _, _, _, _, _, _, _, _, _, _, _, _, _, _, _, _, _, _, _, _, _, _, _, _, _, _, _, _, _, _, _, _, _, _, _, _, _, _, _, _, _, _, _, _, _, _, _, rfl, b16, b19, b20, b21, b22, p0, b26, b28, p1, p2, b38⟩, _, rfl⟩)
theorem q_rota {w : zW} {sz kp : Nat → Int32} (h : MI w sz kp) (d : Nat) (a1 a2 a3 : Int) (ha1 : -2147483648 ≤ a1 ∧ a1 ≤ 2147483647) (ha2 : -2147483648 ≤ a2 ∧ a2 ≤ 2147483647) (ha3 : -2147483648 ≤ a3 ∧ a3 ≤ 2147483647) : DET zTab (d + 6) iX12_rota [.ref 14, .int (Int32.ofInt a1), .int (Int32.ofInt a2), .int (Int32.ofInt a3)] w (fun mc ms r w' => (mc = 0 ∧ ms = 0) ∧ SAME w w' ∧ MI w' sz kp ∧ ∃ v, r = some (.int v)) := by
  refine mi_elim h fun c0 c1 c2 c3 c4 c5 c6 c7 c8 c9 c10 c11 c12 c13 f0 f9 f10 f11 f12 f13 f15 f16 f17 f20 f21 f22 f23 f26 f28 f31 f32 f33 f38 f41 f44 x14 g15 g17 g18 g19 g20 g21 g22 g23 g24 g25 g26 g27 g28 g29 g30 g31 g32 g33 g34 g35 g36 g37 g38 g39 g40 g41 g42 g43 t e b16 b19 b20 b21 b22 b25 b26 b28 b30 b33 b38 => ?_
  subst e
  have z0 := b16 0
  exact det_of (mc := 0) (ms := 0) (m_rota d a1 a2 a3 b19 b25 b26 b30 b20 (by omega) (by omega) (by omega) _ fun v y0 y20 y21 y22 y23 y26 k25 k26 k27 k30 k35 p0 p1 p2 => ⟨⟨rfl, rfl⟩, same_M, ⟨_, _, _, _, _, _, _, _, _, _, _, _, _, _, _, _, _, _, _, _, _, _, _, _, _, _, _, _, _, _, _, _, _, _, _, _, _, _, _, _, _, _, _, _, _, _, _, _, _, _, _, _, _, _, _, _, _, _, _, _, _, _, _, _, _, rfl, b16, b19, b20, b21, b22, p0, p1, b28, p2, b33, b38⟩, _, rfl⟩)
theorem q_mean {w : zW} {sz kp : Nat → Int32} (h : MI w sz kp) (d : Nat) (a1 a2 a3 : Int) (ha1 : -2147483648 ≤ a1 ∧ a1 ≤ 2147483647) (ha2 : -2147483648 ≤ a2 ∧ a2 ≤ 2147483647) (ha3 : -2147483648 ≤ a3 ∧ a3 ≤ 2147483647) : DET zTab (d + 6) iX12_mean [.ref 14, .int (Int32.ofInt a1), .int (Int32.ofInt a2), .int (Int32.ofInt a3)] w (fun mc ms r w' => (mc = 0 ∧ ms = 0) ∧ SAME w w' ∧ MI w' sz kp ∧ ∃ v, r = some (.long v)) := by
  refine mi_elim h fun c0 c1 c2 c3 c4 c5 c6 c7 c8 c9 c10 c11 c12 c13 f0 f9 f10 f11 f12 f13 f15 f16 f17 f20 f21 f22 f23 f26 f28 f31 f32 f33 f38 f41 f44 x14 g15 g17 g18 g19 g20 g21 g22 g23 g24 g25 g26 g27 g28 g29 g30 g31 g32 g33 g34 g35 g36 g37 g38 g39 g40 g41 g42 g43 t e b16 b19 b20 b21 b22 b25 b26 b28 b30 b33 b38 => ?_
  subst e
  have z0 := b16 0
  exact det_of (mc := 0) (ms := 0) (m_mean d a1 a2 a3 b19 b25 b26 b30 b20 (by omega) (by omega) (by omega) _ fun v y0 y20 y21 y22 y23 y26 k25 k26 k27 k30 k35 p0 p1 p2 => ⟨⟨rfl, rfl⟩, same_M, ⟨_, _, _, _, _, _, _, _, _, _, _, _, _, _, _, _, _, _, _, _, _, _, _, _, _, _, _, _, _, _, _, _, _, _, _, _, _, _, _, _, _, _, _, _, _, _, _, _, _, _, _, _, _, _, _, _, _, _, _, _, _, _, _, _, _, rfl, b16, b19, b20, b21, b22, p0, p1, b28, p2, b33, b38⟩, _, rfl⟩)
theorem q_elders {w : zW} {sz kp : Nat → Int32} (h : MI w sz kp) (d : Nat) (a1 a2 a3 a4 : Int) (ha1 : -2147483648 ≤ a1 ∧ a1 ≤ 2147483647) (ha2 : -2147483648 ≤ a2 ∧ a2 ≤ 2147483647) (ha3 : -2147483648 ≤ a3 ∧ a3 ≤ 2147483647) (ha4 : -2147483648 ≤ a4 ∧ a4 ≤ 2147483647) : DET zTab (d + 7) iX12_elders [.ref 14, .int (Int32.ofInt a1), .int (Int32.ofInt a2), .int (Int32.ofInt a3), .int (Int32.ofInt a4)] w (fun mc ms r w' => (mc = 0 ∧ ms = 0) ∧ SAME w w' ∧ MI w' sz kp ∧ ∃ v, r = some (.int v)) := by
  refine mi_elim h fun c0 c1 c2 c3 c4 c5 c6 c7 c8 c9 c10 c11 c12 c13 f0 f9 f10 f11 f12 f13 f15 f16 f17 f20 f21 f22 f23 f26 f28 f31 f32 f33 f38 f41 f44 x14 g15 g17 g18 g19 g20 g21 g22 g23 g24 g25 g26 g27 g28 g29 g30 g31 g32 g33 g34 g35 g36 g37 g38 g39 g40 g41 g42 g43 t e b16 b19 b20 b21 b22 b25 b26 b28 b30 b33 b38 => ?_
  subst e
  have z0 := b16 0
  exact det_of (mc := 0) (ms := 0) (m_elders d a1 a2 a3 a4 b19 b25 b30 b20 (by omega) (by omega) (by omega) (by omega) _ fun v y0 y20 y21 y22 y23 y26 k25 k30 k31 k32 p0 p1 => ⟨⟨rfl, rfl⟩, same_M, ⟨_, _, _, _, _, _, _, _, _, _, _, _, _, _, _, _, _, _, _, _, _, _, _, _, _, _, _, _, _, _, _, _, _, _, _, _, _, _, _, _, _, _, _, _, _, _, _, _, _, _, _, _, _, _, _, _, _, _, _, _, _, _, _, _, _, rfl, b16, b19, b20, b21, b22, p0, b26, b28, p1, b33, b38⟩, _, rfl⟩)
theorem q_play {w : zW} {sz kp : Nat → Int32} (h : MI w sz kp) (d : Nat) (a1 a2 a3 a4 a5 a6 : Int) (ha1 : -2147483648 ≤ a1 ∧ a1 ≤ 2147483647) (ha2 : -2147483648 ≤ a2 ∧ a2 ≤ 2147483647) (ha3 : -2147483648 ≤ a3 ∧ a3 ≤ 2147483647) (ha4 : -2147483648 ≤ a4 ∧ a4 ≤ 2147483647) (ha5 : -2147483648 ≤ a5 ∧ a5 ≤ 2147483647) (ha6 : -2147483648 ≤ a6 ∧ a6 ≤ 2147483647) : DET zTab (d + 6) iX12_play_ [.ref 14, .int (Int32.ofInt a1), .int (Int32.ofInt a2), .int (Int32.ofInt a3), .int (Int32.ofInt a4), .int (Int32.ofInt a5), .int (Int32.ofInt a6)] w (fun mc ms r w' => (mc = 0 ∧ ms = 0) ∧ SAME w w' ∧ MI w' sz kp ∧ ∃ v, r = some (.int v)) := by
  refine mi_elim h fun c0 c1 c2 c3 c4 c5 c6 c7 c8 c9 c10 c11 c12 c13 f0 f9 f10 f11 f12 f13 f15 f16 f17 f20 f21 f22 f23 f26 f28 f31 f32 f33 f38 f41 f44 x14 g15 g17 g18 g19 g20 g21 g22 g23 g24 g25 g26 g27 g28 g29 g30 g31 g32 g33 g34 g35 g36 g37 g38 g39 g40 g41 g42 g43 t e b16 b19 b20 b21 b22 b25 b26 b28 b30 b33 b38 => ?_
  subst e
  have z0 := b16 0
  exact det_of (mc := 0) (ms := 0) (m_play d a1 a2 a3 a4 a5 a6 b19 b25 b30 b20 (by omega) (by omega) (by omega) (by omega) (by omega) (by omega) _ fun v y0 y20 y21 y22 y23 y26 k25 k30 k35 p0 p1 => ⟨⟨rfl, rfl⟩, same_M, ⟨_, _, _, _, _, _, _, _, _, _, _, _, _, _, _, _, _, _, _, _, _, _, _, _, _, _, _, _, _, _, _, _, _, _, _, _, _, _, _, _, _, _, _, _, _, _, _, _, _, _, _, _, _, _, _, _, _, _, _, _, _, _, _, _, _, rfl, b16, b19, b20, b21, b22, p0, b26, b28, p1, b33, b38⟩, _, rfl⟩)
theorem q_fact {w : zW} {sz kp : Nat → Int32} (h : MI w sz kp) (d : Nat) (a1 a2 a3 : Int) (ha1 : -2147483648 ≤ a1 ∧ a1 ≤ 2147483647) (ha2 : -2147483648 ≤ a2 ∧ a2 ≤ 2147483647) (ha3 : -2147483648 ≤ a3 ∧ a3 ≤ 2147483647) : DET zTab (d + 4) iX12_fact [.ref 14, .int (Int32.ofInt a1), .int (Int32.ofInt a2), .int (Int32.ofInt a3)] w (fun mc ms r w' => (mc = 0 ∧ ms = 0) ∧ SAME w w' ∧ MI w' sz kp ∧ ∃ v, r = some (.int v)) := by
  refine mi_elim h fun c0 c1 c2 c3 c4 c5 c6 c7 c8 c9 c10 c11 c12 c13 f0 f9 f10 f11 f12 f13 f15 f16 f17 f20 f21 f22 f23 f26 f28 f31 f32 f33 f38 f41 f44 x14 g15 g17 g18 g19 g20 g21 g22 g23 g24 g25 g26 g27 g28 g29 g30 g31 g32 g33 g34 g35 g36 g37 g38 g39 g40 g41 g42 g43 t e b16 b19 b20 b21 b22 b25 b26 b28 b30 b33 b38 => ?_
  subst e
  have z0 := b16 0
  exact det_of (mc := 0) (ms := 0) (m_fact d a1 a2 a3 b19 b22 (by omega) (by omega) (by omega) _ fun v y0 y41 => ⟨⟨rfl, rfl⟩, same_M, ⟨_, _, _, _, _, _, _, _, _, _, _, _, _, _, _, _, _, _, _, _, _, _, _, _, _, _, _, _, _, _, _, _, _, _, _, _, _, _, _, _, _, _, _, _, _, _, _, _, _, _, _, _, _, _, _, _, _, _, _, _, _, _, _, _, _, rfl, b16, b19, b20, b21, b22, b25, b26, b28, b30, b33, b38⟩, _, rfl⟩)
theorem q_fits {w : zW} {sz kp : Nat → Int32} (h : MI w sz kp) (d : Nat) (a1 a2 a3 a4 : Int) (ha1 : -2147483648 ≤ a1 ∧ a1 ≤ 2147483647) (ha2 : -2147483648 ≤ a2 ∧ a2 ≤ 2147483647) (ha3 : -2147483648 ≤ a3 ∧ a3 ≤ 2147483647) (ha4 : -2147483648 ≤ a4 ∧ a4 ≤ 2147483647) : DET zTab (d + 7) iX12_fits [.ref 14, .int (Int32.ofInt a1), .int (Int32.ofInt a2), .int (Int32.ofInt a3), .int (Int32.ofInt a4)] w (fun mc ms r w' => (mc = 0 ∧ ms = 0) ∧ SAME w w' ∧ MI w' sz kp ∧ ∃ v, r = some (.int v)) := by
  refine mi_elim h fun c0 c1 c2 c3 c4 c5 c6 c7 c8 c9 c10 c11 c12 c13 f0 f9 f10 f11 f12 f13 f15 f16 f17 f20 f21 f22 f23 f26 f28 f31 f32 f33 f38 f41 f44 x14 g15 g17 g18 g19 g20 g21 g22 g23 g24 g25 g26 g27 g28 g29 g30 g31 g32 g33 g34 g35 g36 g37 g38 g39 g40 g41 g42 g43 t e b16 b19 b20 b21 b22 b25 b26 b28 b30 b33 b38 => ?_
  subst e
  have z0 := b16 0
  exact det_of (mc := 0) (ms := 0) (m_fits d a1 a2 a3 a4 b19 b25 b30 b20 b22 (by omega) (by omega) (by omega) (by omega) _ fun v y0 y20 y21 y22 y23 y26 y41 k25 k30 k36 k37 p0 p1 => ⟨⟨rfl, rfl⟩, same_M, ⟨_, _, _, _, _, _, _, _, _, _, _, _, _, _, _, _, _, _, _, _, _, _, _, _, _, _, _, _, _, _, _, _, _, _, _, _, _, _, _, _, _, _, _, _, _, _, _, _, _, _, _, _, _, _, _, _, _, _, _, _, _, _, _, _, _, rfl, b16, b19, b20, b21, b22, p0, b26, b28, p1, b33, b38⟩, _, rfl⟩)
theorem q_sure {w : zW} {sz kp : Nat → Int32} (h : MI w sz kp) (d : Nat) (a1 a2 a3 a4 : Int) (ha1 : -2147483648 ≤ a1 ∧ a1 ≤ 2147483647) (ha2 : -2147483648 ≤ a2 ∧ a2 ≤ 2147483647) (ha3 : -2147483648 ≤ a3 ∧ a3 ≤ 2147483647) (ha4 : -2147483648 ≤ a4 ∧ a4 ≤ 2147483647) : DET zTab (d + 7) iX12_sure [.ref 14, .int (Int32.ofInt a1), .int (Int32.ofInt a2), .int (Int32.ofInt a3), .int (Int32.ofInt a4)] w (fun mc ms r w' => (mc = 0 ∧ ms = 0) ∧ SAME w w' ∧ MI w' sz kp ∧ ∃ v, r = some (.int v)) := by
  refine mi_elim h fun c0 c1 c2 c3 c4 c5 c6 c7 c8 c9 c10 c11 c12 c13 f0 f9 f10 f11 f12 f13 f15 f16 f17 f20 f21 f22 f23 f26 f28 f31 f32 f33 f38 f41 f44 x14 g15 g17 g18 g19 g20 g21 g22 g23 g24 g25 g26 g27 g28 g29 g30 g31 g32 g33 g34 g35 g36 g37 g38 g39 g40 g41 g42 g43 t e b16 b19 b20 b21 b22 b25 b26 b28 b30 b33 b38 => ?_
  subst e
  have z0 := b16 0
  exact det_of (mc := 0) (ms := 0) (m_sure d a1 a2 a3 a4 b19 b25 b30 b20 b22 (by omega) (by omega) (by omega) (by omega) _ fun v y0 y20 y21 y22 y23 y26 y41 k25 k30 k36 k37 p0 p1 => ⟨⟨rfl, rfl⟩, same_M, ⟨_, _, _, _, _, _, _, _, _, _, _, _, _, _, _, _, _, _, _, _, _, _, _, _, _, _, _, _, _, _, _, _, _, _, _, _, _, _, _, _, _, _, _, _, _, _, _, _, _, _, _, _, _, _, _, _, _, _, _, _, _, _, _, _, _, rfl, b16, b19, b20, b21, b22, p0, b26, b28, p1, b33, b38⟩, _, rfl⟩)
theorem q_drawn {w : zW} {sz kp : Nat → Int32} (h : MI w sz kp) (d : Nat) (a1 a2 a3 a4 : Int) (ha1 : -2147483648 ≤ a1 ∧ a1 ≤ 2147483647) (ha2 : -2147483648 ≤ a2 ∧ a2 ≤ 2147483647) (ha3 : -2147483648 ≤ a3 ∧ a3 ≤ 2147483647) (ha4 : -2147483648 ≤ a4 ∧ a4 ≤ 2147483647) : DET zTab (d + 7) iX12_drawn [.ref 14, .int (Int32.ofInt a1), .int (Int32.ofInt a2), .int (Int32.ofInt a3), .int (Int32.ofInt a4)] w (fun mc ms r w' => (mc = 0 ∧ ms = 0) ∧ SAME w w' ∧ MI w' sz kp ∧ ∃ v, r = some (.int v)) := by
  refine mi_elim h fun c0 c1 c2 c3 c4 c5 c6 c7 c8 c9 c10 c11 c12 c13 f0 f9 f10 f11 f12 f13 f15 f16 f17 f20 f21 f22 f23 f26 f28 f31 f32 f33 f38 f41 f44 x14 g15 g17 g18 g19 g20 g21 g22 g23 g24 g25 g26 g27 g28 g29 g30 g31 g32 g33 g34 g35 g36 g37 g38 g39 g40 g41 g42 g43 t e b16 b19 b20 b21 b22 b25 b26 b28 b30 b33 b38 => ?_
  subst e
  have z0 := b16 0
  exact det_of (mc := 0) (ms := 0) (m_drawn d a1 a2 a3 a4 b19 b25 b26 b28 b20 (by omega) (by omega) (by omega) (by omega) _ fun v y0 y20 y22 y23 y26 y31 y32 y33 y44 k25 k26 k27 k28 k29 p0 p1 p2 => ⟨⟨rfl, rfl⟩, same_M, ⟨_, _, _, _, _, _, _, _, _, _, _, _, _, _, _, _, _, _, _, _, _, _, _, _, _, _, _, _, _, _, _, _, _, _, _, _, _, _, _, _, _, _, _, _, _, _, _, _, _, _, _, _, _, _, _, _, _, _, _, _, _, _, _, _, _, rfl, b16, b19, b20, b21, b22, p0, p1, p2, b30, b33, b38⟩, _, rfl⟩)
theorem q_kinship {w : zW} {sz kp : Nat → Int32} (h : MI w sz kp) (d : Nat) (a1 a2 a3 : Int) (ha1 : -2147483648 ≤ a1 ∧ a1 ≤ 2147483647) (ha2 : -2147483648 ≤ a2 ∧ a2 ≤ 2147483647) (ha3 : -2147483648 ≤ a3 ∧ a3 ≤ 2147483647) : DET zTab (d + 4) iX12_kinship [.ref 14, .int (Int32.ofInt a1), .int (Int32.ofInt a2), .int (Int32.ofInt a3)] w (fun mc ms r w' => (mc = 0 ∧ ms = 0) ∧ SAME w w' ∧ MI w' sz kp ∧ ∃ v, r = some (.int v)) := by
  refine mi_elim h fun c0 c1 c2 c3 c4 c5 c6 c7 c8 c9 c10 c11 c12 c13 f0 f9 f10 f11 f12 f13 f15 f16 f17 f20 f21 f22 f23 f26 f28 f31 f32 f33 f38 f41 f44 x14 g15 g17 g18 g19 g20 g21 g22 g23 g24 g25 g26 g27 g28 g29 g30 g31 g32 g33 g34 g35 g36 g37 g38 g39 g40 g41 g42 g43 t e b16 b19 b20 b21 b22 b25 b26 b28 b30 b33 b38 => ?_
  subst e
  have z0 := b16 0
  exact det_of (mc := 0) (ms := 0) (m_kinship d a1 a2 a3 b19 b20 (by omega) (by omega) (by omega) _ fun v y0 y20 y22 y23 => ⟨⟨rfl, rfl⟩, same_M, ⟨_, _, _, _, _, _, _, _, _, _, _, _, _, _, _, _, _, _, _, _, _, _, _, _, _, _, _, _, _, _, _, _, _, _, _, _, _, _, _, _, _, _, _, _, _, _, _, _, _, _, _, _, _, _, _, _, _, _, _, _, _, _, _, _, _, rfl, b16, b19, b20, b21, b22, b25, b26, b28, b30, b33, b38⟩, _, rfl⟩)
theorem q_shared {w : zW} {sz kp : Nat → Int32} (h : MI w sz kp) (d : Nat) (a1 a2 a3 : Int) (ha1 : -2147483648 ≤ a1 ∧ a1 ≤ 2147483647) (ha2 : -2147483648 ≤ a2 ∧ a2 ≤ 2147483647) (ha3 : -2147483648 ≤ a3 ∧ a3 ≤ 2147483647) : DET zTab (d + 6) iX12_shared [.ref 14, .int (Int32.ofInt a1), .int (Int32.ofInt a2), .int (Int32.ofInt a3)] w (fun mc ms r w' => (mc = 0 ∧ ms = 0) ∧ SAME w w' ∧ MI w' sz kp ∧ ∃ v, r = some (.int v)) := by
  refine mi_elim h fun c0 c1 c2 c3 c4 c5 c6 c7 c8 c9 c10 c11 c12 c13 f0 f9 f10 f11 f12 f13 f15 f16 f17 f20 f21 f22 f23 f26 f28 f31 f32 f33 f38 f41 f44 x14 g15 g17 g18 g19 g20 g21 g22 g23 g24 g25 g26 g27 g28 g29 g30 g31 g32 g33 g34 g35 g36 g37 g38 g39 g40 g41 g42 g43 t e b16 b19 b20 b21 b22 b25 b26 b28 b30 b33 b38 => ?_
  subst e
  have z0 := b16 0
  exact det_of (mc := 0) (ms := 0) (m_shared d a1 a2 a3 b25 (by omega) (by omega) (by omega) _ fun v y0 k25 p0 => ⟨⟨rfl, rfl⟩, same_M, ⟨_, _, _, _, _, _, _, _, _, _, _, _, _, _, _, _, _, _, _, _, _, _, _, _, _, _, _, _, _, _, _, _, _, _, _, _, _, _, _, _, _, _, _, _, _, _, _, _, _, _, _, _, _, _, _, _, _, _, _, _, _, _, _, _, _, rfl, b16, b19, b20, b21, b22, p0, b26, b28, b30, b33, b38⟩, _, rfl⟩)
theorem q_joined {w : zW} {sz kp : Nat → Int32} (h : MI w sz kp) (d : Nat) (a1 a2 a3 a4 : Int) (ha1 : -2147483648 ≤ a1 ∧ a1 ≤ 2147483647) (ha2 : -2147483648 ≤ a2 ∧ a2 ≤ 2147483647) (ha3 : -2147483648 ≤ a3 ∧ a3 ≤ 2147483647) (ha4 : -2147483648 ≤ a4 ∧ a4 ≤ 2147483647) : DET zTab (d + 7) iX12_joined [.ref 14, .int (Int32.ofInt a1), .int (Int32.ofInt a2), .int (Int32.ofInt a3), .int (Int32.ofInt a4)] w (fun mc ms r w' => (mc = 0 ∧ ms = 0) ∧ SAME w w' ∧ MI w' sz kp ∧ ∃ v, r = some (.int v)) := by
  refine mi_elim h fun c0 c1 c2 c3 c4 c5 c6 c7 c8 c9 c10 c11 c12 c13 f0 f9 f10 f11 f12 f13 f15 f16 f17 f20 f21 f22 f23 f26 f28 f31 f32 f33 f38 f41 f44 x14 g15 g17 g18 g19 g20 g21 g22 g23 g24 g25 g26 g27 g28 g29 g30 g31 g32 g33 g34 g35 g36 g37 g38 g39 g40 g41 g42 g43 t e b16 b19 b20 b21 b22 b25 b26 b28 b30 b33 b38 => ?_
  subst e
  have z0 := b16 0
  exact det_of (mc := 0) (ms := 0) (m_joined d a1 a2 a3 a4 b19 b25 b30 b33 b20 (by omega) (by omega) (by omega) (by omega) _ fun v y0 y20 y21 y22 y23 y26 y38 k25 k30 k31 k32 k33 p0 p1 p2 => ⟨⟨rfl, rfl⟩, same_M, ⟨_, _, _, _, _, _, _, _, _, _, _, _, _, _, _, _, _, _, _, _, _, _, _, _, _, _, _, _, _, _, _, _, _, _, _, _, _, _, _, _, _, _, _, _, _, _, _, _, _, _, _, _, _, _, _, _, _, _, _, _, _, _, _, _, _, rfl, b16, b19, b20, b21, b22, p0, b26, b28, p1, p2, b38⟩, _, rfl⟩)
theorem q_nearest {w : zW} {sz kp : Nat → Int32} (h : MI w sz kp) (d : Nat) (a1 a2 a3 a4 : Int) (ha1 : -2147483648 ≤ a1 ∧ a1 ≤ 2147483647) (ha2 : -2147483648 ≤ a2 ∧ a2 ≤ 2147483647) (ha3 : -2147483648 ≤ a3 ∧ a3 ≤ 2147483647) (ha4 : -2147483648 ≤ a4 ∧ a4 ≤ 2147483647) : DET zTab (d + 7) iX12_nearest [.ref 14, .int (Int32.ofInt a1), .int (Int32.ofInt a2), .int (Int32.ofInt a3), .int (Int32.ofInt a4)] w (fun mc ms r w' => (mc = 0 ∧ ms = 0) ∧ SAME w w' ∧ MI w' sz kp ∧ ∃ v, r = some (.int v)) := by
  refine mi_elim h fun c0 c1 c2 c3 c4 c5 c6 c7 c8 c9 c10 c11 c12 c13 f0 f9 f10 f11 f12 f13 f15 f16 f17 f20 f21 f22 f23 f26 f28 f31 f32 f33 f38 f41 f44 x14 g15 g17 g18 g19 g20 g21 g22 g23 g24 g25 g26 g27 g28 g29 g30 g31 g32 g33 g34 g35 g36 g37 g38 g39 g40 g41 g42 g43 t e b16 b19 b20 b21 b22 b25 b26 b28 b30 b33 b38 => ?_
  subst e
  have z0 := b16 0
  exact det_of (mc := 0) (ms := 0) (m_nearest d a1 a2 a3 a4 b19 b25 b26 b30 b33 b20 (by omega) (by omega) (by omega) (by omega) _ fun v y0 y20 y21 y22 y23 y26 y38 k25 k26 k27 k30 k31 k33 p0 p1 p2 p3 => ⟨⟨rfl, rfl⟩, same_M, ⟨_, _, _, _, _, _, _, _, _, _, _, _, _, _, _, _, _, _, _, _, _, _, _, _, _, _, _, _, _, _, _, _, _, _, _, _, _, _, _, _, _, _, _, _, _, _, _, _, _, _, _, _, _, _, _, _, _, _, _, _, _, _, _, _, _, rfl, b16, b19, b20, b21, b22, p0, p1, b28, p2, p3, b38⟩, _, rfl⟩)
theorem q_settles {w : zW} {sz kp : Nat → Int32} (h : MI w sz kp) (d : Nat) (a1 a2 a3 : Int) (ha1 : -2147483648 ≤ a1 ∧ a1 ≤ 2147483647) (ha2 : -2147483648 ≤ a2 ∧ a2 ≤ 2147483647) (ha3 : -2147483648 ≤ a3 ∧ a3 ≤ 2147483647) : DET zTab (d + 7) iX12_settles [.ref 14, .int (Int32.ofInt a1), .int (Int32.ofInt a2), .int (Int32.ofInt a3)] w (fun mc ms r w' => (mc = 0 ∧ ms = 0) ∧ SAME w w' ∧ MI w' sz kp ∧ ∃ v, r = some (.int v)) := by
  refine mi_elim h fun c0 c1 c2 c3 c4 c5 c6 c7 c8 c9 c10 c11 c12 c13 f0 f9 f10 f11 f12 f13 f15 f16 f17 f20 f21 f22 f23 f26 f28 f31 f32 f33 f38 f41 f44 x14 g15 g17 g18 g19 g20 g21 g22 g23 g24 g25 g26 g27 g28 g29 g30 g31 g32 g33 g34 g35 g36 g37 g38 g39 g40 g41 g42 g43 t e b16 b19 b20 b21 b22 b25 b26 b28 b30 b33 b38 => ?_
  subst e
  have z0 := b16 0
  exact det_of (mc := 0) (ms := 0) (m_settles d a1 a2 a3 b19 b25 b30 b33 b20 (by omega) (by omega) (by omega) _ fun v y0 y20 y21 y22 y23 y26 y38 k25 k30 k31 k33 p0 p1 p2 => ⟨⟨rfl, rfl⟩, same_M, ⟨_, _, _, _, _, _, _, _, _, _, _, _, _, _, _, _, _, _, _, _, _, _, _, _, _, _, _, _, _, _, _, _, _, _, _, _, _, _, _, _, _, _, _, _, _, _, _, _, _, _, _, _, _, _, _, _, _, _, _, _, _, _, _, _, _, rfl, b16, b19, b20, b21, b22, p0, b26, b28, p1, p2, b38⟩, _, rfl⟩)
theorem q_unmade {w : zW} {sz kp : Nat → Int32} (h : MI w sz kp) (d : Nat) (a1 a2 : Int) (ha1 : -2147483648 ≤ a1 ∧ a1 ≤ 2147483647) (ha2 : -2147483648 ≤ a2 ∧ a2 ≤ 2147483647) : DET zTab (d + 7) iX12_unmade [.ref 14, .int (Int32.ofInt a1), .int (Int32.ofInt a2)] w (fun mc ms r w' => (mc = 0 ∧ ms = 0) ∧ SAME w w' ∧ MI w' sz kp ∧ ∃ v, r = some (.int v)) := by
  refine mi_elim h fun c0 c1 c2 c3 c4 c5 c6 c7 c8 c9 c10 c11 c12 c13 f0 f9 f10 f11 f12 f13 f15 f16 f17 f20 f21 f22 f23 f26 f28 f31 f32 f33 f38 f41 f44 x14 g15 g17 g18 g19 g20 g21 g22 g23 g24 g25 g26 g27 g28 g29 g30 g31 g32 g33 g34 g35 g36 g37 g38 g39 g40 g41 g42 g43 t e b16 b19 b20 b21 b22 b25 b26 b28 b30 b33 b38 => ?_
  subst e
  have z0 := b16 0
  exact det_of (mc := 0) (ms := 0) (m_unmade d a1 a2 b19 b25 b30 b20 (by omega) (by omega) _ fun v y0 y20 y21 y22 y23 y26 k25 k30 k34 p0 p1 => ⟨⟨rfl, rfl⟩, same_M, ⟨_, _, _, _, _, _, _, _, _, _, _, _, _, _, _, _, _, _, _, _, _, _, _, _, _, _, _, _, _, _, _, _, _, _, _, _, _, _, _, _, _, _, _, _, _, _, _, _, _, _, _, _, _, _, _, _, _, _, _, _, _, _, _, _, _, rfl, b16, b19, b20, b21, b22, p0, b26, b28, p1, b33, b38⟩, _, rfl⟩)
theorem q_silenced {w : zW} {sz kp : Nat → Int32} (h : MI w sz kp) (d : Nat) (a1 a2 a3 : Int) (ha1 : -2147483648 ≤ a1 ∧ a1 ≤ 2147483647) (ha2 : -2147483648 ≤ a2 ∧ a2 ≤ 2147483647) (ha3 : -2147483648 ≤ a3 ∧ a3 ≤ 2147483647) : DET zTab (d + 7) iX12_silenced [.ref 14, .int (Int32.ofInt a1), .int (Int32.ofInt a2), .int (Int32.ofInt a3)] w (fun mc ms r w' => (mc = 0 ∧ ms = 0) ∧ SAME w w' ∧ MI w' sz kp ∧ ∃ v, r = some (.int v)) := by
  refine mi_elim h fun c0 c1 c2 c3 c4 c5 c6 c7 c8 c9 c10 c11 c12 c13 f0 f9 f10 f11 f12 f13 f15 f16 f17 f20 f21 f22 f23 f26 f28 f31 f32 f33 f38 f41 f44 x14 g15 g17 g18 g19 g20 g21 g22 g23 g24 g25 g26 g27 g28 g29 g30 g31 g32 g33 g34 g35 g36 g37 g38 g39 g40 g41 g42 g43 t e b16 b19 b20 b21 b22 b25 b26 b28 b30 b33 b38 => ?_
  subst e
  have z0 := b16 0
  exact det_of (mc := 0) (ms := 0) (m_silenced d a1 a2 a3 b19 b25 b30 b33 b20 (by omega) (by omega) (by omega) _ fun v y0 y20 y21 y22 y23 y26 y38 k25 k30 k31 k33 p0 p1 p2 => ⟨⟨rfl, rfl⟩, same_M, ⟨_, _, _, _, _, _, _, _, _, _, _, _, _, _, _, _, _, _, _, _, _, _, _, _, _, _, _, _, _, _, _, _, _, _, _, _, _, _, _, _, _, _, _, _, _, _, _, _, _, _, _, _, _, _, _, _, _, _, _, _, _, _, _, _, _, rfl, b16, b19, b20, b21, b22, p0, b26, b28, p1, p2, b38⟩, _, rfl⟩)
theorem q_circles {w : zW} {sz kp : Nat → Int32} (h : MI w sz kp) (d : Nat) (a1 a2 : Int) (ha1 : -2147483648 ≤ a1 ∧ a1 ≤ 2147483647) (ha2 : -2147483648 ≤ a2 ∧ a2 ≤ 2147483647) : DET zTab (d + 7) iX12_circles [.ref 14, .int (Int32.ofInt a1), .int (Int32.ofInt a2)] w (fun mc ms r w' => (mc = 0 ∧ ms = 0) ∧ SAME w w' ∧ MI w' sz kp ∧ ∃ v, r = some (.int v)) := by
  refine mi_elim h fun c0 c1 c2 c3 c4 c5 c6 c7 c8 c9 c10 c11 c12 c13 f0 f9 f10 f11 f12 f13 f15 f16 f17 f20 f21 f22 f23 f26 f28 f31 f32 f33 f38 f41 f44 x14 g15 g17 g18 g19 g20 g21 g22 g23 g24 g25 g26 g27 g28 g29 g30 g31 g32 g33 g34 g35 g36 g37 g38 g39 g40 g41 g42 g43 t e b16 b19 b20 b21 b22 b25 b26 b28 b30 b33 b38 => ?_
  subst e
  have z0 := b16 0
  exact det_of (mc := 0) (ms := 0) (m_circles d a1 a2 b19 b25 b30 b33 b38 b20 (by omega) (by omega) _ fun v y0 y20 y21 y22 y23 y26 k25 k30 k33 k38 k39 k40 k41 k42 k43 p0 p1 p2 p3 => ⟨⟨rfl, rfl⟩, same_M, ⟨_, _, _, _, _, _, _, _, _, _, _, _, _, _, _, _, _, _, _, _, _, _, _, _, _, _, _, _, _, _, _, _, _, _, _, _, _, _, _, _, _, _, _, _, _, _, _, _, _, _, _, _, _, _, _, _, _, _, _, _, _, _, _, _, _, rfl, b16, b19, b20, b21, b22, p0, b26, b28, p1, p2, p3⟩, _, rfl⟩)
theorem q_count {w : zW} {sz kp : Nat → Int32} (h : MI w sz kp) (d : Nat) (a1 : Int) (ha1 : -2147483648 ≤ a1 ∧ a1 ≤ 2147483647) : DET zTab (d + 2) iX12_count [.ref 14, .int (Int32.ofInt a1)] w (fun mc ms r w' => (mc = 0 ∧ ms = 0) ∧ SAME w w' ∧ MI w' sz kp ∧ ∃ v, r = some (.int v)) := by
  refine mi_elim h fun c0 c1 c2 c3 c4 c5 c6 c7 c8 c9 c10 c11 c12 c13 f0 f9 f10 f11 f12 f13 f15 f16 f17 f20 f21 f22 f23 f26 f28 f31 f32 f33 f38 f41 f44 x14 g15 g17 g18 g19 g20 g21 g22 g23 g24 g25 g26 g27 g28 g29 g30 g31 g32 g33 g34 g35 g36 g37 g38 g39 g40 g41 g42 g43 t e b16 b19 b20 b21 b22 b25 b26 b28 b30 b33 b38 => ?_
  subst e
  have z0 := b16 0
  exact det_of (mc := 0) (ms := 0) (m_count d a1 b19 (by omega) _ fun v y0 => ⟨⟨rfl, rfl⟩, same_M, ⟨_, _, _, _, _, _, _, _, _, _, _, _, _, _, _, _, _, _, _, _, _, _, _, _, _, _, _, _, _, _, _, _, _, _, _, _, _, _, _, _, _, _, _, _, _, _, _, _, _, _, _, _, _, _, _, _, _, _, _, _, _, _, _, _, _, rfl, b16, b19, b20, b21, b22, b25, b26, b28, b30, b33, b38⟩, _, rfl⟩)
theorem q_image {w : zW} {sz kp : Nat → Int32} (h : MI w sz kp) (d : Nat) (a1 : Int) (ha1 : -2147483648 ≤ a1 ∧ a1 ≤ 2147483647) : DET zTab (d + 3) iX12_image [.ref 14, .int (Int32.ofInt a1)] w (fun mc ms r w' => (mc = 0 ∧ ms = 0) ∧ SAME w w' ∧ ∃ (v : Int) (k16 k44 : Nat → Int32), MI w' k16 k44 ∧ r = some (.int (Int32.ofInt v)) ∧ (((v = 1 ∧ 0 ≤ a1 ∧ a1 ≤ 2) ∨ (v = 0 ∧ (a1 < 0 ∨ 2 < a1)))) ∧ (((v = 0 ∧ k44 = kp) ∨ (v = 1 ∧ k44 = upd kp a1.toNat (Int32.ofInt 1)))) ∧ (((v = 0 ∧ k16 = sz) ∨ (v = 1 ∧ k16 = cpR sz 1 0 (a1 + 1).toNat 1)))) := by
  refine mi_elim h fun c0 c1 c2 c3 c4 c5 c6 c7 c8 c9 c10 c11 c12 c13 f0 f9 f10 f11 f12 f13 f15 f16 f17 f20 f21 f22 f23 f26 f28 f31 f32 f33 f38 f41 f44 x14 g15 g17 g18 g19 g20 g21 g22 g23 g24 g25 g26 g27 g28 g29 g30 g31 g32 g33 g34 g35 g36 g37 g38 g39 g40 g41 g42 g43 t e b16 b19 b20 b21 b22 b25 b26 b28 b30 b33 b38 => ?_
  subst e
  have z0 := b16 0
  exact det_of (mc := 0) (ms := 0) (m_image d a1 (by omega) _ fun v y0 k15 k16 k17 k18 k19 k20 k21 k22 k44 p0 p1 p2 p3 p4 p5 p6 p7 p8 => ⟨⟨rfl, rfl⟩, same_M, v, k16, k44, ⟨_, _, _, _, _, _, _, _, _, _, _, _, _, _, _, _, _, _, _, _, _, _, _, _, _, _, _, _, _, _, _, _, _, _, _, _, _, _, _, _, _, _, _, _, _, _, _, _, _, _, _, _, _, _, _, _, _, _, _, _, _, _, _, _, _, rfl, (cp_or (P := zB 0 600) p2 b16 (fun hv => zBcp b16)), (cp_or (P := zB 0 2) p5 b19 (fun hv => zBcp b19)), (cp_or (P := bkOK) p6 b20 (fun hv => bk_cp b20 (by omega))), (cp_or (P := yrOK) p7 b21 (fun hv => yr_cp b21 (by omega))), (cp_or (P := siOK) p8 b22 (fun hv => si_cp b22 (by omega))), b25, b26, b28, b30, b33, b38⟩, rfl, p0, p1, p2⟩)
theorem q_again {w : zW} {sz kp : Nat → Int32} (h : MI w sz kp) (d : Nat) (a1 : Int) (ha1 : -2147483648 ≤ a1 ∧ a1 ≤ 2147483647) : DET zTab (d + 3) iX12_again [.ref 14, .int (Int32.ofInt a1)] w (fun mc ms r w' => (mc = 0 ∧ ms = 0) ∧ SAME w w' ∧ ∃ (v : Int) (k16 k44 : Nat → Int32), MI w' k16 k44 ∧ r = some (.int (Int32.ofInt v)) ∧ (((v = 1 ∧ 0 ≤ a1 ∧ a1 ≤ 2 ∧ (kp a1.toNat).toInt ≠ 0) ∨ (v = 0 ∧ (a1 < 0 ∨ 2 < a1 ∨ (kp a1.toNat).toInt = 0)))) ∧ (((v = 0 ∧ k16 = sz) ∨ (v = 1 ∧ k16 = cpR sz 1 (a1 + 1).toNat 0 1))) ∧ k44 = kp) := by
  refine mi_elim h fun c0 c1 c2 c3 c4 c5 c6 c7 c8 c9 c10 c11 c12 c13 f0 f9 f10 f11 f12 f13 f15 f16 f17 f20 f21 f22 f23 f26 f28 f31 f32 f33 f38 f41 f44 x14 g15 g17 g18 g19 g20 g21 g22 g23 g24 g25 g26 g27 g28 g29 g30 g31 g32 g33 g34 g35 g36 g37 g38 g39 g40 g41 g42 g43 t e b16 b19 b20 b21 b22 b25 b26 b28 b30 b33 b38 => ?_
  subst e
  have z0 := b16 0
  exact det_of (mc := 0) (ms := 0) (m_again d a1 (by omega) _ fun v y0 y21 k15 k16 k17 k18 k19 k20 k21 k22 p0 p1 p2 p3 p4 p5 p6 p7 => ⟨⟨rfl, rfl⟩, same_M, v, k16, _, ⟨_, _, _, _, _, _, _, _, _, _, _, _, _, _, _, _, _, _, _, _, _, _, _, _, _, _, _, _, _, _, _, _, _, _, _, _, _, _, _, _, _, _, _, _, _, _, _, _, _, _, _, _, _, _, _, _, _, _, _, _, _, _, _, _, _, rfl, (cp_or (P := zB 0 600) p1 b16 (fun hv => zBcp b16)), (cp_or (P := zB 0 2) p4 b19 (fun hv => zBcp b19)), (cp_or (P := bkOK) p5 b20 (fun hv => bk_cp b20 (by omega))), (cp_or (P := yrOK) p6 b21 (fun hv => yr_cp b21 (by omega))), (cp_or (P := siOK) p7 b22 (fun hv => si_cp b22 (by omega))), b25, b26, b28, b30, b33, b38⟩, rfl, p0, p1, rfl⟩)
/-! BOTH SIDES TOGETHER: what holds between the law's rounds. -/
def mOf (sz kp : Nat → Int32) (k : Nat) : Option Int := if (kp k).toInt = 0 then none else some (sz (k + 1)).toInt
def J (w : zW) : Prop := ∃ σ sz kp, TOP σ w ∧ MI w sz kp ∧ IM w (sz 0).toInt (mOf sz kp)
theorem im_ext {w : zW} {l : Int} {m m' : Nat → Option Int} (h : ∀ k, k < 3 → m' k = m k) (hI : IM w l m) : IM w l m' := by
  obtain ⟨a, g, b, c, d⟩ := hI
  exact ⟨a, g, b, fun k hk => by rw [h k hk]; exact c k hk, d⟩
theorem top_same {σ : Nat → Nat} {w w' : zW} (hT : TOP σ w) (hS : SAME w w') : TOP σ w' ∧ (∀ l m, IM w l m → IM w' l m) ∧ phi w' = phi w := by
  have h45 := hT.2.2.2.2
  have hc : CI σ w' := by
    refine ⟨fun q hq => ?_, fun q hq => hT.1.2.1 q (by rw [← hS.1]; exact hq), fun q hq => ?_⟩
    · by_cases e : q < 14 ∨ 44 < q
      · rw [hS.2 q e]; exact hT.1.1 q (by rw [← hS.1]; exact hq)
      · have hz : ∃ c, zix w' q = some c := by
          rw [zix_eq]
          exact ⟨_, List.getElem?_eq_getElem hq⟩
        obtain ⟨c, hc⟩ := hz
        refine ⟨c, hc, ?_⟩
        unfold rOK
        rw [hT.2.2.2.1 q (by omega) (by omega)]
        trivial
    · obtain ⟨h1, gk, gn, h2, h3, h4⟩ := hT.1.2.2 q hq
      have a : q < 14 ∨ 44 < q := Classical.byContradiction fun h => by have := hT.2.2.2.1 q (by omega) (by omega); omega
      have b : q + 1 < 14 ∨ 44 < q + 1 := Classical.byContradiction fun h => by have := hT.2.2.2.1 (q + 1) (by omega) (by omega); omega
      exact ⟨h1, gk, gn, (hS.2 q a).trans h2, (hS.2 (q + 1) b).trans h3, h4⟩
  refine ⟨⟨hc, hT.2.1, fun q hq => ?_, hT.2.2.2.1, by rw [hS.1]; exact h45⟩, fun l m h => im_eq (hS.2 1 (by omega)) (hS.2 7 (by omega)) (fun g k q _ _ hq => hS.2 q (by omega)) h, phi_eq (hS.2 0 (by omega)) (hS.2 7 (by omega)) (hS.2 12 (by omega)) (hS.2 13 (by omega))⟩
  obtain ⟨x0, hO, hx0, f1, f2, f3, f4⟩ := CI_o60 hT.1 hq
  have o : ∀ x, σ x ≠ 0 → x < 14 ∨ 44 < x := fun x hx => Classical.byContradiction fun h => hx (hT.2.2.2.1 x (by omega) (by omega))
  obtain ⟨sz, gq, gn, gb, ⟨a, b, c⟩, d', e', f⟩ := hT.2.2.1 q hq
  exact ⟨sz, gq, gn, gb, ⟨a, (hS.2 _ (o q (by omega))).trans b, (hS.2 _ (o _ (by omega))).trans c⟩, (hS.2 _ (o _ (by omega))).trans d', (hS.2 _ (o _ (by omega))).trans e', f⟩
def PAIR (iX iM : Nat) (As : List Value) (w : zW) (P : Option Value → Option Value → Prop) : Prop := ∃ mc ms r w1 r' w2, (∀ Q : zQ, Q r w1 → zCl zTab 12 iX (.ref 0 :: As) w mc ms Q) ∧ (∀ Q : zQ, Q r' w2 → zCl zTab 12 iM (.ref 14 :: As) w1 0 0 Q) ∧ (∃ fs, zix w 0 = some (.inr (10, fs))) ∧ (∃ fs, zix w1 14 = some (.inr (11, fs))) ∧ J w2 ∧ mc ≤ 100 ∧ ms + phi w2 ≤ phi w + 300 ∧ P r r'
theorem mi_14 {w : zW} {sz kp : Nat → Int32} (h : MI w sz kp) : ∃ fs, zix w 14 = some (.inr (11, fs)) := mi_elim h fun c0 c1 c2 c3 c4 c5 c6 c7 c8 c9 c10 c11 c12 c13 f0 f9 f10 f11 f12 f13 f15 f16 f17 f20 f21 f22 f23 f26 f28 f31 f32 f33 f38 f41 f44 x14 g15 g17 g18 g19 g20 g21 g22 g23 g24 g25 g26 g27 g28 g29 g30 g31 g32 g33 g34 g35 g36 g37 g38 g39 g40 g41 g42 g43 t e b16 b19 b20 b21 b22 b25 b26 b28 b30 b33 b38 => by
  subst e
  exact ⟨_, rfl⟩
theorem top_0 {σ : Nat → Nat} {w : zW} (h : TOP σ w) : ∃ fs, zix w 0 = some (.inr (10, fs)) := by
  obtain ⟨y6, y7, h0, -⟩ := top_o h
  exact ⟨_, h0⟩
theorem pair_mk {iX iM mc ms : Nat} {As : List Value} {w w1 w2 : zW} {r r' : Option Value} {P : Option Value → Option Value → Prop} {σ τ : Nat → Nat} {l : Int} {m : Nat → Option Int} {sz kp sz' kp' : Nat → Int32} (hT : TOP σ w) (run1 : ∀ Q : zQ, Q r w1 → zCl zTab 12 iX (.ref 0 :: As) w mc ms Q) (run2 : ∀ Q : zQ, Q r' w2 → zCl zTab 12 iM (.ref 14 :: As) w1 0 0 Q) (hT1 : TOP τ w1) (hI1 : IM w1 l m) (hM1 : MI w1 sz kp) (hS : SAME w1 w2) (hM2 : MI w2 sz' kp') (hl : l = (sz' 0).toInt) (hm : ∀ k, k < 3 → mOf sz' kp' k = m k) (hmc : mc ≤ 100) (hms : ms + phi w1 ≤ phi w + 300) (hP : P r r') : PAIR iX iM As w P := by
  obtain ⟨hT2, hI2, hp2⟩ := top_same hT1 hS
  refine ⟨mc, ms, r, w1, r', w2, run1, run2, top_0 hT, mi_14 hM1, ⟨τ, sz', kp', hT2, hM2, ?_⟩, hmc, by omega, hP⟩
  rw [← hl]
  exact im_ext hm (hI2 _ _ hI1)
def rII (r r' : Option Value) : Prop := ∃ v v', r = some (.int v) ∧ r' = some (.int v')
def rLL (r r' : Option Value) : Prop := ∃ v v', r = some (.long v) ∧ r' = some (.long v')
def rEQ (r r' : Option Value) : Prop := ∃ v, r = some (.int v) ∧ r' = some (.int v)
theorem rEQ_II {r r' : Option Value} (h : rEQ r r') : rII r r' := by
  obtain ⟨v, a, b⟩ := h
  exact ⟨v, v, a, b⟩
theorem mOf_0 {sz kp k16 : Nat → Int32} (h : ∀ j, j ≠ 0 → k16 j = sz j) : ∀ k, k < 3 → mOf k16 kp k = mOf sz kp k := by
  intro k _
  unfold mOf
  rw [h (k + 1) (by omega)]
theorem pr_feed {w : zW} (hJ : J w) (a1 a2 a3 a4 a5 : Int) (ha1 : -2147483648 ≤ a1 ∧ a1 ≤ 2147483647) (ha2 : -2147483648 ≤ a2 ∧ a2 ≤ 2147483647) (ha3 : -2147483648 ≤ a3 ∧ a3 ≤ 2147483647) (ha4 : -2147483648 ≤ a4 ∧ a4 ≤ 2147483647) (ha5 : -2147483648 ≤ a5 ∧ a5 ≤ 2147483647) : PAIR iX11_feed iX12_feed [.int (Int32.ofInt a1), .int (Int32.ofInt a2), .int (Int32.ofInt a3), .int (Int32.ofInt a4), .int (Int32.ofInt a5)] w rEQ := by
  obtain ⟨σ, sz, kp, hT, hM, hI⟩ := hJ
  obtain ⟨mc, ms, r, w1, hP, run1⟩ := k_feed hT hI 10 a1 a2 a3 a4 a5
  rcases hP with ⟨hc, ⟨⟨τ, hT1⟩, hI1, hK1, hm1, hs1⟩, rfl⟩ | ⟨hc, ⟨⟨τ, hT1⟩, hI1, hK1, hm1, hs1⟩, rfl⟩
  · skip
    have hM1 := mi_keep hM hK1 hT1.2.2.2.2
    obtain ⟨mc2, ms2, r2, w2, ⟨⟨rfl, rfl⟩, hS, v2, k16, k44, hM2, rfl, p0, p1, rfl⟩, run2⟩ := q_feed hM1 10 a1 a2 a3 a4 a5 ha1 ha2 ha3 ha4 ha5
    obtain rfl : v2 = -1 := by omega
    exact pair_mk hT run1 run2 hT1 hI1 hM1 hS hM2 (by omega) (mOf_0 p1) hm1 hs1 ⟨_, rfl, rfl⟩
  · skip
    have hM1 := mi_keep hM hK1 hT1.2.2.2.2
    obtain ⟨mc2, ms2, r2, w2, ⟨⟨rfl, rfl⟩, hS, v2, k16, k44, hM2, rfl, p0, p1, rfl⟩, run2⟩ := q_feed hM1 10 a1 a2 a3 a4 a5 ha1 ha2 ha3 ha4 ha5
    obtain rfl : v2 = (sz 0).toInt + 20 := by omega
    exact pair_mk hT run1 run2 hT1 hI1 hM1 hS hM2 (by omega) (mOf_0 p1) hm1 hs1 ⟨_, rfl, rfl⟩
theorem pr_end {w : zW} (hJ : J w) (a1 : Int) (ha1 : -2147483648 ≤ a1 ∧ a1 ≤ 2147483647) : PAIR iX11_end iX12_end [.int (Int32.ofInt a1)] w rEQ := by
  obtain ⟨σ, sz, kp, hT, hM, hI⟩ := hJ
  obtain ⟨mc, ms, r, w1, hP, run1⟩ := k_end hT hI 11 a1 ha1
  rcases hP with ⟨hc, ⟨⟨τ, hT1⟩, hI1, hK1, hm1, hs1⟩, rfl⟩ | ⟨hc, ⟨⟨τ, hT1⟩, hI1, hK1, hm1, hs1⟩, rfl⟩
  · skip
    have hM1 := mi_keep hM hK1 hT1.2.2.2.2
    obtain ⟨mc2, ms2, r2, w2, ⟨⟨rfl, rfl⟩, hS, v2, k16, k44, hM2, rfl, p0, p1, rfl⟩, run2⟩ := q_end hM1 10 a1 ha1
    have e : v2 = -1 := by omega
    rw [e] at run2
    exact pair_mk hT run1 run2 hT1 hI1 hM1 hS hM2 (by omega) (mOf_0 p1) hm1 hs1 ⟨_, rfl, rfl⟩
  · skip
    have hM1 := mi_keep hM hK1 hT1.2.2.2.2
    obtain ⟨mc2, ms2, r2, w2, ⟨⟨rfl, rfl⟩, hS, v2, k16, k44, hM2, rfl, p0, p1, rfl⟩, run2⟩ := q_end hM1 10 a1 ha1
    have e : v2 = a1 := by omega
    rw [e] at run2
    exact pair_mk hT run1 run2 hT1 hI1 hM1 hS hM2 (by omega) (mOf_0 p1) hm1 hs1 ⟨_, rfl, rfl⟩
theorem pr_text {w : zW} (hJ : J w) (a1 a2 : Int) (ha1 : -2147483648 ≤ a1 ∧ a1 ≤ 2147483647) (ha2 : -2147483648 ≤ a2 ∧ a2 ≤ 2147483647) : PAIR iX11_text iX12_text [.int (Int32.ofInt a1), .int (Int32.ofInt a2)] w rII := by
  obtain ⟨σ, sz, kp, hT, hM, hI⟩ := hJ
  obtain ⟨mc, ms, r, w1, ⟨⟨⟨τ, hT1⟩, hI1, hK1, hm1, hs1⟩, v, rfl⟩, run1⟩ := k_text hT hI 2 a1 a2 ha1 ha2
  have hM1 := mi_keep hM hK1 hT1.2.2.2.2
  obtain ⟨mc2, ms2, r2, w2, ⟨⟨rfl, rfl⟩, hS, v2, k16, k44, hM2, rfl, p0, p1, rfl⟩, run2⟩ := q_text hM1 2 a1 a2 ha1 ha2
  exact pair_mk hT run1 run2 hT1 hI1 hM1 hS hM2 p0.symm (mOf_0 p1) hm1 hs1 ⟨_, _, rfl, rfl⟩
theorem pr_fault {w : zW} (hJ : J w) (a1 : Int) (ha1 : -2147483648 ≤ a1 ∧ a1 ≤ 2147483647) : PAIR iX11_fault iX12_fault [.int (Int32.ofInt a1)] w rII := by
  obtain ⟨σ, sz, kp, hT, hM, hI⟩ := hJ
  obtain ⟨mc, ms, r, w1, ⟨⟨τ, hT1, hI1, hK1, hx1, hm1, hs1⟩, v, rfl⟩, run1⟩ := k_fault hT 8 a1 ha1
  have hM1 := mi_keep hM hK1 hT1.2.2.2.2
  obtain ⟨mc2, ms2, r2, w2, ⟨⟨rfl, rfl⟩, hS, hM2, v2, rfl⟩, run2⟩ := q_fault hM1 11 a1 ha1
  exact pair_mk hT run1 run2 hT1 (hI1 _ _ hI) hM1 hS hM2 rfl (fun _ _ => rfl) hm1 (by omega) ⟨v, v2, rfl, rfl⟩
theorem pr_book {w : zW} (hJ : J w) (a1 a2 : Int) (ha1 : -2147483648 ≤ a1 ∧ a1 ≤ 2147483647) (ha2 : -2147483648 ≤ a2 ∧ a2 ≤ 2147483647) : PAIR iX11_book iX12_book [.int (Int32.ofInt a1), .int (Int32.ofInt a2)] w rII := by
  obtain ⟨σ, sz, kp, hT, hM, hI⟩ := hJ
  obtain ⟨mc, ms, r, w1, ⟨⟨τ, hT1, hI1, hK1, hx1, hm1, hs1⟩, v, rfl⟩, run1⟩ := k_book hT 8 a1 a2 ha1 ha2
  have hM1 := mi_keep hM hK1 hT1.2.2.2.2
  obtain ⟨mc2, ms2, r2, w2, ⟨⟨rfl, rfl⟩, hS, hM2, v2, rfl⟩, run2⟩ := q_book hM1 8 a1 a2 ha1 ha2
  exact pair_mk hT run1 run2 hT1 (hI1 _ _ hI) hM1 hS hM2 rfl (fun _ _ => rfl) hm1 (by omega) ⟨v, v2, rfl, rfl⟩
theorem pr_word {w : zW} (hJ : J w) (a1 a2 : Int) (ha1 : -2147483648 ≤ a1 ∧ a1 ≤ 2147483647) (ha2 : -2147483648 ≤ a2 ∧ a2 ≤ 2147483647) : PAIR iX11_word iX12_word [.int (Int32.ofInt a1), .int (Int32.ofInt a2)] w rII := by
  obtain ⟨σ, sz, kp, hT, hM, hI⟩ := hJ
  obtain ⟨mc, ms, r, w1, ⟨⟨τ, hT1, hI1, hK1, hx1, hm1, hs1⟩, v, rfl⟩, run1⟩ := k_word hT 8 a1 a2 ha1 ha2
  have hM1 := mi_keep hM hK1 hT1.2.2.2.2
  obtain ⟨mc2, ms2, r2, w2, ⟨⟨rfl, rfl⟩, hS, hM2, v2, rfl⟩, run2⟩ := q_word hM1 8 a1 a2 ha1 ha2
  exact pair_mk hT run1 run2 hT1 (hI1 _ _ hI) hM1 hS hM2 rfl (fun _ _ => rfl) hm1 (by omega) ⟨v, v2, rfl, rfl⟩
theorem pr_drift {w : zW} (hJ : J w) (a1 a2 : Int) (ha1 : -2147483648 ≤ a1 ∧ a1 ≤ 2147483647) (ha2 : -2147483648 ≤ a2 ∧ a2 ≤ 2147483647) : PAIR iX11_drift iX12_drift [.int (Int32.ofInt a1), .int (Int32.ofInt a2)] w rII := by
  obtain ⟨σ, sz, kp, hT, hM, hI⟩ := hJ
  obtain ⟨mc, ms, r, w1, ⟨⟨τ, hT1, hI1, hK1, hx1, hm1, hs1⟩, v, rfl⟩, run1⟩ := k_drift hT 8 a1 a2 ha1 ha2
  have hM1 := mi_keep hM hK1 hT1.2.2.2.2
  obtain ⟨mc2, ms2, r2, w2, ⟨⟨rfl, rfl⟩, hS, hM2, v2, rfl⟩, run2⟩ := q_drift hM1 7 a1 a2 ha1 ha2
  exact pair_mk hT run1 run2 hT1 (hI1 _ _ hI) hM1 hS hM2 rfl (fun _ _ => rfl) hm1 (by omega) ⟨v, v2, rfl, rfl⟩
theorem pr_read {w : zW} (hJ : J w) (a1 a2 a3 : Int) (ha1 : -2147483648 ≤ a1 ∧ a1 ≤ 2147483647) (ha2 : -2147483648 ≤ a2 ∧ a2 ≤ 2147483647) (ha3 : -2147483648 ≤ a3 ∧ a3 ≤ 2147483647) : PAIR iX11_read iX12_read [.int (Int32.ofInt a1), .int (Int32.ofInt a2), .int (Int32.ofInt a3)] w rII := by
  obtain ⟨σ, sz, kp, hT, hM, hI⟩ := hJ
  obtain ⟨mc, ms, r, w1, ⟨⟨τ, hT1, hI1, hK1, hx1, hm1, hs1⟩, v, rfl⟩, run1⟩ := k_read hT 8 a1 a2 a3 ha1 ha2 ha3
  have hM1 := mi_keep hM hK1 hT1.2.2.2.2
  obtain ⟨mc2, ms2, r2, w2, ⟨⟨rfl, rfl⟩, hS, hM2, v2, rfl⟩, run2⟩ := q_read hM1 7 a1 a2 a3 ha1 ha2 ha3
  exact pair_mk hT run1 run2 hT1 (hI1 _ _ hI) hM1 hS hM2 rfl (fun _ _ => rfl) hm1 (by omega) ⟨v, v2, rfl, rfl⟩
theorem pr_deed {w : zW} (hJ : J w) (a1 a2 a3 : Int) (ha1 : -2147483648 ≤ a1 ∧ a1 ≤ 2147483647) (ha2 : -2147483648 ≤ a2 ∧ a2 ≤ 2147483647) (ha3 : -2147483648 ≤ a3 ∧ a3 ≤ 2147483647) : PAIR iX11_deed iX12_deed [.int (Int32.ofInt a1), .int (Int32.ofInt a2), .int (Int32.ofInt a3)] w rII := by
  obtain ⟨σ, sz, kp, hT, hM, hI⟩ := hJ
  obtain ⟨mc, ms, r, w1, ⟨⟨τ, hT1, hI1, hK1, hx1, hm1, hs1⟩, v, rfl⟩, run1⟩ := k_deed hT 8 a1 a2 a3 ha1 ha2 ha3
  have hM1 := mi_keep hM hK1 hT1.2.2.2.2
  obtain ⟨mc2, ms2, r2, w2, ⟨⟨rfl, rfl⟩, hS, hM2, v2, rfl⟩, run2⟩ := q_deed hM1 8 a1 a2 a3 ha1 ha2 ha3
  exact pair_mk hT run1 run2 hT1 (hI1 _ _ hI) hM1 hS hM2 rfl (fun _ _ => rfl) hm1 (by omega) ⟨v, v2, rfl, rfl⟩
theorem pr_stop {w : zW} (hJ : J w) (a1 a2 : Int) (ha1 : -2147483648 ≤ a1 ∧ a1 ≤ 2147483647) (ha2 : -2147483648 ≤ a2 ∧ a2 ≤ 2147483647) : PAIR iX11_stop iX12_stop [.int (Int32.ofInt a1), .int (Int32.ofInt a2)] w rII := by
  obtain ⟨σ, sz, kp, hT, hM, hI⟩ := hJ
  obtain ⟨mc, ms, r, w1, ⟨⟨τ, hT1, hI1, hK1, hx1, hm1, hs1⟩, v, rfl⟩, run1⟩ := k_stop hT 5 a1 a2 ha1 ha2
  have hM1 := mi_keep hM hK1 hT1.2.2.2.2
  obtain ⟨mc2, ms2, r2, w2, ⟨⟨rfl, rfl⟩, hS, hM2, v2, rfl⟩, run2⟩ := q_stop hM1 4 a1 a2 ha1 ha2
  exact pair_mk hT run1 run2 hT1 (hI1 _ _ hI) hM1 hS hM2 rfl (fun _ _ => rfl) hm1 (by omega) ⟨v, v2, rfl, rfl⟩
theorem pr_state {w : zW} (hJ : J w) (a1 a2 a3 a4 : Int) (ha1 : -2147483648 ≤ a1 ∧ a1 ≤ 2147483647) (ha2 : -2147483648 ≤ a2 ∧ a2 ≤ 2147483647) (ha3 : -2147483648 ≤ a3 ∧ a3 ≤ 2147483647) (ha4 : -2147483648 ≤ a4 ∧ a4 ≤ 2147483647) : PAIR iX11_state iX12_state [.int (Int32.ofInt a1), .int (Int32.ofInt a2), .int (Int32.ofInt a3), .int (Int32.ofInt a4)] w rII := by
  obtain ⟨σ, sz, kp, hT, hM, hI⟩ := hJ
  obtain ⟨mc, ms, r, w1, ⟨⟨τ, hT1, hI1, hK1, hx1, hm1, hs1⟩, v, rfl⟩, run1⟩ := k_state hT 5 a1 a2 a3 a4 ha1 ha2 ha3 ha4
  have hM1 := mi_keep hM hK1 hT1.2.2.2.2
  obtain ⟨mc2, ms2, r2, w2, ⟨⟨rfl, rfl⟩, hS, hM2, v2, rfl⟩, run2⟩ := q_state hM1 4 a1 a2 a3 a4 ha1 ha2 ha3 ha4
  exact pair_mk hT run1 run2 hT1 (hI1 _ _ hI) hM1 hS hM2 rfl (fun _ _ => rfl) hm1 (by omega) ⟨v, v2, rfl, rfl⟩
theorem pr_making {w : zW} (hJ : J w) (a1 a2 a3 a4 : Int) (ha1 : -2147483648 ≤ a1 ∧ a1 ≤ 2147483647) (ha2 : -2147483648 ≤ a2 ∧ a2 ≤ 2147483647) (ha3 : -2147483648 ≤ a3 ∧ a3 ≤ 2147483647) (ha4 : -2147483648 ≤ a4 ∧ a4 ≤ 2147483647) : PAIR iX11_making iX12_making [.int (Int32.ofInt a1), .int (Int32.ofInt a2), .int (Int32.ofInt a3), .int (Int32.ofInt a4)] w rII := by
  obtain ⟨σ, sz, kp, hT, hM, hI⟩ := hJ
  obtain ⟨mc, ms, r, w1, ⟨⟨τ, hT1, hI1, hK1, hx1, hm1, hs1⟩, v, rfl⟩, run1⟩ := k_making hT 6 a1 a2 a3 a4 ha1 ha2 ha3 ha4
  have hM1 := mi_keep hM hK1 hT1.2.2.2.2
  obtain ⟨mc2, ms2, r2, w2, ⟨⟨rfl, rfl⟩, hS, hM2, v2, rfl⟩, run2⟩ := q_making hM1 5 a1 a2 a3 a4 ha1 ha2 ha3 ha4
  exact pair_mk hT run1 run2 hT1 (hI1 _ _ hI) hM1 hS hM2 rfl (fun _ _ => rfl) hm1 (by omega) ⟨v, v2, rfl, rfl⟩
theorem pr_ring {w : zW} (hJ : J w) (a1 a2 : Int) (ha1 : -2147483648 ≤ a1 ∧ a1 ≤ 2147483647) (ha2 : -2147483648 ≤ a2 ∧ a2 ≤ 2147483647) : PAIR iX11_ring iX12_ring [.int (Int32.ofInt a1), .int (Int32.ofInt a2)] w rII := by
  obtain ⟨σ, sz, kp, hT, hM, hI⟩ := hJ
  obtain ⟨mc, ms, r, w1, ⟨⟨τ, hT1, hI1, hK1, hx1, hm1, hs1⟩, v, rfl⟩, run1⟩ := k_ring hT 6 a1 a2 ha1 ha2
  have hM1 := mi_keep hM hK1 hT1.2.2.2.2
  obtain ⟨mc2, ms2, r2, w2, ⟨⟨rfl, rfl⟩, hS, hM2, v2, rfl⟩, run2⟩ := q_ring hM1 5 a1 a2 ha1 ha2
  exact pair_mk hT run1 run2 hT1 (hI1 _ _ hI) hM1 hS hM2 rfl (fun _ _ => rfl) hm1 (by omega) ⟨v, v2, rfl, rfl⟩
theorem pr_reach {w : zW} (hJ : J w) (a1 a2 a3 : Int) (ha1 : -2147483648 ≤ a1 ∧ a1 ≤ 2147483647) (ha2 : -2147483648 ≤ a2 ∧ a2 ≤ 2147483647) (ha3 : -2147483648 ≤ a3 ∧ a3 ≤ 2147483647) : PAIR iX11_reach iX12_reach [.int (Int32.ofInt a1), .int (Int32.ofInt a2), .int (Int32.ofInt a3)] w rII := by
  obtain ⟨σ, sz, kp, hT, hM, hI⟩ := hJ
  obtain ⟨mc, ms, r, w1, ⟨⟨τ, hT1, hI1, hK1, hx1, hm1, hs1⟩, v, rfl⟩, run1⟩ := k_reach hT 6 a1 a2 a3 ha1 ha2 ha3
  have hM1 := mi_keep hM hK1 hT1.2.2.2.2
  obtain ⟨mc2, ms2, r2, w2, ⟨⟨rfl, rfl⟩, hS, hM2, v2, rfl⟩, run2⟩ := q_reach hM1 5 a1 a2 a3 ha1 ha2 ha3
  exact pair_mk hT run1 run2 hT1 (hI1 _ _ hI) hM1 hS hM2 rfl (fun _ _ => rfl) hm1 (by omega) ⟨v, v2, rfl, rfl⟩
theorem pr_sound {w : zW} (hJ : J w) (a1 a2 : Int) (ha1 : -2147483648 ≤ a1 ∧ a1 ≤ 2147483647) (ha2 : -2147483648 ≤ a2 ∧ a2 ≤ 2147483647) : PAIR iX11_sound iX12_sound [.int (Int32.ofInt a1), .int (Int32.ofInt a2)] w rII := by
  obtain ⟨σ, sz, kp, hT, hM, hI⟩ := hJ
  obtain ⟨mc, ms, r, w1, ⟨⟨τ, hT1, hI1, hK1, hx1, hm1, hs1⟩, v, rfl⟩, run1⟩ := k_sound hT 5 a1 a2 ha1 ha2
  have hM1 := mi_keep hM hK1 hT1.2.2.2.2
  obtain ⟨mc2, ms2, r2, w2, ⟨⟨rfl, rfl⟩, hS, hM2, v2, rfl⟩, run2⟩ := q_sound hM1 6 a1 a2 ha1 ha2
  exact pair_mk hT run1 run2 hT1 (hI1 _ _ hI) hM1 hS hM2 rfl (fun _ _ => rfl) hm1 (by omega) ⟨v, v2, rfl, rfl⟩
theorem pr_like {w : zW} (hJ : J w) (a1 a2 a3 : Int) (ha1 : -2147483648 ≤ a1 ∧ a1 ≤ 2147483647) (ha2 : -2147483648 ≤ a2 ∧ a2 ≤ 2147483647) (ha3 : -2147483648 ≤ a3 ∧ a3 ≤ 2147483647) : PAIR iX11_like iX12_like [.int (Int32.ofInt a1), .int (Int32.ofInt a2), .int (Int32.ofInt a3)] w rII := by
  obtain ⟨σ, sz, kp, hT, hM, hI⟩ := hJ
  obtain ⟨mc, ms, r, w1, ⟨⟨τ, hT1, hI1, hK1, hx1, hm1, hs1⟩, v, rfl⟩, run1⟩ := k_like hT 6 a1 a2 a3 ha1 ha2 ha3
  have hM1 := mi_keep hM hK1 hT1.2.2.2.2
  obtain ⟨mc2, ms2, r2, w2, ⟨⟨rfl, rfl⟩, hS, hM2, v2, rfl⟩, run2⟩ := q_like hM1 6 a1 a2 a3 ha1 ha2 ha3
  exact pair_mk hT run1 run2 hT1 (hI1 _ _ hI) hM1 hS hM2 rfl (fun _ _ => rfl) hm1 (by omega) ⟨v, v2, rfl, rfl⟩
theorem pr_orbits {w : zW} (hJ : J w) (a1 a2 a3 : Int) (ha1 : -2147483648 ≤ a1 ∧ a1 ≤ 2147483647) (ha2 : -2147483648 ≤ a2 ∧ a2 ≤ 2147483647) (ha3 : -2147483648 ≤ a3 ∧ a3 ≤ 2147483647) : PAIR iX11_orbits iX12_orbits [.int (Int32.ofInt a1), .int (Int32.ofInt a2), .int (Int32.ofInt a3)] w rII := by
  obtain ⟨σ, sz, kp, hT, hM, hI⟩ := hJ
  obtain ⟨mc, ms, r, w1, ⟨⟨τ, hT1, hI1, hK1, hx1, hm1, hs1⟩, v, rfl⟩, run1⟩ := k_orbits hT 5 a1 a2 a3 ha1 ha2 ha3
  have hM1 := mi_keep hM hK1 hT1.2.2.2.2
  obtain ⟨mc2, ms2, r2, w2, ⟨⟨rfl, rfl⟩, hS, hM2, v2, rfl⟩, run2⟩ := q_orbits hM1 6 a1 a2 a3 ha1 ha2 ha3
  exact pair_mk hT run1 run2 hT1 (hI1 _ _ hI) hM1 hS hM2 rfl (fun _ _ => rfl) hm1 (by omega) ⟨v, v2, rfl, rfl⟩
theorem pr_rota {w : zW} (hJ : J w) (a1 a2 a3 : Int) (ha1 : -2147483648 ≤ a1 ∧ a1 ≤ 2147483647) (ha2 : -2147483648 ≤ a2 ∧ a2 ≤ 2147483647) (ha3 : -2147483648 ≤ a3 ∧ a3 ≤ 2147483647) : PAIR iX11_rota iX12_rota [.int (Int32.ofInt a1), .int (Int32.ofInt a2), .int (Int32.ofInt a3)] w rII := by
  obtain ⟨σ, sz, kp, hT, hM, hI⟩ := hJ
  obtain ⟨mc, ms, r, w1, ⟨⟨τ, hT1, hI1, hK1, hx1, hm1, hs1⟩, v, rfl⟩, run1⟩ := k_rota hT 5 a1 a2 a3 ha1 ha2 ha3
  have hM1 := mi_keep hM hK1 hT1.2.2.2.2
  obtain ⟨mc2, ms2, r2, w2, ⟨⟨rfl, rfl⟩, hS, hM2, v2, rfl⟩, run2⟩ := q_rota hM1 6 a1 a2 a3 ha1 ha2 ha3
  exact pair_mk hT run1 run2 hT1 (hI1 _ _ hI) hM1 hS hM2 rfl (fun _ _ => rfl) hm1 (by omega) ⟨v, v2, rfl, rfl⟩
theorem pr_mean {w : zW} (hJ : J w) (a1 a2 a3 : Int) (ha1 : -2147483648 ≤ a1 ∧ a1 ≤ 2147483647) (ha2 : -2147483648 ≤ a2 ∧ a2 ≤ 2147483647) (ha3 : -2147483648 ≤ a3 ∧ a3 ≤ 2147483647) : PAIR iX11_mean iX12_mean [.int (Int32.ofInt a1), .int (Int32.ofInt a2), .int (Int32.ofInt a3)] w rLL := by
  obtain ⟨σ, sz, kp, hT, hM, hI⟩ := hJ
  obtain ⟨mc, ms, r, w1, ⟨⟨τ, hT1, hI1, hK1, hx1, hm1, hs1⟩, v, rfl⟩, run1⟩ := k_mean hT 5 a1 a2 a3 ha1 ha2 ha3
  have hM1 := mi_keep hM hK1 hT1.2.2.2.2
  obtain ⟨mc2, ms2, r2, w2, ⟨⟨rfl, rfl⟩, hS, hM2, v2, rfl⟩, run2⟩ := q_mean hM1 6 a1 a2 a3 ha1 ha2 ha3
  exact pair_mk hT run1 run2 hT1 (hI1 _ _ hI) hM1 hS hM2 rfl (fun _ _ => rfl) hm1 (by omega) ⟨v, v2, rfl, rfl⟩
theorem pr_elders {w : zW} (hJ : J w) (a1 a2 a3 a4 : Int) (ha1 : -2147483648 ≤ a1 ∧ a1 ≤ 2147483647) (ha2 : -2147483648 ≤ a2 ∧ a2 ≤ 2147483647) (ha3 : -2147483648 ≤ a3 ∧ a3 ≤ 2147483647) (ha4 : -2147483648 ≤ a4 ∧ a4 ≤ 2147483647) : PAIR iX11_elders iX12_elders [.int (Int32.ofInt a1), .int (Int32.ofInt a2), .int (Int32.ofInt a3), .int (Int32.ofInt a4)] w rII := by
  obtain ⟨σ, sz, kp, hT, hM, hI⟩ := hJ
  obtain ⟨mc, ms, r, w1, ⟨⟨τ, hT1, hI1, hK1, hx1, hm1, hs1⟩, v, rfl⟩, run1⟩ := k_elders hT 5 a1 a2 a3 a4 ha1 ha2 ha3 ha4
  have hM1 := mi_keep hM hK1 hT1.2.2.2.2
  obtain ⟨mc2, ms2, r2, w2, ⟨⟨rfl, rfl⟩, hS, hM2, v2, rfl⟩, run2⟩ := q_elders hM1 5 a1 a2 a3 a4 ha1 ha2 ha3 ha4
  exact pair_mk hT run1 run2 hT1 (hI1 _ _ hI) hM1 hS hM2 rfl (fun _ _ => rfl) hm1 (by omega) ⟨v, v2, rfl, rfl⟩
theorem pr_play {w : zW} (hJ : J w) (a1 a2 a3 a4 a5 a6 : Int) (ha1 : -2147483648 ≤ a1 ∧ a1 ≤ 2147483647) (ha2 : -2147483648 ≤ a2 ∧ a2 ≤ 2147483647) (ha3 : -2147483648 ≤ a3 ∧ a3 ≤ 2147483647) (ha4 : -2147483648 ≤ a4 ∧ a4 ≤ 2147483647) (ha5 : -2147483648 ≤ a5 ∧ a5 ≤ 2147483647) (ha6 : -2147483648 ≤ a6 ∧ a6 ≤ 2147483647) : PAIR iX11_play iX12_play_ [.int (Int32.ofInt a1), .int (Int32.ofInt a2), .int (Int32.ofInt a3), .int (Int32.ofInt a4), .int (Int32.ofInt a5), .int (Int32.ofInt a6)] w rII := by
  obtain ⟨σ, sz, kp, hT, hM, hI⟩ := hJ
  obtain ⟨mc, ms, r, w1, ⟨⟨τ, hT1, hI1, hK1, hx1, hm1, hs1⟩, v, rfl⟩, run1⟩ := k_play hT 5 a1 a2 a3 a4 a5 a6 ha1 ha2 ha3 ha4 ha5 ha6
  have hM1 := mi_keep hM hK1 hT1.2.2.2.2
  obtain ⟨mc2, ms2, r2, w2, ⟨⟨rfl, rfl⟩, hS, hM2, v2, rfl⟩, run2⟩ := q_play hM1 6 a1 a2 a3 a4 a5 a6 ha1 ha2 ha3 ha4 ha5 ha6
  exact pair_mk hT run1 run2 hT1 (hI1 _ _ hI) hM1 hS hM2 rfl (fun _ _ => rfl) hm1 (by omega) ⟨v, v2, rfl, rfl⟩
theorem pr_fact {w : zW} (hJ : J w) (a1 a2 a3 : Int) (ha1 : -2147483648 ≤ a1 ∧ a1 ≤ 2147483647) (ha2 : -2147483648 ≤ a2 ∧ a2 ≤ 2147483647) (ha3 : -2147483648 ≤ a3 ∧ a3 ≤ 2147483647) : PAIR iX11_fact iX12_fact [.int (Int32.ofInt a1), .int (Int32.ofInt a2), .int (Int32.ofInt a3)] w rII := by
  obtain ⟨σ, sz, kp, hT, hM, hI⟩ := hJ
  obtain ⟨mc, ms, r, w1, ⟨⟨τ, hT1, hI1, hK1, hx1, hm1, hs1⟩, v, rfl⟩, run1⟩ := k_fact hT 8 a1 a2 a3 ha1 ha2 ha3
  have hM1 := mi_keep hM hK1 hT1.2.2.2.2
  obtain ⟨mc2, ms2, r2, w2, ⟨⟨rfl, rfl⟩, hS, hM2, v2, rfl⟩, run2⟩ := q_fact hM1 8 a1 a2 a3 ha1 ha2 ha3
  exact pair_mk hT run1 run2 hT1 (hI1 _ _ hI) hM1 hS hM2 rfl (fun _ _ => rfl) hm1 (by omega) ⟨v, v2, rfl, rfl⟩
theorem pr_fits {w : zW} (hJ : J w) (a1 a2 a3 a4 : Int) (ha1 : -2147483648 ≤ a1 ∧ a1 ≤ 2147483647) (ha2 : -2147483648 ≤ a2 ∧ a2 ≤ 2147483647) (ha3 : -2147483648 ≤ a3 ∧ a3 ≤ 2147483647) (ha4 : -2147483648 ≤ a4 ∧ a4 ≤ 2147483647) : PAIR iX11_fits iX12_fits [.int (Int32.ofInt a1), .int (Int32.ofInt a2), .int (Int32.ofInt a3), .int (Int32.ofInt a4)] w rII := by
  obtain ⟨σ, sz, kp, hT, hM, hI⟩ := hJ
  obtain ⟨mc, ms, r, w1, ⟨⟨τ, hT1, hI1, hK1, hx1, hm1, hs1⟩, v, rfl⟩, run1⟩ := k_fits hT 5 a1 a2 a3 a4 ha1 ha2 ha3 ha4
  have hM1 := mi_keep hM hK1 hT1.2.2.2.2
  obtain ⟨mc2, ms2, r2, w2, ⟨⟨rfl, rfl⟩, hS, hM2, v2, rfl⟩, run2⟩ := q_fits hM1 5 a1 a2 a3 a4 ha1 ha2 ha3 ha4
  exact pair_mk hT run1 run2 hT1 (hI1 _ _ hI) hM1 hS hM2 rfl (fun _ _ => rfl) hm1 (by omega) ⟨v, v2, rfl, rfl⟩
theorem pr_sure {w : zW} (hJ : J w) (a1 a2 a3 a4 : Int) (ha1 : -2147483648 ≤ a1 ∧ a1 ≤ 2147483647) (ha2 : -2147483648 ≤ a2 ∧ a2 ≤ 2147483647) (ha3 : -2147483648 ≤ a3 ∧ a3 ≤ 2147483647) (ha4 : -2147483648 ≤ a4 ∧ a4 ≤ 2147483647) : PAIR iX11_sure iX12_sure [.int (Int32.ofInt a1), .int (Int32.ofInt a2), .int (Int32.ofInt a3), .int (Int32.ofInt a4)] w rII := by
  obtain ⟨σ, sz, kp, hT, hM, hI⟩ := hJ
  obtain ⟨mc, ms, r, w1, ⟨⟨τ, hT1, hI1, hK1, hx1, hm1, hs1⟩, v, rfl⟩, run1⟩ := k_sure hT 5 a1 a2 a3 a4 ha1 ha2 ha3 ha4
  have hM1 := mi_keep hM hK1 hT1.2.2.2.2
  obtain ⟨mc2, ms2, r2, w2, ⟨⟨rfl, rfl⟩, hS, hM2, v2, rfl⟩, run2⟩ := q_sure hM1 5 a1 a2 a3 a4 ha1 ha2 ha3 ha4
  exact pair_mk hT run1 run2 hT1 (hI1 _ _ hI) hM1 hS hM2 rfl (fun _ _ => rfl) hm1 (by omega) ⟨v, v2, rfl, rfl⟩
theorem pr_drawn {w : zW} (hJ : J w) (a1 a2 a3 a4 : Int) (ha1 : -2147483648 ≤ a1 ∧ a1 ≤ 2147483647) (ha2 : -2147483648 ≤ a2 ∧ a2 ≤ 2147483647) (ha3 : -2147483648 ≤ a3 ∧ a3 ≤ 2147483647) (ha4 : -2147483648 ≤ a4 ∧ a4 ≤ 2147483647) : PAIR iX11_drawn iX12_drawn [.int (Int32.ofInt a1), .int (Int32.ofInt a2), .int (Int32.ofInt a3), .int (Int32.ofInt a4)] w rII := by
  obtain ⟨σ, sz, kp, hT, hM, hI⟩ := hJ
  obtain ⟨mc, ms, r, w1, ⟨⟨τ, hT1, hI1, hK1, hx1, hm1, hs1⟩, v, rfl⟩, run1⟩ := k_drawn hT 5 a1 a2 a3 a4 ha1 ha2 ha3 ha4
  have hM1 := mi_keep hM hK1 hT1.2.2.2.2
  obtain ⟨mc2, ms2, r2, w2, ⟨⟨rfl, rfl⟩, hS, hM2, v2, rfl⟩, run2⟩ := q_drawn hM1 5 a1 a2 a3 a4 ha1 ha2 ha3 ha4
  exact pair_mk hT run1 run2 hT1 (hI1 _ _ hI) hM1 hS hM2 rfl (fun _ _ => rfl) hm1 (by omega) ⟨v, v2, rfl, rfl⟩
theorem pr_kinship {w : zW} (hJ : J w) (a1 a2 a3 : Int) (ha1 : -2147483648 ≤ a1 ∧ a1 ≤ 2147483647) (ha2 : -2147483648 ≤ a2 ∧ a2 ≤ 2147483647) (ha3 : -2147483648 ≤ a3 ∧ a3 ≤ 2147483647) : PAIR iX11_kinship iX12_kinship [.int (Int32.ofInt a1), .int (Int32.ofInt a2), .int (Int32.ofInt a3)] w rII := by
  obtain ⟨σ, sz, kp, hT, hM, hI⟩ := hJ
  obtain ⟨mc, ms, r, w1, ⟨⟨τ, hT1, hI1, hK1, hx1, hm1, hs1⟩, v, rfl⟩, run1⟩ := k_kinship hT 8 a1 a2 a3 ha1 ha2 ha3
  have hM1 := mi_keep hM hK1 hT1.2.2.2.2
  obtain ⟨mc2, ms2, r2, w2, ⟨⟨rfl, rfl⟩, hS, hM2, v2, rfl⟩, run2⟩ := q_kinship hM1 8 a1 a2 a3 ha1 ha2 ha3
  exact pair_mk hT run1 run2 hT1 (hI1 _ _ hI) hM1 hS hM2 rfl (fun _ _ => rfl) hm1 (by omega) ⟨v, v2, rfl, rfl⟩
theorem pr_shared {w : zW} (hJ : J w) (a1 a2 a3 : Int) (ha1 : -2147483648 ≤ a1 ∧ a1 ≤ 2147483647) (ha2 : -2147483648 ≤ a2 ∧ a2 ≤ 2147483647) (ha3 : -2147483648 ≤ a3 ∧ a3 ≤ 2147483647) : PAIR iX11_shared iX12_shared [.int (Int32.ofInt a1), .int (Int32.ofInt a2), .int (Int32.ofInt a3)] w rII := by
  obtain ⟨σ, sz, kp, hT, hM, hI⟩ := hJ
  obtain ⟨mc, ms, r, w1, ⟨⟨τ, hT1, hI1, hK1, hx1, hm1, hs1⟩, v, rfl⟩, run1⟩ := k_shared hT 6 a1 a2 a3 ha1 ha2 ha3
  have hM1 := mi_keep hM hK1 hT1.2.2.2.2
  obtain ⟨mc2, ms2, r2, w2, ⟨⟨rfl, rfl⟩, hS, hM2, v2, rfl⟩, run2⟩ := q_shared hM1 6 a1 a2 a3 ha1 ha2 ha3
  exact pair_mk hT run1 run2 hT1 (hI1 _ _ hI) hM1 hS hM2 rfl (fun _ _ => rfl) hm1 (by omega) ⟨v, v2, rfl, rfl⟩
theorem pr_joined {w : zW} (hJ : J w) (a1 a2 a3 a4 : Int) (ha1 : -2147483648 ≤ a1 ∧ a1 ≤ 2147483647) (ha2 : -2147483648 ≤ a2 ∧ a2 ≤ 2147483647) (ha3 : -2147483648 ≤ a3 ∧ a3 ≤ 2147483647) (ha4 : -2147483648 ≤ a4 ∧ a4 ≤ 2147483647) : PAIR iX11_joined iX12_joined [.int (Int32.ofInt a1), .int (Int32.ofInt a2), .int (Int32.ofInt a3), .int (Int32.ofInt a4)] w rII := by
  obtain ⟨σ, sz, kp, hT, hM, hI⟩ := hJ
  obtain ⟨mc, ms, r, w1, ⟨⟨τ, hT1, hI1, hK1, hx1, hm1, hs1⟩, v, rfl⟩, run1⟩ := k_joined hT 6 a1 a2 a3 a4 ha1 ha2 ha3 ha4
  have hM1 := mi_keep hM hK1 hT1.2.2.2.2
  obtain ⟨mc2, ms2, r2, w2, ⟨⟨rfl, rfl⟩, hS, hM2, v2, rfl⟩, run2⟩ := q_joined hM1 5 a1 a2 a3 a4 ha1 ha2 ha3 ha4
  exact pair_mk hT run1 run2 hT1 (hI1 _ _ hI) hM1 hS hM2 rfl (fun _ _ => rfl) hm1 (by omega) ⟨v, v2, rfl, rfl⟩
theorem pr_nearest {w : zW} (hJ : J w) (a1 a2 a3 a4 : Int) (ha1 : -2147483648 ≤ a1 ∧ a1 ≤ 2147483647) (ha2 : -2147483648 ≤ a2 ∧ a2 ≤ 2147483647) (ha3 : -2147483648 ≤ a3 ∧ a3 ≤ 2147483647) (ha4 : -2147483648 ≤ a4 ∧ a4 ≤ 2147483647) : PAIR iX11_nearest iX12_nearest [.int (Int32.ofInt a1), .int (Int32.ofInt a2), .int (Int32.ofInt a3), .int (Int32.ofInt a4)] w rII := by
  obtain ⟨σ, sz, kp, hT, hM, hI⟩ := hJ
  obtain ⟨mc, ms, r, w1, ⟨⟨τ, hT1, hI1, hK1, hx1, hm1, hs1⟩, v, rfl⟩, run1⟩ := k_nearest hT 6 a1 a2 a3 a4 ha1 ha2 ha3 ha4
  have hM1 := mi_keep hM hK1 hT1.2.2.2.2
  obtain ⟨mc2, ms2, r2, w2, ⟨⟨rfl, rfl⟩, hS, hM2, v2, rfl⟩, run2⟩ := q_nearest hM1 5 a1 a2 a3 a4 ha1 ha2 ha3 ha4
  exact pair_mk hT run1 run2 hT1 (hI1 _ _ hI) hM1 hS hM2 rfl (fun _ _ => rfl) hm1 (by omega) ⟨v, v2, rfl, rfl⟩
theorem pr_settles {w : zW} (hJ : J w) (a1 a2 a3 : Int) (ha1 : -2147483648 ≤ a1 ∧ a1 ≤ 2147483647) (ha2 : -2147483648 ≤ a2 ∧ a2 ≤ 2147483647) (ha3 : -2147483648 ≤ a3 ∧ a3 ≤ 2147483647) : PAIR iX11_settles iX12_settles [.int (Int32.ofInt a1), .int (Int32.ofInt a2), .int (Int32.ofInt a3)] w rII := by
  obtain ⟨σ, sz, kp, hT, hM, hI⟩ := hJ
  obtain ⟨mc, ms, r, w1, ⟨⟨τ, hT1, hI1, hK1, hx1, hm1, hs1⟩, v, rfl⟩, run1⟩ := k_settles hT 5 a1 a2 a3 ha1 ha2 ha3
  have hM1 := mi_keep hM hK1 hT1.2.2.2.2
  obtain ⟨mc2, ms2, r2, w2, ⟨⟨rfl, rfl⟩, hS, hM2, v2, rfl⟩, run2⟩ := q_settles hM1 5 a1 a2 a3 ha1 ha2 ha3
  exact pair_mk hT run1 run2 hT1 (hI1 _ _ hI) hM1 hS hM2 rfl (fun _ _ => rfl) hm1 (by omega) ⟨v, v2, rfl, rfl⟩
theorem pr_unmade {w : zW} (hJ : J w) (a1 a2 : Int) (ha1 : -2147483648 ≤ a1 ∧ a1 ≤ 2147483647) (ha2 : -2147483648 ≤ a2 ∧ a2 ≤ 2147483647) : PAIR iX11_unmade iX12_unmade [.int (Int32.ofInt a1), .int (Int32.ofInt a2)] w rII := by
  obtain ⟨σ, sz, kp, hT, hM, hI⟩ := hJ
  obtain ⟨mc, ms, r, w1, ⟨⟨τ, hT1, hI1, hK1, hx1, hm1, hs1⟩, v, rfl⟩, run1⟩ := k_unmade hT 6 a1 a2 ha1 ha2
  have hM1 := mi_keep hM hK1 hT1.2.2.2.2
  obtain ⟨mc2, ms2, r2, w2, ⟨⟨rfl, rfl⟩, hS, hM2, v2, rfl⟩, run2⟩ := q_unmade hM1 5 a1 a2 ha1 ha2
  exact pair_mk hT run1 run2 hT1 (hI1 _ _ hI) hM1 hS hM2 rfl (fun _ _ => rfl) hm1 (by omega) ⟨v, v2, rfl, rfl⟩
theorem pr_silenced {w : zW} (hJ : J w) (a1 a2 a3 : Int) (ha1 : -2147483648 ≤ a1 ∧ a1 ≤ 2147483647) (ha2 : -2147483648 ≤ a2 ∧ a2 ≤ 2147483647) (ha3 : -2147483648 ≤ a3 ∧ a3 ≤ 2147483647) : PAIR iX11_silenced iX12_silenced [.int (Int32.ofInt a1), .int (Int32.ofInt a2), .int (Int32.ofInt a3)] w rII := by
  obtain ⟨σ, sz, kp, hT, hM, hI⟩ := hJ
  obtain ⟨mc, ms, r, w1, ⟨⟨τ, hT1, hI1, hK1, hx1, hm1, hs1⟩, v, rfl⟩, run1⟩ := k_silenced hT 6 a1 a2 a3 ha1 ha2 ha3
  have hM1 := mi_keep hM hK1 hT1.2.2.2.2
  obtain ⟨mc2, ms2, r2, w2, ⟨⟨rfl, rfl⟩, hS, hM2, v2, rfl⟩, run2⟩ := q_silenced hM1 5 a1 a2 a3 ha1 ha2 ha3
  exact pair_mk hT run1 run2 hT1 (hI1 _ _ hI) hM1 hS hM2 rfl (fun _ _ => rfl) hm1 (by omega) ⟨v, v2, rfl, rfl⟩
theorem pr_circles {w : zW} (hJ : J w) (a1 a2 : Int) (ha1 : -2147483648 ≤ a1 ∧ a1 ≤ 2147483647) (ha2 : -2147483648 ≤ a2 ∧ a2 ≤ 2147483647) : PAIR iX11_circles iX12_circles [.int (Int32.ofInt a1), .int (Int32.ofInt a2)] w rII := by
  obtain ⟨σ, sz, kp, hT, hM, hI⟩ := hJ
  obtain ⟨mc, ms, r, w1, ⟨⟨τ, hT1, hI1, hK1, hx1, hm1, hs1⟩, v, rfl⟩, run1⟩ := k_circles hT 4 a1 a2 ha1 ha2
  have hM1 := mi_keep hM hK1 hT1.2.2.2.2
  obtain ⟨mc2, ms2, r2, w2, ⟨⟨rfl, rfl⟩, hS, hM2, v2, rfl⟩, run2⟩ := q_circles hM1 5 a1 a2 ha1 ha2
  exact pair_mk hT run1 run2 hT1 (hI1 _ _ hI) hM1 hS hM2 rfl (fun _ _ => rfl) hm1 (by omega) ⟨v, v2, rfl, rfl⟩
theorem pr_count {w : zW} (hJ : J w) (a1 : Int) (ha1 : -2147483648 ≤ a1 ∧ a1 ≤ 2147483647) : PAIR iX11_count iX12_count [.int (Int32.ofInt a1)] w rII := by
  obtain ⟨σ, sz, kp, hT, hM, hI⟩ := hJ
  obtain ⟨mc, ms, r, w1, ⟨⟨τ, hT1, hI1, hK1, hx1, hm1, hs1⟩, v, rfl⟩, run1⟩ := k_count hT 8 a1 ha1
  have hM1 := mi_keep hM hK1 hT1.2.2.2.2
  obtain ⟨mc2, ms2, r2, w2, ⟨⟨rfl, rfl⟩, hS, hM2, v2, rfl⟩, run2⟩ := q_count hM1 10 a1 ha1
  exact pair_mk hT run1 run2 hT1 (hI1 _ _ hI) hM1 hS hM2 rfl (fun _ _ => rfl) hm1 (by omega) ⟨v, v2, rfl, rfl⟩
theorem pr_image {w : zW} (hJ : J w) (a1 : Int) (ha1 : -2147483648 ≤ a1 ∧ a1 ≤ 2147483647) : PAIR iX11_image iX12_image [.int (Int32.ofInt a1)] w rEQ := by
  obtain ⟨σ, sz, kp, hT, hM, hI⟩ := hJ
  obtain ⟨mc, ms, r, w1, hP, run1⟩ := k_image hT hI 9 a1 ha1
  rcases hP with ⟨hc, ⟨⟨τ, hT1⟩, hI1, hK1, hm1, hs1⟩, rfl⟩ | ⟨hc, ⟨⟨τ, hT1⟩, hI1, hK1, hm1, hs1⟩, rfl⟩
  · skip
    have hM1 := mi_keep hM hK1 hT1.2.2.2.2
    obtain ⟨mc2, ms2, r2, w2, ⟨⟨rfl, rfl⟩, hS, v2, k16, k44, hM2, rfl, p0, p1, p2⟩, run2⟩ := q_image hM1 9 a1 ha1
    have e : v2 = 0 := by omega
    subst e
    obtain ⟨-, rfl⟩ : (0 : Int) = 0 ∧ k44 = kp := p1.resolve_right (fun h => by omega)
    obtain ⟨-, rfl⟩ : (0 : Int) = 0 ∧ k16 = sz := p2.resolve_right (fun h => by omega)
    exact pair_mk hT run1 run2 hT1 hI1 hM1 hS hM2 rfl (fun _ _ => rfl) hm1 hs1 ⟨_, rfl, rfl⟩
  · skip
    have hM1 := mi_keep hM hK1 hT1.2.2.2.2
    obtain ⟨mc2, ms2, r2, w2, ⟨⟨rfl, rfl⟩, hS, v2, k16, k44, hM2, rfl, p0, p1, p2⟩, run2⟩ := q_image hM1 9 a1 ha1
    have e : v2 = 1 := by omega
    subst e
    obtain ⟨-, rfl⟩ := p1.resolve_left (fun h => by omega)
    obtain ⟨-, rfl⟩ := p2.resolve_left (fun h => by omega)
    refine pair_mk hT run1 run2 hT1 hI1 hM1 hS hM2 ?_ (fun k hk => ?_) hm1 hs1 ⟨_, rfl, rfl⟩
    · unfold cpR
      rw [if_neg (by omega)]
    · have ec : k ≠ a1.toNat → cpR sz 1 0 (a1 + 1).toNat 1 (k + 1) = sz (k + 1) := by
        intro e
        unfold cpR
        rw [if_neg (by omega)]
      have ed : k = a1.toNat → cpR sz 1 0 (a1 + 1).toNat 1 (k + 1) = sz 0 := by
        intro e
        unfold cpR
        rw [if_pos (by omega)]
        congr 1
        omega
      unfold upm
      by_cases e : k = a1.toNat
      · rw [if_pos e]
        unfold mOf
        rw [ed e, e, pk_us, if_neg (by decide)]
      · rw [if_neg e]
        unfold mOf
        rw [ec e, pk_un e]
theorem pr_again {w : zW} (hJ : J w) (a1 : Int) (ha1 : -2147483648 ≤ a1 ∧ a1 ≤ 2147483647) : PAIR iX11_again iX12_again [.int (Int32.ofInt a1)] w rEQ := by
  obtain ⟨σ, sz, kp, hT, hM, hI⟩ := hJ
  obtain ⟨mc, ms, r, w1, hP, run1⟩ := k_again hT hI 9 a1 ha1
  rcases hP with ⟨hc, ⟨⟨τ, hT1⟩, hI1, hK1, hm1, hs1⟩, rfl⟩ | ⟨x, hc, hx, ⟨⟨τ, hT1⟩, hI1, hK1, hm1, hs1⟩, rfl⟩
  · skip
    have hM1 := mi_keep hM hK1 hT1.2.2.2.2
    obtain ⟨mc2, ms2, r2, w2, ⟨⟨rfl, rfl⟩, hS, v2, k16, k44, hM2, rfl, p0, p1, rfl⟩, run2⟩ := q_again hM1 9 a1 ha1
    have e : v2 = 0 := by
      rcases hc with hc | hc
      · omega
      · unfold mOf at hc
        split at hc
        · omega
        · cases hc
    subst e
    obtain ⟨-, rfl⟩ : (0 : Int) = 0 ∧ k16 = sz := p1.resolve_right (fun h => by omega)
    exact pair_mk hT run1 run2 hT1 hI1 hM1 hS hM2 rfl (fun _ _ => rfl) hm1 hs1 ⟨_, rfl, rfl⟩
  · skip
    have hM1 := mi_keep hM hK1 hT1.2.2.2.2
    obtain ⟨mc2, ms2, r2, w2, ⟨⟨rfl, rfl⟩, hS, v2, k16, k44, hM2, rfl, p0, p1, rfl⟩, run2⟩ := q_again hM1 9 a1 ha1
    unfold mOf at hx
    split at hx
    · cases hx
    · rename_i hne
      cases hx
      have e : v2 = 1 := by omega
      subst e
      obtain ⟨-, rfl⟩ := p1.resolve_left (fun h => by omega)
      refine pair_mk hT run1 run2 hT1 hI1 hM1 hS hM2 ?_ (fun k hk => ?_) hm1 hs1 ⟨_, rfl, rfl⟩
      · unfold cpR
        rw [if_pos (by omega)]
        congr 2
        omega
      · have ec : cpR sz 1 (a1 + 1).toNat 0 1 (k + 1) = sz (k + 1) := by
          unfold cpR
          rw [if_neg (by omega)]
        unfold mOf
        rw [ec]
def zCw (t : zW) : zW := .inr (10, [.ref 1, .ref 7, .ref 8, .ref 9, .ref 12, .ref 13, .null, .null]) :: .inr (7, [.ref 2, .int 0, .int 0, .int (-1), .ref 3, .ref 4, .ref 5, .ref 6]) :: .inl (0, 600, .inl (fun _ => 0)) :: .inl (1, 3, .inl (fun _ => 0)) :: .inl (3, 2, .inr (.inr (.inr (.inr (fun _ => none))))) :: .inl (4, 2, .inr (.inr (.inr (.inr (fun _ => none))))) :: .inl (5, 2, .inr (.inr (.inr (.inr (fun _ => none))))) :: .inl (6, 3, .inr (.inr (.inr (.inr (fun _ => none))))) :: .inr (6, [.null, .int 0, .int 0, .int 0, .int 0, .int 0, .int 0, .int (-1)]) :: .inr (1, [.null, .int 0, .int 0, .int 0, .int 0, .ref 10, .ref 11]) :: .inl (1, 4, .inl (fun _ => 0)) :: .inl (1, 5, .inl (fun _ => 0)) :: .inl (7, 2, .inr (.inr (.inr (.inr (fun _ => none))))) :: .inl (8, 2, .inr (.inr (.inr (.inr (fun _ => none))))) :: t
def zMf (t : zW) : zW := .inr (11, [.int 0, .ref 15, .ref 16, .ref 17, .ref 18, .ref 19, .ref 20, .ref 21, .ref 22, .int 0, .int 0, .int 0, .int 0, .int 0, .long 0, .int 0, .int 0, .int 0, .ref 23, .ref 24, .int 0, .int (-1), .int 0, .int 0, .ref 25, .ref 26, .int 0, .ref 27, .int 0, .ref 28, .ref 29, .int 0, .int 0, .int 0, .ref 30, .ref 31, .ref 32, .ref 33, .int 0, .ref 34, .ref 35, .int 0, .ref 36, .ref 37, .int 0, .ref 38, .ref 39, .ref 40, .ref 41, .ref 42, .ref 43, .ref 44]) :: .inl (0, 2400, .inl (fun _ => 0)) :: .inl (1, 4, .inl (fun _ => 0)) :: .inl (1, 4, .inl (fun _ => 0)) :: .inl (1, 4, .inl (upd (fun _ => 0) 0 (-1))) :: .inl (1, 12, .inl (fun _ => 0)) :: .inl (1, 408, .inl (fun _ => 0)) :: .inl (1, 968, .inl (fun _ => 0)) :: .inl (1, 104, .inl (fun _ => 0)) :: .inl (1, 121, .inl (fun _ => 0)) :: .inl (1, 3, .inl (fun _ => 0)) :: .inl (1, 7, .inl (fun _ => 0)) :: .inl (1, 7, .inl (fun _ => 0)) :: .inl (1, 49, .inl (fun _ => 0)) :: .inl (1, 4, .inl (fun _ => 0)) :: .inl (1, 5, .inl (fun _ => 0)) :: .inl (1, 27305, .inl (fun _ => 0)) :: .inl (1, 5461, .inl (fun _ => 0)) :: .inl (1, 5461, .inl (fun _ => 0)) :: .inl (1, 5461, .inl (fun _ => 0)) :: .inl (1, 5461, .inl (fun _ => 0)) :: .inl (1, 54610, .inl (fun _ => 0)) :: .inl (1, 54610, .inl (fun _ => 0)) :: .inl (1, 54610, .inl (fun _ => 0)) :: .inl (1, 5461, .inl (fun _ => 0)) :: .inl (1, 5461, .inl (fun _ => 0)) :: .inl (1, 5461, .inl (fun _ => 0)) :: .inl (1, 5461, .inl (fun _ => 0)) :: .inl (1, 5461, .inl (fun _ => 0)) :: .inl (1, 27305, .inl (fun _ => 0)) :: .inl (2, 3, .inl (fun _ => 0)) :: t
set_option maxHeartbeats 4000000 in
theorem i_told (d : Nat) (Q : zQ) (h : Q none ([.inr (10, [.null, .null, .null, .null, .null, .null, .null, .null]), .inr (7, [.ref 2, .int 0, .int 0, .int (-1), .ref 3, .ref 4, .ref 5, .ref 6]), .inl (0, 600, .inl (fun _ => 0)), .inl (1, 3, .inl (fun _ => 0)), .inl (3, 2, .inr (.inr (.inr (.inr (fun _ => none))))), .inl (4, 2, .inr (.inr (.inr (.inr (fun _ => none))))), .inl (5, 2, .inr (.inr (.inr (.inr (fun _ => none)))))])) : zCl zTab (d + 2) iX8_init [.ref 1] ([.inr (10, [.null, .null, .null, .null, .null, .null, .null, .null]), .inr (7, [.null, .int 0, .int 0, .int 0, .null, .null, .null, .null])]) 5 609 Q := by
  refine zCl_i (M := kX8_init) rfl (Nat.le_of_ble_eq_true rfl) fun R hR => ?_
  iterate 4 refine hR (?_ : R (_, _, _, _, _, _))
  refine hR (?_ : R (_, _, .ref 2 :: _, _, _, _))
  iterate 12 refine hR (?_ : R (_, _, _, _, _, _))
  refine hR (?_ : R (_, _, .ref 3 :: _, _, _, _))
  iterate 3 refine hR (?_ : R (_, _, _, _, _, _))
  refine hR (?_ : R (_, _, .ref 4 :: _, _, _, _))
  iterate 3 refine hR (?_ : R (_, _, _, _, _, _))
  refine hR (?_ : R (_, _, .ref 5 :: _, _, _, _))
  iterate 3 refine hR (?_ : R (_, _, _, _, _, _))
  refine hR (?_ : R (_, _, .ref 6 :: _, _, _, _))
  refine hR (?_ : R (_, _, _, _, _, _))
  exact hR (zret_i rfl (Nat.le_refl _) (rfl) (h))
set_option maxHeartbeats 4000000 in
theorem i_teller (d : Nat) (Q : zQ) (h : Q none ([.inr (10, [.ref 1, .ref 7, .null, .null, .null, .null, .null, .null]), .inr (7, [.ref 2, .int 0, .int 0, .int (-1), .ref 3, .ref 4, .ref 5, .ref 6]), .inl (0, 600, .inl (fun _ => 0)), .inl (1, 3, .inl (fun _ => 0)), .inl (3, 2, .inr (.inr (.inr (.inr (fun _ => none))))), .inl (4, 2, .inr (.inr (.inr (.inr (fun _ => none))))), .inl (5, 2, .inr (.inr (.inr (.inr (fun _ => none))))), .inl (6, 3, .inr (.inr (.inr (.inr (fun _ => none))))), .inr (6, [.null, .int 0, .int 0, .int 0, .int 0, .int 0, .int 0, .int (-1)])])) : zCl zTab (d + 2) iX7_init [.ref 8] ([.inr (10, [.ref 1, .ref 7, .null, .null, .null, .null, .null, .null]), .inr (7, [.ref 2, .int 0, .int 0, .int (-1), .ref 3, .ref 4, .ref 5, .ref 6]), .inl (0, 600, .inl (fun _ => 0)), .inl (1, 3, .inl (fun _ => 0)), .inl (3, 2, .inr (.inr (.inr (.inr (fun _ => none))))), .inl (4, 2, .inr (.inr (.inr (.inr (fun _ => none))))), .inl (5, 2, .inr (.inr (.inr (.inr (fun _ => none))))), .inl (6, 3, .inr (.inr (.inr (.inr (fun _ => none))))), .inr (6, [.null, .int 0, .int 0, .int 0, .int 0, .int 0, .int 0, .int 0])]) 0 0 Q := by
  refine zCl_i (M := kX7_init) rfl (Nat.le_of_ble_eq_true rfl) fun R hR => ?_
  iterate 26 refine hR (?_ : R (_, _, _, _, _, _))
  exact hR (zret_i rfl (Nat.le_refl _) (rfl) (h))
set_option maxHeartbeats 4000000 in
theorem i_course (d : Nat) (Q : zQ) (h : Q none ([.inr (10, [.ref 1, .ref 7, .ref 8, .null, .null, .null, .null, .null]), .inr (7, [.ref 2, .int 0, .int 0, .int (-1), .ref 3, .ref 4, .ref 5, .ref 6]), .inl (0, 600, .inl (fun _ => 0)), .inl (1, 3, .inl (fun _ => 0)), .inl (3, 2, .inr (.inr (.inr (.inr (fun _ => none))))), .inl (4, 2, .inr (.inr (.inr (.inr (fun _ => none))))), .inl (5, 2, .inr (.inr (.inr (.inr (fun _ => none))))), .inl (6, 3, .inr (.inr (.inr (.inr (fun _ => none))))), .inr (6, [.null, .int 0, .int 0, .int 0, .int 0, .int 0, .int 0, .int (-1)]), .inr (1, [.null, .int 0, .int 0, .int 0, .int 0, .ref 10, .ref 11]), .inl (1, 4, .inl (fun _ => 0)), .inl (1, 5, .inl (fun _ => 0))])) : zCl zTab (d + 2) iX1_init [.ref 9] ([.inr (10, [.ref 1, .ref 7, .ref 8, .null, .null, .null, .null, .null]), .inr (7, [.ref 2, .int 0, .int 0, .int (-1), .ref 3, .ref 4, .ref 5, .ref 6]), .inl (0, 600, .inl (fun _ => 0)), .inl (1, 3, .inl (fun _ => 0)), .inl (3, 2, .inr (.inr (.inr (.inr (fun _ => none))))), .inl (4, 2, .inr (.inr (.inr (.inr (fun _ => none))))), .inl (5, 2, .inr (.inr (.inr (.inr (fun _ => none))))), .inl (6, 3, .inr (.inr (.inr (.inr (fun _ => none))))), .inr (6, [.null, .int 0, .int 0, .int 0, .int 0, .int 0, .int 0, .int (-1)]), .inr (1, [.null, .int 0, .int 0, .int 0, .int 0, .null, .null])]) 2 9 Q := by
  refine zCl_i (M := kX1_init) rfl (Nat.le_of_ble_eq_true rfl) fun R hR => ?_
  iterate 19 refine hR (?_ : R (_, _, _, _, _, _))
  refine hR (?_ : R (_, _, .ref 10 :: _, _, _, _))
  iterate 3 refine hR (?_ : R (_, _, _, _, _, _))
  refine hR (?_ : R (_, _, .ref 11 :: _, _, _, _))
  refine hR (?_ : R (_, _, _, _, _, _))
  exact hR (zret_i rfl (Nat.le_refl _) (rfl) (h))
set_option maxHeartbeats 4000000 in
theorem i_class (d : Nat) (Q : zQ) (h : Q none (zCw [])) : zCl zTab (d + 3) iX11_init [.ref 0] ([.inr (10, [.null, .null, .null, .null, .null, .null, .null, .null])]) 13 648 Q := by
  refine zCl_i (M := kX11_init) rfl (Nat.le_of_ble_eq_true rfl) fun R hR => ?_
  iterate 3 refine hR (?_ : R (_, _, _, _, _, _))
  refine hR (?_ : R (_, _, .ref 1 :: _, _, _, _))
  refine hR (?_ : R (_, _, _, _, _, _))
  refine hR (zcall_i 5 609 (Nat.le_of_ble_eq_true rfl) (Nat.le_of_ble_eq_true rfl) (i_told _ _ ?_))
  iterate 3 refine hR (?_ : R (_, _, _, _, _, _))
  refine hR (?_ : R (_, _, .ref 7 :: _, _, _, _))
  iterate 2 refine hR (?_ : R (_, _, _, _, _, _))
  refine hR (?_ : R (_, _, .ref 8 :: _, _, _, _))
  refine hR (?_ : R (_, _, _, _, _, _))
  refine hR (zcall_i 0 0 (Nat.le_of_ble_eq_true rfl) (Nat.le_of_ble_eq_true rfl) (i_teller _ _ ?_))
  iterate 2 refine hR (?_ : R (_, _, _, _, _, _))
  refine hR (?_ : R (_, _, .ref 9 :: _, _, _, _))
  refine hR (?_ : R (_, _, _, _, _, _))
  refine hR (zcall_i 2 9 (Nat.le_of_ble_eq_true rfl) (Nat.le_of_ble_eq_true rfl) (i_course _ _ ?_))
  iterate 3 refine hR (?_ : R (_, _, _, _, _, _))
  refine hR (?_ : R (_, _, .ref 12 :: _, _, _, _))
  iterate 3 refine hR (?_ : R (_, _, _, _, _, _))
  refine hR (?_ : R (_, _, .ref 13 :: _, _, _, _))
  iterate 7 refine hR (?_ : R (_, _, _, _, _, _))
  exact hR (zret_i rfl (Nat.le_refl _) (rfl) (h))
set_option maxHeartbeats 4000000 in
theorem i_model (d : Nat) (Q : zQ) (h : Q none (zCw (zMf []))) : zCl zTab (d + 2) iX12_init [.ref 14] (zCw [.inr (11, [.int 0, .null, .null, .null, .null, .null, .null, .null, .null, .int 0, .int 0, .int 0, .int 0, .int 0, .long 0, .int 0, .int 0, .int 0, .null, .null, .int 0, .int 0, .int 0, .int 0, .null, .null, .int 0, .null, .int 0, .null, .null, .int 0, .int 0, .int 0, .null, .null, .null, .null, .int 0, .null, .null, .int 0, .null, .null, .int 0, .null, .null, .null, .null, .null, .null, .null])]) 30 271692 Q := by
  refine zCl_i (M := kX12_init) rfl (Nat.le_of_ble_eq_true rfl) fun R hR => ?_
  iterate 4 refine hR (?_ : R (_, _, _, _, _, _))
  refine hR (?_ : R (_, _, .ref 15 :: _, _, _, _))
  refine hR (?_ : R (_, _, _, _, _, _))
  refine (?_ : R (_, _, _, zCw (.inr (11, [_, _, _, _, _, _, _, _, _, _, _, _, _, _, _, _, _, _, _, _, _, _, _, _, _, _, _, _, _, _, _, _, _, _, _, _, _, _, _, _, _, _, _, _, _, _, _, _, _, _, _, _]) :: .inl (0, 2400, .inl _) :: []), _, _))
  iterate 2 refine hR (?_ : R (_, _, _, _, _, _))
  refine hR (?_ : R (_, _, .ref 16 :: _, _, _, _))
  refine hR (?_ : R (_, _, _, _, _, _))
  refine (?_ : R (_, _, _, zCw (.inr (11, [_, _, _, _, _, _, _, _, _, _, _, _, _, _, _, _, _, _, _, _, _, _, _, _, _, _, _, _, _, _, _, _, _, _, _, _, _, _, _, _, _, _, _, _, _, _, _, _, _, _, _, _]) :: .inl (0, 2400, .inl _) :: .inl (1, 4, .inl _) :: []), _, _))
  iterate 2 refine hR (?_ : R (_, _, _, _, _, _))
  refine hR (?_ : R (_, _, .ref 17 :: _, _, _, _))
  refine hR (?_ : R (_, _, _, _, _, _))
  refine (?_ : R (_, _, _, zCw (.inr (11, [_, _, _, _, _, _, _, _, _, _, _, _, _, _, _, _, _, _, _, _, _, _, _, _, _, _, _, _, _, _, _, _, _, _, _, _, _, _, _, _, _, _, _, _, _, _, _, _, _, _, _, _]) :: .inl (0, 2400, .inl _) :: .inl (1, 4, .inl _) :: .inl (1, 4, .inl _) :: []), _, _))
  iterate 2 refine hR (?_ : R (_, _, _, _, _, _))
  refine hR (?_ : R (_, _, .ref 18 :: _, _, _, _))
  refine hR (?_ : R (_, _, _, _, _, _))
  refine (?_ : R (_, _, _, zCw (.inr (11, [_, _, _, _, _, _, _, _, _, _, _, _, _, _, _, _, _, _, _, _, _, _, _, _, _, _, _, _, _, _, _, _, _, _, _, _, _, _, _, _, _, _, _, _, _, _, _, _, _, _, _, _]) :: .inl (0, 2400, .inl _) :: .inl (1, 4, .inl _) :: .inl (1, 4, .inl _) :: .inl (1, 4, .inl _) :: []), _, _))
  iterate 2 refine hR (?_ : R (_, _, _, _, _, _))
  refine hR (?_ : R (_, _, .ref 19 :: _, _, _, _))
  refine hR (?_ : R (_, _, _, _, _, _))
  refine (?_ : R (_, _, _, zCw (.inr (11, [_, _, _, _, _, _, _, _, _, _, _, _, _, _, _, _, _, _, _, _, _, _, _, _, _, _, _, _, _, _, _, _, _, _, _, _, _, _, _, _, _, _, _, _, _, _, _, _, _, _, _, _]) :: .inl (0, 2400, .inl _) :: .inl (1, 4, .inl _) :: .inl (1, 4, .inl _) :: .inl (1, 4, .inl _) :: .inl (1, 12, .inl _) :: []), _, _))
  iterate 2 refine hR (?_ : R (_, _, _, _, _, _))
  refine hR (?_ : R (_, _, .ref 20 :: _, _, _, _))
  refine hR (?_ : R (_, _, _, _, _, _))
  refine (?_ : R (_, _, _, zCw (.inr (11, [_, _, _, _, _, _, _, _, _, _, _, _, _, _, _, _, _, _, _, _, _, _, _, _, _, _, _, _, _, _, _, _, _, _, _, _, _, _, _, _, _, _, _, _, _, _, _, _, _, _, _, _]) :: .inl (0, 2400, .inl _) :: .inl (1, 4, .inl _) :: .inl (1, 4, .inl _) :: .inl (1, 4, .inl _) :: .inl (1, 12, .inl _) :: .inl (1, 408, .inl _) :: []), _, _))
  iterate 2 refine hR (?_ : R (_, _, _, _, _, _))
  refine hR (?_ : R (_, _, .ref 21 :: _, _, _, _))
  refine hR (?_ : R (_, _, _, _, _, _))
  refine (?_ : R (_, _, _, zCw (.inr (11, [_, _, _, _, _, _, _, _, _, _, _, _, _, _, _, _, _, _, _, _, _, _, _, _, _, _, _, _, _, _, _, _, _, _, _, _, _, _, _, _, _, _, _, _, _, _, _, _, _, _, _, _]) :: .inl (0, 2400, .inl _) :: .inl (1, 4, .inl _) :: .inl (1, 4, .inl _) :: .inl (1, 4, .inl _) :: .inl (1, 12, .inl _) :: .inl (1, 408, .inl _) :: .inl (1, 968, .inl _) :: []), _, _))
  iterate 2 refine hR (?_ : R (_, _, _, _, _, _))
  refine hR (?_ : R (_, _, .ref 22 :: _, _, _, _))
  refine hR (?_ : R (_, _, _, _, _, _))
  refine (?_ : R (_, _, _, zCw (.inr (11, [_, _, _, _, _, _, _, _, _, _, _, _, _, _, _, _, _, _, _, _, _, _, _, _, _, _, _, _, _, _, _, _, _, _, _, _, _, _, _, _, _, _, _, _, _, _, _, _, _, _, _, _]) :: .inl (0, 2400, .inl _) :: .inl (1, 4, .inl _) :: .inl (1, 4, .inl _) :: .inl (1, 4, .inl _) :: .inl (1, 12, .inl _) :: .inl (1, 408, .inl _) :: .inl (1, 968, .inl _) :: .inl (1, 104, .inl _) :: []), _, _))
  iterate 2 refine hR (?_ : R (_, _, _, _, _, _))
  refine hR (?_ : R (_, _, .ref 23 :: _, _, _, _))
  refine hR (?_ : R (_, _, _, _, _, _))
  refine (?_ : R (_, _, _, zCw (.inr (11, [_, _, _, _, _, _, _, _, _, _, _, _, _, _, _, _, _, _, _, _, _, _, _, _, _, _, _, _, _, _, _, _, _, _, _, _, _, _, _, _, _, _, _, _, _, _, _, _, _, _, _, _]) :: .inl (0, 2400, .inl _) :: .inl (1, 4, .inl _) :: .inl (1, 4, .inl _) :: .inl (1, 4, .inl _) :: .inl (1, 12, .inl _) :: .inl (1, 408, .inl _) :: .inl (1, 968, .inl _) :: .inl (1, 104, .inl _) :: .inl (1, 121, .inl _) :: []), _, _))
  iterate 2 refine hR (?_ : R (_, _, _, _, _, _))
  refine hR (?_ : R (_, _, .ref 24 :: _, _, _, _))
  refine hR (?_ : R (_, _, _, _, _, _))
  refine (?_ : R (_, _, _, zCw (.inr (11, [_, _, _, _, _, _, _, _, _, _, _, _, _, _, _, _, _, _, _, _, _, _, _, _, _, _, _, _, _, _, _, _, _, _, _, _, _, _, _, _, _, _, _, _, _, _, _, _, _, _, _, _]) :: .inl (0, 2400, .inl _) :: .inl (1, 4, .inl _) :: .inl (1, 4, .inl _) :: .inl (1, 4, .inl _) :: .inl (1, 12, .inl _) :: .inl (1, 408, .inl _) :: .inl (1, 968, .inl _) :: .inl (1, 104, .inl _) :: .inl (1, 121, .inl _) :: .inl (1, 3, .inl _) :: []), _, _))
  iterate 5 refine hR (?_ : R (_, _, _, _, _, _))
  refine hR (?_ : R (_, _, .ref 25 :: _, _, _, _))
  refine hR (?_ : R (_, _, _, _, _, _))
  refine (?_ : R (_, _, _, zCw (.inr (11, [_, _, _, _, _, _, _, _, _, _, _, _, _, _, _, _, _, _, _, _, _, _, _, _, _, _, _, _, _, _, _, _, _, _, _, _, _, _, _, _, _, _, _, _, _, _, _, _, _, _, _, _]) :: .inl (0, 2400, .inl _) :: .inl (1, 4, .inl _) :: .inl (1, 4, .inl _) :: .inl (1, 4, .inl _) :: .inl (1, 12, .inl _) :: .inl (1, 408, .inl _) :: .inl (1, 968, .inl _) :: .inl (1, 104, .inl _) :: .inl (1, 121, .inl _) :: .inl (1, 3, .inl _) :: .inl (1, 7, .inl _) :: []), _, _))
  iterate 2 refine hR (?_ : R (_, _, _, _, _, _))
  refine hR (?_ : R (_, _, .ref 26 :: _, _, _, _))
  refine hR (?_ : R (_, _, _, _, _, _))
  refine (?_ : R (_, _, _, zCw (.inr (11, [_, _, _, _, _, _, _, _, _, _, _, _, _, _, _, _, _, _, _, _, _, _, _, _, _, _, _, _, _, _, _, _, _, _, _, _, _, _, _, _, _, _, _, _, _, _, _, _, _, _, _, _]) :: .inl (0, 2400, .inl _) :: .inl (1, 4, .inl _) :: .inl (1, 4, .inl _) :: .inl (1, 4, .inl _) :: .inl (1, 12, .inl _) :: .inl (1, 408, .inl _) :: .inl (1, 968, .inl _) :: .inl (1, 104, .inl _) :: .inl (1, 121, .inl _) :: .inl (1, 3, .inl _) :: .inl (1, 7, .inl _) :: .inl (1, 7, .inl _) :: []), _, _))
  iterate 2 refine hR (?_ : R (_, _, _, _, _, _))
  refine hR (?_ : R (_, _, .ref 27 :: _, _, _, _))
  refine hR (?_ : R (_, _, _, _, _, _))
  refine (?_ : R (_, _, _, zCw (.inr (11, [_, _, _, _, _, _, _, _, _, _, _, _, _, _, _, _, _, _, _, _, _, _, _, _, _, _, _, _, _, _, _, _, _, _, _, _, _, _, _, _, _, _, _, _, _, _, _, _, _, _, _, _]) :: .inl (0, 2400, .inl _) :: .inl (1, 4, .inl _) :: .inl (1, 4, .inl _) :: .inl (1, 4, .inl _) :: .inl (1, 12, .inl _) :: .inl (1, 408, .inl _) :: .inl (1, 968, .inl _) :: .inl (1, 104, .inl _) :: .inl (1, 121, .inl _) :: .inl (1, 3, .inl _) :: .inl (1, 7, .inl _) :: .inl (1, 7, .inl _) :: .inl (1, 49, .inl _) :: []), _, _))
  iterate 2 refine hR (?_ : R (_, _, _, _, _, _))
  refine hR (?_ : R (_, _, .ref 28 :: _, _, _, _))
  refine hR (?_ : R (_, _, _, _, _, _))
  refine (?_ : R (_, _, _, zCw (.inr (11, [_, _, _, _, _, _, _, _, _, _, _, _, _, _, _, _, _, _, _, _, _, _, _, _, _, _, _, _, _, _, _, _, _, _, _, _, _, _, _, _, _, _, _, _, _, _, _, _, _, _, _, _]) :: .inl (0, 2400, .inl _) :: .inl (1, 4, .inl _) :: .inl (1, 4, .inl _) :: .inl (1, 4, .inl _) :: .inl (1, 12, .inl _) :: .inl (1, 408, .inl _) :: .inl (1, 968, .inl _) :: .inl (1, 104, .inl _) :: .inl (1, 121, .inl _) :: .inl (1, 3, .inl _) :: .inl (1, 7, .inl _) :: .inl (1, 7, .inl _) :: .inl (1, 49, .inl _) :: .inl (1, 4, .inl _) :: []), _, _))
  iterate 2 refine hR (?_ : R (_, _, _, _, _, _))
  refine hR (?_ : R (_, _, .ref 29 :: _, _, _, _))
  refine hR (?_ : R (_, _, _, _, _, _))
  refine (?_ : R (_, _, _, zCw (.inr (11, [_, _, _, _, _, _, _, _, _, _, _, _, _, _, _, _, _, _, _, _, _, _, _, _, _, _, _, _, _, _, _, _, _, _, _, _, _, _, _, _, _, _, _, _, _, _, _, _, _, _, _, _]) :: .inl (0, 2400, .inl _) :: .inl (1, 4, .inl _) :: .inl (1, 4, .inl _) :: .inl (1, 4, .inl _) :: .inl (1, 12, .inl _) :: .inl (1, 408, .inl _) :: .inl (1, 968, .inl _) :: .inl (1, 104, .inl _) :: .inl (1, 121, .inl _) :: .inl (1, 3, .inl _) :: .inl (1, 7, .inl _) :: .inl (1, 7, .inl _) :: .inl (1, 49, .inl _) :: .inl (1, 4, .inl _) :: .inl (1, 5, .inl _) :: []), _, _))
  iterate 2 refine hR (?_ : R (_, _, _, _, _, _))
  refine hR (?_ : R (_, _, .ref 30 :: _, _, _, _))
  refine hR (?_ : R (_, _, _, _, _, _))
  refine (?_ : R (_, _, _, zCw (.inr (11, [_, _, _, _, _, _, _, _, _, _, _, _, _, _, _, _, _, _, _, _, _, _, _, _, _, _, _, _, _, _, _, _, _, _, _, _, _, _, _, _, _, _, _, _, _, _, _, _, _, _, _, _]) :: .inl (0, 2400, .inl _) :: .inl (1, 4, .inl _) :: .inl (1, 4, .inl _) :: .inl (1, 4, .inl _) :: .inl (1, 12, .inl _) :: .inl (1, 408, .inl _) :: .inl (1, 968, .inl _) :: .inl (1, 104, .inl _) :: .inl (1, 121, .inl _) :: .inl (1, 3, .inl _) :: .inl (1, 7, .inl _) :: .inl (1, 7, .inl _) :: .inl (1, 49, .inl _) :: .inl (1, 4, .inl _) :: .inl (1, 5, .inl _) :: .inl (1, 27305, .inl _) :: []), _, _))
  iterate 2 refine hR (?_ : R (_, _, _, _, _, _))
  refine hR (?_ : R (_, _, .ref 31 :: _, _, _, _))
  refine hR (?_ : R (_, _, _, _, _, _))
  refine (?_ : R (_, _, _, zCw (.inr (11, [_, _, _, _, _, _, _, _, _, _, _, _, _, _, _, _, _, _, _, _, _, _, _, _, _, _, _, _, _, _, _, _, _, _, _, _, _, _, _, _, _, _, _, _, _, _, _, _, _, _, _, _]) :: .inl (0, 2400, .inl _) :: .inl (1, 4, .inl _) :: .inl (1, 4, .inl _) :: .inl (1, 4, .inl _) :: .inl (1, 12, .inl _) :: .inl (1, 408, .inl _) :: .inl (1, 968, .inl _) :: .inl (1, 104, .inl _) :: .inl (1, 121, .inl _) :: .inl (1, 3, .inl _) :: .inl (1, 7, .inl _) :: .inl (1, 7, .inl _) :: .inl (1, 49, .inl _) :: .inl (1, 4, .inl _) :: .inl (1, 5, .inl _) :: .inl (1, 27305, .inl _) :: .inl (1, 5461, .inl _) :: []), _, _))
  iterate 2 refine hR (?_ : R (_, _, _, _, _, _))
  refine hR (?_ : R (_, _, .ref 32 :: _, _, _, _))
  refine hR (?_ : R (_, _, _, _, _, _))
  refine (?_ : R (_, _, _, zCw (.inr (11, [_, _, _, _, _, _, _, _, _, _, _, _, _, _, _, _, _, _, _, _, _, _, _, _, _, _, _, _, _, _, _, _, _, _, _, _, _, _, _, _, _, _, _, _, _, _, _, _, _, _, _, _]) :: .inl (0, 2400, .inl _) :: .inl (1, 4, .inl _) :: .inl (1, 4, .inl _) :: .inl (1, 4, .inl _) :: .inl (1, 12, .inl _) :: .inl (1, 408, .inl _) :: .inl (1, 968, .inl _) :: .inl (1, 104, .inl _) :: .inl (1, 121, .inl _) :: .inl (1, 3, .inl _) :: .inl (1, 7, .inl _) :: .inl (1, 7, .inl _) :: .inl (1, 49, .inl _) :: .inl (1, 4, .inl _) :: .inl (1, 5, .inl _) :: .inl (1, 27305, .inl _) :: .inl (1, 5461, .inl _) :: .inl (1, 5461, .inl _) :: []), _, _))
  iterate 2 refine hR (?_ : R (_, _, _, _, _, _))
  refine hR (?_ : R (_, _, .ref 33 :: _, _, _, _))
  refine hR (?_ : R (_, _, _, _, _, _))
  refine (?_ : R (_, _, _, zCw (.inr (11, [_, _, _, _, _, _, _, _, _, _, _, _, _, _, _, _, _, _, _, _, _, _, _, _, _, _, _, _, _, _, _, _, _, _, _, _, _, _, _, _, _, _, _, _, _, _, _, _, _, _, _, _]) :: .inl (0, 2400, .inl _) :: .inl (1, 4, .inl _) :: .inl (1, 4, .inl _) :: .inl (1, 4, .inl _) :: .inl (1, 12, .inl _) :: .inl (1, 408, .inl _) :: .inl (1, 968, .inl _) :: .inl (1, 104, .inl _) :: .inl (1, 121, .inl _) :: .inl (1, 3, .inl _) :: .inl (1, 7, .inl _) :: .inl (1, 7, .inl _) :: .inl (1, 49, .inl _) :: .inl (1, 4, .inl _) :: .inl (1, 5, .inl _) :: .inl (1, 27305, .inl _) :: .inl (1, 5461, .inl _) :: .inl (1, 5461, .inl _) :: .inl (1, 5461, .inl _) :: []), _, _))
  iterate 2 refine hR (?_ : R (_, _, _, _, _, _))
  refine hR (?_ : R (_, _, .ref 34 :: _, _, _, _))
  refine hR (?_ : R (_, _, _, _, _, _))
  refine (?_ : R (_, _, _, zCw (.inr (11, [_, _, _, _, _, _, _, _, _, _, _, _, _, _, _, _, _, _, _, _, _, _, _, _, _, _, _, _, _, _, _, _, _, _, _, _, _, _, _, _, _, _, _, _, _, _, _, _, _, _, _, _]) :: .inl (0, 2400, .inl _) :: .inl (1, 4, .inl _) :: .inl (1, 4, .inl _) :: .inl (1, 4, .inl _) :: .inl (1, 12, .inl _) :: .inl (1, 408, .inl _) :: .inl (1, 968, .inl _) :: .inl (1, 104, .inl _) :: .inl (1, 121, .inl _) :: .inl (1, 3, .inl _) :: .inl (1, 7, .inl _) :: .inl (1, 7, .inl _) :: .inl (1, 49, .inl _) :: .inl (1, 4, .inl _) :: .inl (1, 5, .inl _) :: .inl (1, 27305, .inl _) :: .inl (1, 5461, .inl _) :: .inl (1, 5461, .inl _) :: .inl (1, 5461, .inl _) :: .inl (1, 5461, .inl _) :: []), _, _))
  iterate 2 refine hR (?_ : R (_, _, _, _, _, _))
  refine hR (?_ : R (_, _, .ref 35 :: _, _, _, _))
  refine hR (?_ : R (_, _, _, _, _, _))
  refine (?_ : R (_, _, _, zCw (.inr (11, [_, _, _, _, _, _, _, _, _, _, _, _, _, _, _, _, _, _, _, _, _, _, _, _, _, _, _, _, _, _, _, _, _, _, _, _, _, _, _, _, _, _, _, _, _, _, _, _, _, _, _, _]) :: .inl (0, 2400, .inl _) :: .inl (1, 4, .inl _) :: .inl (1, 4, .inl _) :: .inl (1, 4, .inl _) :: .inl (1, 12, .inl _) :: .inl (1, 408, .inl _) :: .inl (1, 968, .inl _) :: .inl (1, 104, .inl _) :: .inl (1, 121, .inl _) :: .inl (1, 3, .inl _) :: .inl (1, 7, .inl _) :: .inl (1, 7, .inl _) :: .inl (1, 49, .inl _) :: .inl (1, 4, .inl _) :: .inl (1, 5, .inl _) :: .inl (1, 27305, .inl _) :: .inl (1, 5461, .inl _) :: .inl (1, 5461, .inl _) :: .inl (1, 5461, .inl _) :: .inl (1, 5461, .inl _) :: .inl (1, 54610, .inl _) :: []), _, _))
  iterate 2 refine hR (?_ : R (_, _, _, _, _, _))
  refine hR (?_ : R (_, _, .ref 36 :: _, _, _, _))
  refine hR (?_ : R (_, _, _, _, _, _))
  refine (?_ : R (_, _, _, zCw (.inr (11, [_, _, _, _, _, _, _, _, _, _, _, _, _, _, _, _, _, _, _, _, _, _, _, _, _, _, _, _, _, _, _, _, _, _, _, _, _, _, _, _, _, _, _, _, _, _, _, _, _, _, _, _]) :: .inl (0, 2400, .inl _) :: .inl (1, 4, .inl _) :: .inl (1, 4, .inl _) :: .inl (1, 4, .inl _) :: .inl (1, 12, .inl _) :: .inl (1, 408, .inl _) :: .inl (1, 968, .inl _) :: .inl (1, 104, .inl _) :: .inl (1, 121, .inl _) :: .inl (1, 3, .inl _) :: .inl (1, 7, .inl _) :: .inl (1, 7, .inl _) :: .inl (1, 49, .inl _) :: .inl (1, 4, .inl _) :: .inl (1, 5, .inl _) :: .inl (1, 27305, .inl _) :: .inl (1, 5461, .inl _) :: .inl (1, 5461, .inl _) :: .inl (1, 5461, .inl _) :: .inl (1, 5461, .inl _) :: .inl (1, 54610, .inl _) :: .inl (1, 54610, .inl _) :: []), _, _))
  iterate 2 refine hR (?_ : R (_, _, _, _, _, _))
  refine hR (?_ : R (_, _, .ref 37 :: _, _, _, _))
  refine hR (?_ : R (_, _, _, _, _, _))
  refine (?_ : R (_, _, _, zCw (.inr (11, [_, _, _, _, _, _, _, _, _, _, _, _, _, _, _, _, _, _, _, _, _, _, _, _, _, _, _, _, _, _, _, _, _, _, _, _, _, _, _, _, _, _, _, _, _, _, _, _, _, _, _, _]) :: .inl (0, 2400, .inl _) :: .inl (1, 4, .inl _) :: .inl (1, 4, .inl _) :: .inl (1, 4, .inl _) :: .inl (1, 12, .inl _) :: .inl (1, 408, .inl _) :: .inl (1, 968, .inl _) :: .inl (1, 104, .inl _) :: .inl (1, 121, .inl _) :: .inl (1, 3, .inl _) :: .inl (1, 7, .inl _) :: .inl (1, 7, .inl _) :: .inl (1, 49, .inl _) :: .inl (1, 4, .inl _) :: .inl (1, 5, .inl _) :: .inl (1, 27305, .inl _) :: .inl (1, 5461, .inl _) :: .inl (1, 5461, .inl _) :: .inl (1, 5461, .inl _) :: .inl (1, 5461, .inl _) :: .inl (1, 54610, .inl _) :: .inl (1, 54610, .inl _) :: .inl (1, 54610, .inl _) :: []), _, _))
  iterate 2 refine hR (?_ : R (_, _, _, _, _, _))
  refine hR (?_ : R (_, _, .ref 38 :: _, _, _, _))
  refine hR (?_ : R (_, _, _, _, _, _))
  refine (?_ : R (_, _, _, zCw (.inr (11, [_, _, _, _, _, _, _, _, _, _, _, _, _, _, _, _, _, _, _, _, _, _, _, _, _, _, _, _, _, _, _, _, _, _, _, _, _, _, _, _, _, _, _, _, _, _, _, _, _, _, _, _]) :: .inl (0, 2400, .inl _) :: .inl (1, 4, .inl _) :: .inl (1, 4, .inl _) :: .inl (1, 4, .inl _) :: .inl (1, 12, .inl _) :: .inl (1, 408, .inl _) :: .inl (1, 968, .inl _) :: .inl (1, 104, .inl _) :: .inl (1, 121, .inl _) :: .inl (1, 3, .inl _) :: .inl (1, 7, .inl _) :: .inl (1, 7, .inl _) :: .inl (1, 49, .inl _) :: .inl (1, 4, .inl _) :: .inl (1, 5, .inl _) :: .inl (1, 27305, .inl _) :: .inl (1, 5461, .inl _) :: .inl (1, 5461, .inl _) :: .inl (1, 5461, .inl _) :: .inl (1, 5461, .inl _) :: .inl (1, 54610, .inl _) :: .inl (1, 54610, .inl _) :: .inl (1, 54610, .inl _) :: .inl (1, 5461, .inl _) :: []), _, _))
  iterate 2 refine hR (?_ : R (_, _, _, _, _, _))
  refine hR (?_ : R (_, _, .ref 39 :: _, _, _, _))
  refine hR (?_ : R (_, _, _, _, _, _))
  refine (?_ : R (_, _, _, zCw (.inr (11, [_, _, _, _, _, _, _, _, _, _, _, _, _, _, _, _, _, _, _, _, _, _, _, _, _, _, _, _, _, _, _, _, _, _, _, _, _, _, _, _, _, _, _, _, _, _, _, _, _, _, _, _]) :: .inl (0, 2400, .inl _) :: .inl (1, 4, .inl _) :: .inl (1, 4, .inl _) :: .inl (1, 4, .inl _) :: .inl (1, 12, .inl _) :: .inl (1, 408, .inl _) :: .inl (1, 968, .inl _) :: .inl (1, 104, .inl _) :: .inl (1, 121, .inl _) :: .inl (1, 3, .inl _) :: .inl (1, 7, .inl _) :: .inl (1, 7, .inl _) :: .inl (1, 49, .inl _) :: .inl (1, 4, .inl _) :: .inl (1, 5, .inl _) :: .inl (1, 27305, .inl _) :: .inl (1, 5461, .inl _) :: .inl (1, 5461, .inl _) :: .inl (1, 5461, .inl _) :: .inl (1, 5461, .inl _) :: .inl (1, 54610, .inl _) :: .inl (1, 54610, .inl _) :: .inl (1, 54610, .inl _) :: .inl (1, 5461, .inl _) :: .inl (1, 5461, .inl _) :: []), _, _))
  iterate 2 refine hR (?_ : R (_, _, _, _, _, _))
  refine hR (?_ : R (_, _, .ref 40 :: _, _, _, _))
  refine hR (?_ : R (_, _, _, _, _, _))
  refine (?_ : R (_, _, _, zCw (.inr (11, [_, _, _, _, _, _, _, _, _, _, _, _, _, _, _, _, _, _, _, _, _, _, _, _, _, _, _, _, _, _, _, _, _, _, _, _, _, _, _, _, _, _, _, _, _, _, _, _, _, _, _, _]) :: .inl (0, 2400, .inl _) :: .inl (1, 4, .inl _) :: .inl (1, 4, .inl _) :: .inl (1, 4, .inl _) :: .inl (1, 12, .inl _) :: .inl (1, 408, .inl _) :: .inl (1, 968, .inl _) :: .inl (1, 104, .inl _) :: .inl (1, 121, .inl _) :: .inl (1, 3, .inl _) :: .inl (1, 7, .inl _) :: .inl (1, 7, .inl _) :: .inl (1, 49, .inl _) :: .inl (1, 4, .inl _) :: .inl (1, 5, .inl _) :: .inl (1, 27305, .inl _) :: .inl (1, 5461, .inl _) :: .inl (1, 5461, .inl _) :: .inl (1, 5461, .inl _) :: .inl (1, 5461, .inl _) :: .inl (1, 54610, .inl _) :: .inl (1, 54610, .inl _) :: .inl (1, 54610, .inl _) :: .inl (1, 5461, .inl _) :: .inl (1, 5461, .inl _) :: .inl (1, 5461, .inl _) :: []), _, _))
  iterate 2 refine hR (?_ : R (_, _, _, _, _, _))
  refine hR (?_ : R (_, _, .ref 41 :: _, _, _, _))
  refine hR (?_ : R (_, _, _, _, _, _))
  refine (?_ : R (_, _, _, zCw (.inr (11, [_, _, _, _, _, _, _, _, _, _, _, _, _, _, _, _, _, _, _, _, _, _, _, _, _, _, _, _, _, _, _, _, _, _, _, _, _, _, _, _, _, _, _, _, _, _, _, _, _, _, _, _]) :: .inl (0, 2400, .inl _) :: .inl (1, 4, .inl _) :: .inl (1, 4, .inl _) :: .inl (1, 4, .inl _) :: .inl (1, 12, .inl _) :: .inl (1, 408, .inl _) :: .inl (1, 968, .inl _) :: .inl (1, 104, .inl _) :: .inl (1, 121, .inl _) :: .inl (1, 3, .inl _) :: .inl (1, 7, .inl _) :: .inl (1, 7, .inl _) :: .inl (1, 49, .inl _) :: .inl (1, 4, .inl _) :: .inl (1, 5, .inl _) :: .inl (1, 27305, .inl _) :: .inl (1, 5461, .inl _) :: .inl (1, 5461, .inl _) :: .inl (1, 5461, .inl _) :: .inl (1, 5461, .inl _) :: .inl (1, 54610, .inl _) :: .inl (1, 54610, .inl _) :: .inl (1, 54610, .inl _) :: .inl (1, 5461, .inl _) :: .inl (1, 5461, .inl _) :: .inl (1, 5461, .inl _) :: .inl (1, 5461, .inl _) :: []), _, _))
  iterate 2 refine hR (?_ : R (_, _, _, _, _, _))
  refine hR (?_ : R (_, _, .ref 42 :: _, _, _, _))
  refine hR (?_ : R (_, _, _, _, _, _))
  refine (?_ : R (_, _, _, zCw (.inr (11, [_, _, _, _, _, _, _, _, _, _, _, _, _, _, _, _, _, _, _, _, _, _, _, _, _, _, _, _, _, _, _, _, _, _, _, _, _, _, _, _, _, _, _, _, _, _, _, _, _, _, _, _]) :: .inl (0, 2400, .inl _) :: .inl (1, 4, .inl _) :: .inl (1, 4, .inl _) :: .inl (1, 4, .inl _) :: .inl (1, 12, .inl _) :: .inl (1, 408, .inl _) :: .inl (1, 968, .inl _) :: .inl (1, 104, .inl _) :: .inl (1, 121, .inl _) :: .inl (1, 3, .inl _) :: .inl (1, 7, .inl _) :: .inl (1, 7, .inl _) :: .inl (1, 49, .inl _) :: .inl (1, 4, .inl _) :: .inl (1, 5, .inl _) :: .inl (1, 27305, .inl _) :: .inl (1, 5461, .inl _) :: .inl (1, 5461, .inl _) :: .inl (1, 5461, .inl _) :: .inl (1, 5461, .inl _) :: .inl (1, 54610, .inl _) :: .inl (1, 54610, .inl _) :: .inl (1, 54610, .inl _) :: .inl (1, 5461, .inl _) :: .inl (1, 5461, .inl _) :: .inl (1, 5461, .inl _) :: .inl (1, 5461, .inl _) :: .inl (1, 5461, .inl _) :: []), _, _))
  iterate 2 refine hR (?_ : R (_, _, _, _, _, _))
  refine hR (?_ : R (_, _, .ref 43 :: _, _, _, _))
  refine hR (?_ : R (_, _, _, _, _, _))
  refine (?_ : R (_, _, _, zCw (.inr (11, [_, _, _, _, _, _, _, _, _, _, _, _, _, _, _, _, _, _, _, _, _, _, _, _, _, _, _, _, _, _, _, _, _, _, _, _, _, _, _, _, _, _, _, _, _, _, _, _, _, _, _, _]) :: .inl (0, 2400, .inl _) :: .inl (1, 4, .inl _) :: .inl (1, 4, .inl _) :: .inl (1, 4, .inl _) :: .inl (1, 12, .inl _) :: .inl (1, 408, .inl _) :: .inl (1, 968, .inl _) :: .inl (1, 104, .inl _) :: .inl (1, 121, .inl _) :: .inl (1, 3, .inl _) :: .inl (1, 7, .inl _) :: .inl (1, 7, .inl _) :: .inl (1, 49, .inl _) :: .inl (1, 4, .inl _) :: .inl (1, 5, .inl _) :: .inl (1, 27305, .inl _) :: .inl (1, 5461, .inl _) :: .inl (1, 5461, .inl _) :: .inl (1, 5461, .inl _) :: .inl (1, 5461, .inl _) :: .inl (1, 54610, .inl _) :: .inl (1, 54610, .inl _) :: .inl (1, 54610, .inl _) :: .inl (1, 5461, .inl _) :: .inl (1, 5461, .inl _) :: .inl (1, 5461, .inl _) :: .inl (1, 5461, .inl _) :: .inl (1, 5461, .inl _) :: .inl (1, 27305, .inl _) :: []), _, _))
  iterate 2 refine hR (?_ : R (_, _, _, _, _, _))
  refine hR (?_ : R (_, _, .ref 44 :: _, _, _, _))
  refine hR (?_ : R (_, _, _, _, _, _))
  refine (?_ : R (_, _, _, zCw (.inr (11, [_, _, _, _, _, _, _, _, _, _, _, _, _, _, _, _, _, _, _, _, _, _, _, _, _, _, _, _, _, _, _, _, _, _, _, _, _, _, _, _, _, _, _, _, _, _, _, _, _, _, _, _]) :: .inl (0, 2400, .inl _) :: .inl (1, 4, .inl _) :: .inl (1, 4, .inl _) :: .inl (1, 4, .inl _) :: .inl (1, 12, .inl _) :: .inl (1, 408, .inl _) :: .inl (1, 968, .inl _) :: .inl (1, 104, .inl _) :: .inl (1, 121, .inl _) :: .inl (1, 3, .inl _) :: .inl (1, 7, .inl _) :: .inl (1, 7, .inl _) :: .inl (1, 49, .inl _) :: .inl (1, 4, .inl _) :: .inl (1, 5, .inl _) :: .inl (1, 27305, .inl _) :: .inl (1, 5461, .inl _) :: .inl (1, 5461, .inl _) :: .inl (1, 5461, .inl _) :: .inl (1, 5461, .inl _) :: .inl (1, 54610, .inl _) :: .inl (1, 54610, .inl _) :: .inl (1, 54610, .inl _) :: .inl (1, 5461, .inl _) :: .inl (1, 5461, .inl _) :: .inl (1, 5461, .inl _) :: .inl (1, 5461, .inl _) :: .inl (1, 5461, .inl _) :: .inl (1, 27305, .inl _) :: .inl (2, 3, .inl _) :: []), _, _))
  iterate 4 refine hR (?_ : R (_, _, _, _, _, _))
  refine hR (And.intro (by unfold vp_in; decide) ?_)
  exact hR (zret_i rfl (Nat.le_refl _) (rfl) (h))
/-! THE START. -/
theorem bk0 : bkOK (fun _ => 0) := by
  intro b _
  refine ⟨by dsimp only; decide, by dsimp only; decide, fun j _ _ => by dsimp only; decide, fun j _ _ => by dsimp only; decide, fun j _ => by dsimp only; decide⟩
theorem yr0 : yrOK (fun _ => 0) := by
  intro b _
  refine ⟨by dsimp only; decide, fun j _ => by dsimp only; decide⟩
theorem si0 : siOK (fun _ => 0) := by
  intro b _
  dsimp only
  decide
def rl0 : Nat → Nat := fun q => [1, 2, 3, 4, 5, 6, 7, 8, 9, 10, 11, 12, 13, 14].getD q 0
theorem rl0_ge {q : Nat} (h : 14 ≤ q) : rl0 q = 0 := lgd_ge h
theorem TOP0 : TOP rl0 (zCw (zMf [])) := by
  have hci : CI rl0 (zCw (zMf [])) := by
    refine ⟨fun q hq => ?_, fun q hq => rl0_ge (by have h : (zCw (zMf [])).length = 45 := rfl; omega), fun q hq => ?_⟩
    · have hq : q < 45 := hq
      match q, hq with
      | 0, _ => exact ⟨_, rfl, ⟨none, none, rfl, rfl, rfl, rfl, rfl, rfl, rfl, (fun z h => by cases h), (fun z h => by cases h)⟩⟩
      | 1, _ => exact ⟨_, rfl, ⟨0, 0, -1, rfl, rfl, ⟨by decide, by decide⟩, ⟨by decide, by decide⟩, ⟨by decide, by decide⟩, rfl, rfl, rfl, rfl⟩⟩
      | 2, _ => exact ⟨_, rfl, ⟨_, rfl, fun j => by show _ ∧ _; decide⟩⟩
      | 3, _ => exact ⟨_, rfl, ⟨_, rfl, fun j => by show _ ∧ _; decide⟩⟩
      | 4, _ => exact ⟨_, rfl, ⟨_, rfl, fun j x hx => by cases hx⟩⟩
      | 5, _ => exact ⟨_, rfl, ⟨_, rfl, fun j x hx => by cases hx⟩⟩
      | 6, _ => exact ⟨_, rfl, ⟨_, rfl, fun j x hx => by cases hx⟩⟩
      | 7, _ => exact ⟨_, rfl, ⟨_, rfl, fun j x hx => by cases hx⟩⟩
      | 8, _ => exact ⟨_, rfl, ⟨none, 0, 0, 0, 0, 0, 0, -1, rfl, (fun z h => by cases h), ⟨by decide, by decide⟩, ⟨by decide, by decide⟩, ⟨by decide, by decide⟩, ⟨by decide, by decide⟩, ⟨by decide, by decide⟩, ⟨by decide, by decide⟩, ⟨by decide, by decide⟩⟩⟩
      | 9, _ => exact ⟨_, rfl, ⟨none, 0, 0, 0, 0, rfl, (fun z h => by cases h), ⟨by decide, by decide⟩, ⟨by decide, by decide⟩, ⟨by decide, by decide⟩, ⟨by decide, by decide⟩, rfl, rfl⟩⟩
      | 10, _ => exact ⟨_, rfl, ⟨_, rfl, fun j => by show _ ∧ _; decide⟩⟩
      | 11, _ => exact ⟨_, rfl, ⟨_, rfl, fun j => by show _ ∧ _; decide⟩⟩
      | 12, _ => exact ⟨_, rfl, ⟨_, rfl, fun j x hx => by cases hx⟩⟩
      | 13, _ => exact ⟨_, rfl, ⟨_, rfl, fun j x hx => by cases hx⟩⟩
      | 14, _ => exact ⟨_, rfl, trivial⟩
      | 15, _ => exact ⟨_, rfl, trivial⟩
      | 16, _ => exact ⟨_, rfl, trivial⟩
      | 17, _ => exact ⟨_, rfl, trivial⟩
      | 18, _ => exact ⟨_, rfl, trivial⟩
      | 19, _ => exact ⟨_, rfl, trivial⟩
      | 20, _ => exact ⟨_, rfl, trivial⟩
      | 21, _ => exact ⟨_, rfl, trivial⟩
      | 22, _ => exact ⟨_, rfl, trivial⟩
      | 23, _ => exact ⟨_, rfl, trivial⟩
      | 24, _ => exact ⟨_, rfl, trivial⟩
      | 25, _ => exact ⟨_, rfl, trivial⟩
      | 26, _ => exact ⟨_, rfl, trivial⟩
      | 27, _ => exact ⟨_, rfl, trivial⟩
      | 28, _ => exact ⟨_, rfl, trivial⟩
      | 29, _ => exact ⟨_, rfl, trivial⟩
      | 30, _ => exact ⟨_, rfl, trivial⟩
      | 31, _ => exact ⟨_, rfl, trivial⟩
      | 32, _ => exact ⟨_, rfl, trivial⟩
      | 33, _ => exact ⟨_, rfl, trivial⟩
      | 34, _ => exact ⟨_, rfl, trivial⟩
      | 35, _ => exact ⟨_, rfl, trivial⟩
      | 36, _ => exact ⟨_, rfl, trivial⟩
      | 37, _ => exact ⟨_, rfl, trivial⟩
      | 38, _ => exact ⟨_, rfl, trivial⟩
      | 39, _ => exact ⟨_, rfl, trivial⟩
      | 40, _ => exact ⟨_, rfl, trivial⟩
      | 41, _ => exact ⟨_, rfl, trivial⟩
      | 42, _ => exact ⟨_, rfl, trivial⟩
      | 43, _ => exact ⟨_, rfl, trivial⟩
      | 44, _ => exact ⟨_, rfl, trivial⟩
      | n + 45, h => omega
    · exfalso
      by_cases h : q < 14
      · have : q = 0 ∨ q = 1 ∨ q = 2 ∨ q = 3 ∨ q = 4 ∨ q = 5 ∨ q = 6 ∨ q = 7 ∨ q = 8 ∨ q = 9 ∨ q = 10 ∨ q = 11 ∨ q = 12 ∨ q = 13 := by omega
        rcases this with rfl | rfl | rfl | rfl | rfl | rfl | rfl | rfl | rfl | rfl | rfl | rfl | rfl | rfl <;> cases hq
      · rw [rl0_ge (by omega)] at hq; cases hq
  refine ⟨hci, rfl, fun q hq => ?_, fun q a _ => rl0_ge a, Nat.le_of_ble_eq_true rfl⟩
  exfalso
  by_cases h : q < 14
  · have : q = 0 ∨ q = 1 ∨ q = 2 ∨ q = 3 ∨ q = 4 ∨ q = 5 ∨ q = 6 ∨ q = 7 ∨ q = 8 ∨ q = 9 ∨ q = 10 ∨ q = 11 ∨ q = 12 ∨ q = 13 := by omega
    rcases this with rfl | rfl | rfl | rfl | rfl | rfl | rfl | rfl | rfl | rfl | rfl | rfl | rfl | rfl <;> cases hq
  · rw [rl0_ge (by omega)] at hq; cases hq
theorem MI0 : MI (zCw (zMf [])) (fun _ => 0) (fun _ => 0) := by
  have hz : ∀ lo hi : Int, lo ≤ 0 → 0 ≤ hi → zB lo hi (fun _ => 0) := fun lo hi a b j => ⟨a, b⟩
  exact ⟨_, _, _, _, _, _, _, _, _, _, _, _, _, _, 0, 0, 0, 0, 0, 0, 0, 0, 0, 0, (-1), 0, 0, 0, 0, 0, 0, 0, 0, 0, 0, 0, _, _, _, _, _, _, _, _, _, _, _, _, _, _, _, _, _, _, _, _, _, _, _, _, _, _, _, _, [], rfl, hz _ _ (by decide) (by decide), hz _ _ (by decide) (by decide), bk0, yr0, si0, hz _ _ (by decide) (by decide), hz _ _ (by decide) (by decide), hz _ _ (by decide) (by decide), hz _ _ (by decide) (by decide), hz _ _ (by decide) (by decide), hz _ _ (by decide) (by decide)⟩
theorem J0 : J (zCw (zMf [])) := by
  refine ⟨rl0, fun _ => 0, fun _ => 0, TOP0, MI0, ⟨⟨_, _, rfl, by decide, by decide⟩, fun _ => none, rfl, fun k hk => Or.inl ⟨rfl, rfl⟩, fun j k q _ _ h => by cases h⟩⟩
theorem phi0 : phi (zCw (zMf [])) = 254700 := by decide
def zLQ : zQ := fun r _ => r = some (.int 1)
theorem zrsub {C : zCT} {d : Nat} {M : zM} {E : zX} {tab : List zM} {mc ms : Nat} {Q : zQ} {R : zS → Prop} (cd : List zE) (h : cd.all (fun e => decide (zat M.2.2.2.2.2 e.1 = some e.2)) = true) (hR : ∀ y, zstep C d M E tab mc ms Q y R → R y) : ∀ {pc : Nat} {L : zL} {S : List Value} {w : zW} {k n : Nat}, zsc C d (M.1, M.2.1, M.2.2.1, M.2.2.2.1, M.2.2.2.2.1, cd) E tab mc ms Q pc L S w k n R → R (pc, L, S, w, k, n) := by
  intro pc L S w k n hy
  refine hR (pc, L, S, w, k, n) ?_
  unfold zsc at hy
  unfold zstep zsc
  dsimp only at hy ⊢
  split at hy
  · exact hy.elim
  · rename_i r hr
    have h1 := List.all_eq_true.mp h _ (zat_mem hr)
    rw [of_decide_eq_true h1]
    exact hy
def qL0 : List zE := [(192, .aload_n 1, 193, 0, 0), (193, .aload_n 0, 194, 0, 0), (194, .iload_n 3, 195, 0, 0), (195, .iconst 1, 196, 0, 0), (196, .iadd, 197, 0, 0), (197, .iaload, 198, 0, 0), (198, .aload_n 0, 199, 0, 0), (199, .iload_n 3, 200, 0, 0), (200, .iconst 2, 201, 0, 0), (201, .iadd, 202, 0, 0), (202, .iaload, 203, 0, 0), (203, .aload_n 0, 204, 0, 0), (204, .iload_n 3, 205, 0, 0), (205, .iconst 3, 206, 0, 0), (206, .iadd, 207, 0, 0), (207, .iaload, 208, 0, 0), (208, .aload_n 0, 209, 0, 0), (209, .iload_n 3, 210, 0, 0), (210, .iconst 4, 211, 0, 0), (211, .iadd, 212, 0, 0), (212, .iaload, 213, 0, 0), (213, .aload_n 0, 214, 0, 0), (214, .iload_n 3, 215, 0, 0), (215, .iconst 5, 216, 0, 0), (216, .iadd, 217, 0, 0), (217, .iaload, 218, 0, 0), (218, .invokevirtual 13, 221, 2, 5), (221, .pop, 222, 0, 0), (222, .aload_n 2, 223, 0, 0), (223, .aload_n 0, 224, 0, 0), (224, .iload_n 3, 225, 0, 0), (225, .iconst 1, 226, 0, 0), (226, .iadd, 227, 0, 0), (227, .iaload, 228, 0, 0), (228, .aload_n 0, 229, 0, 0), (229, .iload_n 3, 230, 0, 0), (230, .iconst 2, 231, 0, 0), (231, .iadd, 232, 0, 0), (232, .iaload, 233, 0, 0), (233, .aload_n 0, 234, 0, 0), (234, .iload_n 3, 235, 0, 0), (235, .iconst 3, 236, 0, 0), (236, .iadd, 237, 0, 0), (237, .iaload, 238, 0, 0), (238, .aload_n 0, 239, 0, 0), (239, .iload_n 3, 240, 0, 0), (240, .iconst 4, 241, 0, 0), (241, .iadd, 242, 0, 0), (242, .iaload, 243, 0, 0), (243, .aload_n 0, 244, 0, 0), (244, .iload_n 3, 245, 0, 0), (245, .iconst 5, 246, 0, 0), (246, .iadd, 247, 0, 0), (247, .iaload, 248, 0, 0), (248, .invokevirtual 17, 251, 188, 5), (251, .pop, 252, 0, 0), (252, .goto 1590, 255, 1842, 0)]
theorem sL0 : qL0.all (fun e => decide (zat kL_law.2.2.2.2.2 e.1 = some e.2)) = true := by decide +kernel
theorem l_c0 {R : zS → Prop} {L : Nat} {xs : Nat → Int32} (hR : ∀ y, zstep (zCl zTab 12) 12 kL_law (some (L, xs)) zTab 600000 7302250 zLQ y R → R y) (hL : L ≤ 3584) {w : zW} {i : Int} {k n : Nat} (hi : 0 ≤ i ∧ i + 7 ≤ L) (hJ : J w) (hk : k + 100 ≤ 600000) (hn : n + phi w + 300 ≤ 7302250) (hb : ∀ w' k' n', J w' → k' ≤ k + 100 → n' + phi w' ≤ n + phi w + 300 → R (1842, [some (.retAddr 0), some (.ref 0), some (.ref 14), some (.int (Int32.ofInt i))], [], w', k', n')) : R (192, [some (.retAddr 0), some (.ref 0), some (.ref 14), some (.int (Int32.ofInt i))], [], w, k, n) := by
  have hR := @zrsub _ _ _ _ _ _ _ _ _ qL0 sL0 hR
  refine hR (?_ : R (_, _, _, _, _, _))
  refine hR (?_ : R (_, _, _, _, _, _))
  refine hR (?_ : R (_, _, _, _, _, _))
  refine hR (?_ : R (_, _, _, _, _, _))
  refine hR (t_add ?_)
  refine hR (And.intro (zvin (by omega) (by omega) (by omega)) (t_raw ?_))
  refine hR (?_ : R (_, _, _, _, _, _))
  refine hR (?_ : R (_, _, _, _, _, _))
  refine hR (?_ : R (_, _, _, _, _, _))
  refine hR (t_add ?_)
  refine hR (And.intro (zvin (by omega) (by omega) (by omega)) (t_raw ?_))
  refine hR (?_ : R (_, _, _, _, _, _))
  refine hR (?_ : R (_, _, _, _, _, _))
  refine hR (?_ : R (_, _, _, _, _, _))
  refine hR (t_add ?_)
  refine hR (And.intro (zvin (by omega) (by omega) (by omega)) (t_raw ?_))
  refine hR (?_ : R (_, _, _, _, _, _))
  refine hR (?_ : R (_, _, _, _, _, _))
  refine hR (?_ : R (_, _, _, _, _, _))
  refine hR (t_add ?_)
  refine hR (And.intro (zvin (by omega) (by omega) (by omega)) (t_raw ?_))
  refine hR (?_ : R (_, _, _, _, _, _))
  refine hR (?_ : R (_, _, _, _, _, _))
  refine hR (?_ : R (_, _, _, _, _, _))
  refine hR (t_add ?_)
  refine hR (And.intro (zvin (by omega) (by omega) (by omega)) (t_raw ?_))
  obtain ⟨mc, ms, r, w1, r2, w2, run1, run2, ⟨fs0, h0⟩, ⟨fs1, h14⟩, hJ2, hmc, hms, hP⟩ := pr_feed hJ (xs (Int32.ofInt (i + 1)).toNatClampNeg).toInt (xs (Int32.ofInt (i + 2)).toNatClampNeg).toInt (xs (Int32.ofInt (i + 3)).toNatClampNeg).toInt (xs (Int32.ofInt (i + 4)).toNatClampNeg).toInt (xs (Int32.ofInt (i + 5)).toNatClampNeg).toInt (zrg _) (zrg _) (zrg _) (zrg _) (zrg _)
  obtain ⟨v, rfl, rfl⟩ := hP
  refine hR (c_obj h0 (zcall_i mc ms (by omega) (by omega) (run1 _ ?_)))
  refine (?_ : R (_, _, .int v :: [], w1, k + mc, n + ms))
  refine hR (?_ : R (_, _, _, _, _, _))
  refine hR (?_ : R (_, _, _, _, _, _))
  refine hR (?_ : R (_, _, _, _, _, _))
  refine hR (?_ : R (_, _, _, _, _, _))
  refine hR (?_ : R (_, _, _, _, _, _))
  refine hR (t_add ?_)
  refine hR (And.intro (zvin (by omega) (by omega) (by omega)) (t_raw ?_))
  refine hR (?_ : R (_, _, _, _, _, _))
  refine hR (?_ : R (_, _, _, _, _, _))
  refine hR (?_ : R (_, _, _, _, _, _))
  refine hR (t_add ?_)
  refine hR (And.intro (zvin (by omega) (by omega) (by omega)) (t_raw ?_))
  refine hR (?_ : R (_, _, _, _, _, _))
  refine hR (?_ : R (_, _, _, _, _, _))
  refine hR (?_ : R (_, _, _, _, _, _))
  refine hR (t_add ?_)
  refine hR (And.intro (zvin (by omega) (by omega) (by omega)) (t_raw ?_))
  refine hR (?_ : R (_, _, _, _, _, _))
  refine hR (?_ : R (_, _, _, _, _, _))
  refine hR (?_ : R (_, _, _, _, _, _))
  refine hR (t_add ?_)
  refine hR (And.intro (zvin (by omega) (by omega) (by omega)) (t_raw ?_))
  refine hR (?_ : R (_, _, _, _, _, _))
  refine hR (?_ : R (_, _, _, _, _, _))
  refine hR (?_ : R (_, _, _, _, _, _))
  refine hR (t_add ?_)
  refine hR (And.intro (zvin (by omega) (by omega) (by omega)) (t_raw ?_))
  refine hR (c_obj h14 (zcall_i 0 0 (by omega) (by omega) (run2 _ ?_)))
  refine (?_ : R (_, _, .int v :: [], w2, k + mc, n + ms))
  refine hR (?_ : R (_, _, _, _, _, _))
  refine hR (?_ : R (_, _, _, _, _, _))
  exact hb w2 _ _ hJ2 (by omega) (by omega)
def qL1 : List zE := [(255, .aload_n 1, 256, 0, 0), (256, .aload_n 0, 257, 0, 0), (257, .iload_n 3, 258, 0, 0), (258, .iconst 1, 259, 0, 0), (259, .iadd, 260, 0, 0), (260, .iaload, 261, 0, 0), (261, .invokevirtual 18, 264, 3, 1), (264, .pop, 265, 0, 0), (265, .aload_n 2, 266, 0, 0), (266, .aload_n 0, 267, 0, 0), (267, .iload_n 3, 268, 0, 0), (268, .iconst 1, 269, 0, 0), (269, .iadd, 270, 0, 0), (270, .iaload, 271, 0, 0), (271, .invokevirtual 22, 274, 190, 1), (274, .pop, 275, 0, 0), (275, .goto 1567, 278, 1842, 0)]
theorem sL1 : qL1.all (fun e => decide (zat kL_law.2.2.2.2.2 e.1 = some e.2)) = true := by decide +kernel
theorem l_c1 {R : zS → Prop} {L : Nat} {xs : Nat → Int32} (hR : ∀ y, zstep (zCl zTab 12) 12 kL_law (some (L, xs)) zTab 600000 7302250 zLQ y R → R y) (hL : L ≤ 3584) {w : zW} {i : Int} {k n : Nat} (hi : 0 ≤ i ∧ i + 7 ≤ L) (hJ : J w) (hk : k + 100 ≤ 600000) (hn : n + phi w + 300 ≤ 7302250) (hb : ∀ w' k' n', J w' → k' ≤ k + 100 → n' + phi w' ≤ n + phi w + 300 → R (1842, [some (.retAddr 0), some (.ref 0), some (.ref 14), some (.int (Int32.ofInt i))], [], w', k', n')) : R (255, [some (.retAddr 0), some (.ref 0), some (.ref 14), some (.int (Int32.ofInt i))], [], w, k, n) := by
  have hR := @zrsub _ _ _ _ _ _ _ _ _ qL1 sL1 hR
  refine hR (?_ : R (_, _, _, _, _, _))
  refine hR (?_ : R (_, _, _, _, _, _))
  refine hR (?_ : R (_, _, _, _, _, _))
  refine hR (?_ : R (_, _, _, _, _, _))
  refine hR (t_add ?_)
  refine hR (And.intro (zvin (by omega) (by omega) (by omega)) (t_raw ?_))
  obtain ⟨mc, ms, r, w1, r2, w2, run1, run2, ⟨fs0, h0⟩, ⟨fs1, h14⟩, hJ2, hmc, hms, hP⟩ := pr_end hJ (xs (Int32.ofInt (i + 1)).toNatClampNeg).toInt (zrg _)
  obtain ⟨v, rfl, rfl⟩ := hP
  refine hR (c_obj h0 (zcall_i mc ms (by omega) (by omega) (run1 _ ?_)))
  refine (?_ : R (_, _, .int v :: [], w1, k + mc, n + ms))
  refine hR (?_ : R (_, _, _, _, _, _))
  refine hR (?_ : R (_, _, _, _, _, _))
  refine hR (?_ : R (_, _, _, _, _, _))
  refine hR (?_ : R (_, _, _, _, _, _))
  refine hR (?_ : R (_, _, _, _, _, _))
  refine hR (t_add ?_)
  refine hR (And.intro (zvin (by omega) (by omega) (by omega)) (t_raw ?_))
  refine hR (c_obj h14 (zcall_i 0 0 (by omega) (by omega) (run2 _ ?_)))
  refine (?_ : R (_, _, .int v :: [], w2, k + mc, n + ms))
  refine hR (?_ : R (_, _, _, _, _, _))
  refine hR (?_ : R (_, _, _, _, _, _))
  exact hb w2 _ _ hJ2 (by omega) (by omega)
def qL2 : List zE := [(278, .aload_n 1, 279, 0, 0), (279, .aload_n 0, 280, 0, 0), (280, .iload_n 3, 281, 0, 0), (281, .iconst 1, 282, 0, 0), (282, .iadd, 283, 0, 0), (283, .iaload, 284, 0, 0), (284, .aload_n 0, 285, 0, 0), (285, .iload_n 3, 286, 0, 0), (286, .iconst 2, 287, 0, 0), (287, .iadd, 288, 0, 0), (288, .iaload, 289, 0, 0), (289, .invokevirtual 23, 292, 4, 2), (292, .pop, 293, 0, 0), (293, .aload_n 2, 294, 0, 0), (294, .aload_n 0, 295, 0, 0), (295, .iload_n 3, 296, 0, 0), (296, .iconst 1, 297, 0, 0), (297, .iadd, 298, 0, 0), (298, .iaload, 299, 0, 0), (299, .aload_n 0, 300, 0, 0), (300, .iload_n 3, 301, 0, 0), (301, .iconst 2, 302, 0, 0), (302, .iadd, 303, 0, 0), (303, .iaload, 304, 0, 0), (304, .invokevirtual 27, 307, 211, 2), (307, .pop, 308, 0, 0), (308, .goto 1534, 311, 1842, 0)]
theorem sL2 : qL2.all (fun e => decide (zat kL_law.2.2.2.2.2 e.1 = some e.2)) = true := by decide +kernel
theorem l_c2 {R : zS → Prop} {L : Nat} {xs : Nat → Int32} (hR : ∀ y, zstep (zCl zTab 12) 12 kL_law (some (L, xs)) zTab 600000 7302250 zLQ y R → R y) (hL : L ≤ 3584) {w : zW} {i : Int} {k n : Nat} (hi : 0 ≤ i ∧ i + 7 ≤ L) (hJ : J w) (hk : k + 100 ≤ 600000) (hn : n + phi w + 300 ≤ 7302250) (hb : ∀ w' k' n', J w' → k' ≤ k + 100 → n' + phi w' ≤ n + phi w + 300 → R (1842, [some (.retAddr 0), some (.ref 0), some (.ref 14), some (.int (Int32.ofInt i))], [], w', k', n')) : R (278, [some (.retAddr 0), some (.ref 0), some (.ref 14), some (.int (Int32.ofInt i))], [], w, k, n) := by
  have hR := @zrsub _ _ _ _ _ _ _ _ _ qL2 sL2 hR
  refine hR (?_ : R (_, _, _, _, _, _))
  refine hR (?_ : R (_, _, _, _, _, _))
  refine hR (?_ : R (_, _, _, _, _, _))
  refine hR (?_ : R (_, _, _, _, _, _))
  refine hR (t_add ?_)
  refine hR (And.intro (zvin (by omega) (by omega) (by omega)) (t_raw ?_))
  refine hR (?_ : R (_, _, _, _, _, _))
  refine hR (?_ : R (_, _, _, _, _, _))
  refine hR (?_ : R (_, _, _, _, _, _))
  refine hR (t_add ?_)
  refine hR (And.intro (zvin (by omega) (by omega) (by omega)) (t_raw ?_))
  obtain ⟨mc, ms, r, w1, r2, w2, run1, run2, ⟨fs0, h0⟩, ⟨fs1, h14⟩, hJ2, hmc, hms, hP⟩ := pr_text hJ (xs (Int32.ofInt (i + 1)).toNatClampNeg).toInt (xs (Int32.ofInt (i + 2)).toNatClampNeg).toInt (zrg _) (zrg _)
  obtain ⟨v, v2, rfl, rfl⟩ := hP
  refine hR (c_obj h0 (zcall_i mc ms (by omega) (by omega) (run1 _ ?_)))
  refine (?_ : R (_, _, .int v :: [], w1, k + mc, n + ms))
  refine hR (?_ : R (_, _, _, _, _, _))
  refine hR (?_ : R (_, _, _, _, _, _))
  refine hR (?_ : R (_, _, _, _, _, _))
  refine hR (?_ : R (_, _, _, _, _, _))
  refine hR (?_ : R (_, _, _, _, _, _))
  refine hR (t_add ?_)
  refine hR (And.intro (zvin (by omega) (by omega) (by omega)) (t_raw ?_))
  refine hR (?_ : R (_, _, _, _, _, _))
  refine hR (?_ : R (_, _, _, _, _, _))
  refine hR (?_ : R (_, _, _, _, _, _))
  refine hR (t_add ?_)
  refine hR (And.intro (zvin (by omega) (by omega) (by omega)) (t_raw ?_))
  refine hR (c_obj h14 (zcall_i 0 0 (by omega) (by omega) (run2 _ ?_)))
  refine (?_ : R (_, _, .int v2 :: [], w2, k + mc, n + ms))
  refine hR (?_ : R (_, _, _, _, _, _))
  refine hR (?_ : R (_, _, _, _, _, _))
  exact hb w2 _ _ hJ2 (by omega) (by omega)
def qL3 : List zE := [(311, .aload_n 1, 312, 0, 0), (312, .aload_n 0, 313, 0, 0), (313, .iload_n 3, 314, 0, 0), (314, .iconst 1, 315, 0, 0), (315, .iadd, 316, 0, 0), (316, .iaload, 317, 0, 0), (317, .invokevirtual 28, 320, 5, 1), (320, .pop, 321, 0, 0), (321, .aload_n 2, 322, 0, 0), (322, .aload_n 0, 323, 0, 0), (323, .iload_n 3, 324, 0, 0), (324, .iconst 1, 325, 0, 0), (325, .iadd, 326, 0, 0), (326, .iaload, 327, 0, 0), (327, .invokevirtual 31, 330, 212, 1), (330, .pop, 331, 0, 0), (331, .goto 1511, 334, 1842, 0)]
theorem sL3 : qL3.all (fun e => decide (zat kL_law.2.2.2.2.2 e.1 = some e.2)) = true := by decide +kernel
theorem l_c3 {R : zS → Prop} {L : Nat} {xs : Nat → Int32} (hR : ∀ y, zstep (zCl zTab 12) 12 kL_law (some (L, xs)) zTab 600000 7302250 zLQ y R → R y) (hL : L ≤ 3584) {w : zW} {i : Int} {k n : Nat} (hi : 0 ≤ i ∧ i + 7 ≤ L) (hJ : J w) (hk : k + 100 ≤ 600000) (hn : n + phi w + 300 ≤ 7302250) (hb : ∀ w' k' n', J w' → k' ≤ k + 100 → n' + phi w' ≤ n + phi w + 300 → R (1842, [some (.retAddr 0), some (.ref 0), some (.ref 14), some (.int (Int32.ofInt i))], [], w', k', n')) : R (311, [some (.retAddr 0), some (.ref 0), some (.ref 14), some (.int (Int32.ofInt i))], [], w, k, n) := by
  have hR := @zrsub _ _ _ _ _ _ _ _ _ qL3 sL3 hR
  refine hR (?_ : R (_, _, _, _, _, _))
  refine hR (?_ : R (_, _, _, _, _, _))
  refine hR (?_ : R (_, _, _, _, _, _))
  refine hR (?_ : R (_, _, _, _, _, _))
  refine hR (t_add ?_)
  refine hR (And.intro (zvin (by omega) (by omega) (by omega)) (t_raw ?_))
  obtain ⟨mc, ms, r, w1, r2, w2, run1, run2, ⟨fs0, h0⟩, ⟨fs1, h14⟩, hJ2, hmc, hms, hP⟩ := pr_fault hJ (xs (Int32.ofInt (i + 1)).toNatClampNeg).toInt (zrg _)
  obtain ⟨v, v2, rfl, rfl⟩ := hP
  refine hR (c_obj h0 (zcall_i mc ms (by omega) (by omega) (run1 _ ?_)))
  refine (?_ : R (_, _, .int v :: [], w1, k + mc, n + ms))
  refine hR (?_ : R (_, _, _, _, _, _))
  refine hR (?_ : R (_, _, _, _, _, _))
  refine hR (?_ : R (_, _, _, _, _, _))
  refine hR (?_ : R (_, _, _, _, _, _))
  refine hR (?_ : R (_, _, _, _, _, _))
  refine hR (t_add ?_)
  refine hR (And.intro (zvin (by omega) (by omega) (by omega)) (t_raw ?_))
  refine hR (c_obj h14 (zcall_i 0 0 (by omega) (by omega) (run2 _ ?_)))
  refine (?_ : R (_, _, .int v2 :: [], w2, k + mc, n + ms))
  refine hR (?_ : R (_, _, _, _, _, _))
  refine hR (?_ : R (_, _, _, _, _, _))
  exact hb w2 _ _ hJ2 (by omega) (by omega)
def qL4 : List zE := [(334, .aload_n 1, 335, 0, 0), (335, .aload_n 0, 336, 0, 0), (336, .iload_n 3, 337, 0, 0), (337, .iconst 1, 338, 0, 0), (338, .iadd, 339, 0, 0), (339, .iaload, 340, 0, 0), (340, .aload_n 0, 341, 0, 0), (341, .iload_n 3, 342, 0, 0), (342, .iconst 2, 343, 0, 0), (343, .iadd, 344, 0, 0), (344, .iaload, 345, 0, 0), (345, .invokevirtual 32, 348, 6, 2), (348, .pop, 349, 0, 0), (349, .aload_n 2, 350, 0, 0), (350, .aload_n 0, 351, 0, 0), (351, .iload_n 3, 352, 0, 0), (352, .iconst 1, 353, 0, 0), (353, .iadd, 354, 0, 0), (354, .iaload, 355, 0, 0), (355, .aload_n 0, 356, 0, 0), (356, .iload_n 3, 357, 0, 0), (357, .iconst 2, 358, 0, 0), (358, .iadd, 359, 0, 0), (359, .iaload, 360, 0, 0), (360, .invokevirtual 35, 363, 227, 2), (363, .pop, 364, 0, 0), (364, .goto 1478, 367, 1842, 0)]
theorem sL4 : qL4.all (fun e => decide (zat kL_law.2.2.2.2.2 e.1 = some e.2)) = true := by decide +kernel
theorem l_c4 {R : zS → Prop} {L : Nat} {xs : Nat → Int32} (hR : ∀ y, zstep (zCl zTab 12) 12 kL_law (some (L, xs)) zTab 600000 7302250 zLQ y R → R y) (hL : L ≤ 3584) {w : zW} {i : Int} {k n : Nat} (hi : 0 ≤ i ∧ i + 7 ≤ L) (hJ : J w) (hk : k + 100 ≤ 600000) (hn : n + phi w + 300 ≤ 7302250) (hb : ∀ w' k' n', J w' → k' ≤ k + 100 → n' + phi w' ≤ n + phi w + 300 → R (1842, [some (.retAddr 0), some (.ref 0), some (.ref 14), some (.int (Int32.ofInt i))], [], w', k', n')) : R (334, [some (.retAddr 0), some (.ref 0), some (.ref 14), some (.int (Int32.ofInt i))], [], w, k, n) := by
  have hR := @zrsub _ _ _ _ _ _ _ _ _ qL4 sL4 hR
  refine hR (?_ : R (_, _, _, _, _, _))
  refine hR (?_ : R (_, _, _, _, _, _))
  refine hR (?_ : R (_, _, _, _, _, _))
  refine hR (?_ : R (_, _, _, _, _, _))
  refine hR (t_add ?_)
  refine hR (And.intro (zvin (by omega) (by omega) (by omega)) (t_raw ?_))
  refine hR (?_ : R (_, _, _, _, _, _))
  refine hR (?_ : R (_, _, _, _, _, _))
  refine hR (?_ : R (_, _, _, _, _, _))
  refine hR (t_add ?_)
  refine hR (And.intro (zvin (by omega) (by omega) (by omega)) (t_raw ?_))
  obtain ⟨mc, ms, r, w1, r2, w2, run1, run2, ⟨fs0, h0⟩, ⟨fs1, h14⟩, hJ2, hmc, hms, hP⟩ := pr_book hJ (xs (Int32.ofInt (i + 1)).toNatClampNeg).toInt (xs (Int32.ofInt (i + 2)).toNatClampNeg).toInt (zrg _) (zrg _)
  obtain ⟨v, v2, rfl, rfl⟩ := hP
  refine hR (c_obj h0 (zcall_i mc ms (by omega) (by omega) (run1 _ ?_)))
  refine (?_ : R (_, _, .int v :: [], w1, k + mc, n + ms))
  refine hR (?_ : R (_, _, _, _, _, _))
  refine hR (?_ : R (_, _, _, _, _, _))
  refine hR (?_ : R (_, _, _, _, _, _))
  refine hR (?_ : R (_, _, _, _, _, _))
  refine hR (?_ : R (_, _, _, _, _, _))
  refine hR (t_add ?_)
  refine hR (And.intro (zvin (by omega) (by omega) (by omega)) (t_raw ?_))
  refine hR (?_ : R (_, _, _, _, _, _))
  refine hR (?_ : R (_, _, _, _, _, _))
  refine hR (?_ : R (_, _, _, _, _, _))
  refine hR (t_add ?_)
  refine hR (And.intro (zvin (by omega) (by omega) (by omega)) (t_raw ?_))
  refine hR (c_obj h14 (zcall_i 0 0 (by omega) (by omega) (run2 _ ?_)))
  refine (?_ : R (_, _, .int v2 :: [], w2, k + mc, n + ms))
  refine hR (?_ : R (_, _, _, _, _, _))
  refine hR (?_ : R (_, _, _, _, _, _))
  exact hb w2 _ _ hJ2 (by omega) (by omega)
def qL5 : List zE := [(367, .aload_n 1, 368, 0, 0), (368, .aload_n 0, 369, 0, 0), (369, .iload_n 3, 370, 0, 0), (370, .iconst 1, 371, 0, 0), (371, .iadd, 372, 0, 0), (372, .iaload, 373, 0, 0), (373, .aload_n 0, 374, 0, 0), (374, .iload_n 3, 375, 0, 0), (375, .iconst 2, 376, 0, 0), (376, .iadd, 377, 0, 0), (377, .iaload, 378, 0, 0), (378, .invokevirtual 36, 381, 7, 2), (381, .pop, 382, 0, 0), (382, .aload_n 2, 383, 0, 0), (383, .aload_n 0, 384, 0, 0), (384, .iload_n 3, 385, 0, 0), (385, .iconst 1, 386, 0, 0), (386, .iadd, 387, 0, 0), (387, .iaload, 388, 0, 0), (388, .aload_n 0, 389, 0, 0), (389, .iload_n 3, 390, 0, 0), (390, .iconst 2, 391, 0, 0), (391, .iadd, 392, 0, 0), (392, .iaload, 393, 0, 0), (393, .invokevirtual 39, 396, 228, 2), (396, .pop, 397, 0, 0), (397, .goto 1445, 400, 1842, 0)]
theorem sL5 : qL5.all (fun e => decide (zat kL_law.2.2.2.2.2 e.1 = some e.2)) = true := by decide +kernel
theorem l_c5 {R : zS → Prop} {L : Nat} {xs : Nat → Int32} (hR : ∀ y, zstep (zCl zTab 12) 12 kL_law (some (L, xs)) zTab 600000 7302250 zLQ y R → R y) (hL : L ≤ 3584) {w : zW} {i : Int} {k n : Nat} (hi : 0 ≤ i ∧ i + 7 ≤ L) (hJ : J w) (hk : k + 100 ≤ 600000) (hn : n + phi w + 300 ≤ 7302250) (hb : ∀ w' k' n', J w' → k' ≤ k + 100 → n' + phi w' ≤ n + phi w + 300 → R (1842, [some (.retAddr 0), some (.ref 0), some (.ref 14), some (.int (Int32.ofInt i))], [], w', k', n')) : R (367, [some (.retAddr 0), some (.ref 0), some (.ref 14), some (.int (Int32.ofInt i))], [], w, k, n) := by
  have hR := @zrsub _ _ _ _ _ _ _ _ _ qL5 sL5 hR
  refine hR (?_ : R (_, _, _, _, _, _))
  refine hR (?_ : R (_, _, _, _, _, _))
  refine hR (?_ : R (_, _, _, _, _, _))
  refine hR (?_ : R (_, _, _, _, _, _))
  refine hR (t_add ?_)
  refine hR (And.intro (zvin (by omega) (by omega) (by omega)) (t_raw ?_))
  refine hR (?_ : R (_, _, _, _, _, _))
  refine hR (?_ : R (_, _, _, _, _, _))
  refine hR (?_ : R (_, _, _, _, _, _))
  refine hR (t_add ?_)
  refine hR (And.intro (zvin (by omega) (by omega) (by omega)) (t_raw ?_))
  obtain ⟨mc, ms, r, w1, r2, w2, run1, run2, ⟨fs0, h0⟩, ⟨fs1, h14⟩, hJ2, hmc, hms, hP⟩ := pr_word hJ (xs (Int32.ofInt (i + 1)).toNatClampNeg).toInt (xs (Int32.ofInt (i + 2)).toNatClampNeg).toInt (zrg _) (zrg _)
  obtain ⟨v, v2, rfl, rfl⟩ := hP
  refine hR (c_obj h0 (zcall_i mc ms (by omega) (by omega) (run1 _ ?_)))
  refine (?_ : R (_, _, .int v :: [], w1, k + mc, n + ms))
  refine hR (?_ : R (_, _, _, _, _, _))
  refine hR (?_ : R (_, _, _, _, _, _))
  refine hR (?_ : R (_, _, _, _, _, _))
  refine hR (?_ : R (_, _, _, _, _, _))
  refine hR (?_ : R (_, _, _, _, _, _))
  refine hR (t_add ?_)
  refine hR (And.intro (zvin (by omega) (by omega) (by omega)) (t_raw ?_))
  refine hR (?_ : R (_, _, _, _, _, _))
  refine hR (?_ : R (_, _, _, _, _, _))
  refine hR (?_ : R (_, _, _, _, _, _))
  refine hR (t_add ?_)
  refine hR (And.intro (zvin (by omega) (by omega) (by omega)) (t_raw ?_))
  refine hR (c_obj h14 (zcall_i 0 0 (by omega) (by omega) (run2 _ ?_)))
  refine (?_ : R (_, _, .int v2 :: [], w2, k + mc, n + ms))
  refine hR (?_ : R (_, _, _, _, _, _))
  refine hR (?_ : R (_, _, _, _, _, _))
  exact hb w2 _ _ hJ2 (by omega) (by omega)
def qL6 : List zE := [(400, .aload_n 1, 401, 0, 0), (401, .aload_n 0, 402, 0, 0), (402, .iload_n 3, 403, 0, 0), (403, .iconst 1, 404, 0, 0), (404, .iadd, 405, 0, 0), (405, .iaload, 406, 0, 0), (406, .aload_n 0, 407, 0, 0), (407, .iload_n 3, 408, 0, 0), (408, .iconst 2, 409, 0, 0), (409, .iadd, 410, 0, 0), (410, .iaload, 411, 0, 0), (411, .invokevirtual 40, 414, 8, 2), (414, .pop, 415, 0, 0), (415, .aload_n 2, 416, 0, 0), (416, .aload_n 0, 417, 0, 0), (417, .iload_n 3, 418, 0, 0), (418, .iconst 1, 419, 0, 0), (419, .iadd, 420, 0, 0), (420, .iaload, 421, 0, 0), (421, .aload_n 0, 422, 0, 0), (422, .iload_n 3, 423, 0, 0), (423, .iconst 2, 424, 0, 0), (424, .iadd, 425, 0, 0), (425, .iaload, 426, 0, 0), (426, .invokevirtual 43, 429, 229, 2), (429, .pop, 430, 0, 0), (430, .goto 1412, 433, 1842, 0)]
theorem sL6 : qL6.all (fun e => decide (zat kL_law.2.2.2.2.2 e.1 = some e.2)) = true := by decide +kernel
theorem l_c6 {R : zS → Prop} {L : Nat} {xs : Nat → Int32} (hR : ∀ y, zstep (zCl zTab 12) 12 kL_law (some (L, xs)) zTab 600000 7302250 zLQ y R → R y) (hL : L ≤ 3584) {w : zW} {i : Int} {k n : Nat} (hi : 0 ≤ i ∧ i + 7 ≤ L) (hJ : J w) (hk : k + 100 ≤ 600000) (hn : n + phi w + 300 ≤ 7302250) (hb : ∀ w' k' n', J w' → k' ≤ k + 100 → n' + phi w' ≤ n + phi w + 300 → R (1842, [some (.retAddr 0), some (.ref 0), some (.ref 14), some (.int (Int32.ofInt i))], [], w', k', n')) : R (400, [some (.retAddr 0), some (.ref 0), some (.ref 14), some (.int (Int32.ofInt i))], [], w, k, n) := by
  have hR := @zrsub _ _ _ _ _ _ _ _ _ qL6 sL6 hR
  refine hR (?_ : R (_, _, _, _, _, _))
  refine hR (?_ : R (_, _, _, _, _, _))
  refine hR (?_ : R (_, _, _, _, _, _))
  refine hR (?_ : R (_, _, _, _, _, _))
  refine hR (t_add ?_)
  refine hR (And.intro (zvin (by omega) (by omega) (by omega)) (t_raw ?_))
  refine hR (?_ : R (_, _, _, _, _, _))
  refine hR (?_ : R (_, _, _, _, _, _))
  refine hR (?_ : R (_, _, _, _, _, _))
  refine hR (t_add ?_)
  refine hR (And.intro (zvin (by omega) (by omega) (by omega)) (t_raw ?_))
  obtain ⟨mc, ms, r, w1, r2, w2, run1, run2, ⟨fs0, h0⟩, ⟨fs1, h14⟩, hJ2, hmc, hms, hP⟩ := pr_drift hJ (xs (Int32.ofInt (i + 1)).toNatClampNeg).toInt (xs (Int32.ofInt (i + 2)).toNatClampNeg).toInt (zrg _) (zrg _)
  obtain ⟨v, v2, rfl, rfl⟩ := hP
  refine hR (c_obj h0 (zcall_i mc ms (by omega) (by omega) (run1 _ ?_)))
  refine (?_ : R (_, _, .int v :: [], w1, k + mc, n + ms))
  refine hR (?_ : R (_, _, _, _, _, _))
  refine hR (?_ : R (_, _, _, _, _, _))
  refine hR (?_ : R (_, _, _, _, _, _))
  refine hR (?_ : R (_, _, _, _, _, _))
  refine hR (?_ : R (_, _, _, _, _, _))
  refine hR (t_add ?_)
  refine hR (And.intro (zvin (by omega) (by omega) (by omega)) (t_raw ?_))
  refine hR (?_ : R (_, _, _, _, _, _))
  refine hR (?_ : R (_, _, _, _, _, _))
  refine hR (?_ : R (_, _, _, _, _, _))
  refine hR (t_add ?_)
  refine hR (And.intro (zvin (by omega) (by omega) (by omega)) (t_raw ?_))
  refine hR (c_obj h14 (zcall_i 0 0 (by omega) (by omega) (run2 _ ?_)))
  refine (?_ : R (_, _, .int v2 :: [], w2, k + mc, n + ms))
  refine hR (?_ : R (_, _, _, _, _, _))
  refine hR (?_ : R (_, _, _, _, _, _))
  exact hb w2 _ _ hJ2 (by omega) (by omega)
def qL7 : List zE := [(433, .aload_n 1, 434, 0, 0), (434, .aload_n 0, 435, 0, 0), (435, .iload_n 3, 436, 0, 0), (436, .iconst 1, 437, 0, 0), (437, .iadd, 438, 0, 0), (438, .iaload, 439, 0, 0), (439, .aload_n 0, 440, 0, 0), (440, .iload_n 3, 441, 0, 0), (441, .iconst 2, 442, 0, 0), (442, .iadd, 443, 0, 0), (443, .iaload, 444, 0, 0), (444, .aload_n 0, 445, 0, 0), (445, .iload_n 3, 446, 0, 0), (446, .iconst 3, 447, 0, 0), (447, .iadd, 448, 0, 0), (448, .iaload, 449, 0, 0), (449, .invokevirtual 44, 452, 9, 3), (452, .pop, 453, 0, 0), (453, .aload_n 2, 454, 0, 0), (454, .aload_n 0, 455, 0, 0), (455, .iload_n 3, 456, 0, 0), (456, .iconst 1, 457, 0, 0), (457, .iadd, 458, 0, 0), (458, .iaload, 459, 0, 0), (459, .aload_n 0, 460, 0, 0), (460, .iload_n 3, 461, 0, 0), (461, .iconst 2, 462, 0, 0), (462, .iadd, 463, 0, 0), (463, .iaload, 464, 0, 0), (464, .aload_n 0, 465, 0, 0), (465, .iload_n 3, 466, 0, 0), (466, .iconst 3, 467, 0, 0), (467, .iadd, 468, 0, 0), (468, .iaload, 469, 0, 0), (469, .invokevirtual 48, 472, 230, 3), (472, .pop, 473, 0, 0), (473, .goto 1369, 476, 1842, 0)]
theorem sL7 : qL7.all (fun e => decide (zat kL_law.2.2.2.2.2 e.1 = some e.2)) = true := by decide +kernel
theorem l_c7 {R : zS → Prop} {L : Nat} {xs : Nat → Int32} (hR : ∀ y, zstep (zCl zTab 12) 12 kL_law (some (L, xs)) zTab 600000 7302250 zLQ y R → R y) (hL : L ≤ 3584) {w : zW} {i : Int} {k n : Nat} (hi : 0 ≤ i ∧ i + 7 ≤ L) (hJ : J w) (hk : k + 100 ≤ 600000) (hn : n + phi w + 300 ≤ 7302250) (hb : ∀ w' k' n', J w' → k' ≤ k + 100 → n' + phi w' ≤ n + phi w + 300 → R (1842, [some (.retAddr 0), some (.ref 0), some (.ref 14), some (.int (Int32.ofInt i))], [], w', k', n')) : R (433, [some (.retAddr 0), some (.ref 0), some (.ref 14), some (.int (Int32.ofInt i))], [], w, k, n) := by
  have hR := @zrsub _ _ _ _ _ _ _ _ _ qL7 sL7 hR
  refine hR (?_ : R (_, _, _, _, _, _))
  refine hR (?_ : R (_, _, _, _, _, _))
  refine hR (?_ : R (_, _, _, _, _, _))
  refine hR (?_ : R (_, _, _, _, _, _))
  refine hR (t_add ?_)
  refine hR (And.intro (zvin (by omega) (by omega) (by omega)) (t_raw ?_))
  refine hR (?_ : R (_, _, _, _, _, _))
  refine hR (?_ : R (_, _, _, _, _, _))
  refine hR (?_ : R (_, _, _, _, _, _))
  refine hR (t_add ?_)
  refine hR (And.intro (zvin (by omega) (by omega) (by omega)) (t_raw ?_))
  refine hR (?_ : R (_, _, _, _, _, _))
  refine hR (?_ : R (_, _, _, _, _, _))
  refine hR (?_ : R (_, _, _, _, _, _))
  refine hR (t_add ?_)
  refine hR (And.intro (zvin (by omega) (by omega) (by omega)) (t_raw ?_))
  obtain ⟨mc, ms, r, w1, r2, w2, run1, run2, ⟨fs0, h0⟩, ⟨fs1, h14⟩, hJ2, hmc, hms, hP⟩ := pr_read hJ (xs (Int32.ofInt (i + 1)).toNatClampNeg).toInt (xs (Int32.ofInt (i + 2)).toNatClampNeg).toInt (xs (Int32.ofInt (i + 3)).toNatClampNeg).toInt (zrg _) (zrg _) (zrg _)
  obtain ⟨v, v2, rfl, rfl⟩ := hP
  refine hR (c_obj h0 (zcall_i mc ms (by omega) (by omega) (run1 _ ?_)))
  refine (?_ : R (_, _, .int v :: [], w1, k + mc, n + ms))
  refine hR (?_ : R (_, _, _, _, _, _))
  refine hR (?_ : R (_, _, _, _, _, _))
  refine hR (?_ : R (_, _, _, _, _, _))
  refine hR (?_ : R (_, _, _, _, _, _))
  refine hR (?_ : R (_, _, _, _, _, _))
  refine hR (t_add ?_)
  refine hR (And.intro (zvin (by omega) (by omega) (by omega)) (t_raw ?_))
  refine hR (?_ : R (_, _, _, _, _, _))
  refine hR (?_ : R (_, _, _, _, _, _))
  refine hR (?_ : R (_, _, _, _, _, _))
  refine hR (t_add ?_)
  refine hR (And.intro (zvin (by omega) (by omega) (by omega)) (t_raw ?_))
  refine hR (?_ : R (_, _, _, _, _, _))
  refine hR (?_ : R (_, _, _, _, _, _))
  refine hR (?_ : R (_, _, _, _, _, _))
  refine hR (t_add ?_)
  refine hR (And.intro (zvin (by omega) (by omega) (by omega)) (t_raw ?_))
  refine hR (c_obj h14 (zcall_i 0 0 (by omega) (by omega) (run2 _ ?_)))
  refine (?_ : R (_, _, .int v2 :: [], w2, k + mc, n + ms))
  refine hR (?_ : R (_, _, _, _, _, _))
  refine hR (?_ : R (_, _, _, _, _, _))
  exact hb w2 _ _ hJ2 (by omega) (by omega)
def qL8 : List zE := [(476, .aload_n 1, 477, 0, 0), (477, .aload_n 0, 478, 0, 0), (478, .iload_n 3, 479, 0, 0), (479, .iconst 1, 480, 0, 0), (480, .iadd, 481, 0, 0), (481, .iaload, 482, 0, 0), (482, .aload_n 0, 483, 0, 0), (483, .iload_n 3, 484, 0, 0), (484, .iconst 2, 485, 0, 0), (485, .iadd, 486, 0, 0), (486, .iaload, 487, 0, 0), (487, .aload_n 0, 488, 0, 0), (488, .iload_n 3, 489, 0, 0), (489, .iconst 3, 490, 0, 0), (490, .iadd, 491, 0, 0), (491, .iaload, 492, 0, 0), (492, .invokevirtual 49, 495, 10, 3), (495, .pop, 496, 0, 0), (496, .aload_n 2, 497, 0, 0), (497, .aload_n 0, 498, 0, 0), (498, .iload_n 3, 499, 0, 0), (499, .iconst 1, 500, 0, 0), (500, .iadd, 501, 0, 0), (501, .iaload, 502, 0, 0), (502, .aload_n 0, 503, 0, 0), (503, .iload_n 3, 504, 0, 0), (504, .iconst 2, 505, 0, 0), (505, .iadd, 506, 0, 0), (506, .iaload, 507, 0, 0), (507, .aload_n 0, 508, 0, 0), (508, .iload_n 3, 509, 0, 0), (509, .iconst 3, 510, 0, 0), (510, .iadd, 511, 0, 0), (511, .iaload, 512, 0, 0), (512, .invokevirtual 52, 515, 234, 3), (515, .pop, 516, 0, 0), (516, .goto 1326, 519, 1842, 0)]
theorem sL8 : qL8.all (fun e => decide (zat kL_law.2.2.2.2.2 e.1 = some e.2)) = true := by decide +kernel
theorem l_c8 {R : zS → Prop} {L : Nat} {xs : Nat → Int32} (hR : ∀ y, zstep (zCl zTab 12) 12 kL_law (some (L, xs)) zTab 600000 7302250 zLQ y R → R y) (hL : L ≤ 3584) {w : zW} {i : Int} {k n : Nat} (hi : 0 ≤ i ∧ i + 7 ≤ L) (hJ : J w) (hk : k + 100 ≤ 600000) (hn : n + phi w + 300 ≤ 7302250) (hb : ∀ w' k' n', J w' → k' ≤ k + 100 → n' + phi w' ≤ n + phi w + 300 → R (1842, [some (.retAddr 0), some (.ref 0), some (.ref 14), some (.int (Int32.ofInt i))], [], w', k', n')) : R (476, [some (.retAddr 0), some (.ref 0), some (.ref 14), some (.int (Int32.ofInt i))], [], w, k, n) := by
  have hR := @zrsub _ _ _ _ _ _ _ _ _ qL8 sL8 hR
  refine hR (?_ : R (_, _, _, _, _, _))
  refine hR (?_ : R (_, _, _, _, _, _))
  refine hR (?_ : R (_, _, _, _, _, _))
  refine hR (?_ : R (_, _, _, _, _, _))
  refine hR (t_add ?_)
  refine hR (And.intro (zvin (by omega) (by omega) (by omega)) (t_raw ?_))
  refine hR (?_ : R (_, _, _, _, _, _))
  refine hR (?_ : R (_, _, _, _, _, _))
  refine hR (?_ : R (_, _, _, _, _, _))
  refine hR (t_add ?_)
  refine hR (And.intro (zvin (by omega) (by omega) (by omega)) (t_raw ?_))
  refine hR (?_ : R (_, _, _, _, _, _))
  refine hR (?_ : R (_, _, _, _, _, _))
  refine hR (?_ : R (_, _, _, _, _, _))
  refine hR (t_add ?_)
  refine hR (And.intro (zvin (by omega) (by omega) (by omega)) (t_raw ?_))
  obtain ⟨mc, ms, r, w1, r2, w2, run1, run2, ⟨fs0, h0⟩, ⟨fs1, h14⟩, hJ2, hmc, hms, hP⟩ := pr_deed hJ (xs (Int32.ofInt (i + 1)).toNatClampNeg).toInt (xs (Int32.ofInt (i + 2)).toNatClampNeg).toInt (xs (Int32.ofInt (i + 3)).toNatClampNeg).toInt (zrg _) (zrg _) (zrg _)
  obtain ⟨v, v2, rfl, rfl⟩ := hP
  refine hR (c_obj h0 (zcall_i mc ms (by omega) (by omega) (run1 _ ?_)))
  refine (?_ : R (_, _, .int v :: [], w1, k + mc, n + ms))
  refine hR (?_ : R (_, _, _, _, _, _))
  refine hR (?_ : R (_, _, _, _, _, _))
  refine hR (?_ : R (_, _, _, _, _, _))
  refine hR (?_ : R (_, _, _, _, _, _))
  refine hR (?_ : R (_, _, _, _, _, _))
  refine hR (t_add ?_)
  refine hR (And.intro (zvin (by omega) (by omega) (by omega)) (t_raw ?_))
  refine hR (?_ : R (_, _, _, _, _, _))
  refine hR (?_ : R (_, _, _, _, _, _))
  refine hR (?_ : R (_, _, _, _, _, _))
  refine hR (t_add ?_)
  refine hR (And.intro (zvin (by omega) (by omega) (by omega)) (t_raw ?_))
  refine hR (?_ : R (_, _, _, _, _, _))
  refine hR (?_ : R (_, _, _, _, _, _))
  refine hR (?_ : R (_, _, _, _, _, _))
  refine hR (t_add ?_)
  refine hR (And.intro (zvin (by omega) (by omega) (by omega)) (t_raw ?_))
  refine hR (c_obj h14 (zcall_i 0 0 (by omega) (by omega) (run2 _ ?_)))
  refine (?_ : R (_, _, .int v2 :: [], w2, k + mc, n + ms))
  refine hR (?_ : R (_, _, _, _, _, _))
  refine hR (?_ : R (_, _, _, _, _, _))
  exact hb w2 _ _ hJ2 (by omega) (by omega)
def qL9 : List zE := [(519, .aload_n 1, 520, 0, 0), (520, .aload_n 0, 521, 0, 0), (521, .iload_n 3, 522, 0, 0), (522, .iconst 1, 523, 0, 0), (523, .iadd, 524, 0, 0), (524, .iaload, 525, 0, 0), (525, .aload_n 0, 526, 0, 0), (526, .iload_n 3, 527, 0, 0), (527, .iconst 2, 528, 0, 0), (528, .iadd, 529, 0, 0), (529, .iaload, 530, 0, 0), (530, .invokevirtual 53, 533, 11, 2), (533, .pop, 534, 0, 0), (534, .aload_n 2, 535, 0, 0), (535, .aload_n 0, 536, 0, 0), (536, .iload_n 3, 537, 0, 0), (537, .iconst 1, 538, 0, 0), (538, .iadd, 539, 0, 0), (539, .iaload, 540, 0, 0), (540, .aload_n 0, 541, 0, 0), (541, .iload_n 3, 542, 0, 0), (542, .iconst 2, 543, 0, 0), (543, .iadd, 544, 0, 0), (544, .iaload, 545, 0, 0), (545, .invokevirtual 56, 548, 242, 2), (548, .pop, 549, 0, 0), (549, .goto 1293, 552, 1842, 0)]
theorem sL9 : qL9.all (fun e => decide (zat kL_law.2.2.2.2.2 e.1 = some e.2)) = true := by decide +kernel
theorem l_c9 {R : zS → Prop} {L : Nat} {xs : Nat → Int32} (hR : ∀ y, zstep (zCl zTab 12) 12 kL_law (some (L, xs)) zTab 600000 7302250 zLQ y R → R y) (hL : L ≤ 3584) {w : zW} {i : Int} {k n : Nat} (hi : 0 ≤ i ∧ i + 7 ≤ L) (hJ : J w) (hk : k + 100 ≤ 600000) (hn : n + phi w + 300 ≤ 7302250) (hb : ∀ w' k' n', J w' → k' ≤ k + 100 → n' + phi w' ≤ n + phi w + 300 → R (1842, [some (.retAddr 0), some (.ref 0), some (.ref 14), some (.int (Int32.ofInt i))], [], w', k', n')) : R (519, [some (.retAddr 0), some (.ref 0), some (.ref 14), some (.int (Int32.ofInt i))], [], w, k, n) := by
  have hR := @zrsub _ _ _ _ _ _ _ _ _ qL9 sL9 hR
  refine hR (?_ : R (_, _, _, _, _, _))
  refine hR (?_ : R (_, _, _, _, _, _))
  refine hR (?_ : R (_, _, _, _, _, _))
  refine hR (?_ : R (_, _, _, _, _, _))
  refine hR (t_add ?_)
  refine hR (And.intro (zvin (by omega) (by omega) (by omega)) (t_raw ?_))
  refine hR (?_ : R (_, _, _, _, _, _))
  refine hR (?_ : R (_, _, _, _, _, _))
  refine hR (?_ : R (_, _, _, _, _, _))
  refine hR (t_add ?_)
  refine hR (And.intro (zvin (by omega) (by omega) (by omega)) (t_raw ?_))
  obtain ⟨mc, ms, r, w1, r2, w2, run1, run2, ⟨fs0, h0⟩, ⟨fs1, h14⟩, hJ2, hmc, hms, hP⟩ := pr_stop hJ (xs (Int32.ofInt (i + 1)).toNatClampNeg).toInt (xs (Int32.ofInt (i + 2)).toNatClampNeg).toInt (zrg _) (zrg _)
  obtain ⟨v, v2, rfl, rfl⟩ := hP
  refine hR (c_obj h0 (zcall_i mc ms (by omega) (by omega) (run1 _ ?_)))
  refine (?_ : R (_, _, .int v :: [], w1, k + mc, n + ms))
  refine hR (?_ : R (_, _, _, _, _, _))
  refine hR (?_ : R (_, _, _, _, _, _))
  refine hR (?_ : R (_, _, _, _, _, _))
  refine hR (?_ : R (_, _, _, _, _, _))
  refine hR (?_ : R (_, _, _, _, _, _))
  refine hR (t_add ?_)
  refine hR (And.intro (zvin (by omega) (by omega) (by omega)) (t_raw ?_))
  refine hR (?_ : R (_, _, _, _, _, _))
  refine hR (?_ : R (_, _, _, _, _, _))
  refine hR (?_ : R (_, _, _, _, _, _))
  refine hR (t_add ?_)
  refine hR (And.intro (zvin (by omega) (by omega) (by omega)) (t_raw ?_))
  refine hR (c_obj h14 (zcall_i 0 0 (by omega) (by omega) (run2 _ ?_)))
  refine (?_ : R (_, _, .int v2 :: [], w2, k + mc, n + ms))
  refine hR (?_ : R (_, _, _, _, _, _))
  refine hR (?_ : R (_, _, _, _, _, _))
  exact hb w2 _ _ hJ2 (by omega) (by omega)
def qL10 : List zE := [(552, .aload_n 1, 553, 0, 0), (553, .aload_n 0, 554, 0, 0), (554, .iload_n 3, 555, 0, 0), (555, .iconst 1, 556, 0, 0), (556, .iadd, 557, 0, 0), (557, .iaload, 558, 0, 0), (558, .aload_n 0, 559, 0, 0), (559, .iload_n 3, 560, 0, 0), (560, .iconst 2, 561, 0, 0), (561, .iadd, 562, 0, 0), (562, .iaload, 563, 0, 0), (563, .aload_n 0, 564, 0, 0), (564, .iload_n 3, 565, 0, 0), (565, .iconst 3, 566, 0, 0), (566, .iadd, 567, 0, 0), (567, .iaload, 568, 0, 0), (568, .aload_n 0, 569, 0, 0), (569, .iload_n 3, 570, 0, 0), (570, .iconst 4, 571, 0, 0), (571, .iadd, 572, 0, 0), (572, .iaload, 573, 0, 0), (573, .invokevirtual 57, 576, 12, 4), (576, .pop, 577, 0, 0), (577, .aload_n 2, 578, 0, 0), (578, .aload_n 0, 579, 0, 0), (579, .iload_n 3, 580, 0, 0), (580, .iconst 1, 581, 0, 0), (581, .iadd, 582, 0, 0), (582, .iaload, 583, 0, 0), (583, .aload_n 0, 584, 0, 0), (584, .iload_n 3, 585, 0, 0), (585, .iconst 2, 586, 0, 0), (586, .iadd, 587, 0, 0), (587, .iaload, 588, 0, 0), (588, .aload_n 0, 589, 0, 0), (589, .iload_n 3, 590, 0, 0), (590, .iconst 3, 591, 0, 0), (591, .iadd, 592, 0, 0), (592, .iaload, 593, 0, 0), (593, .aload_n 0, 594, 0, 0), (594, .iload_n 3, 595, 0, 0), (595, .iconst 4, 596, 0, 0), (596, .iadd, 597, 0, 0), (597, .iaload, 598, 0, 0), (598, .invokevirtual 61, 601, 244, 4), (601, .pop, 602, 0, 0), (602, .goto 1240, 605, 1842, 0)]
theorem sL10 : qL10.all (fun e => decide (zat kL_law.2.2.2.2.2 e.1 = some e.2)) = true := by decide +kernel
theorem l_c10 {R : zS → Prop} {L : Nat} {xs : Nat → Int32} (hR : ∀ y, zstep (zCl zTab 12) 12 kL_law (some (L, xs)) zTab 600000 7302250 zLQ y R → R y) (hL : L ≤ 3584) {w : zW} {i : Int} {k n : Nat} (hi : 0 ≤ i ∧ i + 7 ≤ L) (hJ : J w) (hk : k + 100 ≤ 600000) (hn : n + phi w + 300 ≤ 7302250) (hb : ∀ w' k' n', J w' → k' ≤ k + 100 → n' + phi w' ≤ n + phi w + 300 → R (1842, [some (.retAddr 0), some (.ref 0), some (.ref 14), some (.int (Int32.ofInt i))], [], w', k', n')) : R (552, [some (.retAddr 0), some (.ref 0), some (.ref 14), some (.int (Int32.ofInt i))], [], w, k, n) := by
  have hR := @zrsub _ _ _ _ _ _ _ _ _ qL10 sL10 hR
  refine hR (?_ : R (_, _, _, _, _, _))
  refine hR (?_ : R (_, _, _, _, _, _))
  refine hR (?_ : R (_, _, _, _, _, _))
  refine hR (?_ : R (_, _, _, _, _, _))
  refine hR (t_add ?_)
  refine hR (And.intro (zvin (by omega) (by omega) (by omega)) (t_raw ?_))
  refine hR (?_ : R (_, _, _, _, _, _))
  refine hR (?_ : R (_, _, _, _, _, _))
  refine hR (?_ : R (_, _, _, _, _, _))
  refine hR (t_add ?_)
  refine hR (And.intro (zvin (by omega) (by omega) (by omega)) (t_raw ?_))
  refine hR (?_ : R (_, _, _, _, _, _))
  refine hR (?_ : R (_, _, _, _, _, _))
  refine hR (?_ : R (_, _, _, _, _, _))
  refine hR (t_add ?_)
  refine hR (And.intro (zvin (by omega) (by omega) (by omega)) (t_raw ?_))
  refine hR (?_ : R (_, _, _, _, _, _))
  refine hR (?_ : R (_, _, _, _, _, _))
  refine hR (?_ : R (_, _, _, _, _, _))
  refine hR (t_add ?_)
  refine hR (And.intro (zvin (by omega) (by omega) (by omega)) (t_raw ?_))
  obtain ⟨mc, ms, r, w1, r2, w2, run1, run2, ⟨fs0, h0⟩, ⟨fs1, h14⟩, hJ2, hmc, hms, hP⟩ := pr_state hJ (xs (Int32.ofInt (i + 1)).toNatClampNeg).toInt (xs (Int32.ofInt (i + 2)).toNatClampNeg).toInt (xs (Int32.ofInt (i + 3)).toNatClampNeg).toInt (xs (Int32.ofInt (i + 4)).toNatClampNeg).toInt (zrg _) (zrg _) (zrg _) (zrg _)
  obtain ⟨v, v2, rfl, rfl⟩ := hP
  refine hR (c_obj h0 (zcall_i mc ms (by omega) (by omega) (run1 _ ?_)))
  refine (?_ : R (_, _, .int v :: [], w1, k + mc, n + ms))
  refine hR (?_ : R (_, _, _, _, _, _))
  refine hR (?_ : R (_, _, _, _, _, _))
  refine hR (?_ : R (_, _, _, _, _, _))
  refine hR (?_ : R (_, _, _, _, _, _))
  refine hR (?_ : R (_, _, _, _, _, _))
  refine hR (t_add ?_)
  refine hR (And.intro (zvin (by omega) (by omega) (by omega)) (t_raw ?_))
  refine hR (?_ : R (_, _, _, _, _, _))
  refine hR (?_ : R (_, _, _, _, _, _))
  refine hR (?_ : R (_, _, _, _, _, _))
  refine hR (t_add ?_)
  refine hR (And.intro (zvin (by omega) (by omega) (by omega)) (t_raw ?_))
  refine hR (?_ : R (_, _, _, _, _, _))
  refine hR (?_ : R (_, _, _, _, _, _))
  refine hR (?_ : R (_, _, _, _, _, _))
  refine hR (t_add ?_)
  refine hR (And.intro (zvin (by omega) (by omega) (by omega)) (t_raw ?_))
  refine hR (?_ : R (_, _, _, _, _, _))
  refine hR (?_ : R (_, _, _, _, _, _))
  refine hR (?_ : R (_, _, _, _, _, _))
  refine hR (t_add ?_)
  refine hR (And.intro (zvin (by omega) (by omega) (by omega)) (t_raw ?_))
  refine hR (c_obj h14 (zcall_i 0 0 (by omega) (by omega) (run2 _ ?_)))
  refine (?_ : R (_, _, .int v2 :: [], w2, k + mc, n + ms))
  refine hR (?_ : R (_, _, _, _, _, _))
  refine hR (?_ : R (_, _, _, _, _, _))
  exact hb w2 _ _ hJ2 (by omega) (by omega)
def qL11 : List zE := [(605, .aload_n 1, 606, 0, 0), (606, .aload_n 0, 607, 0, 0), (607, .iload_n 3, 608, 0, 0), (608, .iconst 1, 609, 0, 0), (609, .iadd, 610, 0, 0), (610, .iaload, 611, 0, 0), (611, .aload_n 0, 612, 0, 0), (612, .iload_n 3, 613, 0, 0), (613, .iconst 2, 614, 0, 0), (614, .iadd, 615, 0, 0), (615, .iaload, 616, 0, 0), (616, .aload_n 0, 617, 0, 0), (617, .iload_n 3, 618, 0, 0), (618, .iconst 3, 619, 0, 0), (619, .iadd, 620, 0, 0), (620, .iaload, 621, 0, 0), (621, .aload_n 0, 622, 0, 0), (622, .iload_n 3, 623, 0, 0), (623, .iconst 4, 624, 0, 0), (624, .iadd, 625, 0, 0), (625, .iaload, 626, 0, 0), (626, .invokevirtual 62, 629, 13, 4), (629, .pop, 630, 0, 0), (630, .aload_n 2, 631, 0, 0), (631, .aload_n 0, 632, 0, 0), (632, .iload_n 3, 633, 0, 0), (633, .iconst 1, 634, 0, 0), (634, .iadd, 635, 0, 0), (635, .iaload, 636, 0, 0), (636, .aload_n 0, 637, 0, 0), (637, .iload_n 3, 638, 0, 0), (638, .iconst 2, 639, 0, 0), (639, .iadd, 640, 0, 0), (640, .iaload, 641, 0, 0), (641, .aload_n 0, 642, 0, 0), (642, .iload_n 3, 643, 0, 0), (643, .iconst 3, 644, 0, 0), (644, .iadd, 645, 0, 0), (645, .iaload, 646, 0, 0), (646, .aload_n 0, 647, 0, 0), (647, .iload_n 3, 648, 0, 0), (648, .iconst 4, 649, 0, 0), (649, .iadd, 650, 0, 0), (650, .iaload, 651, 0, 0), (651, .invokevirtual 65, 654, 249, 4), (654, .pop, 655, 0, 0), (655, .goto 1187, 658, 1842, 0)]
theorem sL11 : qL11.all (fun e => decide (zat kL_law.2.2.2.2.2 e.1 = some e.2)) = true := by decide +kernel
theorem l_c11 {R : zS → Prop} {L : Nat} {xs : Nat → Int32} (hR : ∀ y, zstep (zCl zTab 12) 12 kL_law (some (L, xs)) zTab 600000 7302250 zLQ y R → R y) (hL : L ≤ 3584) {w : zW} {i : Int} {k n : Nat} (hi : 0 ≤ i ∧ i + 7 ≤ L) (hJ : J w) (hk : k + 100 ≤ 600000) (hn : n + phi w + 300 ≤ 7302250) (hb : ∀ w' k' n', J w' → k' ≤ k + 100 → n' + phi w' ≤ n + phi w + 300 → R (1842, [some (.retAddr 0), some (.ref 0), some (.ref 14), some (.int (Int32.ofInt i))], [], w', k', n')) : R (605, [some (.retAddr 0), some (.ref 0), some (.ref 14), some (.int (Int32.ofInt i))], [], w, k, n) := by
  have hR := @zrsub _ _ _ _ _ _ _ _ _ qL11 sL11 hR
  refine hR (?_ : R (_, _, _, _, _, _))
  refine hR (?_ : R (_, _, _, _, _, _))
  refine hR (?_ : R (_, _, _, _, _, _))
  refine hR (?_ : R (_, _, _, _, _, _))
  refine hR (t_add ?_)
  refine hR (And.intro (zvin (by omega) (by omega) (by omega)) (t_raw ?_))
  refine hR (?_ : R (_, _, _, _, _, _))
  refine hR (?_ : R (_, _, _, _, _, _))
  refine hR (?_ : R (_, _, _, _, _, _))
  refine hR (t_add ?_)
  refine hR (And.intro (zvin (by omega) (by omega) (by omega)) (t_raw ?_))
  refine hR (?_ : R (_, _, _, _, _, _))
  refine hR (?_ : R (_, _, _, _, _, _))
  refine hR (?_ : R (_, _, _, _, _, _))
  refine hR (t_add ?_)
  refine hR (And.intro (zvin (by omega) (by omega) (by omega)) (t_raw ?_))
  refine hR (?_ : R (_, _, _, _, _, _))
  refine hR (?_ : R (_, _, _, _, _, _))
  refine hR (?_ : R (_, _, _, _, _, _))
  refine hR (t_add ?_)
  refine hR (And.intro (zvin (by omega) (by omega) (by omega)) (t_raw ?_))
  obtain ⟨mc, ms, r, w1, r2, w2, run1, run2, ⟨fs0, h0⟩, ⟨fs1, h14⟩, hJ2, hmc, hms, hP⟩ := pr_making hJ (xs (Int32.ofInt (i + 1)).toNatClampNeg).toInt (xs (Int32.ofInt (i + 2)).toNatClampNeg).toInt (xs (Int32.ofInt (i + 3)).toNatClampNeg).toInt (xs (Int32.ofInt (i + 4)).toNatClampNeg).toInt (zrg _) (zrg _) (zrg _) (zrg _)
  obtain ⟨v, v2, rfl, rfl⟩ := hP
  refine hR (c_obj h0 (zcall_i mc ms (by omega) (by omega) (run1 _ ?_)))
  refine (?_ : R (_, _, .int v :: [], w1, k + mc, n + ms))
  refine hR (?_ : R (_, _, _, _, _, _))
  refine hR (?_ : R (_, _, _, _, _, _))
  refine hR (?_ : R (_, _, _, _, _, _))
  refine hR (?_ : R (_, _, _, _, _, _))
  refine hR (?_ : R (_, _, _, _, _, _))
  refine hR (t_add ?_)
  refine hR (And.intro (zvin (by omega) (by omega) (by omega)) (t_raw ?_))
  refine hR (?_ : R (_, _, _, _, _, _))
  refine hR (?_ : R (_, _, _, _, _, _))
  refine hR (?_ : R (_, _, _, _, _, _))
  refine hR (t_add ?_)
  refine hR (And.intro (zvin (by omega) (by omega) (by omega)) (t_raw ?_))
  refine hR (?_ : R (_, _, _, _, _, _))
  refine hR (?_ : R (_, _, _, _, _, _))
  refine hR (?_ : R (_, _, _, _, _, _))
  refine hR (t_add ?_)
  refine hR (And.intro (zvin (by omega) (by omega) (by omega)) (t_raw ?_))
  refine hR (?_ : R (_, _, _, _, _, _))
  refine hR (?_ : R (_, _, _, _, _, _))
  refine hR (?_ : R (_, _, _, _, _, _))
  refine hR (t_add ?_)
  refine hR (And.intro (zvin (by omega) (by omega) (by omega)) (t_raw ?_))
  refine hR (c_obj h14 (zcall_i 0 0 (by omega) (by omega) (run2 _ ?_)))
  refine (?_ : R (_, _, .int v2 :: [], w2, k + mc, n + ms))
  refine hR (?_ : R (_, _, _, _, _, _))
  refine hR (?_ : R (_, _, _, _, _, _))
  exact hb w2 _ _ hJ2 (by omega) (by omega)
def qL12 : List zE := [(658, .aload_n 1, 659, 0, 0), (659, .aload_n 0, 660, 0, 0), (660, .iload_n 3, 661, 0, 0), (661, .iconst 1, 662, 0, 0), (662, .iadd, 663, 0, 0), (663, .iaload, 664, 0, 0), (664, .aload_n 0, 665, 0, 0), (665, .iload_n 3, 666, 0, 0), (666, .iconst 2, 667, 0, 0), (667, .iadd, 668, 0, 0), (668, .iaload, 669, 0, 0), (669, .invokevirtual 66, 672, 14, 2), (672, .pop, 673, 0, 0), (673, .aload_n 2, 674, 0, 0), (674, .aload_n 0, 675, 0, 0), (675, .iload_n 3, 676, 0, 0), (676, .iconst 1, 677, 0, 0), (677, .iadd, 678, 0, 0), (678, .iaload, 679, 0, 0), (679, .aload_n 0, 680, 0, 0), (680, .iload_n 3, 681, 0, 0), (681, .iconst 2, 682, 0, 0), (682, .iadd, 683, 0, 0), (683, .iaload, 684, 0, 0), (684, .invokevirtual 69, 687, 250, 2), (687, .pop, 688, 0, 0), (688, .goto 1154, 691, 1842, 0)]
theorem sL12 : qL12.all (fun e => decide (zat kL_law.2.2.2.2.2 e.1 = some e.2)) = true := by decide +kernel
theorem l_c12 {R : zS → Prop} {L : Nat} {xs : Nat → Int32} (hR : ∀ y, zstep (zCl zTab 12) 12 kL_law (some (L, xs)) zTab 600000 7302250 zLQ y R → R y) (hL : L ≤ 3584) {w : zW} {i : Int} {k n : Nat} (hi : 0 ≤ i ∧ i + 7 ≤ L) (hJ : J w) (hk : k + 100 ≤ 600000) (hn : n + phi w + 300 ≤ 7302250) (hb : ∀ w' k' n', J w' → k' ≤ k + 100 → n' + phi w' ≤ n + phi w + 300 → R (1842, [some (.retAddr 0), some (.ref 0), some (.ref 14), some (.int (Int32.ofInt i))], [], w', k', n')) : R (658, [some (.retAddr 0), some (.ref 0), some (.ref 14), some (.int (Int32.ofInt i))], [], w, k, n) := by
  have hR := @zrsub _ _ _ _ _ _ _ _ _ qL12 sL12 hR
  refine hR (?_ : R (_, _, _, _, _, _))
  refine hR (?_ : R (_, _, _, _, _, _))
  refine hR (?_ : R (_, _, _, _, _, _))
  refine hR (?_ : R (_, _, _, _, _, _))
  refine hR (t_add ?_)
  refine hR (And.intro (zvin (by omega) (by omega) (by omega)) (t_raw ?_))
  refine hR (?_ : R (_, _, _, _, _, _))
  refine hR (?_ : R (_, _, _, _, _, _))
  refine hR (?_ : R (_, _, _, _, _, _))
  refine hR (t_add ?_)
  refine hR (And.intro (zvin (by omega) (by omega) (by omega)) (t_raw ?_))
  obtain ⟨mc, ms, r, w1, r2, w2, run1, run2, ⟨fs0, h0⟩, ⟨fs1, h14⟩, hJ2, hmc, hms, hP⟩ := pr_ring hJ (xs (Int32.ofInt (i + 1)).toNatClampNeg).toInt (xs (Int32.ofInt (i + 2)).toNatClampNeg).toInt (zrg _) (zrg _)
  obtain ⟨v, v2, rfl, rfl⟩ := hP
  refine hR (c_obj h0 (zcall_i mc ms (by omega) (by omega) (run1 _ ?_)))
  refine (?_ : R (_, _, .int v :: [], w1, k + mc, n + ms))
  refine hR (?_ : R (_, _, _, _, _, _))
  refine hR (?_ : R (_, _, _, _, _, _))
  refine hR (?_ : R (_, _, _, _, _, _))
  refine hR (?_ : R (_, _, _, _, _, _))
  refine hR (?_ : R (_, _, _, _, _, _))
  refine hR (t_add ?_)
  refine hR (And.intro (zvin (by omega) (by omega) (by omega)) (t_raw ?_))
  refine hR (?_ : R (_, _, _, _, _, _))
  refine hR (?_ : R (_, _, _, _, _, _))
  refine hR (?_ : R (_, _, _, _, _, _))
  refine hR (t_add ?_)
  refine hR (And.intro (zvin (by omega) (by omega) (by omega)) (t_raw ?_))
  refine hR (c_obj h14 (zcall_i 0 0 (by omega) (by omega) (run2 _ ?_)))
  refine (?_ : R (_, _, .int v2 :: [], w2, k + mc, n + ms))
  refine hR (?_ : R (_, _, _, _, _, _))
  refine hR (?_ : R (_, _, _, _, _, _))
  exact hb w2 _ _ hJ2 (by omega) (by omega)
def qL13 : List zE := [(691, .aload_n 1, 692, 0, 0), (692, .aload_n 0, 693, 0, 0), (693, .iload_n 3, 694, 0, 0), (694, .iconst 1, 695, 0, 0), (695, .iadd, 696, 0, 0), (696, .iaload, 697, 0, 0), (697, .aload_n 0, 698, 0, 0), (698, .iload_n 3, 699, 0, 0), (699, .iconst 2, 700, 0, 0), (700, .iadd, 701, 0, 0), (701, .iaload, 702, 0, 0), (702, .aload_n 0, 703, 0, 0), (703, .iload_n 3, 704, 0, 0), (704, .iconst 3, 705, 0, 0), (705, .iadd, 706, 0, 0), (706, .iaload, 707, 0, 0), (707, .ifCond .eq 7, 710, 714, 0), (710, .iconst 1, 711, 0, 0), (711, .goto 4, 714, 715, 0), (714, .iconst 0, 715, 0, 0), (715, .invokevirtual 70, 718, 15, 3), (718, .pop, 719, 0, 0), (719, .aload_n 2, 720, 0, 0), (720, .aload_n 0, 721, 0, 0), (721, .iload_n 3, 722, 0, 0), (722, .iconst 1, 723, 0, 0), (723, .iadd, 724, 0, 0), (724, .iaload, 725, 0, 0), (725, .aload_n 0, 726, 0, 0), (726, .iload_n 3, 727, 0, 0), (727, .iconst 2, 728, 0, 0), (728, .iadd, 729, 0, 0), (729, .iaload, 730, 0, 0), (730, .aload_n 0, 731, 0, 0), (731, .iload_n 3, 732, 0, 0), (732, .iconst 3, 733, 0, 0), (733, .iadd, 734, 0, 0), (734, .iaload, 735, 0, 0), (735, .ifCond .eq 7, 738, 742, 0), (738, .iconst 1, 739, 0, 0), (739, .goto 4, 742, 743, 0), (742, .iconst 0, 743, 0, 0), (743, .invokevirtual 74, 746, 251, 3), (746, .pop, 747, 0, 0), (747, .goto 1095, 750, 1842, 0)]
theorem sL13 : qL13.all (fun e => decide (zat kL_law.2.2.2.2.2 e.1 = some e.2)) = true := by decide +kernel
theorem l_c13 {R : zS → Prop} {L : Nat} {xs : Nat → Int32} (hR : ∀ y, zstep (zCl zTab 12) 12 kL_law (some (L, xs)) zTab 600000 7302250 zLQ y R → R y) (hL : L ≤ 3584) {w : zW} {i : Int} {k n : Nat} (hi : 0 ≤ i ∧ i + 7 ≤ L) (hJ : J w) (hk : k + 100 ≤ 600000) (hn : n + phi w + 300 ≤ 7302250) (hb : ∀ w' k' n', J w' → k' ≤ k + 100 → n' + phi w' ≤ n + phi w + 300 → R (1842, [some (.retAddr 0), some (.ref 0), some (.ref 14), some (.int (Int32.ofInt i))], [], w', k', n')) : R (691, [some (.retAddr 0), some (.ref 0), some (.ref 14), some (.int (Int32.ofInt i))], [], w, k, n) := by
  have hR := @zrsub _ _ _ _ _ _ _ _ _ qL13 sL13 hR
  refine hR (?_ : R (_, _, _, _, _, _))
  refine hR (?_ : R (_, _, _, _, _, _))
  refine hR (?_ : R (_, _, _, _, _, _))
  refine hR (?_ : R (_, _, _, _, _, _))
  refine hR (t_add ?_)
  refine hR (And.intro (zvin (by omega) (by omega) (by omega)) (t_raw ?_))
  refine hR (?_ : R (_, _, _, _, _, _))
  refine hR (?_ : R (_, _, _, _, _, _))
  refine hR (?_ : R (_, _, _, _, _, _))
  refine hR (t_add ?_)
  refine hR (And.intro (zvin (by omega) (by omega) (by omega)) (t_raw ?_))
  refine hR (?_ : R (_, _, _, _, _, _))
  refine hR (?_ : R (_, _, _, _, _, _))
  refine hR (?_ : R (_, _, _, _, _, _))
  refine hR (t_add ?_)
  refine hR (And.intro (zvin (by omega) (by omega) (by omega)) (t_raw ?_))
  refine hR (k_eq (zrg _) (fun hz3 => ?_) (fun hz3 => ?_))
  · skip
    refine hR (?_ : R (_, _, _, _, _, _))
    obtain ⟨mc, ms, r, w1, r2, w2, run1, run2, ⟨fs0, h0⟩, ⟨fs1, h14⟩, hJ2, hmc, hms, hP⟩ := pr_reach hJ (xs (Int32.ofInt (i + 1)).toNatClampNeg).toInt (xs (Int32.ofInt (i + 2)).toNatClampNeg).toInt 0 (zrg _) (zrg _) (by omega)
    obtain ⟨v, v2, rfl, rfl⟩ := hP
    refine hR (c_obj h0 (zcall_i mc ms (by omega) (by omega) (run1 _ ?_)))
    refine (?_ : R (_, _, .int v :: [], w1, k + mc, n + ms))
    refine hR (?_ : R (_, _, _, _, _, _))
    refine hR (?_ : R (_, _, _, _, _, _))
    refine hR (?_ : R (_, _, _, _, _, _))
    refine hR (?_ : R (_, _, _, _, _, _))
    refine hR (?_ : R (_, _, _, _, _, _))
    refine hR (t_add ?_)
    refine hR (And.intro (zvin (by omega) (by omega) (by omega)) (t_raw ?_))
    refine hR (?_ : R (_, _, _, _, _, _))
    refine hR (?_ : R (_, _, _, _, _, _))
    refine hR (?_ : R (_, _, _, _, _, _))
    refine hR (t_add ?_)
    refine hR (And.intro (zvin (by omega) (by omega) (by omega)) (t_raw ?_))
    refine hR (?_ : R (_, _, _, _, _, _))
    refine hR (?_ : R (_, _, _, _, _, _))
    refine hR (?_ : R (_, _, _, _, _, _))
    refine hR (t_add ?_)
    refine hR (And.intro (zvin (by omega) (by omega) (by omega)) (t_raw ?_))
    refine hR (k_eq (zrg _) (fun _ => ?_) (fun hc => absurd hz3 hc))
    refine hR (?_ : R (_, _, _, _, _, _))
    refine hR (c_obj h14 (zcall_i 0 0 (by omega) (by omega) (run2 _ ?_)))
    refine (?_ : R (_, _, .int v2 :: [], w2, k + mc, n + ms))
    refine hR (?_ : R (_, _, _, _, _, _))
    refine hR (?_ : R (_, _, _, _, _, _))
    exact hb w2 _ _ hJ2 (by omega) (by omega)
  · skip
    refine hR (?_ : R (_, _, _, _, _, _))
    refine hR (?_ : R (_, _, _, _, _, _))
    obtain ⟨mc, ms, r, w1, r2, w2, run1, run2, ⟨fs0, h0⟩, ⟨fs1, h14⟩, hJ2, hmc, hms, hP⟩ := pr_reach hJ (xs (Int32.ofInt (i + 1)).toNatClampNeg).toInt (xs (Int32.ofInt (i + 2)).toNatClampNeg).toInt 1 (zrg _) (zrg _) (by omega)
    obtain ⟨v, v2, rfl, rfl⟩ := hP
    refine hR (c_obj h0 (zcall_i mc ms (by omega) (by omega) (run1 _ ?_)))
    refine (?_ : R (_, _, .int v :: [], w1, k + mc, n + ms))
    refine hR (?_ : R (_, _, _, _, _, _))
    refine hR (?_ : R (_, _, _, _, _, _))
    refine hR (?_ : R (_, _, _, _, _, _))
    refine hR (?_ : R (_, _, _, _, _, _))
    refine hR (?_ : R (_, _, _, _, _, _))
    refine hR (t_add ?_)
    refine hR (And.intro (zvin (by omega) (by omega) (by omega)) (t_raw ?_))
    refine hR (?_ : R (_, _, _, _, _, _))
    refine hR (?_ : R (_, _, _, _, _, _))
    refine hR (?_ : R (_, _, _, _, _, _))
    refine hR (t_add ?_)
    refine hR (And.intro (zvin (by omega) (by omega) (by omega)) (t_raw ?_))
    refine hR (?_ : R (_, _, _, _, _, _))
    refine hR (?_ : R (_, _, _, _, _, _))
    refine hR (?_ : R (_, _, _, _, _, _))
    refine hR (t_add ?_)
    refine hR (And.intro (zvin (by omega) (by omega) (by omega)) (t_raw ?_))
    refine hR (k_eq (zrg _) (fun hc => absurd hc hz3) (fun _ => ?_))
    refine hR (?_ : R (_, _, _, _, _, _))
    refine hR (?_ : R (_, _, _, _, _, _))
    refine hR (c_obj h14 (zcall_i 0 0 (by omega) (by omega) (run2 _ ?_)))
    refine (?_ : R (_, _, .int v2 :: [], w2, k + mc, n + ms))
    refine hR (?_ : R (_, _, _, _, _, _))
    refine hR (?_ : R (_, _, _, _, _, _))
    exact hb w2 _ _ hJ2 (by omega) (by omega)
def qL14 : List zE := [(750, .aload_n 1, 751, 0, 0), (751, .aload_n 0, 752, 0, 0), (752, .iload_n 3, 753, 0, 0), (753, .iconst 1, 754, 0, 0), (754, .iadd, 755, 0, 0), (755, .iaload, 756, 0, 0), (756, .aload_n 0, 757, 0, 0), (757, .iload_n 3, 758, 0, 0), (758, .iconst 2, 759, 0, 0), (759, .iadd, 760, 0, 0), (760, .iaload, 761, 0, 0), (761, .invokevirtual 75, 764, 16, 2), (764, .pop, 765, 0, 0), (765, .aload_n 2, 766, 0, 0), (766, .aload_n 0, 767, 0, 0), (767, .iload_n 3, 768, 0, 0), (768, .iconst 1, 769, 0, 0), (769, .iadd, 770, 0, 0), (770, .iaload, 771, 0, 0), (771, .aload_n 0, 772, 0, 0), (772, .iload_n 3, 773, 0, 0), (773, .iconst 2, 774, 0, 0), (774, .iadd, 775, 0, 0), (775, .iaload, 776, 0, 0), (776, .invokevirtual 78, 779, 253, 2), (779, .pop, 780, 0, 0), (780, .goto 1062, 783, 1842, 0)]
theorem sL14 : qL14.all (fun e => decide (zat kL_law.2.2.2.2.2 e.1 = some e.2)) = true := by decide +kernel
theorem l_c14 {R : zS → Prop} {L : Nat} {xs : Nat → Int32} (hR : ∀ y, zstep (zCl zTab 12) 12 kL_law (some (L, xs)) zTab 600000 7302250 zLQ y R → R y) (hL : L ≤ 3584) {w : zW} {i : Int} {k n : Nat} (hi : 0 ≤ i ∧ i + 7 ≤ L) (hJ : J w) (hk : k + 100 ≤ 600000) (hn : n + phi w + 300 ≤ 7302250) (hb : ∀ w' k' n', J w' → k' ≤ k + 100 → n' + phi w' ≤ n + phi w + 300 → R (1842, [some (.retAddr 0), some (.ref 0), some (.ref 14), some (.int (Int32.ofInt i))], [], w', k', n')) : R (750, [some (.retAddr 0), some (.ref 0), some (.ref 14), some (.int (Int32.ofInt i))], [], w, k, n) := by
  have hR := @zrsub _ _ _ _ _ _ _ _ _ qL14 sL14 hR
  refine hR (?_ : R (_, _, _, _, _, _))
  refine hR (?_ : R (_, _, _, _, _, _))
  refine hR (?_ : R (_, _, _, _, _, _))
  refine hR (?_ : R (_, _, _, _, _, _))
  refine hR (t_add ?_)
  refine hR (And.intro (zvin (by omega) (by omega) (by omega)) (t_raw ?_))
  refine hR (?_ : R (_, _, _, _, _, _))
  refine hR (?_ : R (_, _, _, _, _, _))
  refine hR (?_ : R (_, _, _, _, _, _))
  refine hR (t_add ?_)
  refine hR (And.intro (zvin (by omega) (by omega) (by omega)) (t_raw ?_))
  obtain ⟨mc, ms, r, w1, r2, w2, run1, run2, ⟨fs0, h0⟩, ⟨fs1, h14⟩, hJ2, hmc, hms, hP⟩ := pr_sound hJ (xs (Int32.ofInt (i + 1)).toNatClampNeg).toInt (xs (Int32.ofInt (i + 2)).toNatClampNeg).toInt (zrg _) (zrg _)
  obtain ⟨v, v2, rfl, rfl⟩ := hP
  refine hR (c_obj h0 (zcall_i mc ms (by omega) (by omega) (run1 _ ?_)))
  refine (?_ : R (_, _, .int v :: [], w1, k + mc, n + ms))
  refine hR (?_ : R (_, _, _, _, _, _))
  refine hR (?_ : R (_, _, _, _, _, _))
  refine hR (?_ : R (_, _, _, _, _, _))
  refine hR (?_ : R (_, _, _, _, _, _))
  refine hR (?_ : R (_, _, _, _, _, _))
  refine hR (t_add ?_)
  refine hR (And.intro (zvin (by omega) (by omega) (by omega)) (t_raw ?_))
  refine hR (?_ : R (_, _, _, _, _, _))
  refine hR (?_ : R (_, _, _, _, _, _))
  refine hR (?_ : R (_, _, _, _, _, _))
  refine hR (t_add ?_)
  refine hR (And.intro (zvin (by omega) (by omega) (by omega)) (t_raw ?_))
  refine hR (c_obj h14 (zcall_i 0 0 (by omega) (by omega) (run2 _ ?_)))
  refine (?_ : R (_, _, .int v2 :: [], w2, k + mc, n + ms))
  refine hR (?_ : R (_, _, _, _, _, _))
  refine hR (?_ : R (_, _, _, _, _, _))
  exact hb w2 _ _ hJ2 (by omega) (by omega)
def qL15 : List zE := [(783, .aload_n 1, 784, 0, 0), (784, .aload_n 0, 785, 0, 0), (785, .iload_n 3, 786, 0, 0), (786, .iconst 1, 787, 0, 0), (787, .iadd, 788, 0, 0), (788, .iaload, 789, 0, 0), (789, .aload_n 0, 790, 0, 0), (790, .iload_n 3, 791, 0, 0), (791, .iconst 2, 792, 0, 0), (792, .iadd, 793, 0, 0), (793, .iaload, 794, 0, 0), (794, .aload_n 0, 795, 0, 0), (795, .iload_n 3, 796, 0, 0), (796, .iconst 3, 797, 0, 0), (797, .iadd, 798, 0, 0), (798, .iaload, 799, 0, 0), (799, .invokevirtual 79, 802, 17, 3), (802, .pop, 803, 0, 0), (803, .aload_n 2, 804, 0, 0), (804, .aload_n 0, 805, 0, 0), (805, .iload_n 3, 806, 0, 0), (806, .iconst 1, 807, 0, 0), (807, .iadd, 808, 0, 0), (808, .iaload, 809, 0, 0), (809, .aload_n 0, 810, 0, 0), (810, .iload_n 3, 811, 0, 0), (811, .iconst 2, 812, 0, 0), (812, .iadd, 813, 0, 0), (813, .iaload, 814, 0, 0), (814, .aload_n 0, 815, 0, 0), (815, .iload_n 3, 816, 0, 0), (816, .iconst 3, 817, 0, 0), (817, .iadd, 818, 0, 0), (818, .iaload, 819, 0, 0), (819, .invokevirtual 82, 822, 254, 3), (822, .pop, 823, 0, 0), (823, .goto 1019, 826, 1842, 0)]
theorem sL15 : qL15.all (fun e => decide (zat kL_law.2.2.2.2.2 e.1 = some e.2)) = true := by decide +kernel
theorem l_c15 {R : zS → Prop} {L : Nat} {xs : Nat → Int32} (hR : ∀ y, zstep (zCl zTab 12) 12 kL_law (some (L, xs)) zTab 600000 7302250 zLQ y R → R y) (hL : L ≤ 3584) {w : zW} {i : Int} {k n : Nat} (hi : 0 ≤ i ∧ i + 7 ≤ L) (hJ : J w) (hk : k + 100 ≤ 600000) (hn : n + phi w + 300 ≤ 7302250) (hb : ∀ w' k' n', J w' → k' ≤ k + 100 → n' + phi w' ≤ n + phi w + 300 → R (1842, [some (.retAddr 0), some (.ref 0), some (.ref 14), some (.int (Int32.ofInt i))], [], w', k', n')) : R (783, [some (.retAddr 0), some (.ref 0), some (.ref 14), some (.int (Int32.ofInt i))], [], w, k, n) := by
  have hR := @zrsub _ _ _ _ _ _ _ _ _ qL15 sL15 hR
  refine hR (?_ : R (_, _, _, _, _, _))
  refine hR (?_ : R (_, _, _, _, _, _))
  refine hR (?_ : R (_, _, _, _, _, _))
  refine hR (?_ : R (_, _, _, _, _, _))
  refine hR (t_add ?_)
  refine hR (And.intro (zvin (by omega) (by omega) (by omega)) (t_raw ?_))
  refine hR (?_ : R (_, _, _, _, _, _))
  refine hR (?_ : R (_, _, _, _, _, _))
  refine hR (?_ : R (_, _, _, _, _, _))
  refine hR (t_add ?_)
  refine hR (And.intro (zvin (by omega) (by omega) (by omega)) (t_raw ?_))
  refine hR (?_ : R (_, _, _, _, _, _))
  refine hR (?_ : R (_, _, _, _, _, _))
  refine hR (?_ : R (_, _, _, _, _, _))
  refine hR (t_add ?_)
  refine hR (And.intro (zvin (by omega) (by omega) (by omega)) (t_raw ?_))
  obtain ⟨mc, ms, r, w1, r2, w2, run1, run2, ⟨fs0, h0⟩, ⟨fs1, h14⟩, hJ2, hmc, hms, hP⟩ := pr_like hJ (xs (Int32.ofInt (i + 1)).toNatClampNeg).toInt (xs (Int32.ofInt (i + 2)).toNatClampNeg).toInt (xs (Int32.ofInt (i + 3)).toNatClampNeg).toInt (zrg _) (zrg _) (zrg _)
  obtain ⟨v, v2, rfl, rfl⟩ := hP
  refine hR (c_obj h0 (zcall_i mc ms (by omega) (by omega) (run1 _ ?_)))
  refine (?_ : R (_, _, .int v :: [], w1, k + mc, n + ms))
  refine hR (?_ : R (_, _, _, _, _, _))
  refine hR (?_ : R (_, _, _, _, _, _))
  refine hR (?_ : R (_, _, _, _, _, _))
  refine hR (?_ : R (_, _, _, _, _, _))
  refine hR (?_ : R (_, _, _, _, _, _))
  refine hR (t_add ?_)
  refine hR (And.intro (zvin (by omega) (by omega) (by omega)) (t_raw ?_))
  refine hR (?_ : R (_, _, _, _, _, _))
  refine hR (?_ : R (_, _, _, _, _, _))
  refine hR (?_ : R (_, _, _, _, _, _))
  refine hR (t_add ?_)
  refine hR (And.intro (zvin (by omega) (by omega) (by omega)) (t_raw ?_))
  refine hR (?_ : R (_, _, _, _, _, _))
  refine hR (?_ : R (_, _, _, _, _, _))
  refine hR (?_ : R (_, _, _, _, _, _))
  refine hR (t_add ?_)
  refine hR (And.intro (zvin (by omega) (by omega) (by omega)) (t_raw ?_))
  refine hR (c_obj h14 (zcall_i 0 0 (by omega) (by omega) (run2 _ ?_)))
  refine (?_ : R (_, _, .int v2 :: [], w2, k + mc, n + ms))
  refine hR (?_ : R (_, _, _, _, _, _))
  refine hR (?_ : R (_, _, _, _, _, _))
  exact hb w2 _ _ hJ2 (by omega) (by omega)
def qL16 : List zE := [(826, .aload_n 1, 827, 0, 0), (827, .aload_n 0, 828, 0, 0), (828, .iload_n 3, 829, 0, 0), (829, .iconst 1, 830, 0, 0), (830, .iadd, 831, 0, 0), (831, .iaload, 832, 0, 0), (832, .aload_n 0, 833, 0, 0), (833, .iload_n 3, 834, 0, 0), (834, .iconst 2, 835, 0, 0), (835, .iadd, 836, 0, 0), (836, .iaload, 837, 0, 0), (837, .aload_n 0, 838, 0, 0), (838, .iload_n 3, 839, 0, 0), (839, .iconst 3, 840, 0, 0), (840, .iadd, 841, 0, 0), (841, .iaload, 842, 0, 0), (842, .invokevirtual 83, 845, 18, 3), (845, .pop, 846, 0, 0), (846, .aload_n 2, 847, 0, 0), (847, .aload_n 0, 848, 0, 0), (848, .iload_n 3, 849, 0, 0), (849, .iconst 1, 850, 0, 0), (850, .iadd, 851, 0, 0), (851, .iaload, 852, 0, 0), (852, .aload_n 0, 853, 0, 0), (853, .iload_n 3, 854, 0, 0), (854, .iconst 2, 855, 0, 0), (855, .iadd, 856, 0, 0), (856, .iaload, 857, 0, 0), (857, .aload_n 0, 858, 0, 0), (858, .iload_n 3, 859, 0, 0), (859, .iconst 3, 860, 0, 0), (860, .iadd, 861, 0, 0), (861, .iaload, 862, 0, 0), (862, .invokevirtual 86, 865, 261, 3), (865, .pop, 866, 0, 0), (866, .goto 976, 869, 1842, 0)]
theorem sL16 : qL16.all (fun e => decide (zat kL_law.2.2.2.2.2 e.1 = some e.2)) = true := by decide +kernel
theorem l_c16 {R : zS → Prop} {L : Nat} {xs : Nat → Int32} (hR : ∀ y, zstep (zCl zTab 12) 12 kL_law (some (L, xs)) zTab 600000 7302250 zLQ y R → R y) (hL : L ≤ 3584) {w : zW} {i : Int} {k n : Nat} (hi : 0 ≤ i ∧ i + 7 ≤ L) (hJ : J w) (hk : k + 100 ≤ 600000) (hn : n + phi w + 300 ≤ 7302250) (hb : ∀ w' k' n', J w' → k' ≤ k + 100 → n' + phi w' ≤ n + phi w + 300 → R (1842, [some (.retAddr 0), some (.ref 0), some (.ref 14), some (.int (Int32.ofInt i))], [], w', k', n')) : R (826, [some (.retAddr 0), some (.ref 0), some (.ref 14), some (.int (Int32.ofInt i))], [], w, k, n) := by
  have hR := @zrsub _ _ _ _ _ _ _ _ _ qL16 sL16 hR
  refine hR (?_ : R (_, _, _, _, _, _))
  refine hR (?_ : R (_, _, _, _, _, _))
  refine hR (?_ : R (_, _, _, _, _, _))
  refine hR (?_ : R (_, _, _, _, _, _))
  refine hR (t_add ?_)
  refine hR (And.intro (zvin (by omega) (by omega) (by omega)) (t_raw ?_))
  refine hR (?_ : R (_, _, _, _, _, _))
  refine hR (?_ : R (_, _, _, _, _, _))
  refine hR (?_ : R (_, _, _, _, _, _))
  refine hR (t_add ?_)
  refine hR (And.intro (zvin (by omega) (by omega) (by omega)) (t_raw ?_))
  refine hR (?_ : R (_, _, _, _, _, _))
  refine hR (?_ : R (_, _, _, _, _, _))
  refine hR (?_ : R (_, _, _, _, _, _))
  refine hR (t_add ?_)
  refine hR (And.intro (zvin (by omega) (by omega) (by omega)) (t_raw ?_))
  obtain ⟨mc, ms, r, w1, r2, w2, run1, run2, ⟨fs0, h0⟩, ⟨fs1, h14⟩, hJ2, hmc, hms, hP⟩ := pr_orbits hJ (xs (Int32.ofInt (i + 1)).toNatClampNeg).toInt (xs (Int32.ofInt (i + 2)).toNatClampNeg).toInt (xs (Int32.ofInt (i + 3)).toNatClampNeg).toInt (zrg _) (zrg _) (zrg _)
  obtain ⟨v, v2, rfl, rfl⟩ := hP
  refine hR (c_obj h0 (zcall_i mc ms (by omega) (by omega) (run1 _ ?_)))
  refine (?_ : R (_, _, .int v :: [], w1, k + mc, n + ms))
  refine hR (?_ : R (_, _, _, _, _, _))
  refine hR (?_ : R (_, _, _, _, _, _))
  refine hR (?_ : R (_, _, _, _, _, _))
  refine hR (?_ : R (_, _, _, _, _, _))
  refine hR (?_ : R (_, _, _, _, _, _))
  refine hR (t_add ?_)
  refine hR (And.intro (zvin (by omega) (by omega) (by omega)) (t_raw ?_))
  refine hR (?_ : R (_, _, _, _, _, _))
  refine hR (?_ : R (_, _, _, _, _, _))
  refine hR (?_ : R (_, _, _, _, _, _))
  refine hR (t_add ?_)
  refine hR (And.intro (zvin (by omega) (by omega) (by omega)) (t_raw ?_))
  refine hR (?_ : R (_, _, _, _, _, _))
  refine hR (?_ : R (_, _, _, _, _, _))
  refine hR (?_ : R (_, _, _, _, _, _))
  refine hR (t_add ?_)
  refine hR (And.intro (zvin (by omega) (by omega) (by omega)) (t_raw ?_))
  refine hR (c_obj h14 (zcall_i 0 0 (by omega) (by omega) (run2 _ ?_)))
  refine (?_ : R (_, _, .int v2 :: [], w2, k + mc, n + ms))
  refine hR (?_ : R (_, _, _, _, _, _))
  refine hR (?_ : R (_, _, _, _, _, _))
  exact hb w2 _ _ hJ2 (by omega) (by omega)
def qL17 : List zE := [(869, .aload_n 1, 870, 0, 0), (870, .aload_n 0, 871, 0, 0), (871, .iload_n 3, 872, 0, 0), (872, .iconst 1, 873, 0, 0), (873, .iadd, 874, 0, 0), (874, .iaload, 875, 0, 0), (875, .aload_n 0, 876, 0, 0), (876, .iload_n 3, 877, 0, 0), (877, .iconst 2, 878, 0, 0), (878, .iadd, 879, 0, 0), (879, .iaload, 880, 0, 0), (880, .aload_n 0, 881, 0, 0), (881, .iload_n 3, 882, 0, 0), (882, .iconst 3, 883, 0, 0), (883, .iadd, 884, 0, 0), (884, .iaload, 885, 0, 0), (885, .invokevirtual 87, 888, 19, 3), (888, .pop, 889, 0, 0), (889, .aload_n 2, 890, 0, 0), (890, .aload_n 0, 891, 0, 0), (891, .iload_n 3, 892, 0, 0), (892, .iconst 1, 893, 0, 0), (893, .iadd, 894, 0, 0), (894, .iaload, 895, 0, 0), (895, .aload_n 0, 896, 0, 0), (896, .iload_n 3, 897, 0, 0), (897, .iconst 2, 898, 0, 0), (898, .iadd, 899, 0, 0), (899, .iaload, 900, 0, 0), (900, .aload_n 0, 901, 0, 0), (901, .iload_n 3, 902, 0, 0), (902, .iconst 3, 903, 0, 0), (903, .iadd, 904, 0, 0), (904, .iaload, 905, 0, 0), (905, .invokevirtual 90, 908, 266, 3), (908, .pop, 909, 0, 0), (909, .goto 933, 912, 1842, 0)]
theorem sL17 : qL17.all (fun e => decide (zat kL_law.2.2.2.2.2 e.1 = some e.2)) = true := by decide +kernel
theorem l_c17 {R : zS → Prop} {L : Nat} {xs : Nat → Int32} (hR : ∀ y, zstep (zCl zTab 12) 12 kL_law (some (L, xs)) zTab 600000 7302250 zLQ y R → R y) (hL : L ≤ 3584) {w : zW} {i : Int} {k n : Nat} (hi : 0 ≤ i ∧ i + 7 ≤ L) (hJ : J w) (hk : k + 100 ≤ 600000) (hn : n + phi w + 300 ≤ 7302250) (hb : ∀ w' k' n', J w' → k' ≤ k + 100 → n' + phi w' ≤ n + phi w + 300 → R (1842, [some (.retAddr 0), some (.ref 0), some (.ref 14), some (.int (Int32.ofInt i))], [], w', k', n')) : R (869, [some (.retAddr 0), some (.ref 0), some (.ref 14), some (.int (Int32.ofInt i))], [], w, k, n) := by
  have hR := @zrsub _ _ _ _ _ _ _ _ _ qL17 sL17 hR
  refine hR (?_ : R (_, _, _, _, _, _))
  refine hR (?_ : R (_, _, _, _, _, _))
  refine hR (?_ : R (_, _, _, _, _, _))
  refine hR (?_ : R (_, _, _, _, _, _))
  refine hR (t_add ?_)
  refine hR (And.intro (zvin (by omega) (by omega) (by omega)) (t_raw ?_))
  refine hR (?_ : R (_, _, _, _, _, _))
  refine hR (?_ : R (_, _, _, _, _, _))
  refine hR (?_ : R (_, _, _, _, _, _))
  refine hR (t_add ?_)
  refine hR (And.intro (zvin (by omega) (by omega) (by omega)) (t_raw ?_))
  refine hR (?_ : R (_, _, _, _, _, _))
  refine hR (?_ : R (_, _, _, _, _, _))
  refine hR (?_ : R (_, _, _, _, _, _))
  refine hR (t_add ?_)
  refine hR (And.intro (zvin (by omega) (by omega) (by omega)) (t_raw ?_))
  obtain ⟨mc, ms, r, w1, r2, w2, run1, run2, ⟨fs0, h0⟩, ⟨fs1, h14⟩, hJ2, hmc, hms, hP⟩ := pr_rota hJ (xs (Int32.ofInt (i + 1)).toNatClampNeg).toInt (xs (Int32.ofInt (i + 2)).toNatClampNeg).toInt (xs (Int32.ofInt (i + 3)).toNatClampNeg).toInt (zrg _) (zrg _) (zrg _)
  obtain ⟨v, v2, rfl, rfl⟩ := hP
  refine hR (c_obj h0 (zcall_i mc ms (by omega) (by omega) (run1 _ ?_)))
  refine (?_ : R (_, _, .int v :: [], w1, k + mc, n + ms))
  refine hR (?_ : R (_, _, _, _, _, _))
  refine hR (?_ : R (_, _, _, _, _, _))
  refine hR (?_ : R (_, _, _, _, _, _))
  refine hR (?_ : R (_, _, _, _, _, _))
  refine hR (?_ : R (_, _, _, _, _, _))
  refine hR (t_add ?_)
  refine hR (And.intro (zvin (by omega) (by omega) (by omega)) (t_raw ?_))
  refine hR (?_ : R (_, _, _, _, _, _))
  refine hR (?_ : R (_, _, _, _, _, _))
  refine hR (?_ : R (_, _, _, _, _, _))
  refine hR (t_add ?_)
  refine hR (And.intro (zvin (by omega) (by omega) (by omega)) (t_raw ?_))
  refine hR (?_ : R (_, _, _, _, _, _))
  refine hR (?_ : R (_, _, _, _, _, _))
  refine hR (?_ : R (_, _, _, _, _, _))
  refine hR (t_add ?_)
  refine hR (And.intro (zvin (by omega) (by omega) (by omega)) (t_raw ?_))
  refine hR (c_obj h14 (zcall_i 0 0 (by omega) (by omega) (run2 _ ?_)))
  refine (?_ : R (_, _, .int v2 :: [], w2, k + mc, n + ms))
  refine hR (?_ : R (_, _, _, _, _, _))
  refine hR (?_ : R (_, _, _, _, _, _))
  exact hb w2 _ _ hJ2 (by omega) (by omega)
