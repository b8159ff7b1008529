theorem out_blk {ρ : Nat → Nat} {w : zW} {p q : Nat} (hw : CI ρ w) (hp : ρ p = 2) (hq : ρ q < 2 ∨ 7 < ρ q) : q < p ∨ p + 5 < q := by
  obtain ⟨a1, a2, a3, -, b1, -, -, -, b2, b3, b4, b5⟩ := CI_o2 hw hp
  rcases Nat.lt_or_ge q p with h | h
  · exact Or.inl h
  · rcases Nat.lt_or_ge (p + 5) q with h2 | h2
    · exact Or.inr h2
    · exfalso
      have : q = p ∨ q = p + 1 ∨ q = p + 2 ∨ q = p + 3 ∨ q = p + 4 ∨ q = p + 5 := by omega
      rcases this with rfl | rfl | rfl | rfl | rfl | rfl <;> omega
theorem frp_top {ρ : Nat → Nat} {w w' : zW} {p : Nat} (hT : TOP ρ w) (hp : ρ p = 2) (hc : CI ρ w') (F : FRP p w w') : TOP ρ w' ∧ phi w' = phi w ∧ KEEP w w' := by
  obtain ⟨y6, y7, h0, r1, r7, r8, r9, r12, r13, e6, e7⟩ := top_o hT
  have eq : ∀ q, (ρ q < 2 ∨ 7 < ρ q) → zix w' q = zix w q := fun q hq => F.2 q (out_blk hT.1 hp hq)
  refine ⟨⟨hc, hT.2.1, fun q hq => ?_, hT.2.2.2.1, by rw [F.1]; exact hT.2.2.2.2⟩, phi_eq (eq 0 (by rw [hT.2.1]; decide)) (eq 7 (by omega)) (eq 12 (by omega)) (eq 13 (by omega)), fun q a b => eq q (by have := hT.2.2.2.1 q a b; omega)⟩
  obtain ⟨x0, hO6, hx0, k1, k2, k3, k4⟩ := CI_o60 hT.1 hq
  obtain ⟨sz, gq, gn, gb, ⟨a, b, c⟩, d', e', f⟩ := hT.2.2.1 q hq
  exact ⟨sz, gq, gn, gb, ⟨a, (eq _ (by omega)).trans b, (eq _ (by omega)).trans c⟩, (eq _ (by omega)).trans d', (eq _ (by omega)).trans e', f⟩
theorem k_again {ρ : Nat → Nat} {w : zW} {l : Int} {m : Nat → Option Int} (hT : TOP ρ w) (hI : IM w l m) (d : Nat) (a1 : Int) (hr : -2147483648 ≤ a1 ∧ a1 ≤ 2147483647) : DET zTab (d + 3) iX11_again [.ref 0, .int (Int32.ofInt a1)] w (fun mc ms r w' => (((a1 < 0 ∨ 3 ≤ a1) ∨ m a1.toNat = none) ∧ TP w l m mc ms w' ∧ r = some (.int (Int32.ofInt 0))) ∨ (∃ x, (0 ≤ a1 ∧ a1 < 3) ∧ m a1.toNat = some x ∧ TP w x m mc ms w' ∧ r = some (.int (Int32.ofInt 1)))) := by
  refine det_of (mc := 0) (ms := 0) ?_
  refine zCl_i (M := kX11_again) rfl (Nat.le_of_ble_eq_true rfl) fun R hR => ?_
  obtain ⟨y6, y7, h0, r1, r7, -⟩ := top_o hT
  obtain ⟨a, b, hO, hl, ha, hb, -⟩ := told_o hT hI
  have bad : ((a1 < 0 ∨ 3 ≤ a1) ∨ m a1.toNat = none) → R (18, [some (.ref 0), some (.int (Int32.ofInt a1))], [], w, 0, 0) := by
    intro hx
    refine hR (?_ : R (_, _, _, _, _, _))
    exact hR (zret_i rfl (Nat.le_refl _) (Or.inl rfl) (Or.inl ⟨hx, ⟨⟨ρ, hT⟩, hI, fun _ _ _ => rfl, by omega, by omega⟩, rfl⟩))
  refine hR (?_ : R (_, _, _, _, _, _))
  refine hR (k_lt (by omega) (fun hc => bad (Or.inl (Or.inl hc))) (fun hc => ?_))
  iterate 2 refine hR (?_ : R (_, _, _, _, _, _))
  refine hR (j_ge (by omega) (by omega) (fun hc2 => bad (Or.inl (Or.inr hc2))) (fun hc2 => ?_))
  obtain ⟨c1, g, c2, c3, c4⟩ := hI
  have hI : IM w l m := ⟨c1, g, c2, c3, c4⟩
  rcases c3 a1.toNat (by omega) with ⟨e1, e2⟩ | ⟨q, x, e1, e2, e3, e4⟩
  · refine hR (?_ : R (_, _, _, _, _, _))
    refine hR (c_get h0 rfl ?_)
    refine hR (?_ : R (_, _, _, _, _, _))
    refine hR (c_rldE c2 rfl (by omega) (by omega) (Nat.le_of_ble_eq_true rfl) (v := .null) (by rw [e1]; rfl) ?_)
    refine hR (?_ : R (_, _, _, _, _, _))
    exact bad (Or.inr e2)
  · have hq := im_role (l := 0) (m := fun _ => none) hT c2 e1
    refine hR (?_ : R (_, _, _, _, _, _))
    refine hR (c_get h0 rfl ?_)
    refine hR (?_ : R (_, _, _, _, _, _))
    refine hR (c_rldE c2 rfl (by omega) (by omega) (Nat.le_of_ble_eq_true rfl) (v := .ref q) (by rw [e1]; rfl) ?_)
    iterate 2 refine hR (?_ : R (_, _, _, _, _, _))
    refine hR (c_get h0 rfl ?_)
    refine hR (?_ : R (_, _, _, _, _, _))
    refine hR (c_get h0 rfl ?_)
    refine hR (?_ : R (_, _, _, _, _, _))
    refine hR (c_rldE c2 rfl (by omega) (by omega) (Nat.le_of_ble_eq_true rfl) (v := .ref q) (by rw [e1]; rfl) ?_)
    refine hR (c_obj hO (zcall_i 0 0 (Nat.le_of_ble_eq_true rfl) (Nat.le_of_ble_eq_true rfl) (c_becomes _ 1 q x hT.1 r1 hq (by omega) e4 _ fun w1 hw1 F1 hL1 => ?_)))
    refine (?_ : R (_, _, [], w1, 0, 0))
    obtain ⟨hT1, hp1, hK1⟩ := frp_top hT r1 hw1 F1
    have hI1 : IM w1 x m := by
      refine ⟨hL1, g, (F1.2 7 (by omega)).trans c2, fun k hk => ?_, c4⟩
      rcases c3 k hk with e | ⟨q', x', f1, f2, f3, f4⟩
      · exact Or.inl e
      · exact Or.inr ⟨q', x', f1, f2, f3, LE_eq (F1.2 q' (by omega)) f4⟩
    refine hR (?_ : R (_, _, _, _, _, _))
    exact hR (zret_i rfl (Nat.le_refl _) (Or.inr rfl) (Or.inr ⟨x, by omega, e2, ⟨⟨ρ, hT1⟩, hI1, hK1, by omega, by omega⟩, rfl⟩))
def upm (m : Nat → Option Int) (k : Nat) (l : Int) : Nat → Option Int := fun j => if j = k then some l else m j
/-- an image is as the tape is now -/
theorem im_img {ρ : Nat → Nat} {w w1 : zW} {l : Int} {m : Nat → Option Int} {g : Nat → Option Nat} {k p : Nat} (hT : TOP ρ w) (c1 : LE w 1 l) (c2 : zix w 7 = some (rfa 6 3 g)) (hk : k < 3) (hg : g k = some p) (hp45 : 45 ≤ p) (c3 : ∀ j, j < 3 → j ≠ k → (g j = none ∧ m j = none) ∨ ∃ q x, g j = some q ∧ m j = some x ∧ 45 ≤ q ∧ LE w q x) (c4 : ∀ i j q, i < 3 → j < 3 → g i = some q → g j = some q → i = j) (F : FRP p w w1) (hL : LE w1 p l) : IM w1 l (upm m k l) := by
  obtain ⟨y6, y7, h0, r1, r7, -⟩ := top_o hT
  have hp := im_role (l := 0) (m := fun _ => none) hT c2 hg
  refine ⟨LE_eq (F.2 1 (by omega)) c1, g, (F.2 7 (by omega)).trans c2, fun j hj => ?_, c4⟩
  by_cases e : j = k
  · subst e
    exact Or.inr ⟨p, l, hg, if_pos rfl, hp45, hL⟩
  · rcases c3 j hj e with ⟨f1, f2⟩ | ⟨q, x, f1, f2, f3, f4⟩
    · exact Or.inl ⟨f1, (if_neg e).trans f2⟩
    · have hqp : p ≠ q := fun e2 => e (c4 j k q hj hk f1 (by rw [← e2]; exact hg))
      have hb := blk hT.1 hp (im_role (l := 0) (m := fun _ => none) hT c2 f1) hqp 0 (by omega)
      exact Or.inr ⟨q, x, f1, (if_neg e).trans f2, f3, LE_eq (F.2 q hb) f4⟩
theorem ph3_up {c i p t n : Nat} {g : Nat → Option Nat} (hi : i < 3) (hn : g i = none) : ph3 c (some (rfa t n (va_up g i (some p)))) + c = ph3 c (some (rfa t n g)) := by
  show pnr c (va_up g i (some p) 0) + pnr c (va_up g i (some p) 1) + pnr c (va_up g i (some p) 2) + c = pnr c (g 0) + pnr c (g 1) + pnr c (g 2)
  have h : i = 0 ∨ i = 1 ∨ i = 2 := by omega
  rcases h with rfl | rfl | rfl
  · rw [up_s, up_n (by decide), up_n (by decide), hn]; show 0 + _ + _ + c = c + _ + _; omega
  · rw [up_s, up_n (by decide), up_n (by decide), hn]; show _ + 0 + _ + c = _ + c + _; omega
  · rw [up_s, up_n (by decide), up_n (by decide), hn]; show _ + _ + 0 + c = _ + _ + c; omega
theorem k_image {ρ : Nat → Nat} {w : zW} {l : Int} {m : Nat → Option Int} (hT : TOP ρ w) (hI : IM w l m) (d : Nat) (a1 : Int) (hr : -2147483648 ≤ a1 ∧ a1 ≤ 2147483647) : DET zTab (d + 3) iX11_image [.ref 0, .int (Int32.ofInt a1)] w (fun mc ms r w' => ((a1 < 0 ∨ 3 ≤ a1) ∧ TP w l m mc ms w' ∧ r = some (.int (Int32.ofInt 0))) ∨ ((0 ≤ a1 ∧ a1 < 3) ∧ TP w l (upm m a1.toNat l) mc ms w' ∧ r = some (.int (Int32.ofInt 1)))) := by
  obtain ⟨y6, y7, h0, r1, r7, -⟩ := top_o hT
  obtain ⟨a, b, hO, hl, ha, hb, -⟩ := told_o hT hI
  obtain ⟨c1, g, c2, c3, c4⟩ := hI
  have hI : IM w l m := ⟨c1, g, c2, c3, c4⟩
  by_cases hx : a1 < 0 ∨ 3 ≤ a1
  · refine det_of (mc := 0) (ms := 0) ?_
    refine zCl_i (M := kX11_image) rfl (Nat.le_of_ble_eq_true rfl) fun R hR => ?_
    have bad : R (9, [some (.ref 0), some (.int (Int32.ofInt a1))], [], w, 0, 0) := by
      refine hR (?_ : R (_, _, _, _, _, _))
      exact hR (zret_i rfl (Nat.le_refl _) (Or.inl rfl) (Or.inl ⟨hx, ⟨⟨ρ, hT⟩, hI, fun _ _ _ => rfl, by omega, by omega⟩, rfl⟩))
    refine hR (?_ : R (_, _, _, _, _, _))
    refine hR (k_lt (by omega) (fun hc => bad) (fun hc => ?_))
    iterate 2 refine hR (?_ : R (_, _, _, _, _, _))
    exact hR (j_lt (by omega) (by omega) (fun hc2 => by omega) (fun hc2 => bad))
  · have hk : a1.toNat < 3 := by omega
    rcases c3 a1.toNat hk with ⟨e1, e2⟩ | ⟨q, x, e1, e2, e3, e4⟩
    · refine det_of (mc := 6) (ms := 617) ?_
      refine zCl_i (M := kX11_image) rfl (Nat.le_of_ble_eq_true rfl) fun R hR => ?_
      refine hR (?_ : R (_, _, _, _, _, _))
      refine hR (k_lt (by omega) (fun hc => by omega) (fun hc => ?_))
      iterate 2 refine hR (?_ : R (_, _, _, _, _, _))
      refine hR (j_lt (by omega) (by omega) (fun hc2 => ?_) (fun hc2 => by omega))
      refine hR (?_ : R (_, _, _, _, _, _))
      refine hR (c_get h0 rfl ?_)
      refine hR (?_ : R (_, _, _, _, _, _))
      refine hR (c_rldE c2 rfl (by omega) (by omega) (Nat.le_of_ble_eq_true rfl) (v := .null) (by rw [e1]; rfl) ?_)
      iterate 2 refine hR (?_ : R (_, _, _, _, _, _))
      refine hR (c_get h0 rfl ?_)
      iterate 3 refine hR (?_ : R (_, _, _, _, _, _))
      refine hR (zcall_i 5 609 (Nat.le_of_ble_eq_true rfl) (Nat.le_of_ble_eq_true rfl) (n_Told hT.1 _ _ fun σ w1 hc1 g1 hl1 hr1 hn1 hL1 => ?_))
      refine (?_ : R (_, _, .ref w.length :: .int (Int32.ofInt a1) :: .ref 7 :: [], w1, 6, 617))
      obtain ⟨hT1, hI1, hp1, hK1, hx1⟩ := top_gro hT hc1 g1 (fun q a b => absurd b (hn1 q a))
      have h45 : 45 ≤ w.length := hT.2.2.2.2
      obtain ⟨z6, z7, k0, s1, s7, -⟩ := top_o hT1
      have d2 : zix w1 7 = some (rfa 6 3 g) := (g1.2 7 (by omega)).2.trans c2
      obtain ⟨x1, x2, x3, hN, -⟩ := CI_o2 hc1 hr1
      refine hR (c_rst hc1 (by rw [s7]; rfl) (by rw [s7]; rfl) rfl ⟨by rw [s7]; decide, by rw [s7]; decide⟩ d2 hr1 hN (by omega) (by omega) (Nat.le_of_ble_eq_true rfl) fun w2 hc2 f2 hg2 => ?_)
      have hf2 : wfR [8] σ w1 w2 := wfR_st (wfR_rf _ _ _) f2 (by rw [s7]; decide)
      have hT2 : TOP σ w2 := ⟨hc2, hT1.2.1, AWK_fr hc1 hf2 hT1.2.2.1 (by decide), hT1.2.2.2.1, by rw [f2.1]; exact hT1.2.2.2.2⟩
      have hK2 : KEEP w1 w2 := fun q a b => f2.2 q (by omega)
      have hp2 : phi w2 + 700 = phi w1 := by
        have := ph3_up (c := 700) (p := w.length) (t := 6) (n := 3) hk e1
        unfold phi
        rw [d2, hg2, f2.2 0 (by decide), f2.2 12 (by decide), f2.2 13 (by decide)]
        omega
      have k02 := (f2.2 0 (by decide)).trans k0
      refine hR (?_ : R (_, _, _, _, _, _))
      refine hR (c_get k02 rfl ?_)
      refine hR (?_ : R (_, _, _, _, _, _))
      refine hR (c_rldE hg2 rfl (by omega) (by omega) (Nat.le_of_ble_eq_true rfl) (v := .ref w.length) (by rw [up_s]; rfl) ?_)
      refine hR (?_ : R (_, _, _, _, _, _))
      refine hR (c_get k02 rfl ?_)
      have hN2 := (f2.2 w.length (by omega)).trans hN
      have hL12 : LE w2 1 l := LE_eq ((f2.2 1 (by decide)).trans (g1.2 1 (by omega)).2) c1
      refine hR (c_obj hN2 (zcall_i 0 0 (Nat.le_of_ble_eq_true rfl) (Nat.le_of_ble_eq_true rfl) (c_becomes _ w.length 1 l hc2 hr1 s1 (by omega) hL12 _ fun w3 hw3 F3 hL3 => ?_)))
      refine (?_ : R (_, _, [], w3, 6, 617))
      obtain ⟨hT3, hp3, hK3⟩ := frp_top hT2 hr1 hw3 F3
      have hI3 : IM w3 l (upm m a1.toNat l) := by
        refine im_img hT2 hL12 hg2 hk up_s (by omega) (fun j hj hne => ?_) (fun i j q hi hj f1 f3 => ?_) F3 hL3
        · rw [up_n hne]
          rcases c3 j hj with e | ⟨q', x', f1, f3, f4, f5⟩
          · exact Or.inl e
          · have hq' : q' < w.length := CI_lt hT.1 (by rw [im_role (l := 0) (m := fun _ => none) hT c2 f1]; decide)
            exact Or.inr ⟨q', x', f1, f3, f4, LE_eq ((f2.2 q' (by omega)).trans (g1.2 q' hq').2) f5⟩
        · have hlt : ∀ j q', g j = some q' → q' < w.length := fun j q' f => CI_lt hT.1 (by rw [im_role (l := 0) (m := fun _ => none) hT c2 f]; decide)
          by_cases ei : i = a1.toNat <;> by_cases ej : j = a1.toNat
          · omega
          · rw [ei, up_s] at f1; cases f1; rw [up_n ej] at f3; have := hlt _ _ f3; omega
          · rw [ej, up_s] at f3; cases f3; rw [up_n ei] at f1; have := hlt _ _ f1; omega
          · rw [up_n ei] at f1; rw [up_n ej] at f3; exact c4 i j q hi hj f1 f3
      refine hR (?_ : R (_, _, _, _, _, _))
      exact hR (zret_i rfl (Nat.le_refl _) (Or.inr rfl) (Or.inr ⟨by omega, ⟨⟨σ, hT3⟩, hI3, KEEP_tr hK1 (KEEP_tr hK2 hK3), by omega, by omega⟩, rfl⟩))
    · have hq := im_role (l := 0) (m := fun _ => none) hT c2 e1
      obtain ⟨x1, x2, x3, hN, -⟩ := CI_o2 hT.1 hq
      refine det_of (mc := 0) (ms := 0) ?_
      refine zCl_i (M := kX11_image) rfl (Nat.le_of_ble_eq_true rfl) fun R hR => ?_
      refine hR (?_ : R (_, _, _, _, _, _))
      refine hR (k_lt (by omega) (fun hc => by omega) (fun hc => ?_))
      iterate 2 refine hR (?_ : R (_, _, _, _, _, _))
      refine hR (j_lt (by omega) (by omega) (fun hc2 => ?_) (fun hc2 => by omega))
      refine hR (?_ : R (_, _, _, _, _, _))
      refine hR (c_get h0 rfl ?_)
      refine hR (?_ : R (_, _, _, _, _, _))
      refine hR (c_rldE c2 rfl (by omega) (by omega) (Nat.le_of_ble_eq_true rfl) (v := .ref q) (by rw [e1]; rfl) ?_)
      iterate 2 refine hR (?_ : R (_, _, _, _, _, _))
      refine hR (c_get h0 rfl ?_)
      refine hR (?_ : R (_, _, _, _, _, _))
      refine hR (c_rldE c2 rfl (by omega) (by omega) (Nat.le_of_ble_eq_true rfl) (v := .ref q) (by rw [e1]; rfl) ?_)
      refine hR (?_ : R (_, _, _, _, _, _))
      refine hR (c_get h0 rfl ?_)
      refine hR (c_obj hN (zcall_i 0 0 (Nat.le_of_ble_eq_true rfl) (Nat.le_of_ble_eq_true rfl) (c_becomes _ q 1 l hT.1 hq r1 (by omega) c1 _ fun w1 hw1 F1 hL1 => ?_)))
      refine (?_ : R (_, _, [], w1, 0, 0))
      obtain ⟨hT1, hp1, hK1⟩ := frp_top hT hq hw1 F1
      have hI1 := im_img (m := m) hT c1 c2 hk e1 e3 (fun j hj _ => c3 j hj) c4 F1 hL1
      refine hR (?_ : R (_, _, _, _, _, _))
      exact hR (zret_i rfl (Nat.le_refl _) (Or.inr rfl) (Or.inr ⟨by omega, ⟨⟨ρ, hT1⟩, hI1, hK1, by omega, by omega⟩, rfl⟩))
