/-! IMAGE, AGAIN: exact. -/
theorem zix_lt {w : zW} {q : Nat} {c : va_E} (h : zix w q = some c) : q < w.length := by
  rw [zix_eq] at h
  exact (List.getElem?_eq_some_iff.mp h).1
theorem x_image0 {w : zW} (d : Nat) (a1 : Int) (hr : -2147483648 ≤ a1 ∧ a1 ≤ 2147483647) (hx : a1 < 0 ∨ 3 ≤ a1) (Q : zQ) (h : Q (some (.int (Int32.ofInt 0))) w) : zCl zTab (d + 3) iX11_image [.ref 0, .int (Int32.ofInt a1)] w 0 0 Q := by
  refine zCl_i (M := kX11_image) rfl (Nat.le_of_ble_eq_true rfl) fun R hR => ?_
  have bad : R (9, [some (.ref 0), some (.int (Int32.ofInt a1))], [], w, 0, 0) := by
    refine hR (?_ : R (_, _, _, _, _, _))
    exact hR (zret_i rfl (Nat.le_refl _) (Or.inl rfl) h)
  refine hR (?_ : R (_, _, _, _, _, _))
  refine hR (k_lt (by omega) (fun hc => bad) (fun hc => ?_))
  iterate 2 refine hR (?_ : R (_, _, _, _, _, _))
  exact hR (j_lt (by omega) (by omega) (fun hc2 => by omega) (fun hc2 => bad))
theorem x_imageS {w : zW} (d : Nat) (a1 : Int) (hr : 0 ≤ a1 ∧ a1 < 3) (y6 y7 : Value) (h0 : zix w 0 = some (ob0 y6 y7)) (gi : Nat → Option Nat) (h7 : zix w 7 = some (rfa 6 3 gi)) (q : Nat) (hq : gi a1.toNat = some q) (l f c l' f' c' : Int) (g cn g' cn' : Nat → Int32) (bo ye si bo' ye' si' : Nat → Option Nat) (hP : TDC w q l f c g cn bo ye si) (hO : TDC w 1 l' f' c' g' cn' bo' ye' si') (hbl : ∀ j, j ≤ 5 → (1 + j < q ∨ q + 5 < 1 + j)) (hB : ∀ j, j < 600 → -128 ≤ (g' j).toInt ∧ (g' j).toInt ≤ 127) (hb3 : ∀ j x, bo' j = some x → (x < q ∨ q + 5 < x) ∧ ∃ fs, zix w x = some (.inr (zec 3, fs))) (hb4 : ∀ j x, ye' j = some x → (x < q ∨ q + 5 < x) ∧ ∃ fs, zix w x = some (.inr (zec 4, fs))) (hb5 : ∀ j x, si' j = some x → (x < q ∨ q + 5 < x) ∧ ∃ fs, zix w x = some (.inr (zec 5, fs))) (Q : zQ) (h : ∀ (w' : zW) (gt ct : Nat → Int32) (bt yt it : Nat → Option Nat), FRP q w w' → TDC w' q l' f' c' gt ct bt yt it → (∀ j, j < 600 → gt j = g' j) → (∀ j, j < 3 → ct j = cn' j) → (∀ j, j < 2 → bt j = bo' j) → (∀ j, j < 2 → yt j = ye' j) → (∀ j, j < 2 → it j = si' j) → Q (some (.int (Int32.ofInt 1))) w') : zCl zTab (d + 3) iX11_image [.ref 0, .int (Int32.ofInt a1)] w 0 0 Q := by
  refine zCl_i (M := kX11_image) rfl (Nat.le_of_ble_eq_true rfl) fun R hR => ?_
  refine hR (?_ : R (_, _, _, _, _, _))
  refine hR (k_lt (by omega) (fun hc => by omega) (fun hc => ?_))
  iterate 2 refine hR (?_ : R (_, _, _, _, _, _))
  refine hR (j_lt (by omega) (by omega) (fun hc2 => ?_) (fun hc2 => by omega))
  refine hR (?_ : R (_, _, _, _, _, _))
  refine hR (c_get h0 rfl ?_)
  refine hR (?_ : R (_, _, _, _, _, _))
  refine hR (c_rldE h7 rfl (by omega) (by omega) (Nat.le_of_ble_eq_true rfl) (v := .ref q) (by rw [hq]; rfl) ?_)
  iterate 2 refine hR (?_ : R (_, _, _, _, _, _))
  refine hR (c_get h0 rfl ?_)
  refine hR (?_ : R (_, _, _, _, _, _))
  refine hR (c_rldE h7 rfl (by omega) (by omega) (Nat.le_of_ble_eq_true rfl) (v := .ref q) (by rw [hq]; rfl) ?_)
  refine hR (?_ : R (_, _, _, _, _, _))
  refine hR (c_get h0 rfl ?_)
  refine hR (c_obj hP.1 (zcall_i 0 0 (Nat.le_of_ble_eq_true rfl) (Nat.le_of_ble_eq_true rfl) (x_becomes _ q 1 l f c l' f' c' g cn g' cn' bo ye si bo' ye' si' hP hO hbl hB hb3 hb4 hb5 _ fun w1 gt ct bt yt it F1 hT1 e1 e2 e3 e4 e5 => ?_)))
  refine (?_ : R (_, _, [], w1, 0, 0))
  refine hR (?_ : R (_, _, _, _, _, _))
  exact hR (zret_i rfl (Nat.le_refl _) (Or.inr rfl) (h w1 gt ct bt yt it F1 hT1 e1 e2 e3 e4 e5))
theorem x_imageN {w : zW} (d : Nat) (a1 : Int) (hr : 0 ≤ a1 ∧ a1 < 3) (y6 y7 : Value) (h0 : zix w 0 = some (ob0 y6 y7)) (gi : Nat → Option Nat) (h7 : zix w 7 = some (rfa 6 3 gi)) (hq : gi a1.toNat = none) (l' f' c' : Int) (g' cn' : Nat → Int32) (bo' ye' si' : Nat → Option Nat) (hO : TDC w 1 l' f' c' g' cn' bo' ye' si') (hB : ∀ j, j < 600 → -128 ≤ (g' j).toInt ∧ (g' j).toInt ≤ 127) (hb3 : ∀ j x, bo' j = some x → x ≠ 7 ∧ ∃ fs, zix w x = some (.inr (zec 3, fs))) (hb4 : ∀ j x, ye' j = some x → x ≠ 7 ∧ ∃ fs, zix w x = some (.inr (zec 4, fs))) (hb5 : ∀ j x, si' j = some x → x ≠ 7 ∧ ∃ fs, zix w x = some (.inr (zec 5, fs))) (Q : zQ) (h : ∀ (w' : zW) (gt ct : Nat → Int32) (bt yt it : Nat → Option Nat), w'.length = w.length + 6 → (∀ q, q < w.length → q ≠ 7 → zix w' q = zix w q) → zix w' 7 = some (rfa 6 3 (va_up gi a1.toNat (some w.length))) → TDC w' w.length l' f' c' gt ct bt yt it → (∀ j, j < 600 → gt j = g' j) → (∀ j, j < 3 → ct j = cn' j) → (∀ j, j < 2 → bt j = bo' j) → (∀ j, j < 2 → yt j = ye' j) → (∀ j, j < 2 → it j = si' j) → Q (some (.int (Int32.ofInt 1))) w') : zCl zTab (d + 3) iX11_image [.ref 0, .int (Int32.ofInt a1)] w 6 617 Q := by
  have l7 := zix_lt h7
  have lo0 := zix_lt h0
  have l1 := zix_lt hO.2.2.2.2.2
  refine zCl_i (M := kX11_image) rfl (Nat.le_of_ble_eq_true rfl) fun R hR => ?_
  refine hR (?_ : R (_, _, _, _, _, _))
  refine hR (k_lt (by omega) (fun hc => by omega) (fun hc => ?_))
  iterate 2 refine hR (?_ : R (_, _, _, _, _, _))
  refine hR (j_lt (by omega) (by omega) (fun hc2 => ?_) (fun hc2 => by omega))
  refine hR (?_ : R (_, _, _, _, _, _))
  refine hR (c_get h0 rfl ?_)
  refine hR (?_ : R (_, _, _, _, _, _))
  refine hR (c_rldE h7 rfl (by omega) (by omega) (Nat.le_of_ble_eq_true rfl) (v := .null) (by rw [hq]; rfl) ?_)
  iterate 2 refine hR (?_ : R (_, _, _, _, _, _))
  refine hR (c_get h0 rfl ?_)
  iterate 3 refine hR (?_ : R (_, _, _, _, _, _))
  refine hR (zcall_i 5 609 (Nat.le_of_ble_eq_true rfl) (Nat.le_of_ble_eq_true rfl) (e_Told _ _ ?_))
  obtain ⟨w1, hw1⟩ : ∃ w1 : zW, w1 = (w ++ [.inr (7, [.ref (w.length + 1), .int (Int32.ofInt 0), .int (Int32.ofInt 0), .int (Int32.ofInt (-1)), .ref (w.length + 2), .ref (w.length + 3), .ref (w.length + 4), .ref (w.length + 5)]), .inl (0, 600, .inl fun _ => 0), .inl (1, 3, .inl fun _ => 0), .inl (3, 2, .inr (.inr (.inr (.inr fun _ => none)))), .inl (4, 2, .inr (.inr (.inr (.inr fun _ => none)))), .inl (5, 2, .inr (.inr (.inr (.inr fun _ => none))))]) := ⟨_, rfl⟩
  have hT1 : TDC w1 w.length 0 0 (-1) (fun _ => 0) (fun _ => 0) (fun _ => none) (fun _ => none) (fun _ => none) := by
    rw [hw1]
    exact ⟨ap_ix (j := 0), ap_ix (j := 1), ap_ix (j := 2), ap_ix (j := 3), ap_ix (j := 4), ap_ix (j := 5)⟩
  have lo1 : ∀ q, q < w.length → zix w1 q = zix w q := by
    intro q hq
    rw [hw1]
    exact ap_lt hq
  have len1 : w1.length = w.length + 6 := by rw [hw1, List.length_append]; rfl
  rw [← hw1]
  clear hw1
  refine (?_ : R (_, _, .ref w.length :: .int (Int32.ofInt a1) :: .ref 7 :: [], w1, 6, 617))
  refine hR (x_rso (o := some w.length) rfl ((lo1 7 (by omega)).trans h7) (fun x hx => by cases hx; exact ⟨_, hT1.1⟩) (by omega) (by omega) (Nat.le_of_ble_eq_true rfl) fun w2 f2 hg2 => ?_)
  have k02 := (f2.2 0 (by decide)).trans ((lo1 0 (by omega)).trans h0)
  refine hR (?_ : R (_, _, _, _, _, _))
  refine hR (c_get k02 rfl ?_)
  refine hR (?_ : R (_, _, _, _, _, _))
  refine hR (c_rldE hg2 rfl (by omega) (by omega) (Nat.le_of_ble_eq_true rfl) (v := .ref w.length) (by rw [up_s]; rfl) ?_)
  refine hR (?_ : R (_, _, _, _, _, _))
  refine hR (c_get k02 rfl ?_)
  have hT2 : TDC w2 w.length 0 0 (-1) (fun _ => 0) (fun _ => 0) (fun _ => none) (fun _ => none) (fun _ => none) := TDC_fr hT1 fun j hj => f2.2 _ (by omega)
  have hO2 : TDC w2 1 l' f' c' g' cn' bo' ye' si' := TDC_fr hO fun j hj => (f2.2 _ (by omega)).trans (lo1 _ (by omega))
  have bk : ∀ (b : Nat → Option Nat) (z : Nat), (∀ j x, b j = some x → x ≠ 7 ∧ ∃ fs, zix w x = some (.inr (z, fs))) → ∀ j x, b j = some x → (x < w.length ∨ w.length + 5 < x) ∧ ∃ fs, zix w2 x = some (.inr (z, fs)) := by
    intro b z hb j x hx
    obtain ⟨e1, fs, e2⟩ := hb j x hx
    have e3 := zix_lt e2
    exact ⟨Or.inl e3, fs, (f2.2 x e1).trans ((lo1 x e3).trans e2)⟩
  refine hR (c_obj hT2.1 (zcall_i 0 0 (Nat.le_of_ble_eq_true rfl) (Nat.le_of_ble_eq_true rfl) (x_becomes _ w.length 1 0 0 (-1) l' f' c' _ _ g' cn' _ _ _ bo' ye' si' hT2 hO2 (fun j hj => by omega) hB (bk _ _ hb3) (bk _ _ hb4) (bk _ _ hb5) _ fun w3 gt ct bt yt it F3 hT3 e1 e2 e3 e4 e5 => ?_)))
  refine (?_ : R (_, _, [], w3, 6, 617))
  refine hR (?_ : R (_, _, _, _, _, _))
  exact hR (zret_i rfl (Nat.le_refl _) (Or.inr rfl) (h w3 gt ct bt yt it (F3.1.trans (f2.1.trans len1)) (fun q hq hq7 => (F3.2 q (by omega)).trans ((f2.2 q hq7).trans (lo1 q hq))) ((F3.2 7 (by omega)).trans hg2) hT3 e1 e2 e3 e4 e5))
theorem x_again0 {w : zW} (d : Nat) (a1 : Int) (hr : -2147483648 ≤ a1 ∧ a1 ≤ 2147483647) (y6 y7 : Value) (h0 : zix w 0 = some (ob0 y6 y7)) (gi : Nat → Option Nat) (h7 : zix w 7 = some (rfa 6 3 gi)) (hx : (a1 < 0 ∨ 3 ≤ a1) ∨ gi a1.toNat = none) (Q : zQ) (h : Q (some (.int (Int32.ofInt 0))) w) : zCl zTab (d + 3) iX11_again [.ref 0, .int (Int32.ofInt a1)] w 0 0 Q := by
  refine zCl_i (M := kX11_again) rfl (Nat.le_of_ble_eq_true rfl) fun R hR => ?_
  have bad : R (18, [some (.ref 0), some (.int (Int32.ofInt a1))], [], w, 0, 0) := by
    refine hR (?_ : R (_, _, _, _, _, _))
    exact hR (zret_i rfl (Nat.le_refl _) (Or.inl rfl) h)
  refine hR (?_ : R (_, _, _, _, _, _))
  refine hR (k_lt (by omega) (fun hc => bad) (fun hc => ?_))
  iterate 2 refine hR (?_ : R (_, _, _, _, _, _))
  refine hR (j_ge (by omega) (by omega) (fun hc2 => bad) (fun hc2 => ?_))
  refine hR (?_ : R (_, _, _, _, _, _))
  refine hR (c_get h0 rfl ?_)
  refine hR (?_ : R (_, _, _, _, _, _))
  refine hR (c_rldE h7 rfl (by omega) (by omega) (Nat.le_of_ble_eq_true rfl) (v := .null) (by rw [hx.resolve_left (by omega)]; rfl) ?_)
  refine hR (?_ : R (_, _, _, _, _, _))
  exact bad
theorem x_again1 {w : zW} (d : Nat) (a1 : Int) (hr : 0 ≤ a1 ∧ a1 < 3) (y6 y7 : Value) (h0 : zix w 0 = some (ob0 y6 y7)) (gi : Nat → Option Nat) (h7 : zix w 7 = some (rfa 6 3 gi)) (q : Nat) (hq : gi a1.toNat = some q) (l f c l' f' c' : Int) (g cn g' cn' : Nat → Int32) (bo ye si bo' ye' si' : Nat → Option Nat) (hP : TDC w 1 l f c g cn bo ye si) (hO : TDC w q l' f' c' g' cn' bo' ye' si') (hbl : ∀ j, j ≤ 5 → (q + j < 1 ∨ 1 + 5 < q + j)) (hB : ∀ j, j < 600 → -128 ≤ (g' j).toInt ∧ (g' j).toInt ≤ 127) (hb3 : ∀ j x, bo' j = some x → (x < 1 ∨ 1 + 5 < x) ∧ ∃ fs, zix w x = some (.inr (zec 3, fs))) (hb4 : ∀ j x, ye' j = some x → (x < 1 ∨ 1 + 5 < x) ∧ ∃ fs, zix w x = some (.inr (zec 4, fs))) (hb5 : ∀ j x, si' j = some x → (x < 1 ∨ 1 + 5 < x) ∧ ∃ fs, zix w x = some (.inr (zec 5, fs))) (Q : zQ) (h : ∀ (w' : zW) (gt ct : Nat → Int32) (bt yt it : Nat → Option Nat), FRP 1 w w' → TDC w' 1 l' f' c' gt ct bt yt it → (∀ j, j < 600 → gt j = g' j) → (∀ j, j < 3 → ct j = cn' j) → (∀ j, j < 2 → bt j = bo' j) → (∀ j, j < 2 → yt j = ye' j) → (∀ j, j < 2 → it j = si' j) → Q (some (.int (Int32.ofInt 1))) w') : zCl zTab (d + 3) iX11_again [.ref 0, .int (Int32.ofInt a1)] w 0 0 Q := by
  refine zCl_i (M := kX11_again) rfl (Nat.le_of_ble_eq_true rfl) fun R hR => ?_
  refine hR (?_ : R (_, _, _, _, _, _))
  refine hR (k_lt (by omega) (fun hc => by omega) (fun hc => ?_))
  iterate 2 refine hR (?_ : R (_, _, _, _, _, _))
  refine hR (j_ge (by omega) (by omega) (fun hc2 => by omega) (fun hc2 => ?_))
  refine hR (?_ : R (_, _, _, _, _, _))
  refine hR (c_get h0 rfl ?_)
  refine hR (?_ : R (_, _, _, _, _, _))
  refine hR (c_rldE h7 rfl (by omega) (by omega) (Nat.le_of_ble_eq_true rfl) (v := .ref q) (by rw [hq]; rfl) ?_)
  iterate 2 refine hR (?_ : R (_, _, _, _, _, _))
  refine hR (c_get h0 rfl ?_)
  refine hR (?_ : R (_, _, _, _, _, _))
  refine hR (c_get h0 rfl ?_)
  refine hR (?_ : R (_, _, _, _, _, _))
  refine hR (c_rldE h7 rfl (by omega) (by omega) (Nat.le_of_ble_eq_true rfl) (v := .ref q) (by rw [hq]; rfl) ?_)
  refine hR (c_obj hP.1 (zcall_i 0 0 (Nat.le_of_ble_eq_true rfl) (Nat.le_of_ble_eq_true rfl) (x_becomes _ 1 q l f c l' f' c' g cn g' cn' bo ye si bo' ye' si' hP hO hbl hB hb3 hb4 hb5 _ fun w1 gt ct bt yt it F1 hT1 e1 e2 e3 e4 e5 => ?_)))
  refine (?_ : R (_, _, [], w1, 0, 0))
  refine hR (?_ : R (_, _, _, _, _, _))
  exact hR (zret_i rfl (Nat.le_refl _) (Or.inr rfl) (h w1 gt ct bt yt it F1 hT1 e1 e2 e3 e4 e5))
