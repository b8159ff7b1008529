/-! A TEXT IS TOLD: the class, exactly. -/
noncomputable abbrev zrF : Nat → Int32 := fun _ => 0
noncomputable abbrev knF : Nat → Int32 := upd (upd (upd (upd (fun _ => 0) 0 (Int32.ofInt 0)) 1 (Int32.ofInt 1)) 2 (Int32.ofInt 2)) 3 (Int32.ofInt 3)
noncomputable abbrev tlC (v : Value) (l a k s x f c : Int) : va_E := .inr (6, [v, .int (Int32.ofInt l), .int (Int32.ofInt a), .int (Int32.ofInt k), .int (Int32.ofInt s), .int (Int32.ofInt x), .int (Int32.ofInt f), .int (Int32.ofInt c)])
/-- how a text fails -/
noncomputable def TXF {α : Type} (fo co : α → Int) (g : Nat → Int32) (l : Int) (E : Bool × Int × α) (f c : Int) : Prop := (∃ a X, E = (true, a, X) ∧ fo X ≠ 0 ∧ f = fo X ∧ c = co X) ∨ (∃ a X, E = (false, a, X) ∧ f = 1 ∧ c = tS g l a)
theorem x_max {a b : Int} (ha : -2147483648 ≤ a ∧ a ≤ 2147483647) (hb : -2147483648 ≤ b ∧ b ≤ 2147483647) : (if Int32.ofInt a < Int32.ofInt b then Int32.ofInt b else Int32.ofInt a) = Int32.ofInt (if a < b then b else a) := by
  by_cases e : a < b
  · rw [if_pos ((zlt_o ha hb).mpr e), if_pos e]
  · rw [if_neg (fun h => e ((zlt_o ha hb).mp h)), if_neg e]
noncomputable def OBB (w : zW) (q : Nat) : tpB → Prop
  | (f, c, x0, x1, x2, g1, g2, g3, g4) => zix w q = some (.inr (0, [.int (Int32.ofInt x0), .int (Int32.ofInt x1), .int (Int32.ofInt x2), .ref (q + 1), .ref (q + 2), .ref (q + 3), .ref (q + 4)])) ∧ zix w (q + 1) = some (.inl (1, 4, .inl g1)) ∧ zix w (q + 2) = some (.inl (1, 5, .inl g2)) ∧ zix w (q + 3) = some (.inl (1, 20, .inl g3)) ∧ zix w (q + 4) = some (.inl (1, 20, .inl g4))
theorem OBB_fr {w w' : zW} {q : Nat} {X : tpB} : OBB w q X → (∀ j, j < 5 → zix w' (q + j) = zix w (q + j)) → OBB w' q X := by
  obtain ⟨f, c, x0, x1, x2, g1, g2, g3, g4⟩ := X
  exact fun h hf => ⟨(hf 0 (by omega)).trans h.1, (hf 1 (by omega)).trans h.2.1, (hf 2 (by omega)).trans h.2.2.1, (hf 3 (by omega)).trans h.2.2.2.1, (hf 4 (by omega)).trans h.2.2.2.2⟩
theorem x_tellIntoB {w : zW} (d : Nat) (a2 l l1 f1 c1 : Int) (y6 y7 tv : Value) (t1 t2 t3 t4 t5 t6 t7 : Int) (g : Nat → Int32) (bo : Nat → Option Nat) (h0 : zix w 0 = some (ob0 y6 y7)) (h1 : zix w 1 = some (td1 l1 f1 c1)) (h2 : zix w 2 = some (.inl (0, 600, .inl g))) (h8 : zix w 8 = some (tlC tv t1 t2 t3 t4 t5 t6 t7)) (hrow : zix w 4 = some (rfa 3 2 bo)) (ha2 : 0 ≤ a2 ∧ a2 ≤ 1) (hl : 0 ≤ l ∧ l ≤ 600) (Q : zQ)
    (hF : ∀ (w' : zW) (u1 u2 u3 u4 u5 f c : Int), w.length ≤ w'.length → (∀ q, q < w.length → q ≠ 8 → zix w' q = zix w q) → zix w' 8 = some (tlC (.ref 2) u1 u2 u3 u4 u5 f c) → TXF (fun X : tpB => X.1) (fun X : tpB => X.2.1) g l (teF g l (tlB g l) 601 0 (0, -1, 0, 0, -1, knF, zrF, zrF, zrF)) f c → Q (some (.int (Int32.ofInt 0))) w')
    (hS : ∀ (w' : zW) (a : Int) (X : tpB), w.length ≤ w'.length → (∀ q, q < w.length → q ≠ 8 → q ≠ 4 → zix w' q = zix w q) → zix w' 4 = some (rfa 3 2 (va_up bo a2.toNat (some w.length))) → teF g l (tlB g l) 601 0 (0, -1, 0, 0, -1, knF, zrF, zrF, zrF) = (true, a, X) → X.1 = 0 → OBB w' w.length X → Q (some (.int (Int32.ofInt 1))) w') : zCl zTab (d + 9) iX11_tellInto [.ref 0, .int (Int32.ofInt 0), .int (Int32.ofInt a2), .int (Int32.ofInt l)] w 5 56 Q := by
  have l8 := zix_lt h8
  refine zCl_i (M := kX11_tellInto) rfl (Nat.le_of_ble_eq_true rfl) fun R hR => ?_
  refine hR (?_ : R (_, _, _, _, _, _))
  refine hR (t_pc (pc2 := 28) (by decide) ?_)
  iterate 2 refine hR (?_ : R (_, _, _, _, _, _))
  refine hR (zcall_i 4 49 (Nat.le_of_ble_eq_true rfl) (Nat.le_of_ble_eq_true rfl) (e_Book _ _ ?_))
  obtain ⟨w1, hw1⟩ : ∃ w1 : zW, w1 = w ++ [.inr (0, [.int (Int32.ofInt 0), .int (Int32.ofInt 0), .int (Int32.ofInt (-1)), .ref (w.length + 1), .ref (w.length + 2), .ref (w.length + 3), .ref (w.length + 4)]), .inl (1, 4, .inl (upd (upd (upd (upd (fun _ => 0) 0 (Int32.ofInt 0)) 1 (Int32.ofInt 1)) 2 (Int32.ofInt 2)) 3 (Int32.ofInt 3))), .inl (1, 5, .inl fun _ => 0), .inl (1, 20, .inl fun _ => 0), .inl (1, 20, .inl fun _ => 0)] := ⟨_, rfl⟩
  have lo1 : ∀ q, q < w.length → zix w1 q = zix w q := by
    intro q hq
    rw [hw1]
    exact ap_lt hq
  have len1 : w1.length = w.length + 5 := by rw [hw1, List.length_append]; rfl
  have n0 : zix w1 w.length = some (.inr (0, [.int (Int32.ofInt 0), .int (Int32.ofInt 0), .int (Int32.ofInt (-1)), .ref (w.length + 1), .ref (w.length + 2), .ref (w.length + 3), .ref (w.length + 4)])) := by
    rw [hw1]
    exact ap_ix (j := 0)
  have n1 : zix w1 (w.length + 1) = some (.inl (1, 4, .inl knF)) := by
    rw [hw1]
    exact ap_ix (j := 1)
  have n2 : zix w1 (w.length + 2) = some (.inl (1, 5, .inl zrF)) := by
    rw [hw1]
    exact ap_ix (j := 2)
  have n3 : zix w1 (w.length + 3) = some (.inl (1, 20, .inl zrF)) := by
    rw [hw1]
    exact ap_ix (j := 3)
  have n4 : zix w1 (w.length + 4) = some (.inl (1, 20, .inl zrF)) := by
    rw [hw1]
    exact ap_ix (j := 4)
  rw [← hw1]
  clear hw1
  refine (?_ : R (_, _, .ref w.length :: [], w1, 5, 56))
  have k0 := (lo1 0 (by omega)).trans h0
  have k1 := (lo1 1 (by omega)).trans h1
  have k8 := (lo1 8 (by omega)).trans h8
  iterate 2 refine hR (?_ : R (_, _, _, _, _, _))
  refine hR (c_get k0 rfl ?_)
  refine hR (?_ : R (_, _, _, _, _, _))
  refine hR (c_get k0 rfl ?_)
  refine hR (c_get k1 rfl ?_)
  iterate 2 refine hR (?_ : R (_, _, _, _, _, _))
  refine hR (c_obj k8 (zcall_i 0 0 (Nat.le_of_ble_eq_true rfl) (Nat.le_of_ble_eq_true rfl) (x_bTell w1 _ 8 2 w.length l tv t1 t2 t3 t4 t5 t6 t7 0 0 (-1) g knF zrF zrF zrF k8 ((lo1 2 (by omega)).trans h2) n0 n1 n2 n3 n4 (by omega) hl ⟨⟨⟨by decide, by decide⟩, ⟨by decide, by decide⟩, ⟨by decide, by decide⟩, ⟨by decide, by decide⟩⟩, fun i => ⟨by show (0 : Int) ≤ (0 : Int32).toInt; decide, by show (0 : Int32).toInt ≤ 4; decide⟩⟩ _ fun v a' x' f' c' x0' x1' x2' g1' g2' g3' g4' w2 fr hU m0 m1 m2 m3 m4 hE hv => ?_)))
  refine (?_ : R (_, _, .int (Int32.ofInt v) :: [], w2, 5, 56))
  have len2 : w.length ≤ w2.length := by rw [fr.1, len1]; omega
  have lo2 : ∀ q, q < w.length → q ≠ 8 → zix w2 q = zix w q := fun q hq h8 => (fr.2 q (by omega)).trans (lo1 q hq)
  refine hR (k_eq (by omega) (fun hc => ?_) (fun hc => ?_))
  · refine hR (?_ : R (_, _, _, _, _, _))
    refine hR (zret_i rfl (Nat.le_refl _) (Or.inl rfl) (hF w2 _ _ _ _ _ f' c' len2 lo2 hU ?_))
    rcases hE with ⟨h, -⟩ | ⟨-, h, hf⟩ | ⟨-, X, h, hf, hcc⟩
    · omega
    · exact Or.inl ⟨_, _, h, hf, rfl, rfl⟩
    · exact Or.inr ⟨_, _, h, hf, hcc⟩
  · have hE1 := hE.resolve_right (fun h => by rcases h with ⟨h, -⟩ | ⟨h, -⟩ <;> omega)
    have k02 := (lo2 0 (by omega) (by decide)).trans h0
    have k12 := (lo2 1 (by omega) (by decide)).trans h1
    have kr2 := (lo2 4 (by omega) (by decide)).trans hrow
    refine hR (?_ : R (_, _, _, _, _, _))
    refine hR (c_get k02 rfl ?_)
    refine hR (c_get k12 rfl ?_)
    iterate 2 refine hR (?_ : R (_, _, _, _, _, _))
    refine hR (x_rso (o := some w.length) rfl kr2 (fun x hx => by cases hx; exact ⟨_, m0⟩) (by omega) (by omega) (Nat.le_of_ble_eq_true rfl) fun w3 f3 hg3 => ?_)
    refine hR (?_ : R (_, _, _, _, _, _))
    exact hR (zret_i rfl (Nat.le_refl _) (Or.inr rfl) (hS w3 a' _ (by rw [f3.1]; exact len2) (fun q hq h8 hr => (f3.2 q hr).trans (lo2 q hq h8)) hg3 hE1.2.1 hE1.2.2 ⟨(f3.2 _ (by omega)).trans m0, (f3.2 _ (by omega)).trans m1, (f3.2 _ (by omega)).trans m2, (f3.2 _ (by omega)).trans m3, (f3.2 _ (by omega)).trans m4⟩))
theorem x_textB {w : zW} (d : Nat) (a2 nu l f c : Int) (y6 y7 tv : Value) (t1 t2 t3 t4 t5 t6 t7 : Int) (g cn : Nat → Int32) (bo : Nat → Option Nat) (h0 : zix w 0 = some (ob0 y6 y7)) (h1 : zix w 1 = some (td1 l f c)) (h2 : zix w 2 = some (.inl (0, 600, .inl g))) (h3 : zix w 3 = some (.inl (1, 3, .inl cn))) (h8 : zix w 8 = some (tlC tv t1 t2 t3 t4 t5 t6 t7)) (hrow : zix w 4 = some (rfa 3 2 bo)) (hth : 0 ≤ tBy cn 0 ∧ tBy cn 0 ≤ 2) (ha2 : -2147483648 ≤ a2 ∧ a2 ≤ 2147483647) (hn : (a2 = -1 ∧ tBy cn 0 < 2 ∧ nu = tBy cn 0) ∨ (0 ≤ a2 ∧ a2 < tBy cn 0 ∧ nu = a2)) (hl : 0 ≤ l ∧ l ≤ 600) (Q : zQ)
    (hF : ∀ (w' : zW) (u1 u2 u3 u4 u5 f c : Int), w.length ≤ w'.length → (∀ q, q < w.length → q ≠ 1 → q ≠ 8 → zix w' q = zix w q) → zix w' 1 = some (td1 0 f c) → TXF (fun X : tpB => X.1) (fun X : tpB => X.2.1) g l (teF g l (tlB g l) 601 0 (0, -1, 0, 0, -1, knF, zrF, zrF, zrF)) f c → Q (some (.int (Int32.ofInt (-1)))) w')
    (hS : ∀ (w' : zW) (a : Int) (X : tpB), w.length ≤ w'.length → (∀ q, q < w.length → q ≠ 1 → q ≠ 3 → q ≠ 8 → q ≠ 4 → zix w' q = zix w q) → zix w' 1 = some (td1 0 0 (-1)) → zix w' 3 = some (.inl (1, 3, .inl (upd cn 0 (Int32.ofInt (if tBy cn 0 < nu + 1 then nu + 1 else tBy cn 0))))) → zix w' 4 = some (rfa 3 2 (va_up bo nu.toNat (some w.length))) → teF g l (tlB g l) 601 0 (0, -1, 0, 0, -1, knF, zrF, zrF, zrF) = (true, a, X) → X.1 = 0 → OBB w' w.length X → Q (some (.int (Int32.ofInt nu))) w') : zCl zTab (d + 10) iX11_text [.ref 0, .int (Int32.ofInt 0), .int (Int32.ofInt a2)] w 5 56 Q := by
  have l8 := zix_lt h8
  refine zCl_i (M := kX11_text) rfl (Nat.le_of_ble_eq_true rfl) fun R hR => ?_
  refine hR (?_ : R (_, _, _, _, _, _))
  refine hR (c_get h0 rfl ?_)
  refine hR (c_get h1 rfl ?_)
  iterate 2 refine hR (?_ : R (_, _, _, _, _, _))
  refine hR (c_get h0 rfl ?_)
  refine hR (?_ : R (_, _, _, _, _, _))
  refine hR (c_put h1 rfl rfl fun w1 f1 o1 => ?_)
  have k01 := (f1.2 0 (by decide)).trans h0
  refine hR (?_ : R (_, _, _, _, _, _))
  refine hR (c_get k01 rfl ?_)
  refine hR (?_ : R (_, _, _, _, _, _))
  refine hR (c_put o1 rfl rfl fun w2 f2 o2 => ?_)
  have k02 := (f2.2 0 (by decide)).trans k01
  refine hR (?_ : R (_, _, _, _, _, _))
  refine hR (c_get k02 rfl ?_)
  refine hR (?_ : R (_, _, _, _, _, _))
  refine hR (c_put o2 rfl rfl fun w3 f3 o3 => ?_)
  have k03 := (f3.2 0 (by decide)).trans k02
  replace o3 : zix w3 1 = some (td1 0 0 (-1)) := o3
  have lo3 : ∀ q, q ≠ 1 → zix w3 q = zix w q := fun q hq => (f3.2 q hq).trans ((f2.2 q hq).trans (f1.2 q hq))
  have len3 : w3.length = w.length := f3.1.trans (f2.1.trans f1.1)
  have main : R (95, [some (.ref 0), some (.int (Int32.ofInt 0)), some (.int (Int32.ofInt a2)), some (.int (Int32.ofInt l)), some (.int (Int32.ofInt (tBy cn 0))), some (.int (Int32.ofInt nu))], [], w3, 0, 0) := by
    iterate 4 refine hR (?_ : R (_, _, _, _, _, _))
    refine hR (c_obj k03 (zcall_i 5 56 (Nat.le_of_ble_eq_true rfl) (Nat.le_of_ble_eq_true rfl) (x_tellIntoB _ nu l _ _ _ y6 y7 tv t1 t2 t3 t4 t5 t6 t7 g bo k03 o3 ((lo3 2 (by decide)).trans h2) ((lo3 8 (by decide)).trans h8) ((lo3 4 (by decide)).trans hrow) (by omega) hl _ (fun w4 u1 u2 u3 u4 u5 f' c' len4 lo4 hU hX => ?_) (fun w4 a X len4 lo4 hg4 hE hX0 hOB => ?_))))
    · refine (?_ : R (_, _, .int (Int32.ofInt 0) :: [], w4, 5, 56))
      rw [len3] at len4 lo4
      have k04 := (lo4 0 (by omega) (by decide)).trans k03
      have o4 := (lo4 1 (by omega) (by decide)).trans o3
      refine hR (k_ne (by omega) (fun hz => absurd rfl hz) (fun hz => ?_))
      refine hR (?_ : R (_, _, _, _, _, _))
      refine hR (c_get k04 rfl ?_)
      refine hR (?_ : R (_, _, _, _, _, _))
      refine hR (c_get k04 rfl ?_)
      refine hR (c_get hU rfl ?_)
      refine hR (c_put o4 rfl rfl fun w5 f5 o5 => ?_)
      have k05 := (f5.2 0 (by decide)).trans k04
      have hU5 := (f5.2 8 (by decide)).trans hU
      refine hR (?_ : R (_, _, _, _, _, _))
      refine hR (c_get k05 rfl ?_)
      refine hR (?_ : R (_, _, _, _, _, _))
      refine hR (c_get k05 rfl ?_)
      refine hR (c_get hU5 rfl ?_)
      refine hR (c_put o5 rfl rfl fun w6 f6 o6 => ?_)
      refine hR (?_ : R (_, _, _, _, _, _))
      exact hR (zret_i rfl (Nat.le_refl _) trivial (hF w6 u1 u2 u3 u4 u5 f' c' (by rw [f6.1, f5.1]; exact len4) (fun q hq h1 h8 => (f6.2 q h1).trans ((f5.2 q h1).trans ((lo4 q hq h8).trans (lo3 q h1)))) o6 hX))
    · refine (?_ : R (_, _, .int (Int32.ofInt 1) :: [], w4, 5, 56))
      rw [len3] at len4 lo4 hg4 hOB
      have k04 := (lo4 0 (by omega) (by decide) (by decide)).trans k03
      have o4 := (lo4 1 (by omega) (by decide) (by decide)).trans o3
      have c4 := (lo4 3 (by omega) (by decide) (by decide)).trans ((lo3 3 (by decide)).trans h3)
      refine hR (k_ne (by omega) (fun hz => ?_) (fun hz => by omega))
      refine hR (?_ : R (_, _, _, _, _, _))
      refine hR (c_get k04 rfl ?_)
      refine hR (c_get o4 rfl ?_)
      iterate 4 refine hR (?_ : R (_, _, _, _, _, _))
      refine hR (t_add ?_)
      refine hR (zif_i rfl (t_c _ (x_max (by omega) (by omega)) ?_))
      refine hR (x_ast c4 (by omega) (by omega) (Nat.le_of_ble_eq_true rfl) fun w5 f5 c5 => ?_)
      refine hR (?_ : R (_, _, _, _, _, _))
      exact hR (zret_i rfl (Nat.le_refl _) trivial (hS w5 a X (by rw [f5.1]; exact len4) (fun q hq q1 q3 q8 qr => (f5.2 q q3).trans ((lo4 q hq q8 qr).trans (lo3 q q1))) ((f5.2 1 (by decide)).trans o4) c5 ((f5.2 4 (by decide)).trans hg4) hE hX0 (OBB_fr hOB fun j hj => f5.2 _ (by omega))))
  refine hR (?_ : R (_, _, _, _, _, _))
  refine hR (k_lt (by omega) (fun hc => by omega) (fun hc => ?_))
  iterate 2 refine hR (?_ : R (_, _, _, _, _, _))
  refine hR (j_lt (by omega) (by omega) (fun hc2 => ?_) (fun hc2 => by omega))
  refine hR (?_ : R (_, _, _, _, _, _))
  refine hR (c_get k03 rfl ?_)
  refine hR (c_get o3 rfl ?_)
  refine hR (?_ : R (_, _, _, _, _, _))
  refine hR (c_aldE ((lo3 3 (by decide)).trans h3) (by omega) (by omega) (Nat.le_of_ble_eq_true rfl) fun v4 ev rv => ?_)
  replace ev : v4 = tBy cn 0 := ev
  subst ev
  iterate 3 refine hR (?_ : R (_, _, _, _, _, _))
  refine hR (j_ne (by omega) (by omega) (fun hc3 => ?_) (fun hc3 => ?_))
  · refine hR (?_ : R (_, _, _, _, _, _))
    refine hR (k_lt (by omega) (fun hc => by omega) (fun hc4 => ?_))
    iterate 2 refine hR (?_ : R (_, _, _, _, _, _))
    refine hR (j_lt (by omega) (by omega) (fun hc5 => ?_) (fun _ => by omega))
    iterate 2 refine hR (?_ : R (_, _, _, _, _, _))
    refine hR (j_ne (by omega) (by omega) (fun _ => ?_) (fun hc6 => absurd hc6 hc3))
    iterate 2 refine hR (?_ : R (_, _, _, _, _, _))
    obtain rfl : nu = a2 := by omega
    exact main
  · iterate 2 refine hR (?_ : R (_, _, _, _, _, _))
    refine hR (j_lt (by omega) (by omega) (fun hc4 => ?_) (fun hc4 => by omega))
    iterate 2 refine hR (?_ : R (_, _, _, _, _, _))
    refine hR (j_ne (by omega) (by omega) (fun hc6 => absurd hc3 hc6) (fun _ => ?_))
    iterate 3 refine hR (?_ : R (_, _, _, _, _, _))
    obtain rfl : nu = tBy cn 0 := by omega
    exact main
noncomputable def OBY (w : zW) (q : Nat) : tpY → Prop
  | (f, c, x0, g1, g2, g3) => zix w q = some (.inr (9, [.int (Int32.ofInt x0), .ref (q + 1), .ref (q + 2), .ref (q + 3)])) ∧ zix w (q + 1) = some (.inl (1, 40, .inl g1)) ∧ zix w (q + 2) = some (.inl (1, 40, .inl g2)) ∧ zix w (q + 3) = some (.inl (1, 40, .inl g3))
theorem OBY_fr {w w' : zW} {q : Nat} {X : tpY} : OBY w q X → (∀ j, j < 4 → zix w' (q + j) = zix w (q + j)) → OBY w' q X := by
  obtain ⟨f, c, x0, g1, g2, g3⟩ := X
  exact fun h hf => ⟨(hf 0 (by omega)).trans h.1, (hf 1 (by omega)).trans h.2.1, (hf 2 (by omega)).trans h.2.2.1, (hf 3 (by omega)).trans h.2.2.2⟩
theorem x_tellIntoY {w : zW} (d : Nat) (a2 l l1 f1 c1 : Int) (y6 y7 tv : Value) (t1 t2 t3 t4 t5 t6 t7 : Int) (g : Nat → Int32) (bo : Nat → Option Nat) (h0 : zix w 0 = some (ob0 y6 y7)) (h1 : zix w 1 = some (td1 l1 f1 c1)) (h2 : zix w 2 = some (.inl (0, 600, .inl g))) (h8 : zix w 8 = some (tlC tv t1 t2 t3 t4 t5 t6 t7)) (hrow : zix w 5 = some (rfa 4 2 bo)) (ha2 : 0 ≤ a2 ∧ a2 ≤ 1) (hl : 0 ≤ l ∧ l ≤ 600) (Q : zQ)
    (hF : ∀ (w' : zW) (u1 u2 u3 u4 u5 f c : Int), w.length ≤ w'.length → (∀ q, q < w.length → q ≠ 8 → zix w' q = zix w q) → zix w' 8 = some (tlC (.ref 2) u1 u2 u3 u4 u5 f c) → TXF (fun X : tpY => X.1) (fun X : tpY => X.2.1) g l (teF g l (tlY g l) 601 0 (0, -1, 0, zrF, zrF, zrF)) f c → Q (some (.int (Int32.ofInt 0))) w')
    (hS : ∀ (w' : zW) (a : Int) (X : tpY), w.length ≤ w'.length → (∀ q, q < w.length → q ≠ 8 → q ≠ 5 → zix w' q = zix w q) → zix w' 5 = some (rfa 4 2 (va_up bo a2.toNat (some w.length))) → teF g l (tlY g l) 601 0 (0, -1, 0, zrF, zrF, zrF) = (true, a, X) → X.1 = 0 → OBY w' w.length X → Q (some (.int (Int32.ofInt 1))) w') : zCl zTab (d + 9) iX11_tellInto [.ref 0, .int (Int32.ofInt 1), .int (Int32.ofInt a2), .int (Int32.ofInt l)] w 4 124 Q := by
  have l8 := zix_lt h8
  refine zCl_i (M := kX11_tellInto) rfl (Nat.le_of_ble_eq_true rfl) fun R hR => ?_
  refine hR (?_ : R (_, _, _, _, _, _))
  refine hR (t_pc (pc2 := 72) (by decide) ?_)
  iterate 2 refine hR (?_ : R (_, _, _, _, _, _))
  refine hR (zcall_i 3 120 (Nat.le_of_ble_eq_true rfl) (Nat.le_of_ble_eq_true rfl) (e_Year _ _ ?_))
  obtain ⟨w1, hw1⟩ : ∃ w1 : zW, w1 = w ++ [.inr (9, [.int (Int32.ofInt 0), .ref (w.length + 1), .ref (w.length + 2), .ref (w.length + 3)]), .inl (1, 40, .inl fun _ => 0), .inl (1, 40, .inl fun _ => 0), .inl (1, 40, .inl fun _ => 0)] := ⟨_, rfl⟩
  have lo1 : ∀ q, q < w.length → zix w1 q = zix w q := by
    intro q hq
    rw [hw1]
    exact ap_lt hq
  have len1 : w1.length = w.length + 4 := by rw [hw1, List.length_append]; rfl
  have n0 : zix w1 w.length = some (.inr (9, [.int (Int32.ofInt 0), .ref (w.length + 1), .ref (w.length + 2), .ref (w.length + 3)])) := by
    rw [hw1]
    exact ap_ix (j := 0)
  have n1 : zix w1 (w.length + 1) = some (.inl (1, 40, .inl zrF)) := by
    rw [hw1]
    exact ap_ix (j := 1)
  have n2 : zix w1 (w.length + 2) = some (.inl (1, 40, .inl zrF)) := by
    rw [hw1]
    exact ap_ix (j := 2)
  have n3 : zix w1 (w.length + 3) = some (.inl (1, 40, .inl zrF)) := by
    rw [hw1]
    exact ap_ix (j := 3)
  rw [← hw1]
  clear hw1
  refine (?_ : R (_, _, .ref w.length :: [], w1, 4, 124))
  have k0 := (lo1 0 (by omega)).trans h0
  have k1 := (lo1 1 (by omega)).trans h1
  have k8 := (lo1 8 (by omega)).trans h8
  iterate 2 refine hR (?_ : R (_, _, _, _, _, _))
  refine hR (c_get k0 rfl ?_)
  refine hR (?_ : R (_, _, _, _, _, _))
  refine hR (c_get k0 rfl ?_)
  refine hR (c_get k1 rfl ?_)
  iterate 2 refine hR (?_ : R (_, _, _, _, _, _))
  refine hR (c_obj k8 (zcall_i 0 0 (Nat.le_of_ble_eq_true rfl) (Nat.le_of_ble_eq_true rfl) (x_yTell w1 _ 8 2 w.length l tv t1 t2 t3 t4 t5 t6 t7 0 g zrF zrF zrF k8 ((lo1 2 (by omega)).trans h2) n0 n1 n2 n3 (by omega) hl ⟨⟨by decide, by decide⟩, ⟨by decide, by decide⟩, ⟨by decide, by decide⟩⟩ _ fun v a' x' f' c' x0' g1' g2' g3' w2 fr hU m0 m1 m2 m3 hE hv => ?_)))
  refine (?_ : R (_, _, .int (Int32.ofInt v) :: [], w2, 4, 124))
  have len2 : w.length ≤ w2.length := by rw [fr.1, len1]; omega
  have lo2 : ∀ q, q < w.length → q ≠ 8 → zix w2 q = zix w q := fun q hq h8 => (fr.2 q (by omega)).trans (lo1 q hq)
  refine hR (k_eq (by omega) (fun hc => ?_) (fun hc => ?_))
  · refine hR (?_ : R (_, _, _, _, _, _))
    refine hR (zret_i rfl (Nat.le_refl _) (Or.inl rfl) (hF w2 _ _ _ _ _ f' c' len2 lo2 hU ?_))
    rcases hE with ⟨h, -⟩ | ⟨-, h, hf⟩ | ⟨-, X, h, hf, hcc⟩
    · omega
    · exact Or.inl ⟨_, _, h, hf, rfl, rfl⟩
    · exact Or.inr ⟨_, _, h, hf, hcc⟩
  · have hE1 := hE.resolve_right (fun h => by rcases h with ⟨h, -⟩ | ⟨h, -⟩ <;> omega)
    have k02 := (lo2 0 (by omega) (by decide)).trans h0
    have k12 := (lo2 1 (by omega) (by decide)).trans h1
    have kr2 := (lo2 5 (by omega) (by decide)).trans hrow
    refine hR (?_ : R (_, _, _, _, _, _))
    refine hR (c_get k02 rfl ?_)
    refine hR (c_get k12 rfl ?_)
    iterate 2 refine hR (?_ : R (_, _, _, _, _, _))
    refine hR (x_rso (o := some w.length) rfl kr2 (fun x hx => by cases hx; exact ⟨_, m0⟩) (by omega) (by omega) (Nat.le_of_ble_eq_true rfl) fun w3 f3 hg3 => ?_)
    refine hR (?_ : R (_, _, _, _, _, _))
    exact hR (zret_i rfl (Nat.le_refl _) (Or.inr rfl) (hS w3 a' _ (by rw [f3.1]; exact len2) (fun q hq h8 hr => (f3.2 q hr).trans (lo2 q hq h8)) hg3 hE1.2.1 hE1.2.2 ⟨(f3.2 _ (by omega)).trans m0, (f3.2 _ (by omega)).trans m1, (f3.2 _ (by omega)).trans m2, (f3.2 _ (by omega)).trans m3⟩))
theorem x_textY {w : zW} (d : Nat) (a2 nu l f c : Int) (y6 y7 tv : Value) (t1 t2 t3 t4 t5 t6 t7 : Int) (g cn : Nat → Int32) (bo : Nat → Option Nat) (h0 : zix w 0 = some (ob0 y6 y7)) (h1 : zix w 1 = some (td1 l f c)) (h2 : zix w 2 = some (.inl (0, 600, .inl g))) (h3 : zix w 3 = some (.inl (1, 3, .inl cn))) (h8 : zix w 8 = some (tlC tv t1 t2 t3 t4 t5 t6 t7)) (hrow : zix w 5 = some (rfa 4 2 bo)) (hth : 0 ≤ tBy cn 1 ∧ tBy cn 1 ≤ 2) (ha2 : -2147483648 ≤ a2 ∧ a2 ≤ 2147483647) (hn : (a2 = -1 ∧ tBy cn 1 < 2 ∧ nu = tBy cn 1) ∨ (0 ≤ a2 ∧ a2 < tBy cn 1 ∧ nu = a2)) (hl : 0 ≤ l ∧ l ≤ 600) (Q : zQ)
    (hF : ∀ (w' : zW) (u1 u2 u3 u4 u5 f c : Int), w.length ≤ w'.length → (∀ q, q < w.length → q ≠ 1 → q ≠ 8 → zix w' q = zix w q) → zix w' 1 = some (td1 0 f c) → TXF (fun X : tpY => X.1) (fun X : tpY => X.2.1) g l (teF g l (tlY g l) 601 0 (0, -1, 0, zrF, zrF, zrF)) f c → Q (some (.int (Int32.ofInt (-1)))) w')
    (hS : ∀ (w' : zW) (a : Int) (X : tpY), w.length ≤ w'.length → (∀ q, q < w.length → q ≠ 1 → q ≠ 3 → q ≠ 8 → q ≠ 5 → zix w' q = zix w q) → zix w' 1 = some (td1 0 0 (-1)) → zix w' 3 = some (.inl (1, 3, .inl (upd cn 1 (Int32.ofInt (if tBy cn 1 < nu + 1 then nu + 1 else tBy cn 1))))) → zix w' 5 = some (rfa 4 2 (va_up bo nu.toNat (some w.length))) → teF g l (tlY g l) 601 0 (0, -1, 0, zrF, zrF, zrF) = (true, a, X) → X.1 = 0 → OBY w' w.length X → Q (some (.int (Int32.ofInt nu))) w') : zCl zTab (d + 10) iX11_text [.ref 0, .int (Int32.ofInt 1), .int (Int32.ofInt a2)] w 4 124 Q := by
  have l8 := zix_lt h8
  refine zCl_i (M := kX11_text) rfl (Nat.le_of_ble_eq_true rfl) fun R hR => ?_
  refine hR (?_ : R (_, _, _, _, _, _))
  refine hR (c_get h0 rfl ?_)
  refine hR (c_get h1 rfl ?_)
  iterate 2 refine hR (?_ : R (_, _, _, _, _, _))
  refine hR (c_get h0 rfl ?_)
  refine hR (?_ : R (_, _, _, _, _, _))
  refine hR (c_put h1 rfl rfl fun w1 f1 o1 => ?_)
  have k01 := (f1.2 0 (by decide)).trans h0
  refine hR (?_ : R (_, _, _, _, _, _))
  refine hR (c_get k01 rfl ?_)
  refine hR (?_ : R (_, _, _, _, _, _))
  refine hR (c_put o1 rfl rfl fun w2 f2 o2 => ?_)
  have k02 := (f2.2 0 (by decide)).trans k01
  refine hR (?_ : R (_, _, _, _, _, _))
  refine hR (c_get k02 rfl ?_)
  refine hR (?_ : R (_, _, _, _, _, _))
  refine hR (c_put o2 rfl rfl fun w3 f3 o3 => ?_)
  have k03 := (f3.2 0 (by decide)).trans k02
  replace o3 : zix w3 1 = some (td1 0 0 (-1)) := o3
  have lo3 : ∀ q, q ≠ 1 → zix w3 q = zix w q := fun q hq => (f3.2 q hq).trans ((f2.2 q hq).trans (f1.2 q hq))
  have len3 : w3.length = w.length := f3.1.trans (f2.1.trans f1.1)
  have main : R (95, [some (.ref 0), some (.int (Int32.ofInt 1)), some (.int (Int32.ofInt a2)), some (.int (Int32.ofInt l)), some (.int (Int32.ofInt (tBy cn 1))), some (.int (Int32.ofInt nu))], [], w3, 0, 0) := by
    iterate 4 refine hR (?_ : R (_, _, _, _, _, _))
    refine hR (c_obj k03 (zcall_i 4 124 (Nat.le_of_ble_eq_true rfl) (Nat.le_of_ble_eq_true rfl) (x_tellIntoY _ nu l _ _ _ y6 y7 tv t1 t2 t3 t4 t5 t6 t7 g bo k03 o3 ((lo3 2 (by decide)).trans h2) ((lo3 8 (by decide)).trans h8) ((lo3 5 (by decide)).trans hrow) (by omega) hl _ (fun w4 u1 u2 u3 u4 u5 f' c' len4 lo4 hU hX => ?_) (fun w4 a X len4 lo4 hg4 hE hX0 hOB => ?_))))
    · refine (?_ : R (_, _, .int (Int32.ofInt 0) :: [], w4, 4, 124))
      rw [len3] at len4 lo4
      have k04 := (lo4 0 (by omega) (by decide)).trans k03
      have o4 := (lo4 1 (by omega) (by decide)).trans o3
      refine hR (k_ne (by omega) (fun hz => absurd rfl hz) (fun hz => ?_))
      refine hR (?_ : R (_, _, _, _, _, _))
      refine hR (c_get k04 rfl ?_)
      refine hR (?_ : R (_, _, _, _, _, _))
      refine hR (c_get k04 rfl ?_)
      refine hR (c_get hU rfl ?_)
      refine hR (c_put o4 rfl rfl fun w5 f5 o5 => ?_)
      have k05 := (f5.2 0 (by decide)).trans k04
      have hU5 := (f5.2 8 (by decide)).trans hU
      refine hR (?_ : R (_, _, _, _, _, _))
      refine hR (c_get k05 rfl ?_)
      refine hR (?_ : R (_, _, _, _, _, _))
      refine hR (c_get k05 rfl ?_)
      refine hR (c_get hU5 rfl ?_)
      refine hR (c_put o5 rfl rfl fun w6 f6 o6 => ?_)
      refine hR (?_ : R (_, _, _, _, _, _))
      exact hR (zret_i rfl (Nat.le_refl _) trivial (hF w6 u1 u2 u3 u4 u5 f' c' (by rw [f6.1, f5.1]; exact len4) (fun q hq h1 h8 => (f6.2 q h1).trans ((f5.2 q h1).trans ((lo4 q hq h8).trans (lo3 q h1)))) o6 hX))
    · refine (?_ : R (_, _, .int (Int32.ofInt 1) :: [], w4, 4, 124))
      rw [len3] at len4 lo4 hg4 hOB
      have k04 := (lo4 0 (by omega) (by decide) (by decide)).trans k03
      have o4 := (lo4 1 (by omega) (by decide) (by decide)).trans o3
      have c4 := (lo4 3 (by omega) (by decide) (by decide)).trans ((lo3 3 (by decide)).trans h3)
      refine hR (k_ne (by omega) (fun hz => ?_) (fun hz => by omega))
      refine hR (?_ : R (_, _, _, _, _, _))
      refine hR (c_get k04 rfl ?_)
      refine hR (c_get o4 rfl ?_)
      iterate 4 refine hR (?_ : R (_, _, _, _, _, _))
      refine hR (t_add ?_)
      refine hR (zif_i rfl (t_c _ (x_max (by omega) (by omega)) ?_))
      refine hR (x_ast c4 (by omega) (by omega) (Nat.le_of_ble_eq_true rfl) fun w5 f5 c5 => ?_)
      refine hR (?_ : R (_, _, _, _, _, _))
      exact hR (zret_i rfl (Nat.le_refl _) trivial (hS w5 a X (by rw [f5.1]; exact len4) (fun q hq q1 q3 q8 qr => (f5.2 q q3).trans ((lo4 q hq q8 qr).trans (lo3 q q1))) ((f5.2 1 (by decide)).trans o4) c5 ((f5.2 5 (by decide)).trans hg4) hE hX0 (OBY_fr hOB fun j hj => f5.2 _ (by omega))))
  refine hR (?_ : R (_, _, _, _, _, _))
  refine hR (k_lt (by omega) (fun hc => by omega) (fun hc => ?_))
  iterate 2 refine hR (?_ : R (_, _, _, _, _, _))
  refine hR (j_lt (by omega) (by omega) (fun hc2 => ?_) (fun hc2 => by omega))
  refine hR (?_ : R (_, _, _, _, _, _))
  refine hR (c_get k03 rfl ?_)
  refine hR (c_get o3 rfl ?_)
  refine hR (?_ : R (_, _, _, _, _, _))
  refine hR (c_aldE ((lo3 3 (by decide)).trans h3) (by omega) (by omega) (Nat.le_of_ble_eq_true rfl) fun v4 ev rv => ?_)
  replace ev : v4 = tBy cn 1 := ev
  subst ev
  iterate 3 refine hR (?_ : R (_, _, _, _, _, _))
  refine hR (j_ne (by omega) (by omega) (fun hc3 => ?_) (fun hc3 => ?_))
  · refine hR (?_ : R (_, _, _, _, _, _))
    refine hR (k_lt (by omega) (fun hc => by omega) (fun hc4 => ?_))
    iterate 2 refine hR (?_ : R (_, _, _, _, _, _))
    refine hR (j_lt (by omega) (by omega) (fun hc5 => ?_) (fun _ => by omega))
    iterate 2 refine hR (?_ : R (_, _, _, _, _, _))
    refine hR (j_ne (by omega) (by omega) (fun _ => ?_) (fun hc6 => absurd hc6 hc3))
    iterate 2 refine hR (?_ : R (_, _, _, _, _, _))
    obtain rfl : nu = a2 := by omega
    exact main
  · iterate 2 refine hR (?_ : R (_, _, _, _, _, _))
    refine hR (j_lt (by omega) (by omega) (fun hc4 => ?_) (fun hc4 => by omega))
    iterate 2 refine hR (?_ : R (_, _, _, _, _, _))
    refine hR (j_ne (by omega) (by omega) (fun hc6 => absurd hc3 hc6) (fun _ => ?_))
    iterate 3 refine hR (?_ : R (_, _, _, _, _, _))
    obtain rfl : nu = tBy cn 1 := by omega
    exact main
noncomputable def OBS (w : zW) (q : Nat) : tpS → Prop
  | (f, c, x0, g1, g2) => zix w q = some (.inr (5, [.int (Int32.ofInt x0), .ref (q + 1), .ref (q + 2)])) ∧ zix w (q + 1) = some (.inl (1, 6, .inl g1)) ∧ zix w (q + 2) = some (.inl (1, 6, .inl g2))
theorem OBS_fr {w w' : zW} {q : Nat} {X : tpS} : OBS w q X → (∀ j, j < 3 → zix w' (q + j) = zix w (q + j)) → OBS w' q X := by
  obtain ⟨f, c, x0, g1, g2⟩ := X
  exact fun h hf => ⟨(hf 0 (by omega)).trans h.1, (hf 1 (by omega)).trans h.2.1, (hf 2 (by omega)).trans h.2.2⟩
theorem x_tellIntoS {w : zW} (d : Nat) (a2 l l1 f1 c1 : Int) (y6 y7 tv : Value) (t1 t2 t3 t4 t5 t6 t7 : Int) (g : Nat → Int32) (bo : Nat → Option Nat) (h0 : zix w 0 = some (ob0 y6 y7)) (h1 : zix w 1 = some (td1 l1 f1 c1)) (h2 : zix w 2 = some (.inl (0, 600, .inl g))) (h8 : zix w 8 = some (tlC tv t1 t2 t3 t4 t5 t6 t7)) (hrow : zix w 6 = some (rfa 5 2 bo)) (ha2 : 0 ≤ a2 ∧ a2 ≤ 1) (hl : 0 ≤ l ∧ l ≤ 600) (Q : zQ)
    (hF : ∀ (w' : zW) (u1 u2 u3 u4 u5 f c : Int), w.length ≤ w'.length → (∀ q, q < w.length → q ≠ 8 → zix w' q = zix w q) → zix w' 8 = some (tlC (.ref 2) u1 u2 u3 u4 u5 f c) → TXF (fun X : tpS => X.1) (fun X : tpS => X.2.1) g l (teF g l (tlS g l) 601 0 (0, -1, 0, zrF, zrF)) f c → Q (some (.int (Int32.ofInt 0))) w')
    (hS : ∀ (w' : zW) (a : Int) (X : tpS), w.length ≤ w'.length → (∀ q, q < w.length → q ≠ 8 → q ≠ 6 → zix w' q = zix w q) → zix w' 6 = some (rfa 5 2 (va_up bo a2.toNat (some w.length))) → teF g l (tlS g l) 601 0 (0, -1, 0, zrF, zrF) = (true, a, X) → X.1 = 0 → OBS w' w.length X → Q (some (.int (Int32.ofInt 1))) w') : zCl zTab (d + 9) iX11_tellInto [.ref 0, .int (Int32.ofInt 2), .int (Int32.ofInt a2), .int (Int32.ofInt l)] w 3 15 Q := by
  have l8 := zix_lt h8
  refine zCl_i (M := kX11_tellInto) rfl (Nat.le_of_ble_eq_true rfl) fun R hR => ?_
  refine hR (?_ : R (_, _, _, _, _, _))
  refine hR (t_pc (pc2 := 116) (by decide) ?_)
  iterate 2 refine hR (?_ : R (_, _, _, _, _, _))
  refine hR (zcall_i 2 12 (Nat.le_of_ble_eq_true rfl) (Nat.le_of_ble_eq_true rfl) (e_Sight _ _ ?_))
  obtain ⟨w1, hw1⟩ : ∃ w1 : zW, w1 = w ++ [.inr (5, [.int (Int32.ofInt 0), .ref (w.length + 1), .ref (w.length + 2)]), .inl (1, 6, .inl fun _ => 0), .inl (1, 6, .inl fun _ => 0)] := ⟨_, rfl⟩
  have lo1 : ∀ q, q < w.length → zix w1 q = zix w q := by
    intro q hq
    rw [hw1]
    exact ap_lt hq
  have len1 : w1.length = w.length + 3 := by rw [hw1, List.length_append]; rfl
  have n0 : zix w1 w.length = some (.inr (5, [.int (Int32.ofInt 0), .ref (w.length + 1), .ref (w.length + 2)])) := by
    rw [hw1]
    exact ap_ix (j := 0)
  have n1 : zix w1 (w.length + 1) = some (.inl (1, 6, .inl zrF)) := by
    rw [hw1]
    exact ap_ix (j := 1)
  have n2 : zix w1 (w.length + 2) = some (.inl (1, 6, .inl zrF)) := by
    rw [hw1]
    exact ap_ix (j := 2)
  rw [← hw1]
  clear hw1
  refine (?_ : R (_, _, .ref w.length :: [], w1, 3, 15))
  have k0 := (lo1 0 (by omega)).trans h0
  have k1 := (lo1 1 (by omega)).trans h1
  have k8 := (lo1 8 (by omega)).trans h8
  iterate 2 refine hR (?_ : R (_, _, _, _, _, _))
  refine hR (c_get k0 rfl ?_)
  refine hR (?_ : R (_, _, _, _, _, _))
  refine hR (c_get k0 rfl ?_)
  refine hR (c_get k1 rfl ?_)
  iterate 2 refine hR (?_ : R (_, _, _, _, _, _))
  refine hR (c_obj k8 (zcall_i 0 0 (Nat.le_of_ble_eq_true rfl) (Nat.le_of_ble_eq_true rfl) (x_sTell w1 _ 8 2 w.length l tv t1 t2 t3 t4 t5 t6 t7 0 g zrF zrF k8 ((lo1 2 (by omega)).trans h2) n0 n1 n2 (by omega) hl ⟨⟨by decide, by decide⟩, ⟨by decide, by decide⟩, ⟨by decide, by decide⟩⟩ _ fun v a' x' f' c' x0' g1' g2' w2 fr hU m0 m1 m2 hE hv => ?_)))
  refine (?_ : R (_, _, .int (Int32.ofInt v) :: [], w2, 3, 15))
  have len2 : w.length ≤ w2.length := by rw [fr.1, len1]; omega
  have lo2 : ∀ q, q < w.length → q ≠ 8 → zix w2 q = zix w q := fun q hq h8 => (fr.2 q (by omega)).trans (lo1 q hq)
  refine hR (k_eq (by omega) (fun hc => ?_) (fun hc => ?_))
  · refine hR (?_ : R (_, _, _, _, _, _))
    refine hR (zret_i rfl (Nat.le_refl _) (Or.inl rfl) (hF w2 _ _ _ _ _ f' c' len2 lo2 hU ?_))
    rcases hE with ⟨h, -⟩ | ⟨-, h, hf⟩ | ⟨-, X, h, hf, hcc⟩
    · omega
    · exact Or.inl ⟨_, _, h, hf, rfl, rfl⟩
    · exact Or.inr ⟨_, _, h, hf, hcc⟩
  · have hE1 := hE.resolve_right (fun h => by rcases h with ⟨h, -⟩ | ⟨h, -⟩ <;> omega)
    have k02 := (lo2 0 (by omega) (by decide)).trans h0
    have k12 := (lo2 1 (by omega) (by decide)).trans h1
    have kr2 := (lo2 6 (by omega) (by decide)).trans hrow
    refine hR (?_ : R (_, _, _, _, _, _))
    refine hR (c_get k02 rfl ?_)
    refine hR (c_get k12 rfl ?_)
    iterate 2 refine hR (?_ : R (_, _, _, _, _, _))
    refine hR (x_rso (o := some w.length) rfl kr2 (fun x hx => by cases hx; exact ⟨_, m0⟩) (by omega) (by omega) (Nat.le_of_ble_eq_true rfl) fun w3 f3 hg3 => ?_)
    refine hR (?_ : R (_, _, _, _, _, _))
    exact hR (zret_i rfl (Nat.le_refl _) (Or.inr rfl) (hS w3 a' _ (by rw [f3.1]; exact len2) (fun q hq h8 hr => (f3.2 q hr).trans (lo2 q hq h8)) hg3 hE1.2.1 hE1.2.2 ⟨(f3.2 _ (by omega)).trans m0, (f3.2 _ (by omega)).trans m1, (f3.2 _ (by omega)).trans m2⟩))
theorem x_textS {w : zW} (d : Nat) (a2 nu l f c : Int) (y6 y7 tv : Value) (t1 t2 t3 t4 t5 t6 t7 : Int) (g cn : Nat → Int32) (bo : Nat → Option Nat) (h0 : zix w 0 = some (ob0 y6 y7)) (h1 : zix w 1 = some (td1 l f c)) (h2 : zix w 2 = some (.inl (0, 600, .inl g))) (h3 : zix w 3 = some (.inl (1, 3, .inl cn))) (h8 : zix w 8 = some (tlC tv t1 t2 t3 t4 t5 t6 t7)) (hrow : zix w 6 = some (rfa 5 2 bo)) (hth : 0 ≤ tBy cn 2 ∧ tBy cn 2 ≤ 2) (ha2 : -2147483648 ≤ a2 ∧ a2 ≤ 2147483647) (hn : (a2 = -1 ∧ tBy cn 2 < 2 ∧ nu = tBy cn 2) ∨ (0 ≤ a2 ∧ a2 < tBy cn 2 ∧ nu = a2)) (hl : 0 ≤ l ∧ l ≤ 600) (Q : zQ)
    (hF : ∀ (w' : zW) (u1 u2 u3 u4 u5 f c : Int), w.length ≤ w'.length → (∀ q, q < w.length → q ≠ 1 → q ≠ 8 → zix w' q = zix w q) → zix w' 1 = some (td1 0 f c) → TXF (fun X : tpS => X.1) (fun X : tpS => X.2.1) g l (teF g l (tlS g l) 601 0 (0, -1, 0, zrF, zrF)) f c → Q (some (.int (Int32.ofInt (-1)))) w')
    (hS : ∀ (w' : zW) (a : Int) (X : tpS), w.length ≤ w'.length → (∀ q, q < w.length → q ≠ 1 → q ≠ 3 → q ≠ 8 → q ≠ 6 → zix w' q = zix w q) → zix w' 1 = some (td1 0 0 (-1)) → zix w' 3 = some (.inl (1, 3, .inl (upd cn 2 (Int32.ofInt (if tBy cn 2 < nu + 1 then nu + 1 else tBy cn 2))))) → zix w' 6 = some (rfa 5 2 (va_up bo nu.toNat (some w.length))) → teF g l (tlS g l) 601 0 (0, -1, 0, zrF, zrF) = (true, a, X) → X.1 = 0 → OBS w' w.length X → Q (some (.int (Int32.ofInt nu))) w') : zCl zTab (d + 10) iX11_text [.ref 0, .int (Int32.ofInt 2), .int (Int32.ofInt a2)] w 3 15 Q := by
  have l8 := zix_lt h8
  refine zCl_i (M := kX11_text) rfl (Nat.le_of_ble_eq_true rfl) fun R hR => ?_
  refine hR (?_ : R (_, _, _, _, _, _))
  refine hR (c_get h0 rfl ?_)
  refine hR (c_get h1 rfl ?_)
  iterate 2 refine hR (?_ : R (_, _, _, _, _, _))
  refine hR (c_get h0 rfl ?_)
  refine hR (?_ : R (_, _, _, _, _, _))
  refine hR (c_put h1 rfl rfl fun w1 f1 o1 => ?_)
  have k01 := (f1.2 0 (by decide)).trans h0
  refine hR (?_ : R (_, _, _, _, _, _))
  refine hR (c_get k01 rfl ?_)
  refine hR (?_ : R (_, _, _, _, _, _))
  refine hR (c_put o1 rfl rfl fun w2 f2 o2 => ?_)
  have k02 := (f2.2 0 (by decide)).trans k01
  refine hR (?_ : R (_, _, _, _, _, _))
  refine hR (c_get k02 rfl ?_)
  refine hR (?_ : R (_, _, _, _, _, _))
  refine hR (c_put o2 rfl rfl fun w3 f3 o3 => ?_)
  have k03 := (f3.2 0 (by decide)).trans k02
  replace o3 : zix w3 1 = some (td1 0 0 (-1)) := o3
  have lo3 : ∀ q, q ≠ 1 → zix w3 q = zix w q := fun q hq => (f3.2 q hq).trans ((f2.2 q hq).trans (f1.2 q hq))
  have len3 : w3.length = w.length := f3.1.trans (f2.1.trans f1.1)
  have main : R (95, [some (.ref 0), some (.int (Int32.ofInt 2)), some (.int (Int32.ofInt a2)), some (.int (Int32.ofInt l)), some (.int (Int32.ofInt (tBy cn 2))), some (.int (Int32.ofInt nu))], [], w3, 0, 0) := by
    iterate 4 refine hR (?_ : R (_, _, _, _, _, _))
    refine hR (c_obj k03 (zcall_i 3 15 (Nat.le_of_ble_eq_true rfl) (Nat.le_of_ble_eq_true rfl) (x_tellIntoS _ nu l _ _ _ y6 y7 tv t1 t2 t3 t4 t5 t6 t7 g bo k03 o3 ((lo3 2 (by decide)).trans h2) ((lo3 8 (by decide)).trans h8) ((lo3 6 (by decide)).trans hrow) (by omega) hl _ (fun w4 u1 u2 u3 u4 u5 f' c' len4 lo4 hU hX => ?_) (fun w4 a X len4 lo4 hg4 hE hX0 hOB => ?_))))
    · refine (?_ : R (_, _, .int (Int32.ofInt 0) :: [], w4, 3, 15))
      rw [len3] at len4 lo4
      have k04 := (lo4 0 (by omega) (by decide)).trans k03
      have o4 := (lo4 1 (by omega) (by decide)).trans o3
      refine hR (k_ne (by omega) (fun hz => absurd rfl hz) (fun hz => ?_))
      refine hR (?_ : R (_, _, _, _, _, _))
      refine hR (c_get k04 rfl ?_)
      refine hR (?_ : R (_, _, _, _, _, _))
      refine hR (c_get k04 rfl ?_)
      refine hR (c_get hU rfl ?_)
      refine hR (c_put o4 rfl rfl fun w5 f5 o5 => ?_)
      have k05 := (f5.2 0 (by decide)).trans k04
      have hU5 := (f5.2 8 (by decide)).trans hU
      refine hR (?_ : R (_, _, _, _, _, _))
      refine hR (c_get k05 rfl ?_)
      refine hR (?_ : R (_, _, _, _, _, _))
      refine hR (c_get k05 rfl ?_)
      refine hR (c_get hU5 rfl ?_)
      refine hR (c_put o5 rfl rfl fun w6 f6 o6 => ?_)
      refine hR (?_ : R (_, _, _, _, _, _))
      exact hR (zret_i rfl (Nat.le_refl _) trivial (hF w6 u1 u2 u3 u4 u5 f' c' (by rw [f6.1, f5.1]; exact len4) (fun q hq h1 h8 => (f6.2 q h1).trans ((f5.2 q h1).trans ((lo4 q hq h8).trans (lo3 q h1)))) o6 hX))
    · refine (?_ : R (_, _, .int (Int32.ofInt 1) :: [], w4, 3, 15))
      rw [len3] at len4 lo4 hg4 hOB
      have k04 := (lo4 0 (by omega) (by decide) (by decide)).trans k03
      have o4 := (lo4 1 (by omega) (by decide) (by decide)).trans o3
      have c4 := (lo4 3 (by omega) (by decide) (by decide)).trans ((lo3 3 (by decide)).trans h3)
      refine hR (k_ne (by omega) (fun hz => ?_) (fun hz => by omega))
      refine hR (?_ : R (_, _, _, _, _, _))
      refine hR (c_get k04 rfl ?_)
      refine hR (c_get o4 rfl ?_)
      iterate 4 refine hR (?_ : R (_, _, _, _, _, _))
      refine hR (t_add ?_)
      refine hR (zif_i rfl (t_c _ (x_max (by omega) (by omega)) ?_))
      refine hR (x_ast c4 (by omega) (by omega) (Nat.le_of_ble_eq_true rfl) fun w5 f5 c5 => ?_)
      refine hR (?_ : R (_, _, _, _, _, _))
      exact hR (zret_i rfl (Nat.le_refl _) trivial (hS w5 a X (by rw [f5.1]; exact len4) (fun q hq q1 q3 q8 qr => (f5.2 q q3).trans ((lo4 q hq q8 qr).trans (lo3 q q1))) ((f5.2 1 (by decide)).trans o4) c5 ((f5.2 6 (by decide)).trans hg4) hE hX0 (OBS_fr hOB fun j hj => f5.2 _ (by omega))))
  refine hR (?_ : R (_, _, _, _, _, _))
  refine hR (k_lt (by omega) (fun hc => by omega) (fun hc => ?_))
  iterate 2 refine hR (?_ : R (_, _, _, _, _, _))
  refine hR (j_lt (by omega) (by omega) (fun hc2 => ?_) (fun hc2 => by omega))
  refine hR (?_ : R (_, _, _, _, _, _))
  refine hR (c_get k03 rfl ?_)
  refine hR (c_get o3 rfl ?_)
  refine hR (?_ : R (_, _, _, _, _, _))
  refine hR (c_aldE ((lo3 3 (by decide)).trans h3) (by omega) (by omega) (Nat.le_of_ble_eq_true rfl) fun v4 ev rv => ?_)
  replace ev : v4 = tBy cn 2 := ev
  subst ev
  iterate 3 refine hR (?_ : R (_, _, _, _, _, _))
  refine hR (j_ne (by omega) (by omega) (fun hc3 => ?_) (fun hc3 => ?_))
  · refine hR (?_ : R (_, _, _, _, _, _))
    refine hR (k_lt (by omega) (fun hc => by omega) (fun hc4 => ?_))
    iterate 2 refine hR (?_ : R (_, _, _, _, _, _))
    refine hR (j_lt (by omega) (by omega) (fun hc5 => ?_) (fun _ => by omega))
    iterate 2 refine hR (?_ : R (_, _, _, _, _, _))
    refine hR (j_ne (by omega) (by omega) (fun _ => ?_) (fun hc6 => absurd hc6 hc3))
    iterate 2 refine hR (?_ : R (_, _, _, _, _, _))
    obtain rfl : nu = a2 := by omega
    exact main
  · iterate 2 refine hR (?_ : R (_, _, _, _, _, _))
    refine hR (j_lt (by omega) (by omega) (fun hc4 => ?_) (fun hc4 => by omega))
    iterate 2 refine hR (?_ : R (_, _, _, _, _, _))
    refine hR (j_ne (by omega) (by omega) (fun hc6 => absurd hc3 hc6) (fun _ => ?_))
    iterate 3 refine hR (?_ : R (_, _, _, _, _, _))
    obtain rfl : nu = tBy cn 2 := by omega
    exact main
theorem x_text0 {w : zW} (d : Nat) (a1 a2 l f c : Int) (y6 y7 : Value) (cn : Nat → Int32) (h0 : zix w 0 = some (ob0 y6 y7)) (h1 : zix w 1 = some (td1 l f c)) (h3 : zix w 3 = some (.inl (1, 3, .inl cn))) (hr1 : -2147483648 ≤ a1 ∧ a1 ≤ 2147483647) (hr2 : -2147483648 ≤ a2 ∧ a2 ≤ 2147483647) (hx : (a1 < 0 ∨ 2 < a1) ∨ (a2 = -1 ∧ 2 ≤ tBy cn a1) ∨ (a2 ≠ -1 ∧ (a2 < 0 ∨ tBy cn a1 ≤ a2))) (Q : zQ) (h : ∀ w', wfM (fun j => j ≠ 1) w w' → zix w' 1 = some (td1 0 0 (-1)) → Q (some (.int (Int32.ofInt (-2)))) w') : zCl zTab (d + 10) iX11_text [.ref 0, .int (Int32.ofInt a1), .int (Int32.ofInt a2)] w 0 0 Q := by
  refine zCl_i (M := kX11_text) rfl (Nat.le_of_ble_eq_true rfl) fun R hR => ?_
  refine hR (?_ : R (_, _, _, _, _, _))
  refine hR (c_get h0 rfl ?_)
  refine hR (c_get h1 rfl ?_)
  iterate 2 refine hR (?_ : R (_, _, _, _, _, _))
  refine hR (c_get h0 rfl ?_)
  refine hR (?_ : R (_, _, _, _, _, _))
  refine hR (c_put h1 rfl rfl fun w1 f1 o1 => ?_)
  have k01 := (f1.2 0 (by decide)).trans h0
  refine hR (?_ : R (_, _, _, _, _, _))
  refine hR (c_get k01 rfl ?_)
  refine hR (?_ : R (_, _, _, _, _, _))
  refine hR (c_put o1 rfl rfl fun w2 f2 o2 => ?_)
  have k02 := (f2.2 0 (by decide)).trans k01
  refine hR (?_ : R (_, _, _, _, _, _))
  refine hR (c_get k02 rfl ?_)
  refine hR (?_ : R (_, _, _, _, _, _))
  refine hR (c_put o2 rfl rfl fun w3 f3 o3 => ?_)
  have k03 := (f3.2 0 (by decide)).trans k02
  replace o3 : zix w3 1 = some (td1 0 0 (-1)) := o3
  have lo3 : ∀ q, q ≠ 1 → zix w3 q = zix w q := fun q hq => (f3.2 q hq).trans ((f2.2 q hq).trans (f1.2 q hq))
  have fin := h w3 ⟨f3.1.trans (f2.1.trans f1.1), lo3⟩ o3
  have b41 : ∀ (L : zL), R (41, L, [], w3, 0, 0) := by
    intro L
    refine hR (t_c (-2) (by decide) ?_)
    exact hR (zret_i rfl (Nat.le_refl _) trivial fin)
  have b79 : ∀ (L : zL), R (79, L, [], w3, 0, 0) := by
    intro L
    refine hR (t_c (-2) (by decide) ?_)
    exact hR (zret_i rfl (Nat.le_refl _) trivial fin)
  refine hR (?_ : R (_, _, _, _, _, _))
  refine hR (k_lt (by omega) (fun hc => b41 _) (fun hc => ?_))
  iterate 2 refine hR (?_ : R (_, _, _, _, _, _))
  refine hR (j_lt (by omega) (by omega) (fun hc2 => ?_) (fun hc2 => b41 _))
  refine hR (?_ : R (_, _, _, _, _, _))
  refine hR (c_get k03 rfl ?_)
  refine hR (c_get o3 rfl ?_)
  refine hR (?_ : R (_, _, _, _, _, _))
  refine hR (c_aldE ((lo3 3 (by decide)).trans h3) (by omega) (by omega) (Nat.le_of_ble_eq_true rfl) fun v4 ev rv => ?_)
  replace ev : v4 = tBy cn a1 := ev
  subst ev
  iterate 3 refine hR (?_ : R (_, _, _, _, _, _))
  refine hR (j_ne (by omega) (by omega) (fun hc3 => ?_) (fun hc3 => ?_))
  · refine hR (?_ : R (_, _, _, _, _, _))
    refine hR (k_lt (by omega) (fun hc => b79 _) (fun hc4 => ?_))
    iterate 2 refine hR (?_ : R (_, _, _, _, _, _))
    exact hR (j_lt (by omega) (by omega) (fun hc5 => by omega) (fun _ => b79 _))
  · iterate 2 refine hR (?_ : R (_, _, _, _, _, _))
    refine hR (j_lt (by omega) (by omega) (fun hc4 => by omega) (fun hc4 => ?_))
    refine hR (?_ : R (_, _, _, _, _, _))
    exact b79 _
