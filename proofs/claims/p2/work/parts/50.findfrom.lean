theorem ti_0 {fo op de : Int} {gO gP gW : Nat → Int32} (h : TI fo op de gO gP gW) : TI fo op 0 gO gP gW := by
  obtain ⟨h0, h1, h2, h3, pos, h4, h5⟩ := h
  exact ⟨by omega, h1, h2, h3, pos, fun i j _ hj => by omega, fun i hi => by omega⟩
def TJ0 (w : zW) (p : Nat) (fo op : Int) (gO gP gW : Nat → Int32) : Prop := (∃ ci la de : Int, ((-2147483648 ≤ ci ∧ ci ≤ 2147483647) ∧ (-2147483648 ≤ la ∧ la ≤ 2147483647)) ∧ zix w p = some (rgO p ci la fo op de)) ∧ fo ≤ 5461 ∧ zix w (p + 7) = some (.inl (1, 5461, .inl gO)) ∧ zix w (p + 6) = some (.inl (1, 5461, .inl gP)) ∧ zix w (p + 5) = some (.inl (1, 5461, .inl gW)) ∧ TI fo op 0 gO gP gW
theorem TJ0_of {w : zW} {p : Nat} {fo op de : Int} {gO gP gW : Nat → Int32} (h : TJ w p fo op de gO gP gW) : TJ0 w p fo op gO gP gW := by
  obtain ⟨⟨ci, la, a, b⟩, c, d, e, f, g⟩ := h
  exact ⟨⟨ci, la, de, a, b⟩, c, d, e, f, ti_0 g⟩
theorem c_findFrom {ρ : Nat → Nat} {w : zW} (d p rd : Nat) (a1 : Int) (fo op : Int) (gO gP gW : Nat → Int32) (hw : CI ρ w) (hρp : ρ p = 80) (hρrd : ρ rd = 50) (hr0 : 0 ≤ a1 ∧ a1 ≤ 5460) (hr1 : TJ0 w p fo op gO gP gW) (hr2 : (gO a1.toNat).toInt = -1) (Q : zQ) (h : ∀ (w' : zW), CI ρ w' → wfR [51, 80, 85, 86, 87, 88, 89, 90] ρ w w' → TK w' p → Q none w') : zCl zTab (d + 6) iX5_findFrom [.ref p, .ref rd, .int (Int32.ofInt a1)] w 0 0 Q := by
  obtain ⟨_, _, _, _, _, _, e81, _, _, _, _, _, e82, e83, e84, e85, e86, e87, e88, e89, e90⟩ := CI_o80 hw hρp
  obtain ⟨rb, z2, z3, kR, eb, _⟩ := CI_o50 hw hρrd
  obtain ⟨x0, x1, x2, kB, _, hx1, _⟩ := CI_o20 hw eb
  refine zCl_i (M := kX5_findFrom) rfl (Nat.le_of_ble_eq_true rfl) fun R hR => ?_
  have loop : ∀ (N : Nat) (i : Int) (o : Option Value) (w1 : zW), zc2 o = false → (0 ≤ i ∧ i ≤ 38227) → CI ρ w1 → wfR [51, 80, 85, 86, 87, 88, 89, 90] ρ w w1 → TK w1 p → 38227 - i < N → R (12, [some (.ref p), some (.ref rd), some (.int (Int32.ofInt a1)), some (.int (Int32.ofInt i)), o], [], w1, 0, 0) := by
    intro N
    induction N with
    | zero => intros; omega
    | succ N ih =>
      intro i o w1 ho hi hw1 f1 hK hN
      have hK2 := hK
      obtain ⟨fo, op, de, gO, gP, gW, hJ⟩ := hK
      have hJ2 := hJ
      obtain ⟨⟨ci, la, ⟨hci, hla⟩, kO⟩, hfo, kOr, kP, kW, hT⟩ := hJ
      unfold rgO at kO
      have hde := ti_de hT
      have b0 := hT.1
      have b1 := hT.2.1
      have b2 := hT.2.2.1
      obtain ⟨gW', kW', bW⟩ := CI_ar hw1 (q := p + 5) (by rw [e85]; rfl)
      rw [kW] at kW'
      cases kW'
      obtain ⟨gT, kT, bT⟩ := CI_ar hw1 (q := p + 9) (by rw [e89]; rfl)
      have kR1 := (f1.2 rd (by rw [hρrd]; decide)).trans kR
      have kB1 := (f1.2 rb (by rw [eb]; decide)).trans kB
      refine hR (?_ : R (_, _, _, _, _, _))
      refine hR (t_c 38227 (by decide) ?_)
      refine hR (j_ge (by omega) (by omega) (fun _ => ?_) (fun hc => ?_))
      · exact hR (zret_i rfl (Nat.le_refl _) rfl (h w1 hw1 f1 hK2))
      refine hR (?_ : R (_, _, _, _, _, _))
      refine hR (c_get kO rfl ?_)
      refine hR (k_le (by omega) (fun _ => ?_) (fun hd => ?_))
      · exact hR (zret_i rfl (Nat.le_refl _) rfl (h w1 hw1 f1 hK2))
      refine hR (?_ : R (_, _, _, _, _, _))
      refine hR (c_get kO rfl ?_)
      refine hR (?_ : R (_, _, _, _, _, _))
      refine hR (c_get kO rfl ?_)
      refine hR (?_ : R (_, _, _, _, _, _))
      refine hR (t_sub ?_)
      refine hR (c_aldE kW (by omega) (by omega) (by omega) fun t et ht => ?_)
      have hbt := bW (de - 1).toNat
      have hbT := bT t.toNat
      iterate 2 refine hR (?_ : R (_, _, _, _, _, _))
      refine hR (c_get kO rfl ?_)
      refine hR (?_ : R (_, _, _, _, _, _))
      refine hR (c_aldE kT (by omega) (by omega) (by omega) fun v ev hv => ?_)
      refine hR (?_ : R (_, _, _, _, _, _))
      refine hR (c_get kR1 rfl ?_)
      refine hR (c_get kB1 rfl ?_)
      have again : ∀ w2, CI ρ w2 → wfR [51, 80, 85, 86, 87, 88, 89, 90] ρ w w2 → TK w2 p → R (71, [some (.ref p), some (.ref rd), some (.int (Int32.ofInt a1)), some (.int (Int32.ofInt i)), some (.int (Int32.ofInt t))], [], w2, 0, 0) := by
        intro w2 hw2 f2 k2
        refine hR (t_inc ?_)
        refine hR (?_ : R (_, _, _, _, _, _))
        exact ih (i + 1) _ w2 rfl (by omega) hw2 f2 k2 (by omega)
      refine hR (j_ge (by omega) (by omega) (fun hc2 => ?_) (fun hc2 => ?_))
      · iterate 2 refine hR (?_ : R (_, _, _, _, _, _))
        refine hR (c_obj kO (zcall_i 0 0 (Nat.le_of_ble_eq_true rfl) (Nat.le_of_ble_eq_true rfl) (c_leave _ p t fo op de gO gP gW hw1 hρp (by omega) hJ2 (by omega) (by rw [et, zoi]) _ fun w2 hw2 g2 k2 => ?_)))
        exact again w2 hw2 (wfR_tr f1 g2 (by decide)) k2
      · iterate 3 refine hR (?_ : R (_, _, _, _, _, _))
        refine hR (c_obj kO (zcall_i 0 0 (Nat.le_of_ble_eq_true rfl) (Nat.le_of_ble_eq_true rfl) (c_tryNext _ p rd t fo op de gO gP gW gT hw1 hρp hρrd (by omega) hJ2 kT (by omega) _ fun w2 hw2 g2 k2 => ?_)))
        refine (?_ : R (_, _, [], w2, 0, 0))
        refine hR (?_ : R (_, _, _, _, _, _))
        exact again w2 hw2 (wfR_tr f1 g2 (by decide)) k2
  obtain ⟨⟨ci, la, de, ⟨hci, hla⟩, kO⟩, hfo, kOr, kP, kW, hT⟩ := hr1
  unfold rgO at kO
  have hlt := ti_lt hT (a := a1.toNat) (by omega) hr2
  have b0 := hT.1
  have b1 := hT.2.1
  have b2 := hT.2.2.1
  iterate 2 refine hR (?_ : R (_, _, _, _, _, _))
  refine hR (c_put kO rfl rfl fun w1 f1 o1 => ?_)
  have hw1 := CI_w80 hw hρp f1 o1 ⟨e81, ⟨by omega, by omega⟩, ⟨by omega, by omega⟩, ⟨by omega, by omega⟩, ⟨by omega, by omega⟩, ⟨by omega, by omega⟩, e82, e83, e84, e85, e86, e87, e88, e89, e90⟩
  have J1 : TJ w1 p fo op 0 gO gP gW := ⟨⟨ci, la, ⟨hci, hla⟩, o1⟩, hfo, (f1.2 (p + 7) (by omega)).trans kOr, (f1.2 (p + 6) (by omega)).trans kP, (f1.2 (p + 5) (by omega)).trans kW, hT⟩
  iterate 2 refine hR (?_ : R (_, _, _, _, _, _))
  refine hR (c_obj o1 (zcall_i 0 0 (Nat.le_of_ble_eq_true rfl) (Nat.le_of_ble_eq_true rfl) (c_enter _ p a1 fo op 0 gO gP gW hw1 hρp hr0 J1 hr2 _ fun w2 hw2 g2 J2 => ?_)))
  refine (?_ : R (_, _, [], w2, 0, 0))
  iterate 2 refine hR (?_ : R (_, _, _, _, _, _))
  exact loop 50000 0 none w2 rfl (by omega) hw2 (wfR_tr (wfR_st (wfR_rf _ ρ w) f1 (by rw [hρp]; decide)) g2 (by decide)) ⟨_, _, _, _, _, _, J2⟩ (by omega)
