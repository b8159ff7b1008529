def rgO (p : Nat) (ci la fo op de : Int) : va_E := .inr (4, [.ref (p + 1), .int (Int32.ofInt ci), .int (Int32.ofInt la), .int (Int32.ofInt fo), .int (Int32.ofInt op), .int (Int32.ofInt de), .ref (p + 2), .ref (p + 3), .ref (p + 4), .ref (p + 5), .ref (p + 6), .ref (p + 7), .ref (p + 8), .ref (p + 9), .ref (p + 10)])
def TJ (w : zW) (p : Nat) (fo op de : Int) (gO gP gW : Nat → Int32) : Prop := (∃ ci la : Int, ((-2147483648 ≤ ci ∧ ci ≤ 2147483647) ∧ (-2147483648 ≤ la ∧ la ≤ 2147483647)) ∧ zix w p = some (rgO p ci la fo op de)) ∧ fo ≤ 5461 ∧ zix w (p + 7) = some (.inl (1, 5461, .inl gO)) ∧ zix w (p + 6) = some (.inl (1, 5461, .inl gP)) ∧ zix w (p + 5) = some (.inl (1, 5461, .inl gW)) ∧ TI fo op de gO gP gW
theorem c_enter {ρ : Nat → Nat} {w : zW} (d p : Nat) (a1 : Int) (fo op de : Int) (gO gP gW : Nat → Int32) (hw : CI ρ w) (hρp : ρ p = 80) (hr0 : 0 ≤ a1 ∧ a1 ≤ 5460) (hr1 : TJ w p fo op de gO gP gW) (hr2 : (gO a1.toNat).toInt = -1) (Q : zQ) (h : ∀ (w' : zW), CI ρ w' → wfR [80, 85, 86, 87, 88, 89] ρ w w' → TJ w' p (fo + 1) (op + 1) (de + 1) (upd gO a1.toNat (Int32.ofInt fo)) (upd gP op.toNat (Int32.ofInt a1)) (upd gW de.toNat (Int32.ofInt a1)) → Q none w') : zCl zTab (d + 1) iX5_enter [.ref p, .int (Int32.ofInt a1)] w 0 0 Q := by
  obtain ⟨⟨ci, la, ⟨hci, hla⟩, kO⟩, hfo, kOr, kP, kW, hT⟩ := hr1
  unfold rgO at kO
  have hlt := ti_lt hT (a := a1.toNat) (by omega) hr2
  have hde := ti_de hT
  have hE := ti_enter hT hr0 hr2
  have b0 := hT.1
  have b1 := hT.2.1
  have b2 := hT.2.2.1
  obtain ⟨_, _, _, _, _, _, e81, _, _, _, _, _, e82, e83, e84, e85, e86, e87, e88, e89, e90⟩ := CI_o80 hw hρp
  obtain ⟨g, k, bO⟩ := CI_ar hw (q := p + 7) (by rw [e87]; rfl)
  rw [kOr] at k
  cases k
  obtain ⟨g, k, bP⟩ := CI_ar hw (q := p + 6) (by rw [e86]; rfl)
  rw [kP] at k
  cases k
  obtain ⟨g, k, bW⟩ := CI_ar hw (q := p + 5) (by rw [e85]; rfl)
  rw [kW] at k
  cases k
  refine zCl_i (M := kX5_enter) rfl (Nat.le_of_ble_eq_true rfl) fun R hR => ?_
  refine hR (?_ : R (_, _, _, _, _, _))
  refine hR (c_get kO rfl ?_)
  iterate 2 refine hR (?_ : R (_, _, _, _, _, _))
  refine hR (c_get kO rfl ?_)
  refine hR (c_astE hw kOr bO (by rw [e87]; rfl) ⟨by rw [e87]; decide, by rw [e87]; decide⟩ (by omega) (by omega) (by omega) (by omega) (by omega) fun w1 hw1 f1 k1 _ => ?_)
  have o1 := (f1.2 p (by omega)).trans kO
  refine hR (?_ : R (_, _, _, _, _, _))
  refine hR (c_get o1 rfl ?_)
  iterate 2 refine hR (?_ : R (_, _, _, _, _, _))
  refine hR (c_get o1 rfl ?_)
  refine hR (c_astx hw1 (by rw [e88]; rfl) ⟨by rw [e88]; decide, by rw [e88]; decide⟩ (by omega) (by omega) (by omega) fun w2 hw2 f2 => ?_)
  have o2 := (f2.2 p (by omega)).trans o1
  refine hR (?_ : R (_, _, _, _, _, _))
  refine hR (c_get o2 rfl ?_)
  iterate 2 refine hR (?_ : R (_, _, _, _, _, _))
  refine hR (c_ast hw2 (by rw [e89]; rfl) ⟨by rw [e89]; decide, by rw [e89]; decide⟩ (by omega) (by omega) (by omega) (by omega) (by omega) (by omega) (by omega) fun w3 hw3 f3 => ?_)
  have o3 := (f3.2 p (by omega)).trans o2
  iterate 2 refine hR (?_ : R (_, _, _, _, _, _))
  refine hR (c_get o3 rfl ?_)
  refine hR (?_ : R (_, _, _, _, _, _))
  refine hR (t_add ?_)
  refine hR (c_put o3 rfl rfl fun w4 f4 o4 => ?_)
  have hw4 := CI_w80 hw3 hρp f4 o4 ⟨e81, ⟨by omega, by omega⟩, ⟨by omega, by omega⟩, ⟨by omega, by omega⟩, ⟨by omega, by omega⟩, ⟨by omega, by omega⟩, e82, e83, e84, e85, e86, e87, e88, e89, e90⟩
  have kP4 := (f4.2 (p + 6) (by omega)).trans ((f3.2 (p + 6) (by omega)).trans ((f2.2 (p + 6) (by omega)).trans ((f1.2 (p + 6) (by omega)).trans kP)))
  refine hR (?_ : R (_, _, _, _, _, _))
  refine hR (c_get o4 rfl ?_)
  refine hR (?_ : R (_, _, _, _, _, _))
  refine hR (c_get o4 rfl ?_)
  refine hR (?_ : R (_, _, _, _, _, _))
  refine hR (c_astE hw4 kP4 bP (by rw [e86]; rfl) ⟨by rw [e86]; decide, by rw [e86]; decide⟩ (by omega) (by omega) (by omega) (by omega) (by omega) fun w5 hw5 f5 k5 _ => ?_)
  have o5 := (f5.2 p (by omega)).trans o4
  iterate 2 refine hR (?_ : R (_, _, _, _, _, _))
  refine hR (c_get o5 rfl ?_)
  refine hR (?_ : R (_, _, _, _, _, _))
  refine hR (t_add ?_)
  refine hR (c_put o5 rfl rfl fun w6 f6 o6 => ?_)
  have hw6 := CI_w80 hw5 hρp f6 o6 ⟨e81, ⟨by omega, by omega⟩, ⟨by omega, by omega⟩, ⟨by omega, by omega⟩, ⟨by omega, by omega⟩, ⟨by omega, by omega⟩, e82, e83, e84, e85, e86, e87, e88, e89, e90⟩
  have kW6 := (f6.2 (p + 5) (by omega)).trans ((f5.2 (p + 5) (by omega)).trans ((f4.2 (p + 5) (by omega)).trans ((f3.2 (p + 5) (by omega)).trans ((f2.2 (p + 5) (by omega)).trans ((f1.2 (p + 5) (by omega)).trans kW)))))
  refine hR (?_ : R (_, _, _, _, _, _))
  refine hR (c_get o6 rfl ?_)
  refine hR (?_ : R (_, _, _, _, _, _))
  refine hR (c_get o6 rfl ?_)
  refine hR (?_ : R (_, _, _, _, _, _))
  refine hR (c_astE hw6 kW6 bW (by rw [e85]; rfl) ⟨by rw [e85]; decide, by rw [e85]; decide⟩ (by omega) (by omega) (by omega) (by omega) (by omega) fun w7 hw7 f7 k7 _ => ?_)
  have o7 := (f7.2 p (by omega)).trans o6
  iterate 2 refine hR (?_ : R (_, _, _, _, _, _))
  refine hR (c_get o7 rfl ?_)
  refine hR (?_ : R (_, _, _, _, _, _))
  refine hR (t_add ?_)
  refine hR (c_put o7 rfl rfl fun w8 f8 o8 => ?_)
  have hw8 := CI_w80 hw7 hρp f8 o8 ⟨e81, ⟨by omega, by omega⟩, ⟨by omega, by omega⟩, ⟨by omega, by omega⟩, ⟨by omega, by omega⟩, ⟨by omega, by omega⟩, e82, e83, e84, e85, e86, e87, e88, e89, e90⟩
  have fr := wfR_st (wfR_st (wfR_st (wfR_st (wfR_st (wfR_st (wfR_st (wfR_st (wfR_rf [80, 85, 86, 87, 88, 89] ρ w) f1 (by rw [e87]; decide)) f2 (by rw [e88]; decide)) f3 (by rw [e89]; decide)) f4 (by rw [hρp]; decide)) f5 (by rw [e86]; decide)) f6 (by rw [hρp]; decide)) f7 (by rw [e85]; decide)) f8 (by rw [hρp]; decide)
  refine hR (zret_i rfl (Nat.le_refl _) rfl (h w8 hw8 fr ⟨⟨ci, la, ⟨hci, hla⟩, o8⟩, by omega, ?_, ?_, ?_, hE⟩))
  · exact (f8.2 (p + 7) (by omega)).trans ((f7.2 (p + 7) (by omega)).trans ((f6.2 (p + 7) (by omega)).trans ((f5.2 (p + 7) (by omega)).trans ((f4.2 (p + 7) (by omega)).trans ((f3.2 (p + 7) (by omega)).trans ((f2.2 (p + 7) (by omega)).trans k1))))))
  · exact (f8.2 (p + 6) (by omega)).trans ((f7.2 (p + 6) (by omega)).trans ((f6.2 (p + 6) (by omega)).trans k5))
  · exact (f8.2 (p + 5) (by omega)).trans k7
