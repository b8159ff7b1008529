def TK (w : zW) (p : Nat) : Prop := ∃ (fo op de : Int) (gO gP gW : Nat → Int32), TJ w p fo op de gO gP gW
theorem c_leave {ρ : Nat → Nat} {w : zW} (d p : Nat) (a1 : Int) (fo op de : Int) (gO gP gW : Nat → Int32) (hw : CI ρ w) (hρp : ρ p = 80) (hr0 : 0 ≤ a1 ∧ a1 ≤ 5460) (hr1 : TJ w p fo op de gO gP gW) (hr2 : 1 ≤ de) (hr3 : gW (de - 1).toNat = Int32.ofInt a1) (Q : zQ) (h : ∀ (w' : zW), CI ρ w' → wfR [80, 88, 90] ρ w w' → TK w' p → Q none w') : zCl zTab (d + 3) iX5_leave [.ref p, .int (Int32.ofInt a1)] w 0 0 Q := by
  obtain ⟨⟨ci, la, ⟨hci, hla⟩, kO⟩, hfo, kOr, kP, kW, hT⟩ := hr1
  unfold rgO at kO
  have hde := ti_de hT
  have b0 := hT.1
  have b1 := hT.2.1
  have b2 := hT.2.2.1
  obtain ⟨_, _, _, _, _, _, e81, _, _, _, _, _, e82, e83, e84, e85, e86, e87, e88, e89, e90⟩ := CI_o80 hw hρp
  refine zCl_i (M := kX5_leave) rfl (Nat.le_of_ble_eq_true rfl) fun R hR => ?_
  iterate 2 refine hR (?_ : R (_, _, _, _, _, _))
  refine hR (c_get kO rfl ?_)
  refine hR (?_ : R (_, _, _, _, _, _))
  refine hR (t_sub ?_)
  refine hR (c_put kO rfl rfl fun w1 f1 o1 => ?_)
  have hw1 := CI_w80 hw hρp f1 o1 ⟨e81, ⟨by omega, by omega⟩, ⟨by omega, by omega⟩, ⟨by omega, by omega⟩, ⟨by omega, by omega⟩, ⟨by omega, by omega⟩, e82, e83, e84, e85, e86, e87, e88, e89, e90⟩
  have fr1 := wfR_st (wfR_rf [80, 88, 90] ρ w) f1 (by rw [hρp]; decide)
  have tail : ∀ (o : Option Value) (w2 : zW), CI ρ w2 → wfR [80, 88, 90] ρ w w2 → zix w2 p = some (.inr (4, [.ref (p + 1), .int (Int32.ofInt ci), .int (Int32.ofInt la), .int (Int32.ofInt fo), .int (Int32.ofInt op), .int (Int32.ofInt (de - 1)), .ref (p + 2), .ref (p + 3), .ref (p + 4), .ref (p + 5), .ref (p + 6), .ref (p + 7), .ref (p + 8), .ref (p + 9), .ref (p + 10)])) → R (50, [some (.ref p), some (.int (Int32.ofInt a1)), o], [], w2, 0, 0) := by
    intro o w2 hw2 fr2 o2
    have c7 := (fr2.2 (p + 7) (by rw [e87]; decide)).trans kOr
    have c6 := (fr2.2 (p + 6) (by rw [e86]; decide)).trans kP
    have c5 := (fr2.2 (p + 5) (by rw [e85]; decide)).trans kW
    refine hR (?_ : R (_, _, _, _, _, _))
    refine hR (c_get o2 rfl ?_)
    refine hR (?_ : R (_, _, _, _, _, _))
    refine hR (c_ald hw2 (by rw [e88]; rfl) (by omega) (by omega) (by omega) fun v l u => ?_)
    refine hR (?_ : R (_, _, _, _, _, _))
    refine hR (c_get o2 rfl ?_)
    refine hR (?_ : R (_, _, _, _, _, _))
    refine hR (c_ald hw2 (by rw [e87]; rfl) (by omega) (by omega) (by omega) fun v2 l2 u2 => ?_)
    refine hR (j_any ?_ ?_)
    · exact hR (zret_i rfl (Nat.le_refl _) rfl (h w2 hw2 fr2 ⟨fo, op, de - 1, gO, gP, gW, ⟨ci, la, ⟨hci, hla⟩, o2⟩, hfo, c7, c6, c5, ti_up hT hr2⟩))
    · iterate 2 refine hR (?_ : R (_, _, _, _, _, _))
      refine hR (c_obj o2 (zcall_i 0 0 (Nat.le_of_ble_eq_true rfl) (Nat.le_of_ble_eq_true rfl) (c_closeCircle _ p a1 ci la fo op (de - 1) gP hw2 hρp hr0 o2 c6 (by omega) ⟨hci, hla⟩ ⟨by omega, by omega⟩ _ fun w3 bo ci' la' hw3 g3 hb hj hr o3 => ?_)))
      have c7' := (g3.2 (p + 7) (by rw [e87]; decide)).trans c7
      have c6' := (g3.2 (p + 6) (by rw [e86]; decide)).trans c6
      have c5' := (g3.2 (p + 5) (by rw [e85]; decide)).trans c5
      exact hR (zret_i rfl (Nat.le_refl _) rfl (h w3 hw3 (wfR_tr fr2 g3 (by decide)) ⟨fo, bo, de - 1, gO, gP, gW, ⟨ci', la', hr, o3⟩, hfo, c7', c6', c5', ti_leave hT hr2 hb (fun j j1 j2 => hj j j1 (j2.trans hr3))⟩))
  refine hR (?_ : R (_, _, _, _, _, _))
  refine hR (c_get o1 rfl ?_)
  refine hR (k_le (by omega) (fun _ => tail _ w1 hw1 fr1 o1) (fun hc => ?_))
  refine hR (?_ : R (_, _, _, _, _, _))
  refine hR (c_get o1 rfl ?_)
  refine hR (?_ : R (_, _, _, _, _, _))
  refine hR (c_get o1 rfl ?_)
  refine hR (?_ : R (_, _, _, _, _, _))
  refine hR (t_sub ?_)
  refine hR (c_ald hw1 (by rw [e85]; rfl) (by omega) (by omega) (by omega) fun v l u => ?_)
  iterate 2 refine hR (?_ : R (_, _, _, _, _, _))
  refine hR (c_get o1 rfl ?_)
  iterate 2 refine hR (?_ : R (_, _, _, _, _, _))
  refine hR (c_get o1 rfl ?_)
  refine hR (?_ : R (_, _, _, _, _, _))
  refine hR (c_ald hw1 (by rw [e88]; rfl) (by omega) (by omega) (by omega) fun v2 l2 u2 => ?_)
  refine hR (?_ : R (_, _, _, _, _, _))
  refine hR (c_get o1 rfl ?_)
  refine hR (?_ : R (_, _, _, _, _, _))
  refine hR (c_ald hw1 (by rw [e88]; rfl) (by omega) (by omega) (by omega) fun v3 l3 u3 => ?_)
  refine hR (t_o fun v4 r4 => ?_)
  refine hR (c_astx hw1 (by rw [e88]; rfl) ⟨by rw [e88]; decide, by rw [e88]; decide⟩ (by omega) (by omega) (by omega) fun w2 hw2 f2 => ?_)
  exact tail _ w2 hw2 (wfR_st fr1 f2 (by rw [e88]; decide)) ((f2.2 p (by omega)).trans o1)
