theorem c_becomes {ρ : Nat → Nat} {w : zW} (d p o : Nat) (l : Int) (hw : CI ρ w) (hp : ρ p = 2) (ho : ρ o = 2) (hne : p ≠ o) (hl : LE w o l) (Q : zQ) (h : ∀ w', CI ρ w' → FRP p w w' → LE w' p l → Q none w') : zCl zTab (d + 2) iX8_becomes [.ref p, .ref o] w 0 0 Q := by
  have hbl := blk hw hp ho hne
  obtain ⟨x1, x2, x3, hO, p1, q1, q2, q3, p2, p3, p4, p5⟩ := CI_o2 hw hp
  obtain ⟨y1, y2, y3, hU, u1, v1, v2, v3, u2, u3, u4, u5⟩ := CI_o2 hw ho
  have ey := LE_u hl hU v1
  subst ey
  refine zCl_i (M := kX8_becomes) rfl (Nat.le_of_ble_eq_true rfl) fun R hR => ?_
  refine hR (?_ : R (_, _, _, _, _, _))
  refine hR (c_get hU rfl ?_)
  iterate 2 refine hR (?_ : R (_, _, _, _, _, _))
  refine hR (c_get hO rfl ?_)
  refine hR (?_ : R (_, _, _, _, _, _))
  refine hR (t_c 600 (by decide) ?_)
  refine hR (c_cpy hw (by rw [u1]; rfl) (by rw [p1]; rfl) ⟨by rw [p1]; decide, by rw [p1]; decide⟩ rfl rfl (Nat.le_of_ble_eq_true rfl) fit_b fun w1 hw1 f1 => ?_)
  have F1 : FRP p w w1 := FRP_st ⟨rfl, fun _ _ => rfl⟩ f1 (by omega)
  have hO1 := (f1.2 p (by omega)).trans hO
  have hU1 := (F1.2 o (hbl 0 (by omega))).trans hU
  iterate 2 refine hR (?_ : R (_, _, _, _, _, _))
  refine hR (c_get hU1 rfl ?_)
  refine hR (c_put hO1 rfl rfl fun w2 f2 hO2 => ?_)
  have hO2 : zix w2 p = some (.inr (7, [.ref (p + 1), .int (Int32.ofInt y1), .int (Int32.ofInt x2), .int (Int32.ofInt x3), .ref (p + 2), .ref (p + 3), .ref (p + 4), .ref (p + 5)])) := hO2
  have hw2 : CI ρ w2 := CI_w2 hw1 hp f2 hO2 ⟨p1, by omega, by omega, by omega, p2, p3, p4, p5⟩
  have F2 : FRP p w w2 := FRP_st F1 f2 (by omega)
  have hU2 := (F2.2 o (hbl 0 (by omega))).trans hU
  iterate 2 refine hR (?_ : R (_, _, _, _, _, _))
  refine hR (c_get hU2 rfl ?_)
  refine hR (c_put hO2 rfl rfl fun w3 f3 hO3 => ?_)
  have hO3 : zix w3 p = some (.inr (7, [.ref (p + 1), .int (Int32.ofInt y1), .int (Int32.ofInt y2), .int (Int32.ofInt x3), .ref (p + 2), .ref (p + 3), .ref (p + 4), .ref (p + 5)])) := hO3
  have hw3 : CI ρ w3 := CI_w2 hw2 hp f3 hO3 ⟨p1, by omega, by omega, by omega, p2, p3, p4, p5⟩
  have F3 : FRP p w w3 := FRP_st F2 f3 (by omega)
  have hU3 := (F3.2 o (hbl 0 (by omega))).trans hU
  iterate 2 refine hR (?_ : R (_, _, _, _, _, _))
  refine hR (c_get hU3 rfl ?_)
  refine hR (c_put hO3 rfl rfl fun w4 f4 hO4 => ?_)
  have hO4 : zix w4 p = some (.inr (7, [.ref (p + 1), .int (Int32.ofInt y1), .int (Int32.ofInt y2), .int (Int32.ofInt y3), .ref (p + 2), .ref (p + 3), .ref (p + 4), .ref (p + 5)])) := hO4
  have hw4 : CI ρ w4 := CI_w2 hw3 hp f4 hO4 ⟨p1, by omega, by omega, by omega, p2, p3, p4, p5⟩
  have F4 : FRP p w w4 := FRP_st F3 f4 (by omega)
  have hU4 := (F4.2 o (hbl 0 (by omega))).trans hU
  refine hR (?_ : R (_, _, _, _, _, _))
  refine hR (c_get hU4 rfl ?_)
  iterate 2 refine hR (?_ : R (_, _, _, _, _, _))
  refine hR (c_get hO4 rfl ?_)
  iterate 2 refine hR (?_ : R (_, _, _, _, _, _))
  refine hR (c_cpy hw4 (by rw [u2]; rfl) (by rw [p2]; rfl) ⟨by rw [p2]; decide, by rw [p2]; decide⟩ rfl rfl (Nat.le_of_ble_eq_true rfl) (fun _ _ _ => rfl) fun w5 hw5 f5 => ?_)
  have F5 : FRP p w w5 := FRP_st F4 f5 (by omega)
  have hO5 := (f5.2 p (by omega)).trans hO4
  have loop : ∀ (N : Nat) (i : Int) (v : zW), (0 ≤ i ∧ i ≤ 2) → CI ρ v → FRP p w v → zix v p = some (.inr (7, [.ref (p + 1), .int (Int32.ofInt y1), .int (Int32.ofInt y2), .int (Int32.ofInt y3), .ref (p + 2), .ref (p + 3), .ref (p + 4), .ref (p + 5)])) → 3 - i < N → R (56, [some (.ref p), some (.ref o), some (.int (Int32.ofInt i))], [], v, 0, 0) := by
    intro N
    induction N with
    | zero => intros; omega
    | succ N ih =>
      intro i v hi hv Fv hOv hN
      have hUv := (Fv.2 o (hbl 0 (by omega))).trans hU
      iterate 2 refine hR (?_ : R (_, _, _, _, _, _))
      refine hR (j_ge (by omega) (by omega) (fun hc => ?_) (fun hc => ?_))
      · exact hR (zret_i rfl (Nat.le_refl _) rfl (h v hv Fv ⟨_, _, hOv, v1⟩))
      · skip
        refine hR (?_ : R (_, _, _, _, _, _))
        refine hR (c_get hOv rfl ?_)
        iterate 2 refine hR (?_ : R (_, _, _, _, _, _))
        refine hR (c_get hUv rfl ?_)
        refine hR (?_ : R (_, _, _, _, _, _))
        refine hR (c_rld hv (by rw [u3]; rfl) (by rw [u3]; rfl) (by decide) (by omega) (by omega) (Nat.le_of_ble_eq_true rfl) fun oa hoa => ?_)
        refine hR (c_rso hv (by rw [p3]; rfl) (by rw [p3]; rfl) rfl ⟨by rw [p3]; decide, by rw [p3]; decide⟩ (fun x hx => ⟨hoa x hx, by obtain ⟨_, _, _, hh, -⟩ := CI_o20 hv (hoa x hx); exact ⟨_, hh⟩⟩) (by omega) (by omega) (Nat.le_of_ble_eq_true rfl) fun va hva fa => ?_)
        have Fa : FRP p w va := FRP_st Fv fa (by omega)
        have hOa := (fa.2 p (by omega)).trans hOv
        have hUa := (Fa.2 o (hbl 0 (by omega))).trans hU
        refine hR (?_ : R (_, _, _, _, _, _))
        refine hR (c_get hOa rfl ?_)
        iterate 2 refine hR (?_ : R (_, _, _, _, _, _))
        refine hR (c_get hUa rfl ?_)
        refine hR (?_ : R (_, _, _, _, _, _))
        refine hR (c_rld hva (by rw [u4]; rfl) (by rw [u4]; rfl) (by decide) (by omega) (by omega) (Nat.le_of_ble_eq_true rfl) fun ob hob => ?_)
        refine hR (c_rso hva (by rw [p4]; rfl) (by rw [p4]; rfl) rfl ⟨by rw [p4]; decide, by rw [p4]; decide⟩ (fun x hx => ⟨hob x hx, by obtain ⟨_, hh, -⟩ := CI_o30 hva (hob x hx); exact ⟨_, hh⟩⟩) (by omega) (by omega) (Nat.le_of_ble_eq_true rfl) fun vb hvb fb => ?_)
        have Fb : FRP p w vb := FRP_st Fa fb (by omega)
        have hOb := (fb.2 p (by omega)).trans hOa
        have hUb := (Fb.2 o (hbl 0 (by omega))).trans hU
        refine hR (?_ : R (_, _, _, _, _, _))
        refine hR (c_get hOb rfl ?_)
        iterate 2 refine hR (?_ : R (_, _, _, _, _, _))
        refine hR (c_get hUb rfl ?_)
        refine hR (?_ : R (_, _, _, _, _, _))
        refine hR (c_rld hvb (by rw [u5]; rfl) (by rw [u5]; rfl) (by decide) (by omega) (by omega) (Nat.le_of_ble_eq_true rfl) fun oc hoc => ?_)
        refine hR (c_rso hvb (by rw [p5]; rfl) (by rw [p5]; rfl) rfl ⟨by rw [p5]; decide, by rw [p5]; decide⟩ (fun x hx => ⟨hoc x hx, by obtain ⟨_, hh, -⟩ := CI_o40 hvb (hoc x hx); exact ⟨_, hh⟩⟩) (by omega) (by omega) (Nat.le_of_ble_eq_true rfl) fun vc hvc fc => ?_)
        have Fc : FRP p w vc := FRP_st Fb fc (by omega)
        have hOc := (fc.2 p (by omega)).trans hOb
        have hUc := (Fc.2 o (hbl 0 (by omega))).trans hU
        refine hR (t_inc ?_)
        refine hR (?_ : R (_, _, _, _, _, _))
        exact ih (i + 1) _ (by omega) hvc Fc hOc (by omega)
  iterate 2 refine hR (?_ : R (_, _, _, _, _, _))
  exact loop 10 0 _ (by omega) hw5 F5 hO5 (by omega)
