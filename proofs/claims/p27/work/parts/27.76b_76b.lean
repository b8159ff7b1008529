/-! WHAT IS TOLD, COPIED: exact. -/
section XC
variable {R : zS → Prop} {np : Nat} {L : zL} {S : List Value} {w : zW} {k n : Nat}
theorem x_cpy {q0 q1 ti len : Nat} {mi : Int} {f g : Nat → Int32} (f1 : zix w q0 = some (.inl (ti, len, .inl f))) (g1 : zix w q1 = some (.inl (ti, len, .inl g))) (hti : Nat.ble ti 1 = true) (hmi : mi = len) (hn : len ≤ 60000) (hfit : ∀ j, j < len → fits (zaty ti) (.int (f j)) = true) (hk : ∀ w1, wfr q1 w w1 → zix w1 q1 = some (.inl (ti, len, .inl (va_cpy f g 0 0 len))) → R (np, L, S, w1, k, n)) : zai w q0 fun t0 n0 f => zai w q1 fun t1 n1 g => zif (Nat.beq t0 t1 && Nat.ble t0 1) (((¬ Int32.ofInt 0 < 0 ∧ ¬ Int32.ofInt 0 < 0 ∧ ¬ Int32.ofInt mi < 0) ∧ ((Int32.ofInt 0).toNatClampNeg + (Int32.ofInt mi).toNatClampNeg ≤ n0 ∧ (Int32.ofInt 0).toNatClampNeg + (Int32.ofInt mi).toNatClampNeg ≤ n1) ∧ ∀ j, j < (Int32.ofInt mi).toNatClampNeg → fits (zaty t0) (.int (f ((Int32.ofInt 0).toNatClampNeg + j))) = true) ∧ R (np, L, S, zst w q1 (.inl (t1, n1, .inl (va_cpy f g (Int32.ofInt 0).toNatClampNeg (Int32.ofInt 0).toNatClampNeg (Int32.ofInt mi).toNatClampNeg))), k, n)) := by
  subst hmi
  unfold zai
  rw [f1, g1]
  dsimp only
  rw [show Nat.beq ti ti = true from Nat.beq_refl ti, hti]
  have e0 : (Int32.ofInt 0).toNatClampNeg = 0 := by decide
  have em : (Int32.ofInt (len : Int)).toNatClampNeg = len := by rw [zcl (by omega) (by omega)]; omega
  have hlt : ¬ Int32.ofInt (len : Int) < 0 := by
    rw [Int32.lt_iff_toInt_lt, zti (by omega) (by omega)]
    show ¬ (len : Int) < 0
    omega
  show _ ∧ _
  rw [e0, em]
  refine ⟨⟨⟨by decide, by decide, hlt⟩, ⟨by omega, by omega⟩, fun j hj => by rw [Nat.zero_add]; exact hfit j hj⟩, ?_⟩
  obtain ⟨a, b⟩ := wfr_st (c' := .inl (ti, len, .inl (va_cpy f g 0 0 len))) g1
  exact hk _ a b
theorem x_rso {q ti len : Nat} {i : Int} {o : Option Nat} {g : Nat → Option Nat} (ht : (Nat.ble 3 ti && Nat.ble ti 8) = true) (hg : zix w q = some (rfa ti len g)) (ho : ∀ x, o = some x → ∃ fs, zix w x = some (.inr (zec ti, fs))) (h0 : 0 ≤ i) (h1 : i < len) (hl : len ≤ 60000) (hk : ∀ w1, wfr q w w1 → zix w1 q = some (rfa ti len (va_up g i.toNat o)) → R (np, L, S, w1, k, n)) : zaq w q (fun ti len g => zif (Nat.ble 3 ti && Nat.ble ti 8) (zrn2 (va_rf o) (fun q2 => zob w q2 (zec ti) fun _ => vp_in (Int32.ofInt i) len ∧ R (np, L, S, zst w q (.inl (ti, len, .inr (.inr (.inr (.inr (va_up g (Int32.ofInt i).toNatClampNeg (some q2))))))), k, n)) (vp_in (Int32.ofInt i) len ∧ R (np, L, S, zst w q (.inl (ti, len, .inr (.inr (.inr (.inr (va_up g (Int32.ofInt i).toNatClampNeg none)))))), k, n)))) := by
  unfold zaq
  rw [hg]
  dsimp only
  rw [ht]
  obtain ⟨f1, f2⟩ := wfr_st (c' := rfa ti len (va_up g i.toNat o)) hg
  cases o with
  | none =>
    show _ ∧ _
    refine ⟨zvin h0 h1 hl, ?_⟩
    rw [zcl h0 (by omega)]
    exact hk _ f1 f2
  | some x =>
    obtain ⟨fs, hO⟩ := ho x rfl
    show zob w x (zec ti) _
    refine c_obj hO ⟨zvin h0 h1 hl, ?_⟩
    rw [zcl h0 (by omega)]
    exact hk _ f1 f2
end XC
noncomputable abbrev tdP (p : Nat) (l f c : Int) : va_E := .inr (7, [.ref (p + 1), .int (Int32.ofInt l), .int (Int32.ofInt f), .int (Int32.ofInt c), .ref (p + 2), .ref (p + 3), .ref (p + 4), .ref (p + 5)])
/-- what is told lies at a place -/
noncomputable def TDC (w : zW) (p : Nat) (l f c : Int) (g cn : Nat → Int32) (bo ye si : Nat → Option Nat) : Prop := zix w p = some (tdP p l f c) ∧ zix w (p + 1) = some (.inl (0, 600, .inl g)) ∧ zix w (p + 2) = some (.inl (1, 3, .inl cn)) ∧ zix w (p + 3) = some (rfa 3 2 bo) ∧ zix w (p + 4) = some (rfa 4 2 ye) ∧ zix w (p + 5) = some (rfa 5 2 si)
theorem TDC_fr {w w' : zW} {p : Nat} {l f c : Int} {g cn : Nat → Int32} {bo ye si : Nat → Option Nat} (h : TDC w p l f c g cn bo ye si) (hf : ∀ j, j ≤ 5 → zix w' (p + j) = zix w (p + j)) : TDC w' p l f c g cn bo ye si := ⟨(hf 0 (by omega)).trans h.1, (hf 1 (by omega)).trans h.2.1, (hf 2 (by omega)).trans h.2.2.1, (hf 3 (by omega)).trans h.2.2.2.1, (hf 4 (by omega)).trans h.2.2.2.2.1, (hf 5 (by omega)).trans h.2.2.2.2.2⟩
theorem x_becomes {w : zW} (d p o : Nat) (l f c l' f' c' : Int) (g cn g' cn' : Nat → Int32) (bo ye si bo' ye' si' : Nat → Option Nat) (hP : TDC w p l f c g cn bo ye si) (hO : TDC w o l' f' c' g' cn' bo' ye' si') (hbl : ∀ j, j ≤ 5 → (o + j < p ∨ p + 5 < o + j)) (hB : ∀ j, j < 600 → -128 ≤ (g' j).toInt ∧ (g' j).toInt ≤ 127) (hb3 : ∀ j x, bo' j = some x → (x < p ∨ p + 5 < x) ∧ ∃ fs, zix w x = some (.inr (zec 3, fs))) (hb4 : ∀ j x, ye' j = some x → (x < p ∨ p + 5 < x) ∧ ∃ fs, zix w x = some (.inr (zec 4, fs))) (hb5 : ∀ j x, si' j = some x → (x < p ∨ p + 5 < x) ∧ ∃ fs, zix w x = some (.inr (zec 5, fs))) (Q : zQ) (h : ∀ (w' : zW) (gt ct : Nat → Int32) (bt yt it : Nat → Option Nat), FRP p w w' → TDC w' p l' f' c' gt ct bt yt it → (∀ j, j < 600 → gt j = g' j) → (∀ j, j < 3 → ct j = cn' j) → (∀ j, j < 2 → bt j = bo' j) → (∀ j, j < 2 → yt j = ye' j) → (∀ j, j < 2 → it j = si' j) → Q none w') : zCl zTab (d + 2) iX8_becomes [.ref p, .ref o] w 0 0 Q := by
  obtain ⟨p0, p1, p2, p3, p4, p5⟩ := hP
  obtain ⟨o0, o1, o2, o3, o4, o5⟩ := hO
  refine zCl_i (M := kX8_becomes) rfl (Nat.le_of_ble_eq_true rfl) fun R hR => ?_
  refine hR (?_ : R (_, _, _, _, _, _))
  refine hR (c_get o0 rfl ?_)
  iterate 2 refine hR (?_ : R (_, _, _, _, _, _))
  refine hR (c_get p0 rfl ?_)
  refine hR (?_ : R (_, _, _, _, _, _))
  refine hR (t_c 600 (by decide) ?_)
  refine hR (x_cpy o1 p1 rfl rfl (Nat.le_of_ble_eq_true rfl) (fun j hj => fit_b _ (hB j hj).1 (hB j hj).2) fun w1 f1 a1 => ?_)
  have F1 : FRP p w w1 := FRP_st ⟨rfl, fun _ _ => rfl⟩ f1 (by omega)
  have q0 := (f1.2 p (by omega)).trans p0
  iterate 2 refine hR (?_ : R (_, _, _, _, _, _))
  refine hR (c_get ((F1.2 o (hbl 0 (by omega))).trans o0) rfl ?_)
  refine hR (c_put q0 rfl rfl fun w2 f2 q2 => ?_)
  replace q2 : zix w2 p = some (tdP p l' f c) := q2
  have F2 : FRP p w w2 := FRP_st F1 f2 (by omega)
  iterate 2 refine hR (?_ : R (_, _, _, _, _, _))
  refine hR (c_get ((F2.2 o (hbl 0 (by omega))).trans o0) rfl ?_)
  refine hR (c_put q2 rfl rfl fun w3 f3 q3 => ?_)
  replace q3 : zix w3 p = some (tdP p l' f' c) := q3
  have F3 : FRP p w w3 := FRP_st F2 f3 (by omega)
  iterate 2 refine hR (?_ : R (_, _, _, _, _, _))
  refine hR (c_get ((F3.2 o (hbl 0 (by omega))).trans o0) rfl ?_)
  refine hR (c_put q3 rfl rfl fun w4 f4 q4 => ?_)
  replace q4 : zix w4 p = some (tdP p l' f' c') := q4
  have F4 : FRP p w w4 := FRP_st F3 f4 (by omega)
  have to4 : ∀ q, q ≠ p → zix w4 q = zix w1 q := fun q hq => (f4.2 q hq).trans ((f3.2 q hq).trans (f2.2 q hq))
  refine hR (?_ : R (_, _, _, _, _, _))
  refine hR (c_get ((F4.2 o (hbl 0 (by omega))).trans o0) rfl ?_)
  iterate 2 refine hR (?_ : R (_, _, _, _, _, _))
  refine hR (c_get q4 rfl ?_)
  iterate 2 refine hR (?_ : R (_, _, _, _, _, _))
  refine hR (x_cpy ((F4.2 (o + 2) (hbl 2 (by omega))).trans o2) ((to4 (p + 2) (by omega)).trans ((f1.2 (p + 2) (by omega)).trans p2)) rfl rfl (Nat.le_of_ble_eq_true rfl) (fun _ _ => rfl) fun w5 f5 a5 => ?_)
  have F5 : FRP p w w5 := FRP_st F4 f5 (by omega)
  have q5 := (f5.2 p (by omega)).trans q4
  have b5 : zix w5 (p + 1) = some (.inl (0, 600, .inl (va_cpy g' g 0 0 600))) := (f5.2 (p + 1) (by omega)).trans ((to4 (p + 1) (by omega)).trans a1)
  have lo5 : ∀ j, 3 ≤ j → j ≤ 5 → zix w5 (p + j) = zix w (p + j) := fun j h1 h2 => (f5.2 (p + j) (by omega)).trans ((to4 (p + j) (by omega)).trans (f1.2 (p + j) (by omega)))
  have loop : ∀ (N : Nat) (i : Int) (v : zW) (bt yt it : Nat → Option Nat), (0 ≤ i ∧ i ≤ 2) → FRP p w v → TDC v p l' f' c' (va_cpy g' g 0 0 600) (va_cpy cn' cn 0 0 3) bt yt it → (∀ j, j < i.toNat → bt j = bo' j) → (∀ j, j < i.toNat → yt j = ye' j) → (∀ j, j < i.toNat → it j = si' j) → 3 - i < N → R (56, [some (.ref p), some (.ref o), some (.int (Int32.ofInt i))], [], v, 0, 0) := by
    intro N
    induction N with
    | zero => intros; omega
    | succ N ih =>
      intro i v bt yt it hi Fv hv hbt hyt hit hN
      obtain ⟨v0, v1, v2, v3, v4, v5⟩ := id hv
      have oo := (Fv.2 o (hbl 0 (by omega))).trans o0
      iterate 2 refine hR (?_ : R (_, _, _, _, _, _))
      refine hR (j_ge (by omega) (by omega) (fun hc => ?_) (fun hc => ?_))
      · obtain rfl : i = 2 := by omega
        exact hR (zret_i rfl (Nat.le_refl _) rfl (h v _ _ bt yt it Fv hv (fun j hj => by rw [pk_cpy_in (by omega) (by omega)]; congr 1; omega) (fun j hj => by rw [pk_cpy_in (by omega) (by omega)]; congr 1; omega) hbt hyt hit))
      · refine hR (?_ : R (_, _, _, _, _, _))
        refine hR (c_get v0 rfl ?_)
        iterate 2 refine hR (?_ : R (_, _, _, _, _, _))
        refine hR (c_get oo rfl ?_)
        refine hR (?_ : R (_, _, _, _, _, _))
        refine hR (c_rldE ((Fv.2 (o + 3) (hbl 3 (by omega))).trans o3) rfl (by omega) (by omega) (Nat.le_of_ble_eq_true rfl) rfl ?_)
        refine hR (x_rso rfl v3 (fun x hx => by obtain ⟨e1, fs, e2⟩ := hb3 _ x hx; exact ⟨fs, (Fv.2 x e1).trans e2⟩) (by omega) (by omega) (Nat.le_of_ble_eq_true rfl) fun va fa ga => ?_)
        have Fa : FRP p w va := FRP_st Fv fa (by omega)
        have a0 := (fa.2 p (by omega)).trans v0
        have oa := (Fa.2 o (hbl 0 (by omega))).trans o0
        refine hR (?_ : R (_, _, _, _, _, _))
        refine hR (c_get a0 rfl ?_)
        iterate 2 refine hR (?_ : R (_, _, _, _, _, _))
        refine hR (c_get oa rfl ?_)
        refine hR (?_ : R (_, _, _, _, _, _))
        refine hR (c_rldE ((Fa.2 (o + 4) (hbl 4 (by omega))).trans o4) rfl (by omega) (by omega) (Nat.le_of_ble_eq_true rfl) rfl ?_)
        refine hR (x_rso rfl ((fa.2 (p + 4) (by omega)).trans v4) (fun x hx => by obtain ⟨e1, fs, e2⟩ := hb4 _ x hx; exact ⟨fs, (Fa.2 x e1).trans e2⟩) (by omega) (by omega) (Nat.le_of_ble_eq_true rfl) fun vb fb gb => ?_)
        have Fb : FRP p w vb := FRP_st Fa fb (by omega)
        have b0 := (fb.2 p (by omega)).trans a0
        have ob := (Fb.2 o (hbl 0 (by omega))).trans o0
        refine hR (?_ : R (_, _, _, _, _, _))
        refine hR (c_get b0 rfl ?_)
        iterate 2 refine hR (?_ : R (_, _, _, _, _, _))
        refine hR (c_get ob rfl ?_)
        refine hR (?_ : R (_, _, _, _, _, _))
        refine hR (c_rldE ((Fb.2 (o + 5) (hbl 5 (by omega))).trans o5) rfl (by omega) (by omega) (Nat.le_of_ble_eq_true rfl) rfl ?_)
        refine hR (x_rso rfl ((fb.2 (p + 5) (by omega)).trans ((fa.2 (p + 5) (by omega)).trans v5)) (fun x hx => by obtain ⟨e1, fs, e2⟩ := hb5 _ x hx; exact ⟨fs, (Fb.2 x e1).trans e2⟩) (by omega) (by omega) (Nat.le_of_ble_eq_true rfl) fun vc fc gc => ?_)
        have Fc : FRP p w vc := FRP_st Fb fc (by omega)
        have upx : ∀ (bt bo' : Nat → Option Nat), (∀ j, j < i.toNat → bt j = bo' j) → ∀ j, j < (i + 1).toNat → va_up bt i.toNat (bo' i.toNat) j = bo' j := by
          intro bt bo' hb j hj
          by_cases e : j = i.toNat
          · rw [e, up_s]
          · rw [up_n e]; exact hb j (by omega)
        refine hR (t_inc ?_)
        refine hR (?_ : R (_, _, _, _, _, _))
        exact ih (i + 1) vc _ _ _ (by omega) Fc ⟨(fc.2 p (by omega)).trans b0, (fc.2 (p + 1) (by omega)).trans ((fb.2 (p + 1) (by omega)).trans ((fa.2 (p + 1) (by omega)).trans v1)), (fc.2 (p + 2) (by omega)).trans ((fb.2 (p + 2) (by omega)).trans ((fa.2 (p + 2) (by omega)).trans v2)), (fc.2 (p + 3) (by omega)).trans ((fb.2 (p + 3) (by omega)).trans ga), (fc.2 (p + 4) (by omega)).trans gb, gc⟩ (upx _ _ hbt) (upx _ _ hyt) (upx _ _ hit) (by omega)
  iterate 2 refine hR (?_ : R (_, _, _, _, _, _))
  exact loop 10 0 w5 bo ye si (by omega) F5 ⟨q5, b5, a5, (lo5 3 (by omega) (by omega)).trans p3, (lo5 4 (by omega) (by omega)).trans p4, (lo5 5 (by omega) (by omega)).trans p5⟩ (fun j hj => by omega) (fun j hj => by omega) (fun j hj => by omega) (by omega)
theorem e_Book {w : zW} (d : Nat) (Q : zQ) (h : Q none (w ++ [.inr (0, [.int (Int32.ofInt 0), .int (Int32.ofInt 0), .int (Int32.ofInt (-1)), .ref (w.length + 1), .ref (w.length + 2), .ref (w.length + 3), .ref (w.length + 4)]), .inl (1, 4, .inl (upd (upd (upd (upd (fun _ => 0) 0 (Int32.ofInt 0)) 1 (Int32.ofInt 1)) 2 (Int32.ofInt 2)) 3 (Int32.ofInt 3))), .inl (1, 5, .inl fun _ => 0), .inl (1, 20, .inl fun _ => 0), .inl (1, 20, .inl fun _ => 0)])) : zCl zTab (d + 3) iX0_init [.ref w.length] (w ++ [.inr (0, zdf 0)]) 4 49 Q := by
  refine zCl_i (M := kX0_init) rfl (Nat.le_of_ble_eq_true rfl) fun R hR => ?_
  refine (?_ : R (_, _, _, w ++ [.inr (0, [.int 0, .int 0, .int 0, .null, .null, .null, .null])], 0, 0))
  refine hR (?_ : R (_, _, _, _, _, _))
  refine hR (zcall_i 0 0 (Nat.le_of_ble_eq_true rfl) (Nat.le_of_ble_eq_true rfl) (c_linesInit _ _ _ _ ?_))
  refine (?_ : R (_, _, [], w ++ [.inr (0, [.int 0, .int 0, .int 0, .null, .null, .null, .null])], 0, 0))
  refine hR (?_ : R (_, _, _, _, _, _))
  refine hR (?_ : R (_, _, _, _, _, _))
  refine hR (t_pa (j := 0) rfl rfl rfl ?_)
  refine (?_ : R (_, _, [], w ++ [.inr (0, [.int (Int32.ofInt 0), .int 0, .int 0, .null, .null, .null, .null])], 0, 0))
  refine hR (?_ : R (_, _, _, _, _, _))
  refine hR (?_ : R (_, _, _, _, _, _))
  refine hR (t_pa (j := 0) rfl rfl rfl ?_)
  refine (?_ : R (_, _, [], w ++ [.inr (0, [.int (Int32.ofInt 0), .int (Int32.ofInt 0), .int 0, .null, .null, .null, .null])], 0, 0))
  refine hR (?_ : R (_, _, _, _, _, _))
  refine hR (?_ : R (_, _, _, _, _, _))
  refine hR (t_pa (j := 0) rfl rfl rfl ?_)
  refine (?_ : R (_, _, [], w ++ [.inr (0, [.int (Int32.ofInt 0), .int (Int32.ofInt 0), .int (Int32.ofInt (-1)), .null, .null, .null, .null])], 0, 0))
  refine hR (?_ : R (_, _, _, _, _, _))
  refine hR (?_ : R (_, _, _, _, _, _))
  refine hR (t_na ?_)
  refine (?_ : R (_, _, .ref (w.length + 1) :: .ref w.length :: [], w ++ [.inr (0, [.int (Int32.ofInt 0), .int (Int32.ofInt 0), .int (Int32.ofInt (-1)), .null, .null, .null, .null]), .inl (1, 4, .inl fun _ => 0)], 1, 4))
  refine hR (?_ : R (_, _, _, _, _, _))
  refine hR (?_ : R (_, _, _, _, _, _))
  refine hR (?_ : R (_, _, _, _, _, _))
  refine hR (t_sa (j := 1) rfl (zvin (by omega) (by omega) (by omega)) ?_)
  refine (?_ : R (_, _, .ref (w.length + 1) :: .ref w.length :: [], w ++ [.inr (0, [.int (Int32.ofInt 0), .int (Int32.ofInt 0), .int (Int32.ofInt (-1)), .null, .null, .null, .null]), .inl (1, 4, .inl (upd (fun _ => 0) 0 (Int32.ofInt 0)))], 1, 4))
  refine hR (?_ : R (_, _, _, _, _, _))
  refine hR (?_ : R (_, _, _, _, _, _))
  refine hR (?_ : R (_, _, _, _, _, _))
  refine hR (t_sa (j := 1) rfl (zvin (by omega) (by omega) (by omega)) ?_)
  refine (?_ : R (_, _, .ref (w.length + 1) :: .ref w.length :: [], w ++ [.inr (0, [.int (Int32.ofInt 0), .int (Int32.ofInt 0), .int (Int32.ofInt (-1)), .null, .null, .null, .null]), .inl (1, 4, .inl (upd (upd (fun _ => 0) 0 (Int32.ofInt 0)) 1 (Int32.ofInt 1)))], 1, 4))
  refine hR (?_ : R (_, _, _, _, _, _))
  refine hR (?_ : R (_, _, _, _, _, _))
  refine hR (?_ : R (_, _, _, _, _, _))
  refine hR (t_sa (j := 1) rfl (zvin (by omega) (by omega) (by omega)) ?_)
  refine (?_ : R (_, _, .ref (w.length + 1) :: .ref w.length :: [], w ++ [.inr (0, [.int (Int32.ofInt 0), .int (Int32.ofInt 0), .int (Int32.ofInt (-1)), .null, .null, .null, .null]), .inl (1, 4, .inl (upd (upd (upd (fun _ => 0) 0 (Int32.ofInt 0)) 1 (Int32.ofInt 1)) 2 (Int32.ofInt 2)))], 1, 4))
  refine hR (?_ : R (_, _, _, _, _, _))
  refine hR (?_ : R (_, _, _, _, _, _))
  refine hR (?_ : R (_, _, _, _, _, _))
  refine hR (t_sa (j := 1) rfl (zvin (by omega) (by omega) (by omega)) ?_)
  refine (?_ : R (_, _, .ref (w.length + 1) :: .ref w.length :: [], w ++ [.inr (0, [.int (Int32.ofInt 0), .int (Int32.ofInt 0), .int (Int32.ofInt (-1)), .null, .null, .null, .null]), .inl (1, 4, .inl (upd (upd (upd (upd (fun _ => 0) 0 (Int32.ofInt 0)) 1 (Int32.ofInt 1)) 2 (Int32.ofInt 2)) 3 (Int32.ofInt 3)))], 1, 4))
  refine hR (t_pa (j := 0) rfl rfl rfl ?_)
  refine (?_ : R (_, _, [], w ++ [.inr (0, [.int (Int32.ofInt 0), .int (Int32.ofInt 0), .int (Int32.ofInt (-1)), .ref (w.length + 1), .null, .null, .null]), .inl (1, 4, .inl (upd (upd (upd (upd (fun _ => 0) 0 (Int32.ofInt 0)) 1 (Int32.ofInt 1)) 2 (Int32.ofInt 2)) 3 (Int32.ofInt 3)))], 1, 4))
  refine hR (?_ : R (_, _, _, _, _, _))
  refine hR (?_ : R (_, _, _, _, _, _))
  refine hR (t_na ?_)
  refine (?_ : R (_, _, .ref (w.length + 2) :: .ref w.length :: [], w ++ [.inr (0, [.int (Int32.ofInt 0), .int (Int32.ofInt 0), .int (Int32.ofInt (-1)), .ref (w.length + 1), .null, .null, .null]), .inl (1, 4, .inl (upd (upd (upd (upd (fun _ => 0) 0 (Int32.ofInt 0)) 1 (Int32.ofInt 1)) 2 (Int32.ofInt 2)) 3 (Int32.ofInt 3))), .inl (1, 5, .inl fun _ => 0)], 2, 9))
  refine hR (t_pa (j := 0) rfl rfl rfl ?_)
  refine (?_ : R (_, _, [], w ++ [.inr (0, [.int (Int32.ofInt 0), .int (Int32.ofInt 0), .int (Int32.ofInt (-1)), .ref (w.length + 1), .ref (w.length + 2), .null, .null]), .inl (1, 4, .inl (upd (upd (upd (upd (fun _ => 0) 0 (Int32.ofInt 0)) 1 (Int32.ofInt 1)) 2 (Int32.ofInt 2)) 3 (Int32.ofInt 3))), .inl (1, 5, .inl fun _ => 0)], 2, 9))
  refine hR (?_ : R (_, _, _, _, _, _))
  refine hR (t_c 20 (by decide) ?_)
  refine hR (t_na ?_)
  refine (?_ : R (_, _, .ref (w.length + 3) :: .ref w.length :: [], w ++ [.inr (0, [.int (Int32.ofInt 0), .int (Int32.ofInt 0), .int (Int32.ofInt (-1)), .ref (w.length + 1), .ref (w.length + 2), .null, .null]), .inl (1, 4, .inl (upd (upd (upd (upd (fun _ => 0) 0 (Int32.ofInt 0)) 1 (Int32.ofInt 1)) 2 (Int32.ofInt 2)) 3 (Int32.ofInt 3))), .inl (1, 5, .inl fun _ => 0), .inl (1, 20, .inl fun _ => 0)], 3, 29))
  refine hR (t_pa (j := 0) rfl rfl rfl ?_)
  refine (?_ : R (_, _, [], w ++ [.inr (0, [.int (Int32.ofInt 0), .int (Int32.ofInt 0), .int (Int32.ofInt (-1)), .ref (w.length + 1), .ref (w.length + 2), .ref (w.length + 3), .null]), .inl (1, 4, .inl (upd (upd (upd (upd (fun _ => 0) 0 (Int32.ofInt 0)) 1 (Int32.ofInt 1)) 2 (Int32.ofInt 2)) 3 (Int32.ofInt 3))), .inl (1, 5, .inl fun _ => 0), .inl (1, 20, .inl fun _ => 0)], 3, 29))
  refine hR (?_ : R (_, _, _, _, _, _))
  refine hR (t_c 20 (by decide) ?_)
  refine hR (t_na ?_)
  refine (?_ : R (_, _, .ref (w.length + 4) :: .ref w.length :: [], w ++ [.inr (0, [.int (Int32.ofInt 0), .int (Int32.ofInt 0), .int (Int32.ofInt (-1)), .ref (w.length + 1), .ref (w.length + 2), .ref (w.length + 3), .null]), .inl (1, 4, .inl (upd (upd (upd (upd (fun _ => 0) 0 (Int32.ofInt 0)) 1 (Int32.ofInt 1)) 2 (Int32.ofInt 2)) 3 (Int32.ofInt 3))), .inl (1, 5, .inl fun _ => 0), .inl (1, 20, .inl fun _ => 0), .inl (1, 20, .inl fun _ => 0)], 4, 49))
  refine hR (t_pa (j := 0) rfl rfl rfl ?_)
  refine (?_ : R (_, _, [], w ++ [.inr (0, [.int (Int32.ofInt 0), .int (Int32.ofInt 0), .int (Int32.ofInt (-1)), .ref (w.length + 1), .ref (w.length + 2), .ref (w.length + 3), .ref (w.length + 4)]), .inl (1, 4, .inl (upd (upd (upd (upd (fun _ => 0) 0 (Int32.ofInt 0)) 1 (Int32.ofInt 1)) 2 (Int32.ofInt 2)) 3 (Int32.ofInt 3))), .inl (1, 5, .inl fun _ => 0), .inl (1, 20, .inl fun _ => 0), .inl (1, 20, .inl fun _ => 0)], 4, 49))
  exact hR (zret_i rfl (Nat.le_refl _) rfl h)
theorem e_Year {w : zW} (d : Nat) (Q : zQ) (h : Q none (w ++ [.inr (9, [.int (Int32.ofInt 0), .ref (w.length + 1), .ref (w.length + 2), .ref (w.length + 3)]), .inl (1, 40, .inl fun _ => 0), .inl (1, 40, .inl fun _ => 0), .inl (1, 40, .inl fun _ => 0)])) : zCl zTab (d + 3) iX10_init [.ref w.length] (w ++ [.inr (9, zdf 9)]) 3 120 Q := by
  refine zCl_i (M := kX10_init) rfl (Nat.le_of_ble_eq_true rfl) fun R hR => ?_
  refine (?_ : R (_, _, _, w ++ [.inr (9, [.int 0, .null, .null, .null])], 0, 0))
  refine hR (?_ : R (_, _, _, _, _, _))
  refine hR (zcall_i 0 0 (Nat.le_of_ble_eq_true rfl) (Nat.le_of_ble_eq_true rfl) (c_linesInit _ _ _ _ ?_))
  refine (?_ : R (_, _, [], w ++ [.inr (9, [.int 0, .null, .null, .null])], 0, 0))
  refine hR (?_ : R (_, _, _, _, _, _))
  refine hR (?_ : R (_, _, _, _, _, _))
  refine hR (t_pa (j := 0) rfl rfl rfl ?_)
  refine (?_ : R (_, _, [], w ++ [.inr (9, [.int (Int32.ofInt 0), .null, .null, .null])], 0, 0))
  refine hR (?_ : R (_, _, _, _, _, _))
  refine hR (t_c 40 (by decide) ?_)
  refine hR (t_na ?_)
  refine (?_ : R (_, _, .ref (w.length + 1) :: .ref w.length :: [], w ++ [.inr (9, [.int (Int32.ofInt 0), .null, .null, .null]), .inl (1, 40, .inl fun _ => 0)], 1, 40))
  refine hR (t_pa (j := 0) rfl rfl rfl ?_)
  refine (?_ : R (_, _, [], w ++ [.inr (9, [.int (Int32.ofInt 0), .ref (w.length + 1), .null, .null]), .inl (1, 40, .inl fun _ => 0)], 1, 40))
  refine hR (?_ : R (_, _, _, _, _, _))
  refine hR (t_c 40 (by decide) ?_)
  refine hR (t_na ?_)
  refine (?_ : R (_, _, .ref (w.length + 2) :: .ref w.length :: [], w ++ [.inr (9, [.int (Int32.ofInt 0), .ref (w.length + 1), .null, .null]), .inl (1, 40, .inl fun _ => 0), .inl (1, 40, .inl fun _ => 0)], 2, 80))
  refine hR (t_pa (j := 0) rfl rfl rfl ?_)
  refine (?_ : R (_, _, [], w ++ [.inr (9, [.int (Int32.ofInt 0), .ref (w.length + 1), .ref (w.length + 2), .null]), .inl (1, 40, .inl fun _ => 0), .inl (1, 40, .inl fun _ => 0)], 2, 80))
  refine hR (?_ : R (_, _, _, _, _, _))
  refine hR (t_c 40 (by decide) ?_)
  refine hR (t_na ?_)
  refine (?_ : R (_, _, .ref (w.length + 3) :: .ref w.length :: [], w ++ [.inr (9, [.int (Int32.ofInt 0), .ref (w.length + 1), .ref (w.length + 2), .null]), .inl (1, 40, .inl fun _ => 0), .inl (1, 40, .inl fun _ => 0), .inl (1, 40, .inl fun _ => 0)], 3, 120))
  refine hR (t_pa (j := 0) rfl rfl rfl ?_)
  refine (?_ : R (_, _, [], w ++ [.inr (9, [.int (Int32.ofInt 0), .ref (w.length + 1), .ref (w.length + 2), .ref (w.length + 3)]), .inl (1, 40, .inl fun _ => 0), .inl (1, 40, .inl fun _ => 0), .inl (1, 40, .inl fun _ => 0)], 3, 120))
  exact hR (zret_i rfl (Nat.le_refl _) rfl h)
theorem e_Sight {w : zW} (d : Nat) (Q : zQ) (h : Q none (w ++ [.inr (5, [.int (Int32.ofInt 0), .ref (w.length + 1), .ref (w.length + 2)]), .inl (1, 6, .inl fun _ => 0), .inl (1, 6, .inl fun _ => 0)])) : zCl zTab (d + 3) iX6_init [.ref w.length] (w ++ [.inr (5, zdf 5)]) 2 12 Q := by
  refine zCl_i (M := kX6_init) rfl (Nat.le_of_ble_eq_true rfl) fun R hR => ?_
  refine (?_ : R (_, _, _, w ++ [.inr (5, [.int 0, .null, .null])], 0, 0))
  refine hR (?_ : R (_, _, _, _, _, _))
  refine hR (zcall_i 0 0 (Nat.le_of_ble_eq_true rfl) (Nat.le_of_ble_eq_true rfl) (c_linesInit _ _ _ _ ?_))
  refine (?_ : R (_, _, [], w ++ [.inr (5, [.int 0, .null, .null])], 0, 0))
  refine hR (?_ : R (_, _, _, _, _, _))
  refine hR (?_ : R (_, _, _, _, _, _))
  refine hR (t_pa (j := 0) rfl rfl rfl ?_)
  refine (?_ : R (_, _, [], w ++ [.inr (5, [.int (Int32.ofInt 0), .null, .null])], 0, 0))
  refine hR (?_ : R (_, _, _, _, _, _))
  refine hR (t_c 6 (by decide) ?_)
  refine hR (t_na ?_)
  refine (?_ : R (_, _, .ref (w.length + 1) :: .ref w.length :: [], w ++ [.inr (5, [.int (Int32.ofInt 0), .null, .null]), .inl (1, 6, .inl fun _ => 0)], 1, 6))
  refine hR (t_pa (j := 0) rfl rfl rfl ?_)
  refine (?_ : R (_, _, [], w ++ [.inr (5, [.int (Int32.ofInt 0), .ref (w.length + 1), .null]), .inl (1, 6, .inl fun _ => 0)], 1, 6))
  refine hR (?_ : R (_, _, _, _, _, _))
  refine hR (t_c 6 (by decide) ?_)
  refine hR (t_na ?_)
  refine (?_ : R (_, _, .ref (w.length + 2) :: .ref w.length :: [], w ++ [.inr (5, [.int (Int32.ofInt 0), .ref (w.length + 1), .null]), .inl (1, 6, .inl fun _ => 0), .inl (1, 6, .inl fun _ => 0)], 2, 12))
  refine hR (t_pa (j := 0) rfl rfl rfl ?_)
  refine (?_ : R (_, _, [], w ++ [.inr (5, [.int (Int32.ofInt 0), .ref (w.length + 1), .ref (w.length + 2)]), .inl (1, 6, .inl fun _ => 0), .inl (1, 6, .inl fun _ => 0)], 2, 12))
  exact hR (zret_i rfl (Nat.le_refl _) rfl h)
theorem e_Told {w : zW} (d : Nat) (Q : zQ) (h : Q none (w ++ [.inr (7, [.ref (w.length + 1), .int (Int32.ofInt 0), .int (Int32.ofInt 0), .int (Int32.ofInt (-1)), .ref (w.length + 2), .ref (w.length + 3), .ref (w.length + 4), .ref (w.length + 5)]), .inl (0, 600, .inl fun _ => 0), .inl (1, 3, .inl fun _ => 0), .inl (3, 2, .inr (.inr (.inr (.inr fun _ => none)))), .inl (4, 2, .inr (.inr (.inr (.inr fun _ => none)))), .inl (5, 2, .inr (.inr (.inr (.inr fun _ => none))))])) : zCl zTab (d + 2) iX8_init [.ref w.length] (w ++ [.inr (7, zdf 7)]) 5 609 Q := by
  refine zCl_i (M := kX8_init) rfl (Nat.le_of_ble_eq_true rfl) fun R hR => ?_
  refine (?_ : R (_, _, _, w ++ [.inr (7, [.null, .int 0, .int 0, .int 0, .null, .null, .null, .null])], 0, 0))
  refine hR (?_ : R (_, _, _, _, _, _))
  refine hR (?_ : R (_, _, _, _, _, _))
  refine hR (?_ : R (_, _, _, _, _, _))
  refine hR (t_c 600 (by decide) ?_)
  refine hR (t_na ?_)
  refine (?_ : R (_, _, .ref (w.length + 1) :: .ref w.length :: [], w ++ [.inr (7, [.null, .int 0, .int 0, .int 0, .null, .null, .null, .null]), .inl (0, 600, .inl fun _ => 0)], 1, 600))
  refine hR (t_pa (j := 0) rfl rfl rfl ?_)
  refine (?_ : R (_, _, [], w ++ [.inr (7, [.ref (w.length + 1), .int 0, .int 0, .int 0, .null, .null, .null, .null]), .inl (0, 600, .inl fun _ => 0)], 1, 600))
  refine hR (?_ : R (_, _, _, _, _, _))
  refine hR (?_ : R (_, _, _, _, _, _))
  refine hR (t_pa (j := 0) rfl rfl rfl ?_)
  refine (?_ : R (_, _, [], w ++ [.inr (7, [.ref (w.length + 1), .int (Int32.ofInt 0), .int 0, .int 0, .null, .null, .null, .null]), .inl (0, 600, .inl fun _ => 0)], 1, 600))
  refine hR (?_ : R (_, _, _, _, _, _))
  refine hR (?_ : R (_, _, _, _, _, _))
  refine hR (t_pa (j := 0) rfl rfl rfl ?_)
  refine (?_ : R (_, _, [], w ++ [.inr (7, [.ref (w.length + 1), .int (Int32.ofInt 0), .int (Int32.ofInt 0), .int 0, .null, .null, .null, .null]), .inl (0, 600, .inl fun _ => 0)], 1, 600))
  refine hR (?_ : R (_, _, _, _, _, _))
  refine hR (?_ : R (_, _, _, _, _, _))
  refine hR (t_pa (j := 0) rfl rfl rfl ?_)
  refine (?_ : R (_, _, [], w ++ [.inr (7, [.ref (w.length + 1), .int (Int32.ofInt 0), .int (Int32.ofInt 0), .int (Int32.ofInt (-1)), .null, .null, .null, .null]), .inl (0, 600, .inl fun _ => 0)], 1, 600))
  refine hR (?_ : R (_, _, _, _, _, _))
  refine hR (?_ : R (_, _, _, _, _, _))
  refine hR (t_na ?_)
  refine (?_ : R (_, _, .ref (w.length + 2) :: .ref w.length :: [], w ++ [.inr (7, [.ref (w.length + 1), .int (Int32.ofInt 0), .int (Int32.ofInt 0), .int (Int32.ofInt (-1)), .null, .null, .null, .null]), .inl (0, 600, .inl fun _ => 0), .inl (1, 3, .inl fun _ => 0)], 2, 603))
  refine hR (t_pa (j := 0) rfl rfl rfl ?_)
  refine (?_ : R (_, _, [], w ++ [.inr (7, [.ref (w.length + 1), .int (Int32.ofInt 0), .int (Int32.ofInt 0), .int (Int32.ofInt (-1)), .ref (w.length + 2), .null, .null, .null]), .inl (0, 600, .inl fun _ => 0), .inl (1, 3, .inl fun _ => 0)], 2, 603))
  refine hR (?_ : R (_, _, _, _, _, _))
  refine hR (?_ : R (_, _, _, _, _, _))
  refine hR (t_na ?_)
  refine (?_ : R (_, _, .ref (w.length + 3) :: .ref w.length :: [], w ++ [.inr (7, [.ref (w.length + 1), .int (Int32.ofInt 0), .int (Int32.ofInt 0), .int (Int32.ofInt (-1)), .ref (w.length + 2), .null, .null, .null]), .inl (0, 600, .inl fun _ => 0), .inl (1, 3, .inl fun _ => 0), .inl (3, 2, .inr (.inr (.inr (.inr fun _ => none))))], 3, 605))
  refine hR (t_pa (j := 0) rfl rfl rfl ?_)
  refine (?_ : R (_, _, [], w ++ [.inr (7, [.ref (w.length + 1), .int (Int32.ofInt 0), .int (Int32.ofInt 0), .int (Int32.ofInt (-1)), .ref (w.length + 2), .ref (w.length + 3), .null, .null]), .inl (0, 600, .inl fun _ => 0), .inl (1, 3, .inl fun _ => 0), .inl (3, 2, .inr (.inr (.inr (.inr fun _ => none))))], 3, 605))
  refine hR (?_ : R (_, _, _, _, _, _))
  refine hR (?_ : R (_, _, _, _, _, _))
  refine hR (t_na ?_)
  refine (?_ : R (_, _, .ref (w.length + 4) :: .ref w.length :: [], w ++ [.inr (7, [.ref (w.length + 1), .int (Int32.ofInt 0), .int (Int32.ofInt 0), .int (Int32.ofInt (-1)), .ref (w.length + 2), .ref (w.length + 3), .null, .null]), .inl (0, 600, .inl fun _ => 0), .inl (1, 3, .inl fun _ => 0), .inl (3, 2, .inr (.inr (.inr (.inr fun _ => none)))), .inl (4, 2, .inr (.inr (.inr (.inr fun _ => none))))], 4, 607))
  refine hR (t_pa (j := 0) rfl rfl rfl ?_)
  refine (?_ : R (_, _, [], w ++ [.inr (7, [.ref (w.length + 1), .int (Int32.ofInt 0), .int (Int32.ofInt 0), .int (Int32.ofInt (-1)), .ref (w.length + 2), .ref (w.length + 3), .ref (w.length + 4), .null]), .inl (0, 600, .inl fun _ => 0), .inl (1, 3, .inl fun _ => 0), .inl (3, 2, .inr (.inr (.inr (.inr fun _ => none)))), .inl (4, 2, .inr (.inr (.inr (.inr fun _ => none))))], 4, 607))
  refine hR (?_ : R (_, _, _, _, _, _))
  refine hR (?_ : R (_, _, _, _, _, _))
  refine hR (t_na ?_)
  refine (?_ : R (_, _, .ref (w.length + 5) :: .ref w.length :: [], w ++ [.inr (7, [.ref (w.length + 1), .int (Int32.ofInt 0), .int (Int32.ofInt 0), .int (Int32.ofInt (-1)), .ref (w.length + 2), .ref (w.length + 3), .ref (w.length + 4), .null]), .inl (0, 600, .inl fun _ => 0), .inl (1, 3, .inl fun _ => 0), .inl (3, 2, .inr (.inr (.inr (.inr fun _ => none)))), .inl (4, 2, .inr (.inr (.inr (.inr fun _ => none)))), .inl (5, 2, .inr (.inr (.inr (.inr fun _ => none))))], 5, 609))
  refine hR (t_pa (j := 0) rfl rfl rfl ?_)
  refine (?_ : R (_, _, [], w ++ [.inr (7, [.ref (w.length + 1), .int (Int32.ofInt 0), .int (Int32.ofInt 0), .int (Int32.ofInt (-1)), .ref (w.length + 2), .ref (w.length + 3), .ref (w.length + 4), .ref (w.length + 5)]), .inl (0, 600, .inl fun _ => 0), .inl (1, 3, .inl fun _ => 0), .inl (3, 2, .inr (.inr (.inr (.inr fun _ => none)))), .inl (4, 2, .inr (.inr (.inr (.inr fun _ => none)))), .inl (5, 2, .inr (.inr (.inr (.inr fun _ => none))))], 5, 609))
  exact hR (zret_i rfl (Nat.le_refl _) rfl h)
