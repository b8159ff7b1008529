/-! A WALK: the ways back that it keeps. -/
def wkO (p : Nat) (sz : Int) : va_E := .inr (8, [.int (Int32.ofInt sz), .ref (p + 1), .ref (p + 2), .ref (p + 3), .ref (p + 4)])
def wkG (w : zW) (p : Nat) (sz : Int) (gn : Nat → Int32) : Prop := (0 ≤ sz ∧ sz ≤ 5461) ∧ zix w p = some (wkO p sz) ∧ zix w (p + 2) = some (.inl (1, 5461, .inl gn))
def wkI (sz : Int) (gq gn gb : Nat → Int32) : Prop := (∀ t : Nat, t < 5461 → (gn t).toInt ≠ -1 → ∃ i : Nat, (i : Int) < sz ∧ (gq i).toInt = t) ∧ (∀ t : Nat, t < 5461 → 1 ≤ (gn t).toInt → (0 ≤ (gb t).toInt ∧ (gb t).toInt ≤ 5460) ∧ (gn (gb t).toInt.toNat).toInt = (gn t).toInt - 1) ∧ (∀ t : Nat, t < 5461 → -1 ≤ (gn t).toInt ∧ (gn t).toInt ≤ sz - 1)
def WK (w : zW) (p : Nat) : Prop := ∃ (sz : Int) (gq gn gb : Nat → Int32), wkG w p sz gn ∧ zix w (p + 1) = some (.inl (1, 5461, .inl gq)) ∧ zix w (p + 3) = some (.inl (1, 5461, .inl gb)) ∧ wkI sz gq gn gb
theorem WK_fr {rs : List Nat} {ρ : Nat → Nat} {w w1 : zW} {p : Nat} (g : wfR rs ρ w w1) (h0 : ρ p ∉ rs) (h1 : ρ (p + 1) ∉ rs) (h2 : ρ (p + 2) ∉ rs) (h3 : ρ (p + 3) ∉ rs) (h : WK w p) : WK w1 p := by
  obtain ⟨sz, gq, gn, gb, ⟨a, b, c⟩, d, e, f⟩ := h
  exact ⟨sz, gq, gn, gb, ⟨a, (g.2 _ h0).trans b, (g.2 _ h2).trans c⟩, (g.2 _ h1).trans d, (g.2 _ h3).trans e, f⟩
theorem wkG_u {w : zW} {p : Nat} {sz sz2 : Int} {gn gn2 : Nat → Int32} (h : wkG w p sz gn) (h2 : wkG w p sz2 gn2) : sz = sz2 ∧ gn = gn2 := by
  obtain ⟨a, b, c⟩ := h
  obtain ⟨a2, b2, c2⟩ := h2
  rw [b] at b2
  rw [c] at c2
  refine ⟨?_, by cases c2; rfl⟩
  have e : Int32.ofInt sz = Int32.ofInt sz2 := by
    unfold wkO at b2
    injection b2 with e1
    injection e1 with e2
    injection e2 with _ e3
    injection e3 with e4
    injection e4
  exact (zeq_o ⟨by omega, by omega⟩ ⟨by omega, by omega⟩).mp e
theorem wk_req {w : zW} {p : Nat} {sz v t : Int} {gn g : Nat → Int32} (hk : WK w p) (hG : wkG w p sz gn) (hg : zix w (p + 2) = some (.inl (1, 5461, .inl g))) (ht : 0 ≤ t ∧ t ≤ 5460) (e : v = (g t.toNat).toInt) : 0 ≤ v + 1 ∧ v + 1 ≤ sz ∧ (1 ≤ v + 1 → 0 ≤ t ∧ t ≤ 5460 ∧ (gn t.toNat).toInt = v + 1 - 1) := by
  obtain ⟨sz2, gq, gn2, gb, hG2, _, _, _, _, hC⟩ := hk
  obtain ⟨rfl, rfl⟩ := wkG_u hG hG2
  have e2 := hG.2.2
  rw [hg] at e2
  cases e2
  have := hC t.toNat (by omega)
  exact ⟨by omega, by omega, fun _ => ⟨by omega, by omega, by omega⟩⟩
theorem wk_add {sz a1 a2 a3 : Int} {gq gn gb : Nat → Int32} (h : wkI sz gq gn gb) (hs : 0 ≤ sz ∧ sz < 5461) (h1 : 0 ≤ a1 ∧ a1 ≤ 5460) (hf : (gn a1.toNat).toInt = -1) (h2 : 0 ≤ a2 ∧ a2 ≤ sz) (h3 : 1 ≤ a2 → 0 ≤ a3 ∧ a3 ≤ 5460 ∧ (gn a3.toNat).toInt = a2 - 1) : wkI (sz + 1) (upd gq sz.toNat (Int32.ofInt a1)) (upd gn a1.toNat (Int32.ofInt a2)) (upd gb a1.toNat (Int32.ofInt a3)) := by
  obtain ⟨hA, hB, hC⟩ := h
  refine ⟨fun t ht hn => ?_, fun t ht hn => ?_, fun t ht => ?_⟩
  · by_cases c : t = a1.toNat
    · refine ⟨sz.toNat, by omega, ?_⟩
      rw [pk_us, zti (by omega) (by omega)]
      omega
    · rw [pk_un c] at hn
      obtain ⟨i, hi, e⟩ := hA t ht hn
      refine ⟨i, by omega, ?_⟩
      rw [pk_un (by omega)]
      exact e
  · by_cases c : t = a1.toNat
    · subst c
      rw [pk_us, zti (by omega) (by omega)] at hn
      obtain ⟨b1, b2, b3⟩ := h3 hn
      rw [pk_us, pk_us, zti (by omega) (by omega), zti (by omega) (by omega)]
      refine ⟨⟨b1, b2⟩, ?_⟩
      rw [pk_un (fun e => by rw [e] at b3; omega)]
      exact b3
    · rw [pk_un c] at hn
      obtain ⟨b1, b2⟩ := hB t ht hn
      rw [pk_un c, pk_un c]
      refine ⟨b1, ?_⟩
      rw [pk_un (fun e => by rw [e] at b2; omega)]
      exact b2
  · by_cases c : t = a1.toNat
    · subst c
      rw [pk_us, zti (by omega) (by omega)]
      omega
    · rw [pk_un c]
      have := hC t ht
      omega
theorem c_comeTo {ρ : Nat → Nat} {w : zW} (d p : Nat) (a1 a2 a3 a4 : Int) (hw : CI ρ w) (hρp : ρ p = 60) (hr0 : WK w p) (hr1 : 0 ≤ a1 ∧ a1 ≤ 5460) (hr2 : ∀ sz gn, wkG w p sz gn → 0 ≤ a2 ∧ a2 ≤ sz ∧ (1 ≤ a2 → 0 ≤ a3 ∧ a3 ≤ 5460 ∧ (gn a3.toNat).toInt = a2 - 1)) (hr3 : -2147483648 ≤ a3 ∧ a3 ≤ 2147483647) (hr4 : -2147483648 ≤ a4 ∧ a4 ≤ 2147483647) (Q : zQ) (h : ∀ (w' : zW), CI ρ w' → wfR [60, 61, 62, 63, 64] ρ w w' → (WK w' p) → Q none w') : zCl zTab (d + 1) iX9_comeTo [.ref p, .int (Int32.ofInt a1), .int (Int32.ofInt a2), .int (Int32.ofInt a3), .int (Int32.ofInt a4)] w 0 0 Q := by
  obtain ⟨_, _, _, e61, e62, e63, e64⟩ := CI_o60 hw hρp
  have hr0' := hr0
  obtain ⟨sz, gq, gn, gb, hG, kq, kb, hI⟩ := hr0
  obtain ⟨q1, q2, q3⟩ := hr2 sz gn hG
  obtain ⟨ks, kO, kn⟩ := hG
  unfold wkO at kO
  obtain ⟨gq', kq', bq⟩ := CI_ar hw (q := p + 1) (by rw [e61]; rfl)
  rw [kq] at kq'
  cases kq'
  obtain ⟨gn', kn', bn⟩ := CI_ar hw (q := p + 2) (by rw [e62]; rfl)
  rw [kn] at kn'
  cases kn'
  obtain ⟨gb', kb', bb⟩ := CI_ar hw (q := p + 3) (by rw [e63]; rfl)
  rw [kb] at kb'
  cases kb'
  refine zCl_i (M := kX9_comeTo) rfl (Nat.le_of_ble_eq_true rfl) fun R hR => ?_
  have out : ∀ w1, CI ρ w1 → wfR [60, 61, 62, 63, 64] ρ w w1 → WK w1 p → R (62, [some (.ref p), some (.int (Int32.ofInt a1)), some (.int (Int32.ofInt a2)), some (.int (Int32.ofInt a3)), some (.int (Int32.ofInt a4))], [], w1, 0, 0) := fun w1 x1 x2 x3 => hR (zret_i rfl (Nat.le_refl _) rfl (h w1 x1 x2 x3))
  refine hR (?_ : R (_, _, _, _, _, _))
  refine hR (c_get kO rfl ?_)
  refine hR (?_ : R (_, _, _, _, _, _))
  refine hR (c_aldE kn (by omega) (by omega) (by omega) fun v ev hv => ?_)
  refine hR (?_ : R (_, _, _, _, _, _))
  refine hR (j_ne (by omega) (by omega) (fun _ => out w hw (wfR_rf _ _ _) hr0') (fun hc => ?_))
  refine hR (?_ : R (_, _, _, _, _, _))
  refine hR (c_get kO rfl ?_)
  refine hR (t_c 5461 (by decide) ?_)
  refine hR (j_ge (by omega) (by omega) (fun _ => out w hw (wfR_rf _ _ _) hr0') (fun hs => ?_))
  have n1 : p + 2 ≠ p := by omega
  refine hR (?_ : R (_, _, _, _, _, _))
  refine hR (c_get kO rfl ?_)
  iterate 2 refine hR (?_ : R (_, _, _, _, _, _))
  refine hR (c_astE hw kn bn (by rw [e62]; rfl) ⟨by rw [e62]; decide, by rw [e62]; decide⟩ (by omega) (by omega) (by omega) (by omega) (by omega) fun w1 hw1 f1 kn1 bn1 => ?_)
  have kO1 := (f1.2 p (by omega)).trans kO
  refine hR (?_ : R (_, _, _, _, _, _))
  refine hR (c_get kO1 rfl ?_)
  iterate 2 refine hR (?_ : R (_, _, _, _, _, _))
  refine hR (c_astE hw1 ((f1.2 (p + 3) (by omega)).trans kb) bb (by rw [e63]; rfl) ⟨by rw [e63]; decide, by rw [e63]; decide⟩ (by omega) (by omega) (by omega) (by omega) (by omega) fun w2 hw2 f2 kb2 bb2 => ?_)
  have kO2 := (f2.2 p (by omega)).trans kO1
  refine hR (?_ : R (_, _, _, _, _, _))
  refine hR (c_get kO2 rfl ?_)
  iterate 2 refine hR (?_ : R (_, _, _, _, _, _))
  refine hR (c_astx hw2 (by rw [e64]; rfl) ⟨by rw [e64]; decide, by rw [e64]; decide⟩ (by omega) (by omega) (by omega) fun w3 hw3 f3 => ?_)
  have kO3 := (f3.2 p (by omega)).trans kO2
  refine hR (?_ : R (_, _, _, _, _, _))
  refine hR (c_get kO3 rfl ?_)
  refine hR (?_ : R (_, _, _, _, _, _))
  refine hR (c_get kO3 rfl ?_)
  refine hR (?_ : R (_, _, _, _, _, _))
  refine hR (c_astE hw3 ((f3.2 (p + 1) (by omega)).trans ((f2.2 (p + 1) (by omega)).trans ((f1.2 (p + 1) (by omega)).trans kq))) bq (by rw [e61]; rfl) ⟨by rw [e61]; decide, by rw [e61]; decide⟩ (by omega) (by omega) (by omega) (by omega) (by omega) fun w4 hw4 f4 kq4 bq4 => ?_)
  have kO4 := (f4.2 p (by omega)).trans kO3
  iterate 2 refine hR (?_ : R (_, _, _, _, _, _))
  refine hR (c_get kO4 rfl ?_)
  refine hR (?_ : R (_, _, _, _, _, _))
  refine hR (t_add ?_)
  refine hR (c_put kO4 rfl rfl fun w5 f5 kO5 => ?_)
  have hw5 := CI_w60 hw4 hρp f5 kO5 ⟨⟨by omega, by omega⟩, e61, e62, e63, e64⟩
  have fr := wfR_st (wfR_st (wfR_st (wfR_st (wfR_st (wfR_rf [60, 61, 62, 63, 64] ρ w) f1 (by rw [e62]; decide)) f2 (by rw [e63]; decide)) f3 (by rw [e64]; decide)) f4 (by rw [e61]; decide)) f5 (by rw [hρp]; decide)
  refine out w5 hw5 fr ⟨sz + 1, _, _, _, ⟨⟨by omega, by omega⟩, kO5, (f5.2 (p + 2) (by omega)).trans ((f4.2 (p + 2) (by omega)).trans ((f3.2 (p + 2) (by omega)).trans ((f2.2 (p + 2) (by omega)).trans kn1)))⟩, (f5.2 (p + 1) (by omega)).trans kq4, (f5.2 (p + 3) (by omega)).trans ((f4.2 (p + 3) (by omega)).trans ((f3.2 (p + 3) (by omega)).trans kb2)), wk_add hI ⟨by omega, by omega⟩ hr1 (by omega) ⟨q1, q2⟩ q3⟩
theorem c_readerOnWay {ρ : Nat → Nat} {w : zW} (d p : Nat) (a1 a2 : Int) (hw : CI ρ w) (hρp : ρ p = 60) (hr0 : WK w p) (hr1 : 0 ≤ a1 ∧ a1 ≤ 5460) (hr2 : 0 ≤ a2 ∧ a2 ≤ 2147483647) (Q : zQ) (h : ∀ v : Int, (-2147483648 ≤ v ∧ v ≤ 2147483647) → Q (some (.int (Int32.ofInt v))) w) : zCl zTab (d + 1) iX9_readerOnWay [.ref p, .int (Int32.ofInt a1), .int (Int32.ofInt a2)] w 0 0 Q := by
  obtain ⟨_, _, _, e61, e62, e63, e64⟩ := CI_o60 hw hρp
  obtain ⟨sz, gq, gn, gb, ⟨ks, kO, kn⟩, kq, kb, hA, hB, hC⟩ := hr0
  unfold wkO at kO
  refine zCl_i (M := kX9_readerOnWay) rfl (Nat.le_of_ble_eq_true rfl) fun R hR => ?_
  have loop : ∀ (N : Nat) (t i : Int), (0 ≤ t ∧ t ≤ 5460) → i ≤ 5461 → (gn t.toNat).toInt = i + 1 → i < N → R (12, [some (.ref p), some (.int (Int32.ofInt a1)), some (.int (Int32.ofInt a2)), some (.int (Int32.ofInt t)), some (.int (Int32.ofInt i))], [], w, 0, 0) := by
    intro N
    induction N with
    | zero =>
      intro t i ht hi hg hN
      have hc := hC t.toNat (by omega)
      iterate 2 refine hR (?_ : R (_, _, _, _, _, _))
      refine hR (j_le (by omega) (by omega) (fun _ => ?_) (fun hx => by omega))
      refine hR (?_ : R (_, _, _, _, _, _))
      refine hR (c_get kO rfl ?_)
      refine hR (?_ : R (_, _, _, _, _, _))
      refine hR (c_ald hw (by rw [e64]; rfl) (by omega) (by omega) (by omega) fun v l u => ?_)
      exact hR (zret_i rfl (Nat.le_refl _) trivial (h v ⟨l, u⟩))
    | succ N ih =>
      intro t i ht hi hg hN
      have hc := hC t.toNat (by omega)
      iterate 2 refine hR (?_ : R (_, _, _, _, _, _))
      refine hR (j_le (by omega) (by omega) (fun _ => ?_) (fun hx => ?_))
      · refine hR (?_ : R (_, _, _, _, _, _))
        refine hR (c_get kO rfl ?_)
        refine hR (?_ : R (_, _, _, _, _, _))
        refine hR (c_ald hw (by rw [e64]; rfl) (by omega) (by omega) (by omega) fun v l u => ?_)
        exact hR (zret_i rfl (Nat.le_refl _) trivial (h v ⟨l, u⟩))
      · refine hR (?_ : R (_, _, _, _, _, _))
        refine hR (c_get kO rfl ?_)
        refine hR (?_ : R (_, _, _, _, _, _))
        refine hR (c_aldE kb (by omega) (by omega) (by omega) fun v ev hv => ?_)
        obtain ⟨b1, b2⟩ := hB t.toNat (by omega) (by omega)
        rw [← ev] at b1 b2
        refine hR (?_ : R (_, _, _, _, _, _))
        refine hR (t_inc ?_)
        refine hR (?_ : R (_, _, _, _, _, _))
        exact ih v (i + -1) b1 (by omega) (by omega) (by omega)
  iterate 3 refine hR (?_ : R (_, _, _, _, _, _))
  refine hR (c_get kO rfl ?_)
  refine hR (?_ : R (_, _, _, _, _, _))
  refine hR (c_aldE kn (by omega) (by omega) (by omega) fun v ev hv => ?_)
  have hc := hC a1.toNat (by omega)
  refine hR (?_ : R (_, _, _, _, _, _))
  refine hR (t_sub ?_)
  refine hR (?_ : R (_, _, _, _, _, _))
  exact loop 10000 a1 (v - 1) hr1 (by omega) (by omega) (by omega)
