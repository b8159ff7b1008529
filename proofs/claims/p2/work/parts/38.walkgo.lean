/-! A WALK: the ways back that it keeps. -/
def wkO (p : Nat) (sz : Int) : va_E := .inr (8, [.int (Int32.ofInt sz), .ref (p + 1), .ref (p + 2), .ref (p + 3), .ref (p + 4)])
def wkG (w : zW) (p : Nat) (sz : Int) (gn : Nat → Int32) : Prop := (0 ≤ sz ∧ sz ≤ 5461) ∧ zix w p = some (wkO p sz) ∧ zix w (p + 2) = some (.inl (1, 5461, .inl gn))
def wkI (sz : Int) (gq gn gb : Nat → Int32) : Prop := (∀ t : Nat, t < 5461 → (gn t).toInt ≠ -1 → ∃ i : Nat, (i : Int) < sz ∧ (gq i).toInt = t) ∧ (∀ t : Nat, t < 5461 → 1 ≤ (gn t).toInt → (0 ≤ (gb t).toInt ∧ (gb t).toInt ≤ 5460) ∧ (gn (gb t).toInt.toNat).toInt = (gn t).toInt - 1) ∧ (∀ t : Nat, t < 5461 → -1 ≤ (gn t).toInt ∧ (gn t).toInt ≤ sz - 1)
def WK (w : zW) (p : Nat) : Prop := ∃ (sz : Int) (gq gn gb : Nat → Int32), wkG w p sz gn ∧ zix w (p + 1) = some (.inl (1, 5461, .inl gq)) ∧ zix w (p + 3) = some (.inl (1, 5461, .inl gb)) ∧ wkI sz gq gn gb
theorem WK_fr {rs : List Nat} {ρ : Nat → Nat} {w w1 : zW} {p : Nat} (g : wfR rs ρ w w1) (h0 : ρ p ∉ rs) (h1 : ρ (p + 1) ∉ rs) (h2 : ρ (p + 2) ∉ rs) (h3 : ρ (p + 3) ∉ rs) (h : WK w p) : WK w1 p := by
  obtain ⟨sz, gq, gn, gb, ⟨a, b, c⟩, d, e, f⟩ := h
  exact ⟨sz, gq, gn, gb, ⟨a, (g.2 _ h0).trans b, (g.2 _ h2).trans c⟩, (g.2 _ h1).trans d, (g.2 _ h3).trans e, f⟩
theorem wkG_u {w : zW} {p : Nat} {sz sz2 : Int} {gn gn2 : Nat → Int32} (h : wkG w p sz gn) (h2 : wkG w p sz2 gn2) : sz = sz2 ∧ gn = gn2 := by
  obtain ⟨a, b, c⟩ := h
  obtain ⟨a2, b2, c2⟩ := h2
  rw [b] at b2
  rw [c] at c2
  refine ⟨?_, by cases c2; rfl⟩
  have e : Int32.ofInt sz = Int32.ofInt sz2 := by
    unfold wkO at b2
    injection b2 with e1
    injection e1 with e2
    injection e2 with _ e3
    injection e3 with e4
    injection e4
  exact (zeq_o ⟨by omega, by omega⟩ ⟨by omega, by omega⟩).mp e
theorem wk_req {w : zW} {p : Nat} {sz v t : Int} {gn g : Nat → Int32} (hk : WK w p) (hG : wkG w p sz gn) (hg : zix w (p + 2) = some (.inl (1, 5461, .inl g))) (ht : 0 ≤ t ∧ t ≤ 5460) (e : v = (g t.toNat).toInt) : 0 ≤ v + 1 ∧ v + 1 ≤ sz ∧ (1 ≤ v + 1 → 0 ≤ t ∧ t ≤ 5460 ∧ (gn t.toNat).toInt = v + 1 - 1) := by
  obtain ⟨sz2, gq, gn2, gb, hG2, _, _, _, _, hC⟩ := hk
  obtain ⟨rfl, rfl⟩ := wkG_u hG hG2
  have e2 := hG.2.2
  rw [hg] at e2
  cases e2
  have := hC t.toNat (by omega)
  exact ⟨by omega, by omega, fun _ => ⟨by omega, by omega, by omega⟩⟩
theorem wk_add {sz a1 a2 a3 : Int} {gq gn gb : Nat → Int32} (h : wkI sz gq gn gb) (hs : 0 ≤ sz ∧ sz < 5461) (h1 : 0 ≤ a1 ∧ a1 ≤ 5460) (hf : (gn a1.toNat).toInt = -1) (h2 : 0 ≤ a2 ∧ a2 ≤ sz) (h3 : 1 ≤ a2 → 0 ≤ a3 ∧ a3 ≤ 5460 ∧ (gn a3.toNat).toInt = a2 - 1) : wkI (sz + 1) (upd gq sz.toNat (Int32.ofInt a1)) (upd gn a1.toNat (Int32.ofInt a2)) (upd gb a1.toNat (Int32.ofInt a3)) := by
  obtain ⟨hA, hB, hC⟩ := h
  refine ⟨fun t ht hn => ?_, fun t ht hn => ?_, fun t ht => ?_⟩
  · by_cases c : t = a1.toNat
    · refine ⟨sz.toNat, by omega, ?_⟩
      rw [pk_us, zti (by omega) (by omega)]
      omega
    · rw [pk_un c] at hn
      obtain ⟨i, hi, e⟩ := hA t ht hn
      refine ⟨i, by omega, ?_⟩
      rw [pk_un (by omega)]
      exact e
  · by_cases c : t = a1.toNat
    · subst c
      rw [pk_us, zti (by omega) (by omega)] at hn
      obtain ⟨b1, b2, b3⟩ := h3 hn
      rw [pk_us, pk_us, zti (by omega) (by omega), zti (by omega) (by omega)]
      refine ⟨⟨b1, b2⟩, ?_⟩
      rw [pk_un (fun e => by rw [e] at b3; omega)]
      exact b3
    · rw [pk_un c] at hn
      obtain ⟨b1, b2⟩ := hB t ht hn
      rw [pk_un c, pk_un c]
      refine ⟨b1, ?_⟩
      rw [pk_un (fun e => by rw [e] at b2; omega)]
      exact b2
  · by_cases c : t = a1.toNat
    · subst c
      rw [pk_us, zti (by omega) (by omega)]
      omega
    · rw [pk_un c]
      have := hC t ht
      omega
theorem c_comeTo {ρ : Nat → Nat} {w : zW} (d p : Nat) (a1 a2 a3 a4 : Int) (hw : CI ρ w) (hρp : ρ p = 60) (hr0 : WK w p) (hr1 : 0 ≤ a1 ∧ a1 ≤ 5460) (hr2 : ∀ sz gn, wkG w p sz gn → 0 ≤ a2 ∧ a2 ≤ sz ∧ (1 ≤ a2 → 0 ≤ a3 ∧ a3 ≤ 5460 ∧ (gn a3.toNat).toInt = a2 - 1)) (hr3 : -2147483648 ≤ a3 ∧ a3 ≤ 2147483647) (hr4 : -2147483648 ≤ a4 ∧ a4 ≤ 2147483647) (Q : zQ) (h : ∀ (w' : zW), CI ρ w' → wfR [60, 61, 62, 63, 64] ρ w w' → (WK w' p) → Q none w') : zCl zTab (d + 1) iX9_comeTo [.ref p, .int (Int32.ofInt a1), .int (Int32.ofInt a2), .int (Int32.ofInt a3), .int (Int32.ofInt a4)] w 0 0 Q := by
  obtain ⟨_, _, _, e61, e62, e63, e64⟩ := CI_o60 hw hρp
  have hr0' := hr0
  obtain ⟨sz, gq, gn, gb, hG, kq, kb, hI⟩ := hr0
  obtain ⟨q1, q2, q3⟩ := hr2 sz gn hG
  obtain ⟨ks, kO, kn⟩ := hG
  unfold wkO at kO
  obtain ⟨gq', kq', bq⟩ := CI_ar hw (q := p + 1) (by rw [e61]; rfl)
  rw [kq] at kq'
  cases kq'
  obtain ⟨gn', kn', bn⟩ := CI_ar hw (q := p + 2) (by rw [e62]; rfl)
  rw [kn] at kn'
  cases kn'
  obtain ⟨gb', kb', bb⟩ := CI_ar hw (q := p + 3) (by rw [e63]; rfl)
  rw [kb] at kb'
  cases kb'
  refine zCl_i (M := kX9_comeTo) rfl (Nat.le_of_ble_eq_true rfl) fun R hR => ?_
  have out : ∀ w1, CI ρ w1 → wfR [60, 61, 62, 63, 64] ρ w w1 → WK w1 p → R (62, [some (.ref p), some (.int (Int32.ofInt a1)), some (.int (Int32.ofInt a2)), some (.int (Int32.ofInt a3)), some (.int (Int32.ofInt a4))], [], w1, 0, 0) := fun w1 x1 x2 x3 => hR (zret_i rfl (Nat.le_refl _) rfl (h w1 x1 x2 x3))
  refine hR (?_ : R (_, _, _, _, _, _))
  refine hR (c_get kO rfl ?_)
  refine hR (?_ : R (_, _, _, _, _, _))
  refine hR (c_aldE kn (by omega) (by omega) (by omega) fun v ev hv => ?_)
  refine hR (?_ : R (_, _, _, _, _, _))
  refine hR (j_ne (by omega) (by omega) (fun _ => out w hw (wfR_rf _ _ _) hr0') (fun hc => ?_))
  refine hR (?_ : R (_, _, _, _, _, _))
  refine hR (c_get kO rfl ?_)
  refine hR (t_c 5461 (by decide) ?_)
  refine hR (j_ge (by omega) (by omega) (fun _ => out w hw (wfR_rf _ _ _) hr0') (fun hs => ?_))
  have n1 : p + 2 ≠ p := by omega
  refine hR (?_ : R (_, _, _, _, _, _))
  refine hR (c_get kO rfl ?_)
  iterate 2 refine hR (?_ : R (_, _, _, _, _, _))
  refine hR (c_astE hw kn bn (by rw [e62]; rfl) ⟨by rw [e62]; decide, by rw [e62]; decide⟩ (by omega) (by omega) (by omega) (by omega) (by omega) fun w1 hw1 f1 kn1 bn1 => ?_)
  have kO1 := (f1.2 p (by omega)).trans kO
  refine hR (?_ : R (_, _, _, _, _, _))
  refine hR (c_get kO1 rfl ?_)
  iterate 2 refine hR (?_ : R (_, _, _, _, _, _))
  refine hR (c_astE hw1 ((f1.2 (p + 3) (by omega)).trans kb) bb (by rw [e63]; rfl) ⟨by rw [e63]; decide, by rw [e63]; decide⟩ (by omega) (by omega) (by omega) (by omega) (by omega) fun w2 hw2 f2 kb2 bb2 => ?_)
  have kO2 := (f2.2 p (by omega)).trans kO1
  refine hR (?_ : R (_, _, _, _, _, _))
  refine hR (c_get kO2 rfl ?_)
  iterate 2 refine hR (?_ : R (_, _, _, _, _, _))
  refine hR (c_astx hw2 (by rw [e64]; rfl) ⟨by rw [e64]; decide, by rw [e64]; decide⟩ (by omega) (by omega) (by omega) fun w3 hw3 f3 => ?_)
  have kO3 := (f3.2 p (by omega)).trans kO2
  refine hR (?_ : R (_, _, _, _, _, _))
  refine hR (c_get kO3 rfl ?_)
  refine hR (?_ : R (_, _, _, _, _, _))
  refine hR (c_get kO3 rfl ?_)
  refine hR (?_ : R (_, _, _, _, _, _))
  refine hR (c_astE hw3 ((f3.2 (p + 1) (by omega)).trans ((f2.2 (p + 1) (by omega)).trans ((f1.2 (p + 1) (by omega)).trans kq))) bq (by rw [e61]; rfl) ⟨by rw [e61]; decide, by rw [e61]; decide⟩ (by omega) (by omega) (by omega) (by omega) (by omega) fun w4 hw4 f4 kq4 bq4 => ?_)
  have kO4 := (f4.2 p (by omega)).trans kO3
  iterate 2 refine hR (?_ : R (_, _, _, _, _, _))
  refine hR (c_get kO4 rfl ?_)
  refine hR (?_ : R (_, _, _, _, _, _))
  refine hR (t_add ?_)
  refine hR (c_put kO4 rfl rfl fun w5 f5 kO5 => ?_)
  have hw5 := CI_w60 hw4 hρp f5 kO5 ⟨⟨by omega, by omega⟩, e61, e62, e63, e64⟩
  have fr := wfR_st (wfR_st (wfR_st (wfR_st (wfR_st (wfR_rf [60, 61, 62, 63, 64] ρ w) f1 (by rw [e62]; decide)) f2 (by rw [e63]; decide)) f3 (by rw [e64]; decide)) f4 (by rw [e61]; decide)) f5 (by rw [hρp]; decide)
  refine out w5 hw5 fr ⟨sz + 1, _, _, _, ⟨⟨by omega, by omega⟩, kO5, (f5.2 (p + 2) (by omega)).trans ((f4.2 (p + 2) (by omega)).trans ((f3.2 (p + 2) (by omega)).trans ((f2.2 (p + 2) (by omega)).trans kn1)))⟩, (f5.2 (p + 1) (by omega)).trans kq4, (f5.2 (p + 3) (by omega)).trans ((f4.2 (p + 3) (by omega)).trans ((f3.2 (p + 3) (by omega)).trans kb2)), wk_add hI ⟨by omega, by omega⟩ hr1 (by omega) ⟨q1, q2⟩ q3⟩
theorem c_readerOnWay {ρ : Nat → Nat} {w : zW} (d p : Nat) (a1 a2 : Int) (hw : CI ρ w) (hρp : ρ p = 60) (hr0 : WK w p) (hr1 : 0 ≤ a1 ∧ a1 ≤ 5460) (hr2 : 0 ≤ a2 ∧ a2 ≤ 2147483647) (Q : zQ) (h : ∀ v : Int, (-2147483648 ≤ v ∧ v ≤ 2147483647) → Q (some (.int (Int32.ofInt v))) w) : zCl zTab (d + 1) iX9_readerOnWay [.ref p, .int (Int32.ofInt a1), .int (Int32.ofInt a2)] w 0 0 Q := by
  obtain ⟨_, _, _, e61, e62, e63, e64⟩ := CI_o60 hw hρp
  obtain ⟨sz, gq, gn, gb, ⟨ks, kO, kn⟩, kq, kb, hA, hB, hC⟩ := hr0
  unfold wkO at kO
  refine zCl_i (M := kX9_readerOnWay) rfl (Nat.le_of_ble_eq_true rfl) fun R hR => ?_
  have loop : ∀ (N : Nat) (t i : Int), (0 ≤ t ∧ t ≤ 5460) → i ≤ 5461 → (gn t.toNat).toInt = i + 1 → i < N → R (12, [some (.ref p), some (.int (Int32.ofInt a1)), some (.int (Int32.ofInt a2)), some (.int (Int32.ofInt t)), some (.int (Int32.ofInt i))], [], w, 0, 0) := by
    intro N
    induction N with
    | zero =>
      intro t i ht hi hg hN
      have hc := hC t.toNat (by omega)
      iterate 2 refine hR (?_ : R (_, _, _, _, _, _))
      refine hR (j_le (by omega) (by omega) (fun _ => ?_) (fun hx => by omega))
      refine hR (?_ : R (_, _, _, _, _, _))
      refine hR (c_get kO rfl ?_)
      refine hR (?_ : R (_, _, _, _, _, _))
      refine hR (c_ald hw (by rw [e64]; rfl) (by omega) (by omega) (by omega) fun v l u => ?_)
      exact hR (zret_i rfl (Nat.le_refl _) trivial (h v ⟨l, u⟩))
    | succ N ih =>
      intro t i ht hi hg hN
      have hc := hC t.toNat (by omega)
      iterate 2 refine hR (?_ : R (_, _, _, _, _, _))
      refine hR (j_le (by omega) (by omega) (fun _ => ?_) (fun hx => ?_))
      · refine hR (?_ : R (_, _, _, _, _, _))
        refine hR (c_get kO rfl ?_)
        refine hR (?_ : R (_, _, _, _, _, _))
        refine hR (c_ald hw (by rw [e64]; rfl) (by omega) (by omega) (by omega) fun v l u => ?_)
        exact hR (zret_i rfl (Nat.le_refl _) trivial (h v ⟨l, u⟩))
      · refine hR (?_ : R (_, _, _, _, _, _))
        refine hR (c_get kO rfl ?_)
        refine hR (?_ : R (_, _, _, _, _, _))
        refine hR (c_aldE kb (by omega) (by omega) (by omega) fun v ev hv => ?_)
        obtain ⟨b1, b2⟩ := hB t.toNat (by omega) (by omega)
        rw [← ev] at b1 b2
        refine hR (?_ : R (_, _, _, _, _, _))
        refine hR (t_inc ?_)
        refine hR (?_ : R (_, _, _, _, _, _))
        exact ih v (i + -1) b1 (by omega) (by omega) (by omega)
  iterate 3 refine hR (?_ : R (_, _, _, _, _, _))
  refine hR (c_get kO rfl ?_)
  refine hR (?_ : R (_, _, _, _, _, _))
  refine hR (c_aldE kn (by omega) (by omega) (by omega) fun v ev hv => ?_)
  have hc := hC a1.toNat (by omega)
  refine hR (?_ : R (_, _, _, _, _, _))
  refine hR (t_sub ?_)
  refine hR (?_ : R (_, _, _, _, _, _))
  exact loop 10000 a1 (v - 1) hr1 (by omega) (by omega) (by omega)
theorem c_go {ρ : Nat → Nat} {w : zW} (d : Nat) (p rd : Nat) (a1 a2 a3 : Int) (hw : CI ρ w) (hρp : ρ p = 60) (hρrd : ρ rd = 50) (hr0 : WK w p) (hr1 : 0 ≤ a1 ∧ a1 ≤ 5460) (hr2 : -2147483648 ≤ a2 ∧ a2 ≤ 2147483647) (hr3 : -2147483648 ≤ a3 ∧ a3 ≤ 2147483647) (Q : zQ) (h : ∀ (w' : zW), CI ρ w' → wfR [51, 60, 61, 62, 63, 64] ρ w w' → (WK w' p) → Q (none) w') : zCl zTab (d + 5) iX9_go [.ref p, .ref rd, .int (Int32.ofInt a1), .int (Int32.ofInt a2), .int (Int32.ofInt a3)] w 0 0 Q := by
  refine zCl_i (M := kX9_go) rfl (Nat.le_of_ble_eq_true rfl) fun R hR => ?_
  have fr0 := wfR_rf [51, 60, 61, 62, 63, 64] ρ w
  obtain ⟨xs, xO, xs2, e61, e62, e63, e64⟩ := CI_o60 hw hρp
  have cont : ∀ (o5 : Option Value) (w2 : zW), zc2 o5 = false → CI ρ w2 → wfR [51, 60, 61, 62, 63, 64] ρ w w2 → WK w2 p → R (36, [some (.ref p), some (.ref rd), some (.int (Int32.ofInt a1)), some (.int (Int32.ofInt a2)), some (.int (Int32.ofInt a3)), o5, none, none], [], w2, 0, 0) := by
    intro o5 w2 hz5 hw2 fr2 wk2
    iterate 5 refine hR (?_ : R (_, _, _, _, _, _))
    obtain ⟨x0_3, hO3, hk3_0, hk3_1, hk3_2, hk3_3, hk3_4⟩ := CI_o60 hw2 hρp
    refine hR (c_obj hO3 (zcall_i 0 0 (Nat.le_of_ble_eq_true rfl) (Nat.le_of_ble_eq_true rfl) (c_comeTo _ p a1 0 ((-1)) ((-1)) hw2 hρp wk2 (by omega) (fun sz gn hG => ⟨by omega, hG.1.1, fun hx => by omega⟩) (by omega) (by omega) _ fun w1 hw1 g1 hp2 => ?_)))
    have fr4 := wfR_tr fr2 g1 (by decide)
    refine (?_ : R (_, _, [], w1, 0, 0))
    iterate 2 refine hR (?_ : R (_, _, _, _, _, _))
    have lp47 : ∀ (N : Nat) (i : Int) (o6_47 : Option Value) (o7_47 : Option Value) (w_47 : zW), (zc2 o6_47 = false) → (zc2 o7_47 = false) → (CI ρ w_47) → (wfR [51, 60, 61, 62, 63, 64] ρ w w_47) → (0 ≤ i ∧ i ≤ 5461) → (WK w_47 p) → (5462 - i < N) → R (47, [some (.ref p), some (.ref rd), some (.int (Int32.ofInt a1)), some (.int (Int32.ofInt a2)), some (.int (Int32.ofInt a3)), some (.int (Int32.ofInt i)), o6_47, o7_47], [], w_47, 0, 0) := by
      intro N
      induction N with
      | zero => intros; omega
      | succ N ih47 =>
        intro i o6_47 o7_47 w_47 hzo6_47 hzo7_47 hw_47 fr_47 hf0_47 hp0_47 hN47
        iterate 2 refine hR (?_ : R (_, _, _, _, _, _))
        obtain ⟨x0_5, hO5, hk5_0, hk5_1, hk5_2, hk5_3, hk5_4⟩ := CI_o60 hw_47 hρp
        refine hR (c_get hO5 rfl ?_)
        refine hR (j_ge (by omega) (by omega) (fun hc6 => ?_) (fun hc6 => ?_))
        · skip
          exact hR (zret_i rfl (Nat.le_refl _) rfl (h _ hw_47 fr_47 hp0_47))
        refine hR (?_ : R (_, _, _, _, _, _))
        refine hR (t_c 5461 (by decide) ?_)
        refine hR (j_ge (by omega) (by omega) (fun hc7 => ?_) (fun hc7 => ?_))
        · skip
          exact hR (zret_i rfl (Nat.le_refl _) rfl (h _ hw_47 fr_47 hp0_47))
        refine hR (?_ : R (_, _, _, _, _, _))
        refine hR (c_get hO5 rfl ?_)
        refine hR (?_ : R (_, _, _, _, _, _))
        refine hR (c_ald hw_47 (by rw [hk5_1]; rfl) (by omega) (by omega) (Nat.le_of_ble_eq_true rfl) fun v8 lv8 uv8 => ?_)
        iterate 3 refine hR (?_ : R (_, _, _, _, _, _))
        refine hR (j_ne (by omega) (by omega) (fun hc9 => ?_) (fun hc9 => ?_))
        rotate_left
        · skip
          exact hR (zret_i rfl (Nat.le_refl _) rfl (h _ hw_47 fr_47 hp0_47))
        iterate 2 refine hR (?_ : R (_, _, _, _, _, _))
        have lp84 : ∀ (N : Nat) (r : Int) (w_84 : zW), (CI ρ w_84) → (wfR [51, 60, 61, 62, 63, 64] ρ w w_84) → (0 ≤ r ∧ r ≤ 5) → (WK w_84 p) → (6 - r < N) → R (84, [some (.ref p), some (.ref rd), some (.int (Int32.ofInt a1)), some (.int (Int32.ofInt a2)), some (.int (Int32.ofInt a3)), some (.int (Int32.ofInt i)), some (.int (Int32.ofInt v8)), some (.int (Int32.ofInt r))], [], w_84, 0, 0) := by
          intro N
          induction N with
          | zero => intros; omega
          | succ N ih84 =>
            intro r w_84 hw_84 fr_84 hf0_84 hp0_84 hN84
            iterate 2 refine hR (?_ : R (_, _, _, _, _, _))
            obtain ⟨z0_10, z2_10, z3_10, hO10, hk10_0, hk10_1, hk10_2, hk10_3, hk10_4⟩ := CI_o50 hw_84 hρrd
            refine hR (c_get hO10 rfl ?_)
            obtain ⟨x0_11, x1_11, x2_11, hO11, hk11_0, hk11_1, hk11_2, hk11_3, hk11_4, hk11_5, hk11_6⟩ := CI_o20 hw_84 hk10_0
            refine hR (c_get hO11 rfl ?_)
            refine hR (j_ge (by omega) (by omega) (fun hc12 => ?_) (fun hc12 => ?_))
            · skip
              refine hR (t_inc ?_)
              refine hR (?_ : R (_, _, _, _, _, _))
              exact ih47 _ _ _ _ (by rfl) (by rfl) hw_84 fr_84 (by omega) hp0_84 (by omega)
            iterate 2 refine hR (?_ : R (_, _, _, _, _, _))
            refine hR (zcall_i 0 0 (Nat.le_of_ble_eq_true rfl) (Nat.le_of_ble_eq_true rfl) (c_isIn _ _ a2 r _ fun v13 hp15 => ?_))
            refine (?_ : R (_, _, (.int (Int32.ofInt v13)) :: [], w_84, 0, 0))
            refine hR (k_eq (by omega) (fun hc16 => ?_) (fun hc16 => ?_))
            · skip
              refine hR (t_inc ?_)
              refine hR (?_ : R (_, _, _, _, _, _))
              exact ih84 _ _ hw_84 fr_84 (by omega) hp0_84 (by omega)
            iterate 4 refine hR (?_ : R (_, _, _, _, _, _))
            refine hR (c_obj hO10 (zcall_i 0 0 (Nat.le_of_ble_eq_true rfl) (Nat.le_of_ble_eq_true rfl) (c_after _ rd r v8 hw_84 hρrd (by omega) (by omega) _ fun v17 w18 hw18 g18 hp19 => ?_)))
            have fr20 := wfR_tr fr_84 g18 (by decide)
            have hO21 := (g18.2 rd (by rw [hρrd]; decide)).trans hO10
            have hO22 := (g18.2 z0_10 (by rw [hk10_0]; decide)).trans hO11
            refine (?_ : R (_, _, (.int (Int32.ofInt v17)) :: (.ref p) :: [], w18, 0, 0))
            have wk23 := WK_fr g18 (by rw [hρp]; decide) (by rw [e61]; decide) (by rw [e62]; decide) (by rw [e63]; decide) hp0_84
            refine hR (?_ : R (_, _, _, _, _, _))
            obtain ⟨x0_24, hO24, hk24_0, hk24_1, hk24_2, hk24_3, hk24_4⟩ := CI_o60 hw18 hρp
            refine hR (c_get hO24 rfl ?_)
            refine hR (?_ : R (_, _, _, _, _, _))
            obtain ⟨ge26, hge26, hBe26⟩ := CI_ar hw18 (q := p + 2) (by rw [hk24_2]; rfl)
            refine hR (c_aldE hge26 (by omega) (by omega) (Nat.le_of_ble_eq_true rfl) fun v25 e26 rv25 => ?_)
            have bv25 : (-2147483648) ≤ v25 ∧ v25 ≤ 2147483647 := by rw [e26]; exact hBe26 _
            refine hR (?_ : R (_, _, _, _, _, _))
            refine hR (t_add ?_)
            iterate 2 refine hR (?_ : R (_, _, _, _, _, _))
            refine hR (c_obj hO24 (zcall_i 0 0 (Nat.le_of_ble_eq_true rfl) (Nat.le_of_ble_eq_true rfl) (c_comeTo _ p v17 (v25 + 1) v8 r hw18 hρp wk23 (by omega) (fun sz gn hG => wk_req wk23 hG hge26 (by omega) e26) (by omega) (by omega) _ fun w27 hw27 g27 hp28 => ?_)))
            have fr29 := wfR_tr fr20 g27 (by decide)
            have hO30 := (g27.2 rd (by rw [hρrd]; decide)).trans hO21
            have hO31 := (g27.2 z0_10 (by rw [hk10_0]; decide)).trans hO22
            refine (?_ : R (_, _, [], w27, 0, 0))
            refine hR (t_inc ?_)
            refine hR (?_ : R (_, _, _, _, _, _))
            exact ih84 _ _ hw27 fr29 (by omega) hp28 (by omega)
        exact lp84 400000000 _ _ hw_47 fr_47 (by omega) hp0_47 (by omega)
    exact lp47 400000000 _ _ _ _ (by rfl) (by rfl) hw1 fr4 (by omega) hp2 (by omega)
  obtain ⟨sz, gq, gn, gb, ⟨ks, kO, kn⟩, kq, kb, kA, kB, kC⟩ := hr0
  unfold wkO at kO
  obtain ⟨gq', kq', bq⟩ := CI_ar hw (q := p + 1) (by rw [e61]; rfl)
  rw [kq] at kq'
  cases kq'
  obtain ⟨gn', kn', bn⟩ := CI_ar hw (q := p + 2) (by rw [e62]; rfl)
  rw [kn] at kn'
  cases kn'
  have clr : ∀ (N : Nat) (i : Int) (w1 : zW) (g : Nat → Int32), (0 ≤ i ∧ i ≤ sz) → CI ρ w1 → wfR [51, 60, 61, 62, 63, 64] ρ w w1 → zix w1 p = some (.inr (8, [.int (Int32.ofInt sz), .ref (p + 1), .ref (p + 2), .ref (p + 3), .ref (p + 4)])) → zix w1 (p + 1) = some (.inl (1, 5461, .inl gq)) → zix w1 (p + 2) = some (.inl (1, 5461, .inl g)) → zix w1 (p + 3) = some (.inl (1, 5461, .inl gb)) → zB (-2147483648) 2147483647 g → (∀ t : Nat, t < 5461 → (g t).toInt ≠ -1 → ∃ j : Nat, i ≤ j ∧ (j : Int) < sz ∧ (gq j).toInt = t) → sz - i < N → R (3, [some (.ref p), some (.ref rd), some (.int (Int32.ofInt a1)), some (.int (Int32.ofInt a2)), some (.int (Int32.ofInt a3)), some (.int (Int32.ofInt i)), none, none], [], w1, 0, 0) := by
    intro N
    induction N with
    | zero => intros; omega
    | succ N ih =>
      intro i w1 g hi hw1 f1 o1 q1 n1 b1 z1 hA hN
      iterate 2 refine hR (?_ : R (_, _, _, _, _, _))
      refine hR (c_get o1 rfl ?_)
      refine hR (j_ge (by omega) (by omega) (fun hc => ?_) (fun hc => ?_))
      · have all : ∀ t : Nat, t < 5461 → (g t).toInt = -1 := by
          intro t ht
          by_cases c : (g t).toInt = -1
          · exact c
          · obtain ⟨j, j1, j2, _⟩ := hA t ht c
            omega
        iterate 2 refine hR (?_ : R (_, _, _, _, _, _))
        refine hR (c_put o1 rfl rfl fun w2 f2 o2 => ?_)
        have hw2 := CI_w60 hw1 hρp f2 o2 ⟨⟨by omega, by omega⟩, e61, e62, e63, e64⟩
        refine cont _ w2 rfl hw2 (wfR_st f1 f2 (by rw [hρp]; decide)) ⟨0, gq, g, gb, ⟨⟨by omega, by omega⟩, o2, (f2.2 (p + 2) (by omega)).trans n1⟩, (f2.2 (p + 1) (by omega)).trans q1, (f2.2 (p + 3) (by omega)).trans b1, ?_, ?_, ?_⟩
        · intro t ht hx
          exact absurd (all t ht) hx
        · intro t ht hx
          have := all t ht
          omega
        · intro t ht
          have := all t ht
          omega
      · refine hR (?_ : R (_, _, _, _, _, _))
        refine hR (c_get o1 rfl ?_)
        refine hR (?_ : R (_, _, _, _, _, _))
        refine hR (c_get o1 rfl ?_)
        refine hR (?_ : R (_, _, _, _, _, _))
        refine hR (c_aldE q1 (by omega) (by omega) (by omega) fun v ev hv => ?_)
        have hb := bq i.toNat
        refine hR (?_ : R (_, _, _, _, _, _))
        refine hR (c_astE hw1 n1 z1 (by rw [e62]; rfl) ⟨by rw [e62]; decide, by rw [e62]; decide⟩ (by omega) (by omega) (by omega) (by omega) (by omega) fun w2 hw2 f2 n2 z2 => ?_)
        refine hR (t_inc ?_)
        refine hR (?_ : R (_, _, _, _, _, _))
        refine ih (i + 1) w2 _ (by omega) hw2 (wfR_st f1 f2 (by rw [e62]; decide)) ((f2.2 p (by omega)).trans o1) ((f2.2 (p + 1) (by omega)).trans q1) n2 ((f2.2 (p + 3) (by omega)).trans b1) z2 ?_ (by omega)
        intro t ht hx
        by_cases c : t = v.toNat
        · subst c
          rw [pk_us] at hx
          exact absurd (by decide) hx
        · rw [pk_un c] at hx
          obtain ⟨j, j1, j2, j3⟩ := hA t ht hx
          refine ⟨j, ?_, j2, j3⟩
          by_cases cj : (j : Int) = i
          · exfalso
            apply c
            rw [ev, ← cj]
            show t = (gq (j : Int).toNat).toInt.toNat
            rw [Int.toNat_natCast, j3, Int.toNat_natCast]
          · omega
  iterate 2 refine hR (?_ : R (_, _, _, _, _, _))
  refine clr 10000 0 w gn (by omega) hw fr0 kO kq kn kb bn (fun t ht hx => ?_) (by omega)
  obtain ⟨i, i1, i2⟩ := kA t ht hx
  exact ⟨i, by omega, i1, i2⟩
