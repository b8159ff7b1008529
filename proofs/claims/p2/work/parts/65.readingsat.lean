/-! NEW READINGS: while they have no book, the row that holds them is out of view. -/
def mk12 (ρ : Nat → Nat) : Nat → Nat := fun x => if ρ x = 1 ∨ ρ x = 13 then 0 else ρ x
theorem mk12_k {ρ : Nat → Nat} {x : Nat} (h : ¬ (ρ x = 1 ∨ ρ x = 13)) : mk12 ρ x = ρ x := if_neg h
theorem mk12_0 {ρ : Nat → Nat} {x : Nat} (h : ρ x = 1 ∨ ρ x = 13) : mk12 ρ x = 0 := if_pos h
theorem mk12_r {ρ : Nat → Nat} {x r : Nat} (h : mk12 ρ x = r) (h0 : r ≠ 0) : ρ x = r := by
  unfold mk12 at h
  split at h
  · exact absurd h.symm h0
  · exact h
theorem rls_12 {r0 r : Nat} (h : r ∈ rls r0) (h1 : r0 ≠ 1) : r ≠ 1 ∧ r ≠ 13 := by
  unfold rls at h
  split at h
  case h_1 => exact absurd rfl h1
  all_goals first | (simp only [List.mem_cons, List.not_mem_nil, or_false] at h; omega) | (cases h)
theorem rRf_12 {r0 r ti len : Nat} (h : rRf r0 = some (ti, len, r)) : r ≠ 1 ∧ r ≠ 13 ∧ r ≠ 49 ∧ r ≠ 19 ∧ r ≠ 25 ∧ r ≠ 26 := by
  unfold rRf at h
  split at h
  all_goals first | (simp only [Option.some.injEq, Prod.mk.injEq] at h; omega) | (cases h)
theorem rls_49 {r0 r : Nat} (h : r ∈ rls r0) : r ≠ 49 ∧ r ≠ 19 := by
  unfold rls at h
  split at h
  all_goals first | (simp only [List.mem_cons, List.not_mem_nil, or_false] at h; omega) | (cases h)
theorem CI_mk12 {ρ : Nat → Nat} {w : zW} (hw : CI ρ w) : CI (mk12 ρ) w := by
  refine ⟨fun q hq => ?_, fun q hq => ?_, fun q hq => ?_⟩
  · obtain ⟨c, h1, h2⟩ := hw.1 q hq
    refine ⟨c, h1, ?_⟩
    by_cases e : ρ q = 1 ∨ ρ q = 13
    · unfold rOK
      rw [mk12_0 e]
      trivial
    · refine rOK_map (mk12_k e) (fun x r hr ex => ?_) h2
      have hr' : r ≠ 1 ∧ r ≠ 13 := by
        rcases hr with hr | ⟨ti, len, hr⟩
        · exact rls_12 hr (by omega)
        · have := rRf_12 hr; omega
      exact (mk12_k (by rw [ex]; omega)).trans ex
  · have := hw.2.1 q hq
    exact (mk12_k (by omega)).trans this
  · have hq' := mk12_r hq (by decide)
    obtain ⟨h1, h2⟩ := hw.2.2 q hq'
    exact ⟨(mk12_k (by omega)).trans h1, h2⟩
/-- a cell out of view may change -/
theorem CI_hid {ρ : Nat → Nat} {w w' : zW} {q : Nat} (hw : CI ρ w) (hq : ρ q = 0) (hl : q < w.length) (f : wfr q w w') : CI ρ w' := by
  have hz : ∃ c, zix w' q = some c := by
    rw [zix_eq]
    exact ⟨_, List.getElem?_eq_getElem (by rw [f.1]; exact hl)⟩
  obtain ⟨c, hc⟩ := hz
  refine CI_st hw f hc ?_ ⟨by rw [hq]; decide, by rw [hq]; decide⟩
  unfold rOK
  rw [hq]
  trivial
def to50 (ρ : Nat → Nat) (n : Nat) : Nat → Nat := fun x => if x = n then 50 else ρ x
theorem to50_n {ρ : Nat → Nat} {n x : Nat} (h : x ≠ n) : to50 ρ n x = ρ x := if_neg h
theorem to50_s {ρ : Nat → Nat} {n : Nat} : to50 ρ n n = 50 := if_pos rfl
theorem CI_to50 {σ : Nat → Nat} {w1 w2 w3 : zW} {n i : Nat} {g : Nat → Option Nat} (h1 : CI σ w1) (hn : σ n = 49) (r12 : σ 12 = 13) (f2 : wfr 12 w1 w2) (hg : zix w1 12 = some (rfa 7 2 g)) (hg2 : zix w2 12 = some (rfa 7 2 (va_up g i (some n)))) (h3 : CI (mk12 σ) w3) (f3 : wfR [49, 51] (mk12 σ) w2 w3) (hnn : nn w3 n) : CI (to50 σ n) w3 := by
  have len : w3.length = w1.length := f3.1.trans f2.1
  have h49 : ∀ x r, σ x = r → r ≠ 49 → to50 σ n x = r := fun x r e h => (to50_n (fun e2 => h (by rw [← e, e2, hn]))).trans e
  refine ⟨fun q hq => ?_, fun q hq => ?_, fun q hq => ?_⟩
  · by_cases e : q = n
    · subst e
      obtain ⟨y0, z2, z3, hO, a, b, c, d, f⟩ := CI_o49 h3 (q := q) ((mk12_k (by omega)).trans hn)
      cases y0 with
      | none => exact absurd hO (hnn _ _)
      | some zb =>
        refine ⟨_, hO, ?_⟩
        unfold rOK
        rw [to50_s]
        exact ⟨zb, z2, z3, rfl, h49 _ _ (mk12_r (a zb rfl) (by decide)) (by decide), h49 _ _ (mk12_r b (by decide)) (by decide), h49 _ _ (mk12_r c (by decide)) (by decide), h49 _ _ (mk12_r d (by decide)) (by decide), f⟩
    · by_cases e2 : σ q = 1 ∨ σ q = 13
      · have c3 : zix w3 q = zix w2 q := f3.2 q (by rw [mk12_0 e2]; decide)
        by_cases e12 : q = 12
        · subst e12
          refine ⟨_, c3.trans hg2, ?_⟩
          unfold rOK
          rw [to50_n e, r12]
          refine ⟨_, rfl, fun j x hx => ?_⟩
          by_cases ej : j = i
          · subst ej
            rw [up_s] at hx
            cases hx
            exact to50_s
          · rw [up_n ej] at hx
            obtain ⟨g', a, b⟩ := CI_rf h1 (q := 12) (by rw [r12]; rfl) (by rw [r12]; rfl)
            obtain rfl := rfEq (a.symm.trans hg)
            exact h49 x 50 (b j x hx) (by decide)
        · obtain ⟨c, hc, ho⟩ := h1.1 q (by rw [← len]; exact hq)
          refine ⟨c, (c3.trans (f2.2 q e12)).trans hc, rOK_map (to50_n e) (fun x r hr ex => h49 x r ex ?_) ho⟩
          rcases hr with hr | ⟨ti, len, hr⟩
          · exact (rls_49 hr).1
          · exact (rRf_12 hr).2.2.1
      · obtain ⟨c, hc, ho⟩ := h3.1 q hq
        refine ⟨c, hc, rOK_map ((to50_n e).trans (mk12_k e2).symm) (fun x r hr ex => ?_) ho⟩
        rcases hr with hr | ⟨ti, len, hr⟩
        · exact h49 x r (mk12_r ex (rls_0 hr)) (rls_49 hr).1
        · exact h49 x r (mk12_r ex (rRf_0 hr)) (rRf_12 hr).2.2.1
  · have h0 := h1.2.1 q (by rw [← len]; exact hq)
    exact h49 q 0 h0 (by decide)
  · have hq' : σ q = 23 := by
      unfold to50 at hq
      split at hq
      · cases hq
      · exact hq
    obtain ⟨a, b⟩ := h3.2.2 q ((mk12_k (by omega)).trans hq')
    exact ⟨h49 _ _ (mk12_r a (by decide)) (by decide), b⟩
section RS
variable {R : zS → Prop} {np : Nat} {L : zL} {S : List Value} {w : zW} {k n : Nat}
theorem c_rst0 {q ti len p : Nat} {i : Int} {g : Nat → Option Nat} {fs : List Value} (ht : (Nat.ble 3 ti && Nat.ble ti 8) = true) (hg : zix w q = some (rfa ti len g)) (hpo : zix w p = some (.inr (zec ti, fs))) (h0 : 0 ≤ i) (h1 : i < len) (hl : len ≤ 60000) (hk : ∀ w1, wfr q w w1 → zix w1 q = some (rfa ti len (va_up g i.toNat (some p))) → R (np, L, S, w1, k, n)) : zaq w q (fun ti len g => zif (Nat.ble 3 ti && Nat.ble ti 8) (zrn2 (.ref p) (fun q2 => zob w q2 (zec ti) fun _ => vp_in (Int32.ofInt i) len ∧ R (np, L, S, zst w q (.inl (ti, len, .inr (.inr (.inr (.inr (va_up g (Int32.ofInt i).toNatClampNeg (some q2))))))), k, n)) (vp_in (Int32.ofInt i) len ∧ R (np, L, S, zst w q (.inl (ti, len, .inr (.inr (.inr (.inr (va_up g (Int32.ofInt i).toNatClampNeg none)))))), k, n)))) := by
  unfold zaq
  rw [hg]
  dsimp only
  rw [ht]
  show zob w p (zec ti) _
  refine c_obj hpo ⟨zvin h0 h1 hl, ?_⟩
  rw [zcl h0 (by omega)]
  obtain ⟨f1, f2⟩ := wfr_st (c' := rfa ti len (va_up g i.toNat (some p))) hg
  exact hk _ f1 f2
end RS
theorem a_readingsAt {ρ : Nat → Nat} {w : zW} (hT : TOP ρ w) (d : Nat) (b : Int) (hb : -2147483648 ≤ b ∧ b ≤ 2147483647) : DET zTab (d + 3) iX11_readingsAt [.ref 0, .int (Int32.ofInt b)] w (fun mc ms r w' => ∃ σ, AL ρ w mc ms σ w' ∧ (r = some .null ∨ ∃ p, r = some (.ref p) ∧ σ p = 50)) := by
  obtain ⟨y6, y7, h0, r1, r7, r8, r9, r12, r13, e6, e7⟩ := top_o hT
  obtain ⟨rb, wb, ⟨o, rfl, ho, hob, rfl⟩, hrun⟩ := zCl_det _ _ _ _ _ _ _ (c_bookAt (d + 1) b hT.1 hT.2.1 hb (fun r w' => ∃ o, r = some (va_rf o) ∧ (∀ x, o = some x → ρ x = 20) ∧ (o = none ∨ (0 ≤ b ∧ b ≤ 1)) ∧ w' = w) fun o a b => ⟨o, rfl, a, b, rfl⟩)
  cases o with
  | none =>
    refine det_of (mc := 0) (ms := 0) ?_
    refine zCl_i (M := kX11_readingsAt) rfl (Nat.le_of_ble_eq_true rfl) fun R hR => ?_
    iterate 2 refine hR (?_ : R (_, _, _, _, _, _))
    refine hR (c_obj h0 (zcall_i 0 0 (Nat.le_of_ble_eq_true rfl) (Nat.le_of_ble_eq_true rfl) (hrun _ ?_)))
    refine (?_ : R (_, _, .null :: [], wb, 0, 0))
    iterate 4 refine hR (?_ : R (_, _, _, _, _, _))
    exact hR (zret_i rfl (Nat.le_refl _) trivial ⟨ρ, ⟨hT, fun _ _ h => h, fun _ _ _ => rfl, EXT_rf ρ, by omega, by omega⟩, Or.inl rfl⟩)
  | some z =>
    have hb1 : 0 ≤ b ∧ b ≤ 1 := by rcases hob with h | h; · cases h
                                   · exact h
    have hz := ho z rfl
    obtain ⟨g, hg, hgr⟩ := CI_rf hT.1 (q := 12) (by rw [r12]; rfl) (by rw [r12]; rfl)
    cases hgi : g b.toNat with
    | some p =>
      have hp := hgr _ _ hgi
      refine det_of (mc := 0) (ms := 0) ?_
      refine zCl_i (M := kX11_readingsAt) rfl (Nat.le_of_ble_eq_true rfl) fun R hR => ?_
      iterate 2 refine hR (?_ : R (_, _, _, _, _, _))
      refine hR (c_obj h0 (zcall_i 0 0 (Nat.le_of_ble_eq_true rfl) (Nat.le_of_ble_eq_true rfl) (hrun _ ?_)))
      refine (?_ : R (_, _, .ref z :: [], wb, 0, 0))
      iterate 4 refine hR (?_ : R (_, _, _, _, _, _))
      refine hR (c_get h0 rfl ?_)
      refine hR (?_ : R (_, _, _, _, _, _))
      refine hR (c_rldE hg rfl (by omega) (by omega) (Nat.le_of_ble_eq_true rfl) (v := .ref p) (by rw [hgi]; rfl) ?_)
      iterate 2 refine hR (?_ : R (_, _, _, _, _, _))
      refine hR (c_get h0 rfl ?_)
      refine hR (?_ : R (_, _, _, _, _, _))
      refine hR (c_rldE hg rfl (by omega) (by omega) (Nat.le_of_ble_eq_true rfl) (v := .ref p) (by rw [hgi]; rfl) ?_)
      refine hR (?_ : R (_, _, _, _, _, _))
      obtain ⟨z0, z2, z3, hO, -⟩ := CI_o50 hT.1 hp
      refine hR (c_obj hO (zcall_i 0 0 (Nat.le_of_ble_eq_true rfl) (Nat.le_of_ble_eq_true rfl) (c_takeUp _ p z hT.1 hp hz _ fun w1 hw1 f1 => ?_)))
      refine (?_ : R (_, _, [], w1, 0, 0))
      obtain ⟨hT1, hI1, hph, hK1⟩ := top_fr hT hw1 f1 (by decide) (AWK_fr hT.1 f1 hT.2.2.1 (by decide))
      have h01 := (f1.2 0 (by rw [hT.2.1]; decide)).trans h0
      have hg1 := (f1.2 12 (by rw [r12]; decide)).trans hg
      refine hR (?_ : R (_, _, _, _, _, _))
      refine hR (c_get h01 rfl ?_)
      refine hR (?_ : R (_, _, _, _, _, _))
      refine hR (c_rldE hg1 rfl (by omega) (by omega) (Nat.le_of_ble_eq_true rfl) (v := .ref p) (by rw [hgi]; rfl) ?_)
      exact hR (zret_i rfl (Nat.le_refl _) trivial ⟨ρ, ⟨hT1, hI1, hK1, EXT_rf ρ, by omega, by omega⟩, Or.inr ⟨p, rfl, hp⟩⟩)
    | none =>
      refine det_of (mc := 4) (ms := 38231) ?_
      refine zCl_i (M := kX11_readingsAt) rfl (Nat.le_of_ble_eq_true rfl) fun R hR => ?_
      iterate 2 refine hR (?_ : R (_, _, _, _, _, _))
      refine hR (c_obj h0 (zcall_i 0 0 (Nat.le_of_ble_eq_true rfl) (Nat.le_of_ble_eq_true rfl) (hrun _ ?_)))
      refine (?_ : R (_, _, .ref z :: [], wb, 0, 0))
      iterate 4 refine hR (?_ : R (_, _, _, _, _, _))
      refine hR (c_get h0 rfl ?_)
      refine hR (?_ : R (_, _, _, _, _, _))
      refine hR (c_rldE hg rfl (by omega) (by omega) (Nat.le_of_ble_eq_true rfl) (v := .null) (by rw [hgi]; rfl) ?_)
      iterate 2 refine hR (?_ : R (_, _, _, _, _, _))
      refine hR (c_get h0 rfl ?_)
      iterate 3 refine hR (?_ : R (_, _, _, _, _, _))
      refine hR (zcall_i 3 38227 (Nat.le_of_ble_eq_true rfl) (Nat.le_of_ble_eq_true rfl) (n_Readings hT.1 _ _ fun σ w1 hc1 g1 hl1 hr1 hn1 => ?_))
      refine (?_ : R (_, _, .ref wb.length :: .int (Int32.ofInt b) :: .ref 12 :: [], w1, 4, 38231))
      obtain ⟨y0, z2, z3, hO, a1, a2, a3, a4, a5⟩ := CI_o49 hc1 hr1
      obtain ⟨hT1, hI1, hp1, hK1, hx1⟩ := top_gro hT hc1 g1 (fun q a b => absurd b (hn1 q a))
      obtain ⟨y6', y7', h0', r1', r7', r8', r9', r12', r13', e6', e7'⟩ := top_o hT1
      have hlt : 45 ≤ wb.length := hT.2.2.2.2
      have hg1 : zix w1 12 = some (rfa 7 2 g) := (g1.2 12 (by omega)).2.trans hg
      refine hR (c_rst0 rfl hg1 hO (by omega) (by omega) (Nat.le_of_ble_eq_true rfl) fun w2 f2 hg2 => ?_)
      have hm0 : mk12 σ 0 = 0 := mk12_0 (Or.inl hT1.2.1)
      have hm12 : mk12 σ 12 = 0 := mk12_0 (Or.inr r12')
      have hc2 : CI (mk12 σ) w2 := CI_hid (CI_mk12 hc1) hm12 (by omega) f2
      have hN : mk12 σ wb.length = 49 := (mk12_k (by omega)).trans hr1
      have hz1 : σ z = 20 := (hx1 z (by rw [hz]; decide)).trans hz
      have hz2 : mk12 σ z = 20 := (mk12_k (by omega)).trans hz1
      have h02 := (f2.2 0 (by decide)).trans h0'
      refine hR (?_ : R (_, _, _, _, _, _))
      refine hR (c_get h02 rfl ?_)
      refine hR (?_ : R (_, _, _, _, _, _))
      refine hR (c_rldE hg2 rfl (by omega) (by omega) (Nat.le_of_ble_eq_true rfl) (v := .ref wb.length) (by rw [up_s]; rfl) ?_)
      refine hR (?_ : R (_, _, _, _, _, _))
      obtain ⟨u0, u2, u3, hO2, -⟩ := CI_o49 hc2 hN
      refine hR (c_obj hO2 (zcall_i 0 0 (Nat.le_of_ble_eq_true rfl) (Nat.le_of_ble_eq_true rfl) (c_takeUp0 _ wb.length z hc2 hN hz2 _ fun w3 hw3 f3 hnn => ?_)))
      refine (?_ : R (_, _, [], w3, 4, 38231))
      have h03 := (f3.2 0 (by rw [hm0]; decide)).trans h02
      have hg3 := (f3.2 12 (by rw [hm12]; decide)).trans hg2
      refine hR (?_ : R (_, _, _, _, _, _))
      refine hR (c_get h03 rfl ?_)
      refine hR (?_ : R (_, _, _, _, _, _))
      refine hR (c_rldE hg3 rfl (by omega) (by omega) (Nat.le_of_ble_eq_true rfl) (v := .ref wb.length) (by rw [up_s]; rfl) ?_)
      have hc3 := CI_to50 hc1 hr1 r12' f2 hg1 hg2 hw3 f3 hnn
      have hx3 : EXT ρ (to50 σ wb.length) := fun q hq => (to50_n (by have := CI_lt hT.1 hq; omega)).trans (hx1 q hq)
      have hce : ∀ q, q ≠ 12 → σ q ≠ 49 → σ q ≠ 51 → zix w3 q = zix w1 q := by
        intro q a b c
        refine (f3.2 q ?_).trans (f2.2 q a)
        by_cases e : σ q = 1 ∨ σ q = 13
        · rw [mk12_0 e]; decide
        · rw [mk12_k e]; simp only [List.mem_cons, List.not_mem_nil, or_false]; omega
      have hlen : w3.length = w1.length := f3.1.trans f2.1
      have hT3 : TOP (to50 σ wb.length) w3 := by
        refine ⟨hc3, (hx3 0 (by rw [hT.2.1]; decide)).trans hT.2.1, fun q hq => ?_, fun q a b => (to50_n (by omega)).trans (hT1.2.2.2.1 q a b), by rw [hlen]; exact hT1.2.2.2.2⟩
        have hq' : σ q = 60 := by
          unfold to50 at hq
          split at hq
          · cases hq
          · exact hq
        obtain ⟨x0, hO6, hx0, k1, k2, k3, k4⟩ := CI_o60 hc1 hq'
        obtain ⟨sz, gq, gn, gb, ⟨a, b, c⟩, d', e', f⟩ := hT1.2.2.1 q hq'
        exact ⟨sz, gq, gn, gb, ⟨a, (hce _ (fun e => by rw [e, r12'] at hq'; omega) (by omega) (by omega)).trans b, (hce _ (fun e => by rw [e, r12'] at k2; omega) (by omega) (by omega)).trans c⟩, (hce _ (fun e => by rw [e, r12'] at k1; omega) (by omega) (by omega)).trans d', (hce _ (fun e => by rw [e, r12'] at k3; omega) (by omega) (by omega)).trans e', f⟩
      have hI3 : ∀ l m, IM w1 l m → IM w3 l m := fun l m h => im_eq (hce 1 (by decide) (by omega) (by omega)) (hce 7 (by decide) (by omega) (by omega)) (fun g' k q hg' hq _ => by
        have := im_role (l := 0) (m := fun _ => none) hT1 hg' hq
        exact hce q (fun e => by rw [e, r12'] at this; omega) (by omega) (by omega)) h
      have hK3 : KEEP w1 w3 := fun q a b => hce q (by omega) (by have := hT1.2.2.2.1 q a b; omega) (by have := hT1.2.2.2.1 q a b; omega)
      have hph := phi_12 f2 hg1 hg2 (by omega) hgi
      have hph3 : phi w3 = phi w2 := phi_eq (h03.trans h02.symm) ((hce 7 (by decide) (by omega) (by omega)).trans (f2.2 7 (by decide)).symm) (hg3.trans hg2.symm) ((hce 13 (by decide) (by omega) (by omega)).trans (f2.2 13 (by decide)).symm)
      exact hR (zret_i rfl (Nat.le_refl _) trivial ⟨_, ⟨hT3, fun l m h => hI3 l m (hI1 l m h), KEEP_tr hK1 hK3, hx3, by omega, by omega⟩, Or.inr ⟨_, rfl, to50_s⟩⟩)
