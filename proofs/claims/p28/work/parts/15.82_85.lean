/-! BOTH SIDES TOGETHER: what holds between the law's rounds. -/
def mOf (sz kp : Nat → Int32) (k : Nat) : Option Int := if (kp k).toInt = 0 then none else some (sz (k + 1)).toInt
def J (w : zW) : Prop := ∃ σ sz kp, TOP σ w ∧ MI w sz kp ∧ IM w (sz 0).toInt (mOf sz kp)
theorem im_ext {w : zW} {l : Int} {m m' : Nat → Option Int} (h : ∀ k, k < 3 → m' k = m k) (hI : IM w l m) : IM w l m' := by
  obtain ⟨a, g, b, c, d⟩ := hI
  exact ⟨a, g, b, fun k hk => by rw [h k hk]; exact c k hk, d⟩
theorem top_same {σ : Nat → Nat} {w w' : zW} (hT : TOP σ w) (hS : SAME w w') : TOP σ w' ∧ (∀ l m, IM w l m → IM w' l m) ∧ phi w' = phi w := by
  have h45 := hT.2.2.2.2
  have hc : CI σ w' := by
    refine ⟨fun q hq => ?_, fun q hq => hT.1.2.1 q (by rw [← hS.1]; exact hq), fun q hq => ?_⟩
    · by_cases e : q < 14 ∨ 44 < q
      · rw [hS.2 q e]; exact hT.1.1 q (by rw [← hS.1]; exact hq)
      · have hz : ∃ c, zix w' q = some c := by
          rw [zix_eq]
          exact ⟨_, List.getElem?_eq_getElem hq⟩
        obtain ⟨c, hc⟩ := hz
        refine ⟨c, hc, ?_⟩
        unfold rOK
        rw [hT.2.2.2.1 q (by omega) (by omega)]
        trivial
    · obtain ⟨h1, gk, gn, h2, h3, h4⟩ := hT.1.2.2 q hq
      have a : q < 14 ∨ 44 < q := Classical.byContradiction fun h => by have := hT.2.2.2.1 q (by omega) (by omega); omega
      have b : q + 1 < 14 ∨ 44 < q + 1 := Classical.byContradiction fun h => by have := hT.2.2.2.1 (q + 1) (by omega) (by omega); omega
      exact ⟨h1, gk, gn, (hS.2 q a).trans h2, (hS.2 (q + 1) b).trans h3, h4⟩
  refine ⟨⟨hc, hT.2.1, fun q hq => ?_, hT.2.2.2.1, by rw [hS.1]; exact h45⟩, fun l m h => im_eq (hS.2 1 (by omega)) (hS.2 7 (by omega)) (fun g k q _ _ hq => hS.2 q (by omega)) h, phi_eq (hS.2 0 (by omega)) (hS.2 7 (by omega)) (hS.2 12 (by omega)) (hS.2 13 (by omega))⟩
  obtain ⟨x0, hO, hx0, f1, f2, f3, f4⟩ := CI_o60 hT.1 hq
  have o : ∀ x, σ x ≠ 0 → x < 14 ∨ 44 < x := fun x hx => Classical.byContradiction fun h => hx (hT.2.2.2.1 x (by omega) (by omega))
  obtain ⟨sz, gq, gn, gb, ⟨a, b, c⟩, d', e', f⟩ := hT.2.2.1 q hq
  exact ⟨sz, gq, gn, gb, ⟨a, (hS.2 _ (o q (by omega))).trans b, (hS.2 _ (o _ (by omega))).trans c⟩, (hS.2 _ (o _ (by omega))).trans d', (hS.2 _ (o _ (by omega))).trans e', f⟩
def PAIR (iX iM : Nat) (As : List Value) (w : zW) (P : Option Value → Option Value → Prop) : Prop := ∃ mc ms r w1 r' w2, (∀ Q : zQ, Q r w1 → zCl zTab 12 iX (.ref 0 :: As) w mc ms Q) ∧ (∀ Q : zQ, Q r' w2 → zCl zTab 12 iM (.ref 14 :: As) w1 0 0 Q) ∧ (∃ fs, zix w 0 = some (.inr (10, fs))) ∧ (∃ fs, zix w1 14 = some (.inr (11, fs))) ∧ J w2 ∧ mc ≤ 100 ∧ ms + phi w2 ≤ phi w + 300 ∧ P r r'
theorem mi_14 {w : zW} {sz kp : Nat → Int32} (h : MI w sz kp) : ∃ fs, zix w 14 = some (.inr (11, fs)) := mi_elim h fun c0 c1 c2 c3 c4 c5 c6 c7 c8 c9 c10 c11 c12 c13 f0 f9 f10 f11 f12 f13 f15 f16 f17 f20 f21 f22 f23 f26 f28 f31 f32 f33 f38 f41 f44 x14 g15 g17 g18 g19 g20 g21 g22 g23 g24 g25 g26 g27 g28 g29 g30 g31 g32 g33 g34 g35 g36 g37 g38 g39 g40 g41 g42 g43 t e b16 b19 b20 b21 b22 b25 b26 b28 b30 b33 b38 => by
  subst e
  exact ⟨_, rfl⟩
theorem top_0 {σ : Nat → Nat} {w : zW} (h : TOP σ w) : ∃ fs, zix w 0 = some (.inr (10, fs)) := by
  obtain ⟨y6, y7, h0, -⟩ := top_o h
  exact ⟨_, h0⟩
theorem pair_mk {iX iM mc ms : Nat} {As : List Value} {w w1 w2 : zW} {r r' : Option Value} {P : Option Value → Option Value → Prop} {σ τ : Nat → Nat} {l : Int} {m : Nat → Option Int} {sz kp sz' kp' : Nat → Int32} (hT : TOP σ w) (run1 : ∀ Q : zQ, Q r w1 → zCl zTab 12 iX (.ref 0 :: As) w mc ms Q) (run2 : ∀ Q : zQ, Q r' w2 → zCl zTab 12 iM (.ref 14 :: As) w1 0 0 Q) (hT1 : TOP τ w1) (hI1 : IM w1 l m) (hM1 : MI w1 sz kp) (hS : SAME w1 w2) (hM2 : MI w2 sz' kp') (hl : l = (sz' 0).toInt) (hm : ∀ k, k < 3 → mOf sz' kp' k = m k) (hmc : mc ≤ 100) (hms : ms + phi w1 ≤ phi w + 300) (hP : P r r') : PAIR iX iM As w P := by
  obtain ⟨hT2, hI2, hp2⟩ := top_same hT1 hS
  refine ⟨mc, ms, r, w1, r', w2, run1, run2, top_0 hT, mi_14 hM1, ⟨τ, sz', kp', hT2, hM2, ?_⟩, hmc, by omega, hP⟩
  rw [← hl]
  exact im_ext hm (hI2 _ _ hI1)
def rII (r r' : Option Value) : Prop := ∃ v v', r = some (.int v) ∧ r' = some (.int v')
def rLL (r r' : Option Value) : Prop := ∃ v v', r = some (.long v) ∧ r' = some (.long v')
def rEQ (r r' : Option Value) : Prop := ∃ v, r = some (.int v) ∧ r' = some (.int v)
theorem rEQ_II {r r' : Option Value} (h : rEQ r r') : rII r r' := by
  obtain ⟨v, a, b⟩ := h
  exact ⟨v, v, a, b⟩
theorem mOf_0 {sz kp k16 : Nat → Int32} (h : ∀ j, j ≠ 0 → k16 j = sz j) : ∀ k, k < 3 → mOf k16 kp k = mOf sz kp k := by
  intro k _
  unfold mOf
  rw [h (k + 1) (by omega)]
theorem pr_feed {w : zW} (hJ : J w) (a1 a2 a3 a4 a5 : Int) (ha1 : -2147483648 ≤ a1 ∧ a1 ≤ 2147483647) (ha2 : -2147483648 ≤ a2 ∧ a2 ≤ 2147483647) (ha3 : -2147483648 ≤ a3 ∧ a3 ≤ 2147483647) (ha4 : -2147483648 ≤ a4 ∧ a4 ≤ 2147483647) (ha5 : -2147483648 ≤ a5 ∧ a5 ≤ 2147483647) : PAIR iX11_feed iX12_feed [.int (Int32.ofInt a1), .int (Int32.ofInt a2), .int (Int32.ofInt a3), .int (Int32.ofInt a4), .int (Int32.ofInt a5)] w rEQ := by
  obtain ⟨σ, sz, kp, hT, hM, hI⟩ := hJ
  obtain ⟨mc, ms, r, w1, hP, run1⟩ := k_feed hT hI 10 a1 a2 a3 a4 a5
  rcases hP with ⟨hc, ⟨⟨τ, hT1⟩, hI1, hK1, hm1, hs1⟩, rfl⟩ | ⟨hc, ⟨⟨τ, hT1⟩, hI1, hK1, hm1, hs1⟩, rfl⟩
  · skip
    have hM1 := mi_keep hM hK1 hT1.2.2.2.2
    obtain ⟨mc2, ms2, r2, w2, ⟨⟨rfl, rfl⟩, hS, v2, k16, k44, hM2, rfl, p0, p1, rfl⟩, run2⟩ := q_feed hM1 10 a1 a2 a3 a4 a5 ha1 ha2 ha3 ha4 ha5
    obtain rfl : v2 = -1 := by omega
    exact pair_mk hT run1 run2 hT1 hI1 hM1 hS hM2 (by omega) (mOf_0 p1) hm1 hs1 ⟨_, rfl, rfl⟩
  · skip
    have hM1 := mi_keep hM hK1 hT1.2.2.2.2
    obtain ⟨mc2, ms2, r2, w2, ⟨⟨rfl, rfl⟩, hS, v2, k16, k44, hM2, rfl, p0, p1, rfl⟩, run2⟩ := q_feed hM1 10 a1 a2 a3 a4 a5 ha1 ha2 ha3 ha4 ha5
    obtain rfl : v2 = (sz 0).toInt + 20 := by omega
    exact pair_mk hT run1 run2 hT1 hI1 hM1 hS hM2 (by omega) (mOf_0 p1) hm1 hs1 ⟨_, rfl, rfl⟩
theorem pr_end {w : zW} (hJ : J w) (a1 : Int) (ha1 : -2147483648 ≤ a1 ∧ a1 ≤ 2147483647) : PAIR iX11_end iX12_end [.int (Int32.ofInt a1)] w rEQ := by
  obtain ⟨σ, sz, kp, hT, hM, hI⟩ := hJ
  obtain ⟨mc, ms, r, w1, hP, run1⟩ := k_end hT hI 11 a1 ha1
  rcases hP with ⟨hc, ⟨⟨τ, hT1⟩, hI1, hK1, hm1, hs1⟩, rfl⟩ | ⟨hc, ⟨⟨τ, hT1⟩, hI1, hK1, hm1, hs1⟩, rfl⟩
  · skip
    have hM1 := mi_keep hM hK1 hT1.2.2.2.2
    obtain ⟨mc2, ms2, r2, w2, ⟨⟨rfl, rfl⟩, hS, v2, k16, k44, hM2, rfl, p0, p1, rfl⟩, run2⟩ := q_end hM1 10 a1 ha1
    have e : v2 = -1 := by omega
    rw [e] at run2
    exact pair_mk hT run1 run2 hT1 hI1 hM1 hS hM2 (by omega) (mOf_0 p1) hm1 hs1 ⟨_, rfl, rfl⟩
  · skip
    have hM1 := mi_keep hM hK1 hT1.2.2.2.2
    obtain ⟨mc2, ms2, r2, w2, ⟨⟨rfl, rfl⟩, hS, v2, k16, k44, hM2, rfl, p0, p1, rfl⟩, run2⟩ := q_end hM1 10 a1 ha1
    have e : v2 = a1 := by omega
    rw [e] at run2
    exact pair_mk hT run1 run2 hT1 hI1 hM1 hS hM2 (by omega) (mOf_0 p1) hm1 hs1 ⟨_, rfl, rfl⟩
theorem pr_text {w : zW} (hJ : J w) (a1 a2 : Int) (ha1 : -2147483648 ≤ a1 ∧ a1 ≤ 2147483647) (ha2 : -2147483648 ≤ a2 ∧ a2 ≤ 2147483647) : PAIR iX11_text iX12_text [.int (Int32.ofInt a1), .int (Int32.ofInt a2)] w rII := by
  obtain ⟨σ, sz, kp, hT, hM, hI⟩ := hJ
  obtain ⟨mc, ms, r, w1, ⟨⟨⟨τ, hT1⟩, hI1, hK1, hm1, hs1⟩, v, rfl⟩, run1⟩ := k_text hT hI 2 a1 a2 ha1 ha2
  have hM1 := mi_keep hM hK1 hT1.2.2.2.2
  obtain ⟨mc2, ms2, r2, w2, ⟨⟨rfl, rfl⟩, hS, v2, k16, k44, hM2, rfl, p0, p1, rfl⟩, run2⟩ := q_text hM1 2 a1 a2 ha1 ha2
  exact pair_mk hT run1 run2 hT1 hI1 hM1 hS hM2 p0.symm (mOf_0 p1) hm1 hs1 ⟨_, _, rfl, rfl⟩
theorem pr_fault {w : zW} (hJ : J w) (a1 : Int) (ha1 : -2147483648 ≤ a1 ∧ a1 ≤ 2147483647) : PAIR iX11_fault iX12_fault [.int (Int32.ofInt a1)] w rII := by
  obtain ⟨σ, sz, kp, hT, hM, hI⟩ := hJ
  obtain ⟨mc, ms, r, w1, ⟨⟨τ, hT1, hI1, hK1, hx1, hm1, hs1⟩, v, rfl⟩, run1⟩ := k_fault hT 8 a1 ha1
  have hM1 := mi_keep hM hK1 hT1.2.2.2.2
  obtain ⟨mc2, ms2, r2, w2, ⟨⟨rfl, rfl⟩, hS, hM2, v2, rfl⟩, run2⟩ := q_fault hM1 11 a1 ha1
  exact pair_mk hT run1 run2 hT1 (hI1 _ _ hI) hM1 hS hM2 rfl (fun _ _ => rfl) hm1 (by omega) ⟨v, v2, rfl, rfl⟩
theorem pr_book {w : zW} (hJ : J w) (a1 a2 : Int) (ha1 : -2147483648 ≤ a1 ∧ a1 ≤ 2147483647) (ha2 : -2147483648 ≤ a2 ∧ a2 ≤ 2147483647) : PAIR iX11_book iX12_book [.int (Int32.ofInt a1), .int (Int32.ofInt a2)] w rII := by
  obtain ⟨σ, sz, kp, hT, hM, hI⟩ := hJ
  obtain ⟨mc, ms, r, w1, ⟨⟨τ, hT1, hI1, hK1, hx1, hm1, hs1⟩, v, rfl⟩, run1⟩ := k_book hT 8 a1 a2 ha1 ha2
  have hM1 := mi_keep hM hK1 hT1.2.2.2.2
  obtain ⟨mc2, ms2, r2, w2, ⟨⟨rfl, rfl⟩, hS, hM2, v2, rfl⟩, run2⟩ := q_book hM1 8 a1 a2 ha1 ha2
  exact pair_mk hT run1 run2 hT1 (hI1 _ _ hI) hM1 hS hM2 rfl (fun _ _ => rfl) hm1 (by omega) ⟨v, v2, rfl, rfl⟩
theorem ex_word {w : zW} {sz kp : Nat → Int32} (h : MI w sz kp) (a1 a2 : Int32) : zCl zTab 12 iX12_word [.ref 14, .int a1, .int a2] w 0 0 (fun r _ => r = some (.int (vWord a1 a2))) := mi_elim h fun c0 c1 c2 c3 c4 c5 c6 c7 c8 c9 c10 c11 c12 c13 f0 f9 f10 f11 f12 f13 f15 f16 f17 f20 f21 f22 f23 f26 f28 f31 f32 f33 f38 f41 f44 x14 g15 g17 g18 g19 g20 g21 g22 g23 g24 g25 g26 g27 g28 g29 g30 g31 g32 g33 g34 g35 g36 g37 g38 g39 g40 g41 g42 g43 t e b16 b19 b20 b21 b22 b25 b26 b28 b30 b33 b38 => by
  subst e
  exact m_word_1 8 a1 a2 _ (fun _ => rfl)
theorem pr_word {w : zW} (hJ : J w) (a1 a2 : Int) (ha1 : -2147483648 ≤ a1 ∧ a1 ≤ 2147483647) (ha2 : -2147483648 ≤ a2 ∧ a2 ≤ 2147483647) : PAIR iX11_word iX12_word [.int (Int32.ofInt a1), .int (Int32.ofInt a2)] w rEQ := by
  obtain ⟨σ, sz, kp, hT, hM, hI⟩ := hJ
  obtain ⟨mc, ms, r, w1, ⟨⟨τ, hT1, hI1, hK1, hx1, hm1, hs1⟩, v, rfl⟩, run1⟩ := k_word hT 8 a1 a2 ha1 ha2
  have hM1 := mi_keep hM hK1 hT1.2.2.2.2
  obtain ⟨mc2, ms2, r2, w2, ⟨⟨rfl, rfl⟩, hS, hM2, v2, rfl⟩, run2⟩ := q_word hM1 8 a1 a2 ha1 ha2
  obtain ⟨_, _, e1, e2⟩ := zCl_two 12 _ _ _ _ _ _ _ _ _ (run1 (fun r _ => r = some (.int v)) rfl) (r_word 8 (Int32.ofInt a1) (Int32.ofInt a2) w (fun r _ => r = some (.int (vWord (Int32.ofInt a1) (Int32.ofInt a2)))) rfl)
  obtain ⟨_, _, e3, e4⟩ := zCl_two 12 _ _ _ _ _ _ _ _ _ (run2 (fun r _ => r = some (.int v2)) rfl) (ex_word hM1 (Int32.ofInt a1) (Int32.ofInt a2))
  have e5 : v = v2 := by
    have a := e1.symm.trans e2
    have b := e3.symm.trans e4
    injection a with a; injection a with a; injection b with b; injection b with b
    rw [a, b]
  subst e5
  exact pair_mk hT run1 run2 hT1 (hI1 _ _ hI) hM1 hS hM2 rfl (fun _ _ => rfl) hm1 (by omega) ⟨v, rfl, rfl⟩
theorem ex_drift {w : zW} {sz kp : Nat → Int32} (h : MI w sz kp) (a1 a2 : Int32) : zCl zTab 12 iX12_drift [.ref 14, .int a1, .int a2] w 0 0 (fun r _ => r = some (.int (vDrift a1 a2))) := mi_elim h fun c0 c1 c2 c3 c4 c5 c6 c7 c8 c9 c10 c11 c12 c13 f0 f9 f10 f11 f12 f13 f15 f16 f17 f20 f21 f22 f23 f26 f28 f31 f32 f33 f38 f41 f44 x14 g15 g17 g18 g19 g20 g21 g22 g23 g24 g25 g26 g27 g28 g29 g30 g31 g32 g33 g34 g35 g36 g37 g38 g39 g40 g41 g42 g43 t e b16 b19 b20 b21 b22 b25 b26 b28 b30 b33 b38 => by
  subst e
  exact m_drift_1 7 a1 a2 _ (fun _ => rfl)
theorem pr_drift {w : zW} (hJ : J w) (a1 a2 : Int) (ha1 : -2147483648 ≤ a1 ∧ a1 ≤ 2147483647) (ha2 : -2147483648 ≤ a2 ∧ a2 ≤ 2147483647) : PAIR iX11_drift iX12_drift [.int (Int32.ofInt a1), .int (Int32.ofInt a2)] w rEQ := by
  obtain ⟨σ, sz, kp, hT, hM, hI⟩ := hJ
  obtain ⟨mc, ms, r, w1, ⟨⟨τ, hT1, hI1, hK1, hx1, hm1, hs1⟩, v, rfl⟩, run1⟩ := k_drift hT 8 a1 a2 ha1 ha2
  have hM1 := mi_keep hM hK1 hT1.2.2.2.2
  obtain ⟨mc2, ms2, r2, w2, ⟨⟨rfl, rfl⟩, hS, hM2, v2, rfl⟩, run2⟩ := q_drift hM1 7 a1 a2 ha1 ha2
  obtain ⟨_, _, e1, e2⟩ := zCl_two 12 _ _ _ _ _ _ _ _ _ (run1 (fun r _ => r = some (.int v)) rfl) (r_drift 8 (Int32.ofInt a1) (Int32.ofInt a2) w (fun r _ => r = some (.int (vDrift (Int32.ofInt a1) (Int32.ofInt a2)))) rfl)
  obtain ⟨_, _, e3, e4⟩ := zCl_two 12 _ _ _ _ _ _ _ _ _ (run2 (fun r _ => r = some (.int v2)) rfl) (ex_drift hM1 (Int32.ofInt a1) (Int32.ofInt a2))
  have e5 : v = v2 := by
    have a := e1.symm.trans e2
    have b := e3.symm.trans e4
    injection a with a; injection a with a; injection b with b; injection b with b
    rw [a, b]
  subst e5
  exact pair_mk hT run1 run2 hT1 (hI1 _ _ hI) hM1 hS hM2 rfl (fun _ _ => rfl) hm1 (by omega) ⟨v, rfl, rfl⟩
theorem pr_read {w : zW} (hJ : J w) (a1 a2 a3 : Int) (ha1 : -2147483648 ≤ a1 ∧ a1 ≤ 2147483647) (ha2 : -2147483648 ≤ a2 ∧ a2 ≤ 2147483647) (ha3 : -2147483648 ≤ a3 ∧ a3 ≤ 2147483647) : PAIR iX11_read iX12_read [.int (Int32.ofInt a1), .int (Int32.ofInt a2), .int (Int32.ofInt a3)] w rII := by
  obtain ⟨σ, sz, kp, hT, hM, hI⟩ := hJ
  obtain ⟨mc, ms, r, w1, ⟨⟨τ, hT1, hI1, hK1, hx1, hm1, hs1⟩, v, rfl⟩, run1⟩ := k_read hT 8 a1 a2 a3 ha1 ha2 ha3
  have hM1 := mi_keep hM hK1 hT1.2.2.2.2
  obtain ⟨mc2, ms2, r2, w2, ⟨⟨rfl, rfl⟩, hS, hM2, v2, rfl⟩, run2⟩ := q_read hM1 7 a1 a2 a3 ha1 ha2 ha3
  exact pair_mk hT run1 run2 hT1 (hI1 _ _ hI) hM1 hS hM2 rfl (fun _ _ => rfl) hm1 (by omega) ⟨v, v2, rfl, rfl⟩
theorem pr_deed {w : zW} (hJ : J w) (a1 a2 a3 : Int) (ha1 : -2147483648 ≤ a1 ∧ a1 ≤ 2147483647) (ha2 : -2147483648 ≤ a2 ∧ a2 ≤ 2147483647) (ha3 : -2147483648 ≤ a3 ∧ a3 ≤ 2147483647) : PAIR iX11_deed iX12_deed [.int (Int32.ofInt a1), .int (Int32.ofInt a2), .int (Int32.ofInt a3)] w rII := by
  obtain ⟨σ, sz, kp, hT, hM, hI⟩ := hJ
  obtain ⟨mc, ms, r, w1, ⟨⟨τ, hT1, hI1, hK1, hx1, hm1, hs1⟩, v, rfl⟩, run1⟩ := k_deed hT 8 a1 a2 a3 ha1 ha2 ha3
  have hM1 := mi_keep hM hK1 hT1.2.2.2.2
  obtain ⟨mc2, ms2, r2, w2, ⟨⟨rfl, rfl⟩, hS, hM2, v2, rfl⟩, run2⟩ := q_deed hM1 8 a1 a2 a3 ha1 ha2 ha3
  exact pair_mk hT run1 run2 hT1 (hI1 _ _ hI) hM1 hS hM2 rfl (fun _ _ => rfl) hm1 (by omega) ⟨v, v2, rfl, rfl⟩
theorem pr_stop {w : zW} (hJ : J w) (a1 a2 : Int) (ha1 : -2147483648 ≤ a1 ∧ a1 ≤ 2147483647) (ha2 : -2147483648 ≤ a2 ∧ a2 ≤ 2147483647) : PAIR iX11_stop iX12_stop [.int (Int32.ofInt a1), .int (Int32.ofInt a2)] w rII := by
  obtain ⟨σ, sz, kp, hT, hM, hI⟩ := hJ
  obtain ⟨mc, ms, r, w1, ⟨⟨τ, hT1, hI1, hK1, hx1, hm1, hs1⟩, v, rfl⟩, run1⟩ := k_stop hT 5 a1 a2 ha1 ha2
  have hM1 := mi_keep hM hK1 hT1.2.2.2.2
  obtain ⟨mc2, ms2, r2, w2, ⟨⟨rfl, rfl⟩, hS, hM2, v2, rfl⟩, run2⟩ := q_stop hM1 4 a1 a2 ha1 ha2
  exact pair_mk hT run1 run2 hT1 (hI1 _ _ hI) hM1 hS hM2 rfl (fun _ _ => rfl) hm1 (by omega) ⟨v, v2, rfl, rfl⟩
theorem pr_state {w : zW} (hJ : J w) (a1 a2 a3 a4 : Int) (ha1 : -2147483648 ≤ a1 ∧ a1 ≤ 2147483647) (ha2 : -2147483648 ≤ a2 ∧ a2 ≤ 2147483647) (ha3 : -2147483648 ≤ a3 ∧ a3 ≤ 2147483647) (ha4 : -2147483648 ≤ a4 ∧ a4 ≤ 2147483647) : PAIR iX11_state iX12_state [.int (Int32.ofInt a1), .int (Int32.ofInt a2), .int (Int32.ofInt a3), .int (Int32.ofInt a4)] w rII := by
  obtain ⟨σ, sz, kp, hT, hM, hI⟩ := hJ
  obtain ⟨mc, ms, r, w1, ⟨⟨τ, hT1, hI1, hK1, hx1, hm1, hs1⟩, v, rfl⟩, run1⟩ := k_state hT 5 a1 a2 a3 a4 ha1 ha2 ha3 ha4
  have hM1 := mi_keep hM hK1 hT1.2.2.2.2
  obtain ⟨mc2, ms2, r2, w2, ⟨⟨rfl, rfl⟩, hS, hM2, v2, rfl⟩, run2⟩ := q_state hM1 4 a1 a2 a3 a4 ha1 ha2 ha3 ha4
  exact pair_mk hT run1 run2 hT1 (hI1 _ _ hI) hM1 hS hM2 rfl (fun _ _ => rfl) hm1 (by omega) ⟨v, v2, rfl, rfl⟩
theorem pr_making {w : zW} (hJ : J w) (a1 a2 a3 a4 : Int) (ha1 : -2147483648 ≤ a1 ∧ a1 ≤ 2147483647) (ha2 : -2147483648 ≤ a2 ∧ a2 ≤ 2147483647) (ha3 : -2147483648 ≤ a3 ∧ a3 ≤ 2147483647) (ha4 : -2147483648 ≤ a4 ∧ a4 ≤ 2147483647) : PAIR iX11_making iX12_making [.int (Int32.ofInt a1), .int (Int32.ofInt a2), .int (Int32.ofInt a3), .int (Int32.ofInt a4)] w rII := by
  obtain ⟨σ, sz, kp, hT, hM, hI⟩ := hJ
  obtain ⟨mc, ms, r, w1, ⟨⟨τ, hT1, hI1, hK1, hx1, hm1, hs1⟩, v, rfl⟩, run1⟩ := k_making hT 6 a1 a2 a3 a4 ha1 ha2 ha3 ha4
  have hM1 := mi_keep hM hK1 hT1.2.2.2.2
  obtain ⟨mc2, ms2, r2, w2, ⟨⟨rfl, rfl⟩, hS, hM2, v2, rfl⟩, run2⟩ := q_making hM1 5 a1 a2 a3 a4 ha1 ha2 ha3 ha4
  exact pair_mk hT run1 run2 hT1 (hI1 _ _ hI) hM1 hS hM2 rfl (fun _ _ => rfl) hm1 (by omega) ⟨v, v2, rfl, rfl⟩
theorem pr_ring {w : zW} (hJ : J w) (a1 a2 : Int) (ha1 : -2147483648 ≤ a1 ∧ a1 ≤ 2147483647) (ha2 : -2147483648 ≤ a2 ∧ a2 ≤ 2147483647) : PAIR iX11_ring iX12_ring [.int (Int32.ofInt a1), .int (Int32.ofInt a2)] w rII := by
  obtain ⟨σ, sz, kp, hT, hM, hI⟩ := hJ
  obtain ⟨mc, ms, r, w1, ⟨⟨τ, hT1, hI1, hK1, hx1, hm1, hs1⟩, v, rfl⟩, run1⟩ := k_ring hT 6 a1 a2 ha1 ha2
  have hM1 := mi_keep hM hK1 hT1.2.2.2.2
  obtain ⟨mc2, ms2, r2, w2, ⟨⟨rfl, rfl⟩, hS, hM2, v2, rfl⟩, run2⟩ := q_ring hM1 5 a1 a2 ha1 ha2
  exact pair_mk hT run1 run2 hT1 (hI1 _ _ hI) hM1 hS hM2 rfl (fun _ _ => rfl) hm1 (by omega) ⟨v, v2, rfl, rfl⟩
theorem pr_reach {w : zW} (hJ : J w) (a1 a2 a3 : Int) (ha1 : -2147483648 ≤ a1 ∧ a1 ≤ 2147483647) (ha2 : -2147483648 ≤ a2 ∧ a2 ≤ 2147483647) (ha3 : -2147483648 ≤ a3 ∧ a3 ≤ 2147483647) : PAIR iX11_reach iX12_reach [.int (Int32.ofInt a1), .int (Int32.ofInt a2), .int (Int32.ofInt a3)] w rII := by
  obtain ⟨σ, sz, kp, hT, hM, hI⟩ := hJ
  obtain ⟨mc, ms, r, w1, ⟨⟨τ, hT1, hI1, hK1, hx1, hm1, hs1⟩, v, rfl⟩, run1⟩ := k_reach hT 6 a1 a2 a3 ha1 ha2 ha3
  have hM1 := mi_keep hM hK1 hT1.2.2.2.2
  obtain ⟨mc2, ms2, r2, w2, ⟨⟨rfl, rfl⟩, hS, hM2, v2, rfl⟩, run2⟩ := q_reach hM1 5 a1 a2 a3 ha1 ha2 ha3
  exact pair_mk hT run1 run2 hT1 (hI1 _ _ hI) hM1 hS hM2 rfl (fun _ _ => rfl) hm1 (by omega) ⟨v, v2, rfl, rfl⟩
theorem pr_sound {w : zW} (hJ : J w) (a1 a2 : Int) (ha1 : -2147483648 ≤ a1 ∧ a1 ≤ 2147483647) (ha2 : -2147483648 ≤ a2 ∧ a2 ≤ 2147483647) : PAIR iX11_sound iX12_sound [.int (Int32.ofInt a1), .int (Int32.ofInt a2)] w rII := by
  obtain ⟨σ, sz, kp, hT, hM, hI⟩ := hJ
  obtain ⟨mc, ms, r, w1, ⟨⟨τ, hT1, hI1, hK1, hx1, hm1, hs1⟩, v, rfl⟩, run1⟩ := k_sound hT 5 a1 a2 ha1 ha2
  have hM1 := mi_keep hM hK1 hT1.2.2.2.2
  obtain ⟨mc2, ms2, r2, w2, ⟨⟨rfl, rfl⟩, hS, hM2, v2, rfl⟩, run2⟩ := q_sound hM1 6 a1 a2 ha1 ha2
  exact pair_mk hT run1 run2 hT1 (hI1 _ _ hI) hM1 hS hM2 rfl (fun _ _ => rfl) hm1 (by omega) ⟨v, v2, rfl, rfl⟩
theorem pr_like {w : zW} (hJ : J w) (a1 a2 a3 : Int) (ha1 : -2147483648 ≤ a1 ∧ a1 ≤ 2147483647) (ha2 : -2147483648 ≤ a2 ∧ a2 ≤ 2147483647) (ha3 : -2147483648 ≤ a3 ∧ a3 ≤ 2147483647) : PAIR iX11_like iX12_like [.int (Int32.ofInt a1), .int (Int32.ofInt a2), .int (Int32.ofInt a3)] w rII := by
  obtain ⟨σ, sz, kp, hT, hM, hI⟩ := hJ
  obtain ⟨mc, ms, r, w1, ⟨⟨τ, hT1, hI1, hK1, hx1, hm1, hs1⟩, v, rfl⟩, run1⟩ := k_like hT 6 a1 a2 a3 ha1 ha2 ha3
  have hM1 := mi_keep hM hK1 hT1.2.2.2.2
  obtain ⟨mc2, ms2, r2, w2, ⟨⟨rfl, rfl⟩, hS, hM2, v2, rfl⟩, run2⟩ := q_like hM1 6 a1 a2 a3 ha1 ha2 ha3
  exact pair_mk hT run1 run2 hT1 (hI1 _ _ hI) hM1 hS hM2 rfl (fun _ _ => rfl) hm1 (by omega) ⟨v, v2, rfl, rfl⟩
theorem pr_orbits {w : zW} (hJ : J w) (a1 a2 a3 : Int) (ha1 : -2147483648 ≤ a1 ∧ a1 ≤ 2147483647) (ha2 : -2147483648 ≤ a2 ∧ a2 ≤ 2147483647) (ha3 : -2147483648 ≤ a3 ∧ a3 ≤ 2147483647) : PAIR iX11_orbits iX12_orbits [.int (Int32.ofInt a1), .int (Int32.ofInt a2), .int (Int32.ofInt a3)] w rII := by
  obtain ⟨σ, sz, kp, hT, hM, hI⟩ := hJ
  obtain ⟨mc, ms, r, w1, ⟨⟨τ, hT1, hI1, hK1, hx1, hm1, hs1⟩, v, rfl⟩, run1⟩ := k_orbits hT 5 a1 a2 a3 ha1 ha2 ha3
  have hM1 := mi_keep hM hK1 hT1.2.2.2.2
  obtain ⟨mc2, ms2, r2, w2, ⟨⟨rfl, rfl⟩, hS, hM2, v2, rfl⟩, run2⟩ := q_orbits hM1 6 a1 a2 a3 ha1 ha2 ha3
  exact pair_mk hT run1 run2 hT1 (hI1 _ _ hI) hM1 hS hM2 rfl (fun _ _ => rfl) hm1 (by omega) ⟨v, v2, rfl, rfl⟩
theorem pr_rota {w : zW} (hJ : J w) (a1 a2 a3 : Int) (ha1 : -2147483648 ≤ a1 ∧ a1 ≤ 2147483647) (ha2 : -2147483648 ≤ a2 ∧ a2 ≤ 2147483647) (ha3 : -2147483648 ≤ a3 ∧ a3 ≤ 2147483647) : PAIR iX11_rota iX12_rota [.int (Int32.ofInt a1), .int (Int32.ofInt a2), .int (Int32.ofInt a3)] w rII := by
  obtain ⟨σ, sz, kp, hT, hM, hI⟩ := hJ
  obtain ⟨mc, ms, r, w1, ⟨⟨τ, hT1, hI1, hK1, hx1, hm1, hs1⟩, v, rfl⟩, run1⟩ := k_rota hT 5 a1 a2 a3 ha1 ha2 ha3
  have hM1 := mi_keep hM hK1 hT1.2.2.2.2
  obtain ⟨mc2, ms2, r2, w2, ⟨⟨rfl, rfl⟩, hS, hM2, v2, rfl⟩, run2⟩ := q_rota hM1 6 a1 a2 a3 ha1 ha2 ha3
  exact pair_mk hT run1 run2 hT1 (hI1 _ _ hI) hM1 hS hM2 rfl (fun _ _ => rfl) hm1 (by omega) ⟨v, v2, rfl, rfl⟩
theorem pr_mean {w : zW} (hJ : J w) (a1 a2 a3 : Int) (ha1 : -2147483648 ≤ a1 ∧ a1 ≤ 2147483647) (ha2 : -2147483648 ≤ a2 ∧ a2 ≤ 2147483647) (ha3 : -2147483648 ≤ a3 ∧ a3 ≤ 2147483647) : PAIR iX11_mean iX12_mean [.int (Int32.ofInt a1), .int (Int32.ofInt a2), .int (Int32.ofInt a3)] w rLL := by
  obtain ⟨σ, sz, kp, hT, hM, hI⟩ := hJ
  obtain ⟨mc, ms, r, w1, ⟨⟨τ, hT1, hI1, hK1, hx1, hm1, hs1⟩, v, rfl⟩, run1⟩ := k_mean hT 5 a1 a2 a3 ha1 ha2 ha3
  have hM1 := mi_keep hM hK1 hT1.2.2.2.2
  obtain ⟨mc2, ms2, r2, w2, ⟨⟨rfl, rfl⟩, hS, hM2, v2, rfl⟩, run2⟩ := q_mean hM1 6 a1 a2 a3 ha1 ha2 ha3
  exact pair_mk hT run1 run2 hT1 (hI1 _ _ hI) hM1 hS hM2 rfl (fun _ _ => rfl) hm1 (by omega) ⟨v, v2, rfl, rfl⟩
theorem pr_elders {w : zW} (hJ : J w) (a1 a2 a3 a4 : Int) (ha1 : -2147483648 ≤ a1 ∧ a1 ≤ 2147483647) (ha2 : -2147483648 ≤ a2 ∧ a2 ≤ 2147483647) (ha3 : -2147483648 ≤ a3 ∧ a3 ≤ 2147483647) (ha4 : -2147483648 ≤ a4 ∧ a4 ≤ 2147483647) : PAIR iX11_elders iX12_elders [.int (Int32.ofInt a1), .int (Int32.ofInt a2), .int (Int32.ofInt a3), .int (Int32.ofInt a4)] w rII := by
  obtain ⟨σ, sz, kp, hT, hM, hI⟩ := hJ
  obtain ⟨mc, ms, r, w1, ⟨⟨τ, hT1, hI1, hK1, hx1, hm1, hs1⟩, v, rfl⟩, run1⟩ := k_elders hT 5 a1 a2 a3 a4 ha1 ha2 ha3 ha4
  have hM1 := mi_keep hM hK1 hT1.2.2.2.2
  obtain ⟨mc2, ms2, r2, w2, ⟨⟨rfl, rfl⟩, hS, hM2, v2, rfl⟩, run2⟩ := q_elders hM1 5 a1 a2 a3 a4 ha1 ha2 ha3 ha4
  exact pair_mk hT run1 run2 hT1 (hI1 _ _ hI) hM1 hS hM2 rfl (fun _ _ => rfl) hm1 (by omega) ⟨v, v2, rfl, rfl⟩
theorem pr_play {w : zW} (hJ : J w) (a1 a2 a3 a4 a5 a6 : Int) (ha1 : -2147483648 ≤ a1 ∧ a1 ≤ 2147483647) (ha2 : -2147483648 ≤ a2 ∧ a2 ≤ 2147483647) (ha3 : -2147483648 ≤ a3 ∧ a3 ≤ 2147483647) (ha4 : -2147483648 ≤ a4 ∧ a4 ≤ 2147483647) (ha5 : -2147483648 ≤ a5 ∧ a5 ≤ 2147483647) (ha6 : -2147483648 ≤ a6 ∧ a6 ≤ 2147483647) : PAIR iX11_play iX12_play_ [.int (Int32.ofInt a1), .int (Int32.ofInt a2), .int (Int32.ofInt a3), .int (Int32.ofInt a4), .int (Int32.ofInt a5), .int (Int32.ofInt a6)] w rII := by
  obtain ⟨σ, sz, kp, hT, hM, hI⟩ := hJ
  obtain ⟨mc, ms, r, w1, ⟨⟨τ, hT1, hI1, hK1, hx1, hm1, hs1⟩, v, rfl⟩, run1⟩ := k_play hT 5 a1 a2 a3 a4 a5 a6 ha1 ha2 ha3 ha4 ha5 ha6
  have hM1 := mi_keep hM hK1 hT1.2.2.2.2
  obtain ⟨mc2, ms2, r2, w2, ⟨⟨rfl, rfl⟩, hS, hM2, v2, rfl⟩, run2⟩ := q_play hM1 6 a1 a2 a3 a4 a5 a6 ha1 ha2 ha3 ha4 ha5 ha6
  exact pair_mk hT run1 run2 hT1 (hI1 _ _ hI) hM1 hS hM2 rfl (fun _ _ => rfl) hm1 (by omega) ⟨v, v2, rfl, rfl⟩
theorem pr_fact {w : zW} (hJ : J w) (a1 a2 a3 : Int) (ha1 : -2147483648 ≤ a1 ∧ a1 ≤ 2147483647) (ha2 : -2147483648 ≤ a2 ∧ a2 ≤ 2147483647) (ha3 : -2147483648 ≤ a3 ∧ a3 ≤ 2147483647) : PAIR iX11_fact iX12_fact [.int (Int32.ofInt a1), .int (Int32.ofInt a2), .int (Int32.ofInt a3)] w rII := by
  obtain ⟨σ, sz, kp, hT, hM, hI⟩ := hJ
  obtain ⟨mc, ms, r, w1, ⟨⟨τ, hT1, hI1, hK1, hx1, hm1, hs1⟩, v, rfl⟩, run1⟩ := k_fact hT 8 a1 a2 a3 ha1 ha2 ha3
  have hM1 := mi_keep hM hK1 hT1.2.2.2.2
  obtain ⟨mc2, ms2, r2, w2, ⟨⟨rfl, rfl⟩, hS, hM2, v2, rfl⟩, run2⟩ := q_fact hM1 8 a1 a2 a3 ha1 ha2 ha3
  exact pair_mk hT run1 run2 hT1 (hI1 _ _ hI) hM1 hS hM2 rfl (fun _ _ => rfl) hm1 (by omega) ⟨v, v2, rfl, rfl⟩
theorem pr_fits {w : zW} (hJ : J w) (a1 a2 a3 a4 : Int) (ha1 : -2147483648 ≤ a1 ∧ a1 ≤ 2147483647) (ha2 : -2147483648 ≤ a2 ∧ a2 ≤ 2147483647) (ha3 : -2147483648 ≤ a3 ∧ a3 ≤ 2147483647) (ha4 : -2147483648 ≤ a4 ∧ a4 ≤ 2147483647) : PAIR iX11_fits iX12_fits [.int (Int32.ofInt a1), .int (Int32.ofInt a2), .int (Int32.ofInt a3), .int (Int32.ofInt a4)] w rII := by
  obtain ⟨σ, sz, kp, hT, hM, hI⟩ := hJ
  obtain ⟨mc, ms, r, w1, ⟨⟨τ, hT1, hI1, hK1, hx1, hm1, hs1⟩, v, rfl⟩, run1⟩ := k_fits hT 5 a1 a2 a3 a4 ha1 ha2 ha3 ha4
  have hM1 := mi_keep hM hK1 hT1.2.2.2.2
  obtain ⟨mc2, ms2, r2, w2, ⟨⟨rfl, rfl⟩, hS, hM2, v2, rfl⟩, run2⟩ := q_fits hM1 5 a1 a2 a3 a4 ha1 ha2 ha3 ha4
  exact pair_mk hT run1 run2 hT1 (hI1 _ _ hI) hM1 hS hM2 rfl (fun _ _ => rfl) hm1 (by omega) ⟨v, v2, rfl, rfl⟩
theorem pr_sure {w : zW} (hJ : J w) (a1 a2 a3 a4 : Int) (ha1 : -2147483648 ≤ a1 ∧ a1 ≤ 2147483647) (ha2 : -2147483648 ≤ a2 ∧ a2 ≤ 2147483647) (ha3 : -2147483648 ≤ a3 ∧ a3 ≤ 2147483647) (ha4 : -2147483648 ≤ a4 ∧ a4 ≤ 2147483647) : PAIR iX11_sure iX12_sure [.int (Int32.ofInt a1), .int (Int32.ofInt a2), .int (Int32.ofInt a3), .int (Int32.ofInt a4)] w rII := by
  obtain ⟨σ, sz, kp, hT, hM, hI⟩ := hJ
  obtain ⟨mc, ms, r, w1, ⟨⟨τ, hT1, hI1, hK1, hx1, hm1, hs1⟩, v, rfl⟩, run1⟩ := k_sure hT 5 a1 a2 a3 a4 ha1 ha2 ha3 ha4
  have hM1 := mi_keep hM hK1 hT1.2.2.2.2
  obtain ⟨mc2, ms2, r2, w2, ⟨⟨rfl, rfl⟩, hS, hM2, v2, rfl⟩, run2⟩ := q_sure hM1 5 a1 a2 a3 a4 ha1 ha2 ha3 ha4
  exact pair_mk hT run1 run2 hT1 (hI1 _ _ hI) hM1 hS hM2 rfl (fun _ _ => rfl) hm1 (by omega) ⟨v, v2, rfl, rfl⟩
theorem pr_drawn {w : zW} (hJ : J w) (a1 a2 a3 a4 : Int) (ha1 : -2147483648 ≤ a1 ∧ a1 ≤ 2147483647) (ha2 : -2147483648 ≤ a2 ∧ a2 ≤ 2147483647) (ha3 : -2147483648 ≤ a3 ∧ a3 ≤ 2147483647) (ha4 : -2147483648 ≤ a4 ∧ a4 ≤ 2147483647) : PAIR iX11_drawn iX12_drawn [.int (Int32.ofInt a1), .int (Int32.ofInt a2), .int (Int32.ofInt a3), .int (Int32.ofInt a4)] w rII := by
  obtain ⟨σ, sz, kp, hT, hM, hI⟩ := hJ
  obtain ⟨mc, ms, r, w1, ⟨⟨τ, hT1, hI1, hK1, hx1, hm1, hs1⟩, v, rfl⟩, run1⟩ := k_drawn hT 5 a1 a2 a3 a4 ha1 ha2 ha3 ha4
  have hM1 := mi_keep hM hK1 hT1.2.2.2.2
  obtain ⟨mc2, ms2, r2, w2, ⟨⟨rfl, rfl⟩, hS, hM2, v2, rfl⟩, run2⟩ := q_drawn hM1 5 a1 a2 a3 a4 ha1 ha2 ha3 ha4
  exact pair_mk hT run1 run2 hT1 (hI1 _ _ hI) hM1 hS hM2 rfl (fun _ _ => rfl) hm1 (by omega) ⟨v, v2, rfl, rfl⟩
theorem pr_kinship {w : zW} (hJ : J w) (a1 a2 a3 : Int) (ha1 : -2147483648 ≤ a1 ∧ a1 ≤ 2147483647) (ha2 : -2147483648 ≤ a2 ∧ a2 ≤ 2147483647) (ha3 : -2147483648 ≤ a3 ∧ a3 ≤ 2147483647) : PAIR iX11_kinship iX12_kinship [.int (Int32.ofInt a1), .int (Int32.ofInt a2), .int (Int32.ofInt a3)] w rII := by
  obtain ⟨σ, sz, kp, hT, hM, hI⟩ := hJ
  obtain ⟨mc, ms, r, w1, ⟨⟨τ, hT1, hI1, hK1, hx1, hm1, hs1⟩, v, rfl⟩, run1⟩ := k_kinship hT 8 a1 a2 a3 ha1 ha2 ha3
  have hM1 := mi_keep hM hK1 hT1.2.2.2.2
  obtain ⟨mc2, ms2, r2, w2, ⟨⟨rfl, rfl⟩, hS, hM2, v2, rfl⟩, run2⟩ := q_kinship hM1 8 a1 a2 a3 ha1 ha2 ha3
  exact pair_mk hT run1 run2 hT1 (hI1 _ _ hI) hM1 hS hM2 rfl (fun _ _ => rfl) hm1 (by omega) ⟨v, v2, rfl, rfl⟩
theorem ex_shared {w : zW} {sz kp : Nat → Int32} (h : MI w sz kp) (a1 a2 a3 : Int32) : zCl zTab 12 iX12_shared [.ref 14, .int a1, .int a2, .int a3] w 0 0 (fun r _ => r = some (.int (vShared a1 a2 a3))) := mi_elim h fun c0 c1 c2 c3 c4 c5 c6 c7 c8 c9 c10 c11 c12 c13 f0 f9 f10 f11 f12 f13 f15 f16 f17 f20 f21 f22 f23 f26 f28 f31 f32 f33 f38 f41 f44 x14 g15 g17 g18 g19 g20 g21 g22 g23 g24 g25 g26 g27 g28 g29 g30 g31 g32 g33 g34 g35 g36 g37 g38 g39 g40 g41 g42 g43 t e b16 b19 b20 b21 b22 b25 b26 b28 b30 b33 b38 => by
  subst e
  exact m_shared_1 6 a1 a2 a3 _ (fun _ => rfl)
theorem pr_shared {w : zW} (hJ : J w) (a1 a2 a3 : Int) (ha1 : -2147483648 ≤ a1 ∧ a1 ≤ 2147483647) (ha2 : -2147483648 ≤ a2 ∧ a2 ≤ 2147483647) (ha3 : -2147483648 ≤ a3 ∧ a3 ≤ 2147483647) : PAIR iX11_shared iX12_shared [.int (Int32.ofInt a1), .int (Int32.ofInt a2), .int (Int32.ofInt a3)] w rEQ := by
  obtain ⟨σ, sz, kp, hT, hM, hI⟩ := hJ
  obtain ⟨mc, ms, r, w1, ⟨⟨τ, hT1, hI1, hK1, hx1, hm1, hs1⟩, v, rfl⟩, run1⟩ := k_shared hT 6 a1 a2 a3 ha1 ha2 ha3
  have hM1 := mi_keep hM hK1 hT1.2.2.2.2
  obtain ⟨mc2, ms2, r2, w2, ⟨⟨rfl, rfl⟩, hS, hM2, v2, rfl⟩, run2⟩ := q_shared hM1 6 a1 a2 a3 ha1 ha2 ha3
  obtain ⟨_, _, e1, e2⟩ := zCl_two 12 _ _ _ _ _ _ _ _ _ (run1 (fun r _ => r = some (.int v)) rfl) (r_shared 6 (Int32.ofInt a1) (Int32.ofInt a2) (Int32.ofInt a3) w (fun r _ => r = some (.int (vShared (Int32.ofInt a1) (Int32.ofInt a2) (Int32.ofInt a3)))) rfl)
  obtain ⟨_, _, e3, e4⟩ := zCl_two 12 _ _ _ _ _ _ _ _ _ (run2 (fun r _ => r = some (.int v2)) rfl) (ex_shared hM1 (Int32.ofInt a1) (Int32.ofInt a2) (Int32.ofInt a3))
  have e5 : v = v2 := by
    have a := e1.symm.trans e2
    have b := e3.symm.trans e4
    injection a with a; injection a with a; injection b with b; injection b with b
    rw [a, b]
  subst e5
  exact pair_mk hT run1 run2 hT1 (hI1 _ _ hI) hM1 hS hM2 rfl (fun _ _ => rfl) hm1 (by omega) ⟨v, rfl, rfl⟩
theorem pr_joined {w : zW} (hJ : J w) (a1 a2 a3 a4 : Int) (ha1 : -2147483648 ≤ a1 ∧ a1 ≤ 2147483647) (ha2 : -2147483648 ≤ a2 ∧ a2 ≤ 2147483647) (ha3 : -2147483648 ≤ a3 ∧ a3 ≤ 2147483647) (ha4 : -2147483648 ≤ a4 ∧ a4 ≤ 2147483647) : PAIR iX11_joined iX12_joined [.int (Int32.ofInt a1), .int (Int32.ofInt a2), .int (Int32.ofInt a3), .int (Int32.ofInt a4)] w rII := by
  obtain ⟨σ, sz, kp, hT, hM, hI⟩ := hJ
  obtain ⟨mc, ms, r, w1, ⟨⟨τ, hT1, hI1, hK1, hx1, hm1, hs1⟩, v, rfl⟩, run1⟩ := k_joined hT 6 a1 a2 a3 a4 ha1 ha2 ha3 ha4
  have hM1 := mi_keep hM hK1 hT1.2.2.2.2
  obtain ⟨mc2, ms2, r2, w2, ⟨⟨rfl, rfl⟩, hS, hM2, v2, rfl⟩, run2⟩ := q_joined hM1 5 a1 a2 a3 a4 ha1 ha2 ha3 ha4
  exact pair_mk hT run1 run2 hT1 (hI1 _ _ hI) hM1 hS hM2 rfl (fun _ _ => rfl) hm1 (by omega) ⟨v, v2, rfl, rfl⟩
theorem pr_nearest {w : zW} (hJ : J w) (a1 a2 a3 a4 : Int) (ha1 : -2147483648 ≤ a1 ∧ a1 ≤ 2147483647) (ha2 : -2147483648 ≤ a2 ∧ a2 ≤ 2147483647) (ha3 : -2147483648 ≤ a3 ∧ a3 ≤ 2147483647) (ha4 : -2147483648 ≤ a4 ∧ a4 ≤ 2147483647) : PAIR iX11_nearest iX12_nearest [.int (Int32.ofInt a1), .int (Int32.ofInt a2), .int (Int32.ofInt a3), .int (Int32.ofInt a4)] w rII := by
  obtain ⟨σ, sz, kp, hT, hM, hI⟩ := hJ
  obtain ⟨mc, ms, r, w1, ⟨⟨τ, hT1, hI1, hK1, hx1, hm1, hs1⟩, v, rfl⟩, run1⟩ := k_nearest hT 6 a1 a2 a3 a4 ha1 ha2 ha3 ha4
  have hM1 := mi_keep hM hK1 hT1.2.2.2.2
  obtain ⟨mc2, ms2, r2, w2, ⟨⟨rfl, rfl⟩, hS, hM2, v2, rfl⟩, run2⟩ := q_nearest hM1 5 a1 a2 a3 a4 ha1 ha2 ha3 ha4
  exact pair_mk hT run1 run2 hT1 (hI1 _ _ hI) hM1 hS hM2 rfl (fun _ _ => rfl) hm1 (by omega) ⟨v, v2, rfl, rfl⟩
theorem pr_settles {w : zW} (hJ : J w) (a1 a2 a3 : Int) (ha1 : -2147483648 ≤ a1 ∧ a1 ≤ 2147483647) (ha2 : -2147483648 ≤ a2 ∧ a2 ≤ 2147483647) (ha3 : -2147483648 ≤ a3 ∧ a3 ≤ 2147483647) : PAIR iX11_settles iX12_settles [.int (Int32.ofInt a1), .int (Int32.ofInt a2), .int (Int32.ofInt a3)] w rII := by
  obtain ⟨σ, sz, kp, hT, hM, hI⟩ := hJ
  obtain ⟨mc, ms, r, w1, ⟨⟨τ, hT1, hI1, hK1, hx1, hm1, hs1⟩, v, rfl⟩, run1⟩ := k_settles hT 5 a1 a2 a3 ha1 ha2 ha3
  have hM1 := mi_keep hM hK1 hT1.2.2.2.2
  obtain ⟨mc2, ms2, r2, w2, ⟨⟨rfl, rfl⟩, hS, hM2, v2, rfl⟩, run2⟩ := q_settles hM1 5 a1 a2 a3 ha1 ha2 ha3
  exact pair_mk hT run1 run2 hT1 (hI1 _ _ hI) hM1 hS hM2 rfl (fun _ _ => rfl) hm1 (by omega) ⟨v, v2, rfl, rfl⟩
theorem pr_unmade {w : zW} (hJ : J w) (a1 a2 : Int) (ha1 : -2147483648 ≤ a1 ∧ a1 ≤ 2147483647) (ha2 : -2147483648 ≤ a2 ∧ a2 ≤ 2147483647) : PAIR iX11_unmade iX12_unmade [.int (Int32.ofInt a1), .int (Int32.ofInt a2)] w rII := by
  obtain ⟨σ, sz, kp, hT, hM, hI⟩ := hJ
  obtain ⟨mc, ms, r, w1, ⟨⟨τ, hT1, hI1, hK1, hx1, hm1, hs1⟩, v, rfl⟩, run1⟩ := k_unmade hT 6 a1 a2 ha1 ha2
  have hM1 := mi_keep hM hK1 hT1.2.2.2.2
  obtain ⟨mc2, ms2, r2, w2, ⟨⟨rfl, rfl⟩, hS, hM2, v2, rfl⟩, run2⟩ := q_unmade hM1 5 a1 a2 ha1 ha2
  exact pair_mk hT run1 run2 hT1 (hI1 _ _ hI) hM1 hS hM2 rfl (fun _ _ => rfl) hm1 (by omega) ⟨v, v2, rfl, rfl⟩
theorem pr_silenced {w : zW} (hJ : J w) (a1 a2 a3 : Int) (ha1 : -2147483648 ≤ a1 ∧ a1 ≤ 2147483647) (ha2 : -2147483648 ≤ a2 ∧ a2 ≤ 2147483647) (ha3 : -2147483648 ≤ a3 ∧ a3 ≤ 2147483647) : PAIR iX11_silenced iX12_silenced [.int (Int32.ofInt a1), .int (Int32.ofInt a2), .int (Int32.ofInt a3)] w rII := by
  obtain ⟨σ, sz, kp, hT, hM, hI⟩ := hJ
  obtain ⟨mc, ms, r, w1, ⟨⟨τ, hT1, hI1, hK1, hx1, hm1, hs1⟩, v, rfl⟩, run1⟩ := k_silenced hT 6 a1 a2 a3 ha1 ha2 ha3
  have hM1 := mi_keep hM hK1 hT1.2.2.2.2
  obtain ⟨mc2, ms2, r2, w2, ⟨⟨rfl, rfl⟩, hS, hM2, v2, rfl⟩, run2⟩ := q_silenced hM1 5 a1 a2 a3 ha1 ha2 ha3
  exact pair_mk hT run1 run2 hT1 (hI1 _ _ hI) hM1 hS hM2 rfl (fun _ _ => rfl) hm1 (by omega) ⟨v, v2, rfl, rfl⟩
theorem pr_circles {w : zW} (hJ : J w) (a1 a2 : Int) (ha1 : -2147483648 ≤ a1 ∧ a1 ≤ 2147483647) (ha2 : -2147483648 ≤ a2 ∧ a2 ≤ 2147483647) : PAIR iX11_circles iX12_circles [.int (Int32.ofInt a1), .int (Int32.ofInt a2)] w rII := by
  obtain ⟨σ, sz, kp, hT, hM, hI⟩ := hJ
  obtain ⟨mc, ms, r, w1, ⟨⟨τ, hT1, hI1, hK1, hx1, hm1, hs1⟩, v, rfl⟩, run1⟩ := k_circles hT 4 a1 a2 ha1 ha2
  have hM1 := mi_keep hM hK1 hT1.2.2.2.2
  obtain ⟨mc2, ms2, r2, w2, ⟨⟨rfl, rfl⟩, hS, hM2, v2, rfl⟩, run2⟩ := q_circles hM1 5 a1 a2 ha1 ha2
  exact pair_mk hT run1 run2 hT1 (hI1 _ _ hI) hM1 hS hM2 rfl (fun _ _ => rfl) hm1 (by omega) ⟨v, v2, rfl, rfl⟩
theorem pr_count {w : zW} (hJ : J w) (a1 : Int) (ha1 : -2147483648 ≤ a1 ∧ a1 ≤ 2147483647) : PAIR iX11_count iX12_count [.int (Int32.ofInt a1)] w rII := by
  obtain ⟨σ, sz, kp, hT, hM, hI⟩ := hJ
  obtain ⟨mc, ms, r, w1, ⟨⟨τ, hT1, hI1, hK1, hx1, hm1, hs1⟩, v, rfl⟩, run1⟩ := k_count hT 8 a1 ha1
  have hM1 := mi_keep hM hK1 hT1.2.2.2.2
  obtain ⟨mc2, ms2, r2, w2, ⟨⟨rfl, rfl⟩, hS, hM2, v2, rfl⟩, run2⟩ := q_count hM1 10 a1 ha1
  exact pair_mk hT run1 run2 hT1 (hI1 _ _ hI) hM1 hS hM2 rfl (fun _ _ => rfl) hm1 (by omega) ⟨v, v2, rfl, rfl⟩
theorem pr_image {w : zW} (hJ : J w) (a1 : Int) (ha1 : -2147483648 ≤ a1 ∧ a1 ≤ 2147483647) : PAIR iX11_image iX12_image [.int (Int32.ofInt a1)] w rEQ := by
  obtain ⟨σ, sz, kp, hT, hM, hI⟩ := hJ
  obtain ⟨mc, ms, r, w1, hP, run1⟩ := k_image hT hI 9 a1 ha1
  rcases hP with ⟨hc, ⟨⟨τ, hT1⟩, hI1, hK1, hm1, hs1⟩, rfl⟩ | ⟨hc, ⟨⟨τ, hT1⟩, hI1, hK1, hm1, hs1⟩, rfl⟩
  · skip
    have hM1 := mi_keep hM hK1 hT1.2.2.2.2
    obtain ⟨mc2, ms2, r2, w2, ⟨⟨rfl, rfl⟩, hS, v2, k16, k44, hM2, rfl, p0, p1, p2⟩, run2⟩ := q_image hM1 9 a1 ha1
    have e : v2 = 0 := by omega
    subst e
    obtain ⟨-, rfl⟩ : (0 : Int) = 0 ∧ k44 = kp := p1.resolve_right (fun h => by omega)
    obtain ⟨-, rfl⟩ : (0 : Int) = 0 ∧ k16 = sz := p2.resolve_right (fun h => by omega)
    exact pair_mk hT run1 run2 hT1 hI1 hM1 hS hM2 rfl (fun _ _ => rfl) hm1 hs1 ⟨_, rfl, rfl⟩
  · skip
    have hM1 := mi_keep hM hK1 hT1.2.2.2.2
    obtain ⟨mc2, ms2, r2, w2, ⟨⟨rfl, rfl⟩, hS, v2, k16, k44, hM2, rfl, p0, p1, p2⟩, run2⟩ := q_image hM1 9 a1 ha1
    have e : v2 = 1 := by omega
    subst e
    obtain ⟨-, rfl⟩ := p1.resolve_left (fun h => by omega)
    obtain ⟨-, rfl⟩ := p2.resolve_left (fun h => by omega)
    refine pair_mk hT run1 run2 hT1 hI1 hM1 hS hM2 ?_ (fun k hk => ?_) hm1 hs1 ⟨_, rfl, rfl⟩
    · unfold cpR
      rw [if_neg (by omega)]
    · have ec : k ≠ a1.toNat → cpR sz 1 0 (a1 + 1).toNat 1 (k + 1) = sz (k + 1) := by
        intro e
        unfold cpR
        rw [if_neg (by omega)]
      have ed : k = a1.toNat → cpR sz 1 0 (a1 + 1).toNat 1 (k + 1) = sz 0 := by
        intro e
        unfold cpR
        rw [if_pos (by omega)]
        congr 1
        omega
      unfold upm
      by_cases e : k = a1.toNat
      · rw [if_pos e]
        unfold mOf
        rw [ed e, e, pk_us, if_neg (by decide)]
      · rw [if_neg e]
        unfold mOf
        rw [ec e, pk_un e]
theorem pr_again {w : zW} (hJ : J w) (a1 : Int) (ha1 : -2147483648 ≤ a1 ∧ a1 ≤ 2147483647) : PAIR iX11_again iX12_again [.int (Int32.ofInt a1)] w rEQ := by
  obtain ⟨σ, sz, kp, hT, hM, hI⟩ := hJ
  obtain ⟨mc, ms, r, w1, hP, run1⟩ := k_again hT hI 9 a1 ha1
  rcases hP with ⟨hc, ⟨⟨τ, hT1⟩, hI1, hK1, hm1, hs1⟩, rfl⟩ | ⟨x, hc, hx, ⟨⟨τ, hT1⟩, hI1, hK1, hm1, hs1⟩, rfl⟩
  · skip
    have hM1 := mi_keep hM hK1 hT1.2.2.2.2
    obtain ⟨mc2, ms2, r2, w2, ⟨⟨rfl, rfl⟩, hS, v2, k16, k44, hM2, rfl, p0, p1, rfl⟩, run2⟩ := q_again hM1 9 a1 ha1
    have e : v2 = 0 := by
      rcases hc with hc | hc
      · omega
      · unfold mOf at hc
        split at hc
        · omega
        · cases hc
    subst e
    obtain ⟨-, rfl⟩ : (0 : Int) = 0 ∧ k16 = sz := p1.resolve_right (fun h => by omega)
    exact pair_mk hT run1 run2 hT1 hI1 hM1 hS hM2 rfl (fun _ _ => rfl) hm1 hs1 ⟨_, rfl, rfl⟩
  · skip
    have hM1 := mi_keep hM hK1 hT1.2.2.2.2
    obtain ⟨mc2, ms2, r2, w2, ⟨⟨rfl, rfl⟩, hS, v2, k16, k44, hM2, rfl, p0, p1, rfl⟩, run2⟩ := q_again hM1 9 a1 ha1
    unfold mOf at hx
    split at hx
    · cases hx
    · rename_i hne
      cases hx
      have e : v2 = 1 := by omega
      subst e
      obtain ⟨-, rfl⟩ := p1.resolve_left (fun h => by omega)
      refine pair_mk hT run1 run2 hT1 hI1 hM1 hS hM2 ?_ (fun k hk => ?_) hm1 hs1 ⟨_, rfl, rfl⟩
      · unfold cpR
        rw [if_pos (by omega)]
        congr 2
        omega
      · have ec : cpR sz 1 (a1 + 1).toNat 0 1 (k + 1) = sz (k + 1) := by
          unfold cpR
          rw [if_neg (by omega)]
        unfold mOf
        rw [ec]
def zCw (t : zW) : zW := .inr (10, [.ref 1, .ref 7, .ref 8, .ref 9, .ref 12, .ref 13, .null, .null]) :: .inr (7, [.ref 2, .int 0, .int 0, .int (-1), .ref 3, .ref 4, .ref 5, .ref 6]) :: .inl (0, 600, .inl (fun _ => 0)) :: .inl (1, 3, .inl (fun _ => 0)) :: .inl (3, 2, .inr (.inr (.inr (.inr (fun _ => none))))) :: .inl (4, 2, .inr (.inr (.inr (.inr (fun _ => none))))) :: .inl (5, 2, .inr (.inr (.inr (.inr (fun _ => none))))) :: .inl (6, 3, .inr (.inr (.inr (.inr (fun _ => none))))) :: .inr (6, [.null, .int 0, .int 0, .int 0, .int 0, .int 0, .int 0, .int (-1)]) :: .inr (1, [.null, .int 0, .int 0, .int 0, .int 0, .ref 10, .ref 11]) :: .inl (1, 4, .inl (fun _ => 0)) :: .inl (1, 5, .inl (fun _ => 0)) :: .inl (7, 2, .inr (.inr (.inr (.inr (fun _ => none))))) :: .inl (8, 2, .inr (.inr (.inr (.inr (fun _ => none))))) :: t
def zMf (t : zW) : zW := .inr (11, [.int 0, .ref 15, .ref 16, .ref 17, .ref 18, .ref 19, .ref 20, .ref 21, .ref 22, .int 0, .int 0, .int 0, .int 0, .int 0, .long 0, .int 0, .int 0, .int 0, .ref 23, .ref 24, .int 0, .int (-1), .int 0, .int 0, .ref 25, .ref 26, .int 0, .ref 27, .int 0, .ref 28, .ref 29, .int 0, .int 0, .int 0, .ref 30, .ref 31, .ref 32, .ref 33, .int 0, .ref 34, .ref 35, .int 0, .ref 36, .ref 37, .int 0, .ref 38, .ref 39, .ref 40, .ref 41, .ref 42, .ref 43, .ref 44]) :: .inl (0, 2400, .inl (fun _ => 0)) :: .inl (1, 4, .inl (fun _ => 0)) :: .inl (1, 4, .inl (fun _ => 0)) :: .inl (1, 4, .inl (upd (fun _ => 0) 0 (-1))) :: .inl (1, 12, .inl (fun _ => 0)) :: .inl (1, 408, .inl (fun _ => 0)) :: .inl (1, 968, .inl (fun _ => 0)) :: .inl (1, 104, .inl (fun _ => 0)) :: .inl (1, 121, .inl (fun _ => 0)) :: .inl (1, 3, .inl (fun _ => 0)) :: .inl (1, 7, .inl (fun _ => 0)) :: .inl (1, 7, .inl (fun _ => 0)) :: .inl (1, 49, .inl (fun _ => 0)) :: .inl (1, 4, .inl (fun _ => 0)) :: .inl (1, 5, .inl (fun _ => 0)) :: .inl (1, 27305, .inl (fun _ => 0)) :: .inl (1, 5461, .inl (fun _ => 0)) :: .inl (1, 5461, .inl (fun _ => 0)) :: .inl (1, 5461, .inl (fun _ => 0)) :: .inl (1, 5461, .inl (fun _ => 0)) :: .inl (1, 54610, .inl (fun _ => 0)) :: .inl (1, 54610, .inl (fun _ => 0)) :: .inl (1, 54610, .inl (fun _ => 0)) :: .inl (1, 5461, .inl (fun _ => 0)) :: .inl (1, 5461, .inl (fun _ => 0)) :: .inl (1, 5461, .inl (fun _ => 0)) :: .inl (1, 5461, .inl (fun _ => 0)) :: .inl (1, 5461, .inl (fun _ => 0)) :: .inl (1, 27305, .inl (fun _ => 0)) :: .inl (2, 3, .inl (fun _ => 0)) :: t
set_option maxHeartbeats 4000000 in
theorem i_told (d : Nat) (Q : zQ) (h : Q none ([.inr (10, [.null, .null, .null, .null, .null, .null, .null, .null]), .inr (7, [.ref 2, .int 0, .int 0, .int (-1), .ref 3, .ref 4, .ref 5, .ref 6]), .inl (0, 600, .inl (fun _ => 0)), .inl (1, 3, .inl (fun _ => 0)), .inl (3, 2, .inr (.inr (.inr (.inr (fun _ => none))))), .inl (4, 2, .inr (.inr (.inr (.inr (fun _ => none))))), .inl (5, 2, .inr (.inr (.inr (.inr (fun _ => none)))))])) : zCl zTab (d + 2) iX8_init [.ref 1] ([.inr (10, [.null, .null, .null, .null, .null, .null, .null, .null]), .inr (7, [.null, .int 0, .int 0, .int 0, .null, .null, .null, .null])]) 5 609 Q := by
  refine zCl_i (M := kX8_init) rfl (Nat.le_of_ble_eq_true rfl) fun R hR => ?_
  iterate 4 refine hR (?_ : R (_, _, _, _, _, _))
  refine hR (?_ : R (_, _, .ref 2 :: _, _, _, _))
  iterate 12 refine hR (?_ : R (_, _, _, _, _, _))
  refine hR (?_ : R (_, _, .ref 3 :: _, _, _, _))
  iterate 3 refine hR (?_ : R (_, _, _, _, _, _))
  refine hR (?_ : R (_, _, .ref 4 :: _, _, _, _))
  iterate 3 refine hR (?_ : R (_, _, _, _, _, _))
  refine hR (?_ : R (_, _, .ref 5 :: _, _, _, _))
  iterate 3 refine hR (?_ : R (_, _, _, _, _, _))
  refine hR (?_ : R (_, _, .ref 6 :: _, _, _, _))
  refine hR (?_ : R (_, _, _, _, _, _))
  exact hR (zret_i rfl (Nat.le_refl _) (rfl) (h))
set_option maxHeartbeats 4000000 in
theorem i_teller (d : Nat) (Q : zQ) (h : Q none ([.inr (10, [.ref 1, .ref 7, .null, .null, .null, .null, .null, .null]), .inr (7, [.ref 2, .int 0, .int 0, .int (-1), .ref 3, .ref 4, .ref 5, .ref 6]), .inl (0, 600, .inl (fun _ => 0)), .inl (1, 3, .inl (fun _ => 0)), .inl (3, 2, .inr (.inr (.inr (.inr (fun _ => none))))), .inl (4, 2, .inr (.inr (.inr (.inr (fun _ => none))))), .inl (5, 2, .inr (.inr (.inr (.inr (fun _ => none))))), .inl (6, 3, .inr (.inr (.inr (.inr (fun _ => none))))), .inr (6, [.null, .int 0, .int 0, .int 0, .int 0, .int 0, .int 0, .int (-1)])])) : zCl zTab (d + 2) iX7_init [.ref 8] ([.inr (10, [.ref 1, .ref 7, .null, .null, .null, .null, .null, .null]), .inr (7, [.ref 2, .int 0, .int 0, .int (-1), .ref 3, .ref 4, .ref 5, .ref 6]), .inl (0, 600, .inl (fun _ => 0)), .inl (1, 3, .inl (fun _ => 0)), .inl (3, 2, .inr (.inr (.inr (.inr (fun _ => none))))), .inl (4, 2, .inr (.inr (.inr (.inr (fun _ => none))))), .inl (5, 2, .inr (.inr (.inr (.inr (fun _ => none))))), .inl (6, 3, .inr (.inr (.inr (.inr (fun _ => none))))), .inr (6, [.null, .int 0, .int 0, .int 0, .int 0, .int 0, .int 0, .int 0])]) 0 0 Q := by
  refine zCl_i (M := kX7_init) rfl (Nat.le_of_ble_eq_true rfl) fun R hR => ?_
  iterate 26 refine hR (?_ : R (_, _, _, _, _, _))
  exact hR (zret_i rfl (Nat.le_refl _) (rfl) (h))
set_option maxHeartbeats 4000000 in
theorem i_course (d : Nat) (Q : zQ) (h : Q none ([.inr (10, [.ref 1, .ref 7, .ref 8, .null, .null, .null, .null, .null]), .inr (7, [.ref 2, .int 0, .int 0, .int (-1), .ref 3, .ref 4, .ref 5, .ref 6]), .inl (0, 600, .inl (fun _ => 0)), .inl (1, 3, .inl (fun _ => 0)), .inl (3, 2, .inr (.inr (.inr (.inr (fun _ => none))))), .inl (4, 2, .inr (.inr (.inr (.inr (fun _ => none))))), .inl (5, 2, .inr (.inr (.inr (.inr (fun _ => none))))), .inl (6, 3, .inr (.inr (.inr (.inr (fun _ => none))))), .inr (6, [.null, .int 0, .int 0, .int 0, .int 0, .int 0, .int 0, .int (-1)]), .inr (1, [.null, .int 0, .int 0, .int 0, .int 0, .ref 10, .ref 11]), .inl (1, 4, .inl (fun _ => 0)), .inl (1, 5, .inl (fun _ => 0))])) : zCl zTab (d + 2) iX1_init [.ref 9] ([.inr (10, [.ref 1, .ref 7, .ref 8, .null, .null, .null, .null, .null]), .inr (7, [.ref 2, .int 0, .int 0, .int (-1), .ref 3, .ref 4, .ref 5, .ref 6]), .inl (0, 600, .inl (fun _ => 0)), .inl (1, 3, .inl (fun _ => 0)), .inl (3, 2, .inr (.inr (.inr (.inr (fun _ => none))))), .inl (4, 2, .inr (.inr (.inr (.inr (fun _ => none))))), .inl (5, 2, .inr (.inr (.inr (.inr (fun _ => none))))), .inl (6, 3, .inr (.inr (.inr (.inr (fun _ => none))))), .inr (6, [.null, .int 0, .int 0, .int 0, .int 0, .int 0, .int 0, .int (-1)]), .inr (1, [.null, .int 0, .int 0, .int 0, .int 0, .null, .null])]) 2 9 Q := by
  refine zCl_i (M := kX1_init) rfl (Nat.le_of_ble_eq_true rfl) fun R hR => ?_
  iterate 19 refine hR (?_ : R (_, _, _, _, _, _))
  refine hR (?_ : R (_, _, .ref 10 :: _, _, _, _))
  iterate 3 refine hR (?_ : R (_, _, _, _, _, _))
  refine hR (?_ : R (_, _, .ref 11 :: _, _, _, _))
  refine hR (?_ : R (_, _, _, _, _, _))
  exact hR (zret_i rfl (Nat.le_refl _) (rfl) (h))
set_option maxHeartbeats 4000000 in
theorem i_class (d : Nat) (Q : zQ) (h : Q none (zCw [])) : zCl zTab (d + 3) iX11_init [.ref 0] ([.inr (10, [.null, .null, .null, .null, .null, .null, .null, .null])]) 13 648 Q := by
  refine zCl_i (M := kX11_init) rfl (Nat.le_of_ble_eq_true rfl) fun R hR => ?_
  iterate 3 refine hR (?_ : R (_, _, _, _, _, _))
  refine hR (?_ : R (_, _, .ref 1 :: _, _, _, _))
  refine hR (?_ : R (_, _, _, _, _, _))
  refine hR (zcall_i 5 609 (Nat.le_of_ble_eq_true rfl) (Nat.le_of_ble_eq_true rfl) (i_told _ _ ?_))
  iterate 3 refine hR (?_ : R (_, _, _, _, _, _))
  refine hR (?_ : R (_, _, .ref 7 :: _, _, _, _))
  iterate 2 refine hR (?_ : R (_, _, _, _, _, _))
  refine hR (?_ : R (_, _, .ref 8 :: _, _, _, _))
  refine hR (?_ : R (_, _, _, _, _, _))
  refine hR (zcall_i 0 0 (Nat.le_of_ble_eq_true rfl) (Nat.le_of_ble_eq_true rfl) (i_teller _ _ ?_))
  iterate 2 refine hR (?_ : R (_, _, _, _, _, _))
  refine hR (?_ : R (_, _, .ref 9 :: _, _, _, _))
  refine hR (?_ : R (_, _, _, _, _, _))
  refine hR (zcall_i 2 9 (Nat.le_of_ble_eq_true rfl) (Nat.le_of_ble_eq_true rfl) (i_course _ _ ?_))
  iterate 3 refine hR (?_ : R (_, _, _, _, _, _))
  refine hR (?_ : R (_, _, .ref 12 :: _, _, _, _))
  iterate 3 refine hR (?_ : R (_, _, _, _, _, _))
  refine hR (?_ : R (_, _, .ref 13 :: _, _, _, _))
  iterate 7 refine hR (?_ : R (_, _, _, _, _, _))
  exact hR (zret_i rfl (Nat.le_refl _) (rfl) (h))
set_option maxHeartbeats 4000000 in
theorem i_model (d : Nat) (Q : zQ) (h : Q none (zCw (zMf []))) : zCl zTab (d + 2) iX12_init [.ref 14] (zCw [.inr (11, [.int 0, .null, .null, .null, .null, .null, .null, .null, .null, .int 0, .int 0, .int 0, .int 0, .int 0, .long 0, .int 0, .int 0, .int 0, .null, .null, .int 0, .int 0, .int 0, .int 0, .null, .null, .int 0, .null, .int 0, .null, .null, .int 0, .int 0, .int 0, .null, .null, .null, .null, .int 0, .null, .null, .int 0, .null, .null, .int 0, .null, .null, .null, .null, .null, .null, .null])]) 30 271692 Q := by
  refine zCl_i (M := kX12_init) rfl (Nat.le_of_ble_eq_true rfl) fun R hR => ?_
  iterate 4 refine hR (?_ : R (_, _, _, _, _, _))
  refine hR (?_ : R (_, _, .ref 15 :: _, _, _, _))
  refine hR (?_ : R (_, _, _, _, _, _))
  refine (?_ : R (_, _, _, zCw (.inr (11, [_, _, _, _, _, _, _, _, _, _, _, _, _, _, _, _, _, _, _, _, _, _, _, _, _, _, _, _, _, _, _, _, _, _, _, _, _, _, _, _, _, _, _, _, _, _, _, _, _, _, _, _]) :: .inl (0, 2400, .inl _) :: []), _, _))
  iterate 2 refine hR (?_ : R (_, _, _, _, _, _))
  refine hR (?_ : R (_, _, .ref 16 :: _, _, _, _))
  refine hR (?_ : R (_, _, _, _, _, _))
  refine (?_ : R (_, _, _, zCw (.inr (11, [_, _, _, _, _, _, _, _, _, _, _, _, _, _, _, _, _, _, _, _, _, _, _, _, _, _, _, _, _, _, _, _, _, _, _, _, _, _, _, _, _, _, _, _, _, _, _, _, _, _, _, _]) :: .inl (0, 2400, .inl _) :: .inl (1, 4, .inl _) :: []), _, _))
  iterate 2 refine hR (?_ : R (_, _, _, _, _, _))
  refine hR (?_ : R (_, _, .ref 17 :: _, _, _, _))
  refine hR (?_ : R (_, _, _, _, _, _))
  refine (?_ : R (_, _, _, zCw (.inr (11, [_, _, _, _, _, _, _, _, _, _, _, _, _, _, _, _, _, _, _, _, _, _, _, _, _, _, _, _, _, _, _, _, _, _, _, _, _, _, _, _, _, _, _, _, _, _, _, _, _, _, _, _]) :: .inl (0, 2400, .inl _) :: .inl (1, 4, .inl _) :: .inl (1, 4, .inl _) :: []), _, _))
  iterate 2 refine hR (?_ : R (_, _, _, _, _, _))
  refine hR (?_ : R (_, _, .ref 18 :: _, _, _, _))
  refine hR (?_ : R (_, _, _, _, _, _))
  refine (?_ : R (_, _, _, zCw (.inr (11, [_, _, _, _, _, _, _, _, _, _, _, _, _, _, _, _, _, _, _, _, _, _, _, _, _, _, _, _, _, _, _, _, _, _, _, _, _, _, _, _, _, _, _, _, _, _, _, _, _, _, _, _]) :: .inl (0, 2400, .inl _) :: .inl (1, 4, .inl _) :: .inl (1, 4, .inl _) :: .inl (1, 4, .inl _) :: []), _, _))
  iterate 2 refine hR (?_ : R (_, _, _, _, _, _))
  refine hR (?_ : R (_, _, .ref 19 :: _, _, _, _))
  refine hR (?_ : R (_, _, _, _, _, _))
  refine (?_ : R (_, _, _, zCw (.inr (11, [_, _, _, _, _, _, _, _, _, _, _, _, _, _, _, _, _, _, _, _, _, _, _, _, _, _, _, _, _, _, _, _, _, _, _, _, _, _, _, _, _, _, _, _, _, _, _, _, _, _, _, _]) :: .inl (0, 2400, .inl _) :: .inl (1, 4, .inl _) :: .inl (1, 4, .inl _) :: .inl (1, 4, .inl _) :: .inl (1, 12, .inl _) :: []), _, _))
  iterate 2 refine hR (?_ : R (_, _, _, _, _, _))
  refine hR (?_ : R (_, _, .ref 20 :: _, _, _, _))
  refine hR (?_ : R (_, _, _, _, _, _))
  refine (?_ : R (_, _, _, zCw (.inr (11, [_, _, _, _, _, _, _, _, _, _, _, _, _, _, _, _, _, _, _, _, _, _, _, _, _, _, _, _, _, _, _, _, _, _, _, _, _, _, _, _, _, _, _, _, _, _, _, _, _, _, _, _]) :: .inl (0, 2400, .inl _) :: .inl (1, 4, .inl _) :: .inl (1, 4, .inl _) :: .inl (1, 4, .inl _) :: .inl (1, 12, .inl _) :: .inl (1, 408, .inl _) :: []), _, _))
  iterate 2 refine hR (?_ : R (_, _, _, _, _, _))
  refine hR (?_ : R (_, _, .ref 21 :: _, _, _, _))
  refine hR (?_ : R (_, _, _, _, _, _))
  refine (?_ : R (_, _, _, zCw (.inr (11, [_, _, _, _, _, _, _, _, _, _, _, _, _, _, _, _, _, _, _, _, _, _, _, _, _, _, _, _, _, _, _, _, _, _, _, _, _, _, _, _, _, _, _, _, _, _, _, _, _, _, _, _]) :: .inl (0, 2400, .inl _) :: .inl (1, 4, .inl _) :: .inl (1, 4, .inl _) :: .inl (1, 4, .inl _) :: .inl (1, 12, .inl _) :: .inl (1, 408, .inl _) :: .inl (1, 968, .inl _) :: []), _, _))
  iterate 2 refine hR (?_ : R (_, _, _, _, _, _))
  refine hR (?_ : R (_, _, .ref 22 :: _, _, _, _))
  refine hR (?_ : R (_, _, _, _, _, _))
  refine (?_ : R (_, _, _, zCw (.inr (11, [_, _, _, _, _, _, _, _, _, _, _, _, _, _, _, _, _, _, _, _, _, _, _, _, _, _, _, _, _, _, _, _, _, _, _, _, _, _, _, _, _, _, _, _, _, _, _, _, _, _, _, _]) :: .inl (0, 2400, .inl _) :: .inl (1, 4, .inl _) :: .inl (1, 4, .inl _) :: .inl (1, 4, .inl _) :: .inl (1, 12, .inl _) :: .inl (1, 408, .inl _) :: .inl (1, 968, .inl _) :: .inl (1, 104, .inl _) :: []), _, _))
  iterate 2 refine hR (?_ : R (_, _, _, _, _, _))
  refine hR (?_ : R (_, _, .ref 23 :: _, _, _, _))
  refine hR (?_ : R (_, _, _, _, _, _))
  refine (?_ : R (_, _, _, zCw (.inr (11, [_, _, _, _, _, _, _, _, _, _, _, _, _, _, _, _, _, _, _, _, _, _, _, _, _, _, _, _, _, _, _, _, _, _, _, _, _, _, _, _, _, _, _, _, _, _, _, _, _, _, _, _]) :: .inl (0, 2400, .inl _) :: .inl (1, 4, .inl _) :: .inl (1, 4, .inl _) :: .inl (1, 4, .inl _) :: .inl (1, 12, .inl _) :: .inl (1, 408, .inl _) :: .inl (1, 968, .inl _) :: .inl (1, 104, .inl _) :: .inl (1, 121, .inl _) :: []), _, _))
  iterate 2 refine hR (?_ : R (_, _, _, _, _, _))
  refine hR (?_ : R (_, _, .ref 24 :: _, _, _, _))
  refine hR (?_ : R (_, _, _, _, _, _))
  refine (?_ : R (_, _, _, zCw (.inr (11, [_, _, _, _, _, _, _, _, _, _, _, _, _, _, _, _, _, _, _, _, _, _, _, _, _, _, _, _, _, _, _, _, _, _, _, _, _, _, _, _, _, _, _, _, _, _, _, _, _, _, _, _]) :: .inl (0, 2400, .inl _) :: .inl (1, 4, .inl _) :: .inl (1, 4, .inl _) :: .inl (1, 4, .inl _) :: .inl (1, 12, .inl _) :: .inl (1, 408, .inl _) :: .inl (1, 968, .inl _) :: .inl (1, 104, .inl _) :: .inl (1, 121, .inl _) :: .inl (1, 3, .inl _) :: []), _, _))
  iterate 5 refine hR (?_ : R (_, _, _, _, _, _))
  refine hR (?_ : R (_, _, .ref 25 :: _, _, _, _))
  refine hR (?_ : R (_, _, _, _, _, _))
  refine (?_ : R (_, _, _, zCw (.inr (11, [_, _, _, _, _, _, _, _, _, _, _, _, _, _, _, _, _, _, _, _, _, _, _, _, _, _, _, _, _, _, _, _, _, _, _, _, _, _, _, _, _, _, _, _, _, _, _, _, _, _, _, _]) :: .inl (0, 2400, .inl _) :: .inl (1, 4, .inl _) :: .inl (1, 4, .inl _) :: .inl (1, 4, .inl _) :: .inl (1, 12, .inl _) :: .inl (1, 408, .inl _) :: .inl (1, 968, .inl _) :: .inl (1, 104, .inl _) :: .inl (1, 121, .inl _) :: .inl (1, 3, .inl _) :: .inl (1, 7, .inl _) :: []), _, _))
  iterate 2 refine hR (?_ : R (_, _, _, _, _, _))
  refine hR (?_ : R (_, _, .ref 26 :: _, _, _, _))
  refine hR (?_ : R (_, _, _, _, _, _))
  refine (?_ : R (_, _, _, zCw (.inr (11, [_, _, _, _, _, _, _, _, _, _, _, _, _, _, _, _, _, _, _, _, _, _, _, _, _, _, _, _, _, _, _, _, _, _, _, _, _, _, _, _, _, _, _, _, _, _, _, _, _, _, _, _]) :: .inl (0, 2400, .inl _) :: .inl (1, 4, .inl _) :: .inl (1, 4, .inl _) :: .inl (1, 4, .inl _) :: .inl (1, 12, .inl _) :: .inl (1, 408, .inl _) :: .inl (1, 968, .inl _) :: .inl (1, 104, .inl _) :: .inl (1, 121, .inl _) :: .inl (1, 3, .inl _) :: .inl (1, 7, .inl _) :: .inl (1, 7, .inl _) :: []), _, _))
  iterate 2 refine hR (?_ : R (_, _, _, _, _, _))
  refine hR (?_ : R (_, _, .ref 27 :: _, _, _, _))
  refine hR (?_ : R (_, _, _, _, _, _))
  refine (?_ : R (_, _, _, zCw (.inr (11, [_, _, _, _, _, _, _, _, _, _, _, _, _, _, _, _, _, _, _, _, _, _, _, _, _, _, _, _, _, _, _, _, _, _, _, _, _, _, _, _, _, _, _, _, _, _, _, _, _, _, _, _]) :: .inl (0, 2400, .inl _) :: .inl (1, 4, .inl _) :: .inl (1, 4, .inl _) :: .inl (1, 4, .inl _) :: .inl (1, 12, .inl _) :: .inl (1, 408, .inl _) :: .inl (1, 968, .inl _) :: .inl (1, 104, .inl _) :: .inl (1, 121, .inl _) :: .inl (1, 3, .inl _) :: .inl (1, 7, .inl _) :: .inl (1, 7, .inl _) :: .inl (1, 49, .inl _) :: []), _, _))
  iterate 2 refine hR (?_ : R (_, _, _, _, _, _))
  refine hR (?_ : R (_, _, .ref 28 :: _, _, _, _))
  refine hR (?_ : R (_, _, _, _, _, _))
  refine (?_ : R (_, _, _, zCw (.inr (11, [_, _, _, _, _, _, _, _, _, _, _, _, _, _, _, _, _, _, _, _, _, _, _, _, _, _, _, _, _, _, _, _, _, _, _, _, _, _, _, _, _, _, _, _, _, _, _, _, _, _, _, _]) :: .inl (0, 2400, .inl _) :: .inl (1, 4, .inl _) :: .inl (1, 4, .inl _) :: .inl (1, 4, .inl _) :: .inl (1, 12, .inl _) :: .inl (1, 408, .inl _) :: .inl (1, 968, .inl _) :: .inl (1, 104, .inl _) :: .inl (1, 121, .inl _) :: .inl (1, 3, .inl _) :: .inl (1, 7, .inl _) :: .inl (1, 7, .inl _) :: .inl (1, 49, .inl _) :: .inl (1, 4, .inl _) :: []), _, _))
  iterate 2 refine hR (?_ : R (_, _, _, _, _, _))
  refine hR (?_ : R (_, _, .ref 29 :: _, _, _, _))
  refine hR (?_ : R (_, _, _, _, _, _))
  refine (?_ : R (_, _, _, zCw (.inr (11, [_, _, _, _, _, _, _, _, _, _, _, _, _, _, _, _, _, _, _, _, _, _, _, _, _, _, _, _, _, _, _, _, _, _, _, _, _, _, _, _, _, _, _, _, _, _, _, _, _, _, _, _]) :: .inl (0, 2400, .inl _) :: .inl (1, 4, .inl _) :: .inl (1, 4, .inl _) :: .inl (1, 4, .inl _) :: .inl (1, 12, .inl _) :: .inl (1, 408, .inl _) :: .inl (1, 968, .inl _) :: .inl (1, 104, .inl _) :: .inl (1, 121, .inl _) :: .inl (1, 3, .inl _) :: .inl (1, 7, .inl _) :: .inl (1, 7, .inl _) :: .inl (1, 49, .inl _) :: .inl (1, 4, .inl _) :: .inl (1, 5, .inl _) :: []), _, _))
  iterate 2 refine hR (?_ : R (_, _, _, _, _, _))
  refine hR (?_ : R (_, _, .ref 30 :: _, _, _, _))
  refine hR (?_ : R (_, _, _, _, _, _))
  refine (?_ : R (_, _, _, zCw (.inr (11, [_, _, _, _, _, _, _, _, _, _, _, _, _, _, _, _, _, _, _, _, _, _, _, _, _, _, _, _, _, _, _, _, _, _, _, _, _, _, _, _, _, _, _, _, _, _, _, _, _, _, _, _]) :: .inl (0, 2400, .inl _) :: .inl (1, 4, .inl _) :: .inl (1, 4, .inl _) :: .inl (1, 4, .inl _) :: .inl (1, 12, .inl _) :: .inl (1, 408, .inl _) :: .inl (1, 968, .inl _) :: .inl (1, 104, .inl _) :: .inl (1, 121, .inl _) :: .inl (1, 3, .inl _) :: .inl (1, 7, .inl _) :: .inl (1, 7, .inl _) :: .inl (1, 49, .inl _) :: .inl (1, 4, .inl _) :: .inl (1, 5, .inl _) :: .inl (1, 27305, .inl _) :: []), _, _))
  iterate 2 refine hR (?_ : R (_, _, _, _, _, _))
  refine hR (?_ : R (_, _, .ref 31 :: _, _, _, _))
  refine hR (?_ : R (_, _, _, _, _, _))
  refine (?_ : R (_, _, _, zCw (.inr (11, [_, _, _, _, _, _, _, _, _, _, _, _, _, _, _, _, _, _, _, _, _, _, _, _, _, _, _, _, _, _, _, _, _, _, _, _, _, _, _, _, _, _, _, _, _, _, _, _, _, _, _, _]) :: .inl (0, 2400, .inl _) :: .inl (1, 4, .inl _) :: .inl (1, 4, .inl _) :: .inl (1, 4, .inl _) :: .inl (1, 12, .inl _) :: .inl (1, 408, .inl _) :: .inl (1, 968, .inl _) :: .inl (1, 104, .inl _) :: .inl (1, 121, .inl _) :: .inl (1, 3, .inl _) :: .inl (1, 7, .inl _) :: .inl (1, 7, .inl _) :: .inl (1, 49, .inl _) :: .inl (1, 4, .inl _) :: .inl (1, 5, .inl _) :: .inl (1, 27305, .inl _) :: .inl (1, 5461, .inl _) :: []), _, _))
  iterate 2 refine hR (?_ : R (_, _, _, _, _, _))
  refine hR (?_ : R (_, _, .ref 32 :: _, _, _, _))
  refine hR (?_ : R (_, _, _, _, _, _))
  refine (?_ : R (_, _, _, zCw (.inr (11, [_, _, _, _, _, _, _, _, _, _, _, _, _, _, _, _, _, _, _, _, _, _, _, _, _, _, _, _, _, _, _, _, _, _, _, _, _, _, _, _, _, _, _, _, _, _, _, _, _, _, _, _]) :: .inl (0, 2400, .inl _) :: .inl (1, 4, .inl _) :: .inl (1, 4, .inl _) :: .inl (1, 4, .inl _) :: .inl (1, 12, .inl _) :: .inl (1, 408, .inl _) :: .inl (1, 968, .inl _) :: .inl (1, 104, .inl _) :: .inl (1, 121, .inl _) :: .inl (1, 3, .inl _) :: .inl (1, 7, .inl _) :: .inl (1, 7, .inl _) :: .inl (1, 49, .inl _) :: .inl (1, 4, .inl _) :: .inl (1, 5, .inl _) :: .inl (1, 27305, .inl _) :: .inl (1, 5461, .inl _) :: .inl (1, 5461, .inl _) :: []), _, _))
  iterate 2 refine hR (?_ : R (_, _, _, _, _, _))
  refine hR (?_ : R (_, _, .ref 33 :: _, _, _, _))
  refine hR (?_ : R (_, _, _, _, _, _))
  refine (?_ : R (_, _, _, zCw (.inr (11, [_, _, _, _, _, _, _, _, _, _, _, _, _, _, _, _, _, _, _, _, _, _, _, _, _, _, _, _, _, _, _, _, _, _, _, _, _, _, _, _, _, _, _, _, _, _, _, _, _, _, _, _]) :: .inl (0, 2400, .inl _) :: .inl (1, 4, .inl _) :: .inl (1, 4, .inl _) :: .inl (1, 4, .inl _) :: .inl (1, 12, .inl _) :: .inl (1, 408, .inl _) :: .inl (1, 968, .inl _) :: .inl (1, 104, .inl _) :: .inl (1, 121, .inl _) :: .inl (1, 3, .inl _) :: .inl (1, 7, .inl _) :: .inl (1, 7, .inl _) :: .inl (1, 49, .inl _) :: .inl (1, 4, .inl _) :: .inl (1, 5, .inl _) :: .inl (1, 27305, .inl _) :: .inl (1, 5461, .inl _) :: .inl (1, 5461, .inl _) :: .inl (1, 5461, .inl _) :: []), _, _))
  iterate 2 refine hR (?_ : R (_, _, _, _, _, _))
  refine hR (?_ : R (_, _, .ref 34 :: _, _, _, _))
  refine hR (?_ : R (_, _, _, _, _, _))
  refine (?_ : R (_, _, _, zCw (.inr (11, [_, _, _, _, _, _, _, _, _, _, _, _, _, _, _, _, _, _, _, _, _, _, _, _, _, _, _, _, _, _, _, _, _, _, _, _, _, _, _, _, _, _, _, _, _, _, _, _, _, _, _, _]) :: .inl (0, 2400, .inl _) :: .inl (1, 4, .inl _) :: .inl (1, 4, .inl _) :: .inl (1, 4, .inl _) :: .inl (1, 12, .inl _) :: .inl (1, 408, .inl _) :: .inl (1, 968, .inl _) :: .inl (1, 104, .inl _) :: .inl (1, 121, .inl _) :: .inl (1, 3, .inl _) :: .inl (1, 7, .inl _) :: .inl (1, 7, .inl _) :: .inl (1, 49, .inl _) :: .inl (1, 4, .inl _) :: .inl (1, 5, .inl _) :: .inl (1, 27305, .inl _) :: .inl (1, 5461, .inl _) :: .inl (1, 5461, .inl _) :: .inl (1, 5461, .inl _) :: .inl (1, 5461, .inl _) :: []), _, _))
  iterate 2 refine hR (?_ : R (_, _, _, _, _, _))
  refine hR (?_ : R (_, _, .ref 35 :: _, _, _, _))
  refine hR (?_ : R (_, _, _, _, _, _))
  refine (?_ : R (_, _, _, zCw (.inr (11, [_, _, _, _, _, _, _, _, _, _, _, _, _, _, _, _, _, _, _, _, _, _, _, _, _, _, _, _, _, _, _, _, _, _, _, _, _, _, _, _, _, _, _, _, _, _, _, _, _, _, _, _]) :: .inl (0, 2400, .inl _) :: .inl (1, 4, .inl _) :: .inl (1, 4, .inl _) :: .inl (1, 4, .inl _) :: .inl (1, 12, .inl _) :: .inl (1, 408, .inl _) :: .inl (1, 968, .inl _) :: .inl (1, 104, .inl _) :: .inl (1, 121, .inl _) :: .inl (1, 3, .inl _) :: .inl (1, 7, .inl _) :: .inl (1, 7, .inl _) :: .inl (1, 49, .inl _) :: .inl (1, 4, .inl _) :: .inl (1, 5, .inl _) :: .inl (1, 27305, .inl _) :: .inl (1, 5461, .inl _) :: .inl (1, 5461, .inl _) :: .inl (1, 5461, .inl _) :: .inl (1, 5461, .inl _) :: .inl (1, 54610, .inl _) :: []), _, _))
  iterate 2 refine hR (?_ : R (_, _, _, _, _, _))
  refine hR (?_ : R (_, _, .ref 36 :: _, _, _, _))
  refine hR (?_ : R (_, _, _, _, _, _))
  refine (?_ : R (_, _, _, zCw (.inr (11, [_, _, _, _, _, _, _, _, _, _, _, _, _, _, _, _, _, _, _, _, _, _, _, _, _, _, _, _, _, _, _, _, _, _, _, _, _, _, _, _, _, _, _, _, _, _, _, _, _, _, _, _]) :: .inl (0, 2400, .inl _) :: .inl (1, 4, .inl _) :: .inl (1, 4, .inl _) :: .inl (1, 4, .inl _) :: .inl (1, 12, .inl _) :: .inl (1, 408, .inl _) :: .inl (1, 968, .inl _) :: .inl (1, 104, .inl _) :: .inl (1, 121, .inl _) :: .inl (1, 3, .inl _) :: .inl (1, 7, .inl _) :: .inl (1, 7, .inl _) :: .inl (1, 49, .inl _) :: .inl (1, 4, .inl _) :: .inl (1, 5, .inl _) :: .inl (1, 27305, .inl _) :: .inl (1, 5461, .inl _) :: .inl (1, 5461, .inl _) :: .inl (1, 5461, .inl _) :: .inl (1, 5461, .inl _) :: .inl (1, 54610, .inl _) :: .inl (1, 54610, .inl _) :: []), _, _))
  iterate 2 refine hR (?_ : R (_, _, _, _, _, _))
  refine hR (?_ : R (_, _, .ref 37 :: _, _, _, _))
  refine hR (?_ : R (_, _, _, _, _, _))
  refine (?_ : R (_, _, _, zCw (.inr (11, [_, _, _, _, _, _, _, _, _, _, _, _, _, _, _, _, _, _, _, _, _, _, _, _, _, _, _, _, _, _, _, _, _, _, _, _, _, _, _, _, _, _, _, _, _, _, _, _, _, _, _, _]) :: .inl (0, 2400, .inl _) :: .inl (1, 4, .inl _) :: .inl (1, 4, .inl _) :: .inl (1, 4, .inl _) :: .inl (1, 12, .inl _) :: .inl (1, 408, .inl _) :: .inl (1, 968, .inl _) :: .inl (1, 104, .inl _) :: .inl (1, 121, .inl _) :: .inl (1, 3, .inl _) :: .inl (1, 7, .inl _) :: .inl (1, 7, .inl _) :: .inl (1, 49, .inl _) :: .inl (1, 4, .inl _) :: .inl (1, 5, .inl _) :: .inl (1, 27305, .inl _) :: .inl (1, 5461, .inl _) :: .inl (1, 5461, .inl _) :: .inl (1, 5461, .inl _) :: .inl (1, 5461, .inl _) :: .inl (1, 54610, .inl _) :: .inl (1, 54610, .inl _) :: .inl (1, 54610, .inl _) :: []), _, _))
  iterate 2 refine hR (?_ : R (_, _, _, _, _, _))
  refine hR (?_ : R (_, _, .ref 38 :: _, _, _, _))
  refine hR (?_ : R (_, _, _, _, _, _))
  refine (?_ : R (_, _, _, zCw (.inr (11, [_, _, _, _, _, _, _, _, _, _, _, _, _, _, _, _, _, _, _, _, _, _, _, _, _, _, _, _, _, _, _, _, _, _, _, _, _, _, _, _, _, _, _, _, _, _, _, _, _, _, _, _]) :: .inl (0, 2400, .inl _) :: .inl (1, 4, .inl _) :: .inl (1, 4, .inl _) :: .inl (1, 4, .inl _) :: .inl (1, 12, .inl _) :: .inl (1, 408, .inl _) :: .inl (1, 968, .inl _) :: .inl (1, 104, .inl _) :: .inl (1, 121, .inl _) :: .inl (1, 3, .inl _) :: .inl (1, 7, .inl _) :: .inl (1, 7, .inl _) :: .inl (1, 49, .inl _) :: .inl (1, 4, .inl _) :: .inl (1, 5, .inl _) :: .inl (1, 27305, .inl _) :: .inl (1, 5461, .inl _) :: .inl (1, 5461, .inl _) :: .inl (1, 5461, .inl _) :: .inl (1, 5461, .inl _) :: .inl (1, 54610, .inl _) :: .inl (1, 54610, .inl _) :: .inl (1, 54610, .inl _) :: .inl (1, 5461, .inl _) :: []), _, _))
  iterate 2 refine hR (?_ : R (_, _, _, _, _, _))
  refine hR (?_ : R (_, _, .ref 39 :: _, _, _, _))
  refine hR (?_ : R (_, _, _, _, _, _))
  refine (?_ : R (_, _, _, zCw (.inr (11, [_, _, _, _, _, _, _, _, _, _, _, _, _, _, _, _, _, _, _, _, _, _, _, _, _, _, _, _, _, _, _, _, _, _, _, _, _, _, _, _, _, _, _, _, _, _, _, _, _, _, _, _]) :: .inl (0, 2400, .inl _) :: .inl (1, 4, .inl _) :: .inl (1, 4, .inl _) :: .inl (1, 4, .inl _) :: .inl (1, 12, .inl _) :: .inl (1, 408, .inl _) :: .inl (1, 968, .inl _) :: .inl (1, 104, .inl _) :: .inl (1, 121, .inl _) :: .inl (1, 3, .inl _) :: .inl (1, 7, .inl _) :: .inl (1, 7, .inl _) :: .inl (1, 49, .inl _) :: .inl (1, 4, .inl _) :: .inl (1, 5, .inl _) :: .inl (1, 27305, .inl _) :: .inl (1, 5461, .inl _) :: .inl (1, 5461, .inl _) :: .inl (1, 5461, .inl _) :: .inl (1, 5461, .inl _) :: .inl (1, 54610, .inl _) :: .inl (1, 54610, .inl _) :: .inl (1, 54610, .inl _) :: .inl (1, 5461, .inl _) :: .inl (1, 5461, .inl _) :: []), _, _))
  iterate 2 refine hR (?_ : R (_, _, _, _, _, _))
  refine hR (?_ : R (_, _, .ref 40 :: _, _, _, _))
  refine hR (?_ : R (_, _, _, _, _, _))
  refine (?_ : R (_, _, _, zCw (.inr (11, [_, _, _, _, _, _, _, _, _, _, _, _, _, _, _, _, _, _, _, _, _, _, _, _, _, _, _, _, _, _, _, _, _, _, _, _, _, _, _, _, _, _, _, _, _, _, _, _, _, _, _, _]) :: .inl (0, 2400, .inl _) :: .inl (1, 4, .inl _) :: .inl (1, 4, .inl _) :: .inl (1, 4, .inl _) :: .inl (1, 12, .inl _) :: .inl (1, 408, .inl _) :: .inl (1, 968, .inl _) :: .inl (1, 104, .inl _) :: .inl (1, 121, .inl _) :: .inl (1, 3, .inl _) :: .inl (1, 7, .inl _) :: .inl (1, 7, .inl _) :: .inl (1, 49, .inl _) :: .inl (1, 4, .inl _) :: .inl (1, 5, .inl _) :: .inl (1, 27305, .inl _) :: .inl (1, 5461, .inl _) :: .inl (1, 5461, .inl _) :: .inl (1, 5461, .inl _) :: .inl (1, 5461, .inl _) :: .inl (1, 54610, .inl _) :: .inl (1, 54610, .inl _) :: .inl (1, 54610, .inl _) :: .inl (1, 5461, .inl _) :: .inl (1, 5461, .inl _) :: .inl (1, 5461, .inl _) :: []), _, _))
  iterate 2 refine hR (?_ : R (_, _, _, _, _, _))
  refine hR (?_ : R (_, _, .ref 41 :: _, _, _, _))
  refine hR (?_ : R (_, _, _, _, _, _))
  refine (?_ : R (_, _, _, zCw (.inr (11, [_, _, _, _, _, _, _, _, _, _, _, _, _, _, _, _, _, _, _, _, _, _, _, _, _, _, _, _, _, _, _, _, _, _, _, _, _, _, _, _, _, _, _, _, _, _, _, _, _, _, _, _]) :: .inl (0, 2400, .inl _) :: .inl (1, 4, .inl _) :: .inl (1, 4, .inl _) :: .inl (1, 4, .inl _) :: .inl (1, 12, .inl _) :: .inl (1, 408, .inl _) :: .inl (1, 968, .inl _) :: .inl (1, 104, .inl _) :: .inl (1, 121, .inl _) :: .inl (1, 3, .inl _) :: .inl (1, 7, .inl _) :: .inl (1, 7, .inl _) :: .inl (1, 49, .inl _) :: .inl (1, 4, .inl _) :: .inl (1, 5, .inl _) :: .inl (1, 27305, .inl _) :: .inl (1, 5461, .inl _) :: .inl (1, 5461, .inl _) :: .inl (1, 5461, .inl _) :: .inl (1, 5461, .inl _) :: .inl (1, 54610, .inl _) :: .inl (1, 54610, .inl _) :: .inl (1, 54610, .inl _) :: .inl (1, 5461, .inl _) :: .inl (1, 5461, .inl _) :: .inl (1, 5461, .inl _) :: .inl (1, 5461, .inl _) :: []), _, _))
  iterate 2 refine hR (?_ : R (_, _, _, _, _, _))
  refine hR (?_ : R (_, _, .ref 42 :: _, _, _, _))
  refine hR (?_ : R (_, _, _, _, _, _))
  refine (?_ : R (_, _, _, zCw (.inr (11, [_, _, _, _, _, _, _, _, _, _, _, _, _, _, _, _, _, _, _, _, _, _, _, _, _, _, _, _, _, _, _, _, _, _, _, _, _, _, _, _, _, _, _, _, _, _, _, _, _, _, _, _]) :: .inl (0, 2400, .inl _) :: .inl (1, 4, .inl _) :: .inl (1, 4, .inl _) :: .inl (1, 4, .inl _) :: .inl (1, 12, .inl _) :: .inl (1, 408, .inl _) :: .inl (1, 968, .inl _) :: .inl (1, 104, .inl _) :: .inl (1, 121, .inl _) :: .inl (1, 3, .inl _) :: .inl (1, 7, .inl _) :: .inl (1, 7, .inl _) :: .inl (1, 49, .inl _) :: .inl (1, 4, .inl _) :: .inl (1, 5, .inl _) :: .inl (1, 27305, .inl _) :: .inl (1, 5461, .inl _) :: .inl (1, 5461, .inl _) :: .inl (1, 5461, .inl _) :: .inl (1, 5461, .inl _) :: .inl (1, 54610, .inl _) :: .inl (1, 54610, .inl _) :: .inl (1, 54610, .inl _) :: .inl (1, 5461, .inl _) :: .inl (1, 5461, .inl _) :: .inl (1, 5461, .inl _) :: .inl (1, 5461, .inl _) :: .inl (1, 5461, .inl _) :: []), _, _))
  iterate 2 refine hR (?_ : R (_, _, _, _, _, _))
  refine hR (?_ : R (_, _, .ref 43 :: _, _, _, _))
  refine hR (?_ : R (_, _, _, _, _, _))
  refine (?_ : R (_, _, _, zCw (.inr (11, [_, _, _, _, _, _, _, _, _, _, _, _, _, _, _, _, _, _, _, _, _, _, _, _, _, _, _, _, _, _, _, _, _, _, _, _, _, _, _, _, _, _, _, _, _, _, _, _, _, _, _, _]) :: .inl (0, 2400, .inl _) :: .inl (1, 4, .inl _) :: .inl (1, 4, .inl _) :: .inl (1, 4, .inl _) :: .inl (1, 12, .inl _) :: .inl (1, 408, .inl _) :: .inl (1, 968, .inl _) :: .inl (1, 104, .inl _) :: .inl (1, 121, .inl _) :: .inl (1, 3, .inl _) :: .inl (1, 7, .inl _) :: .inl (1, 7, .inl _) :: .inl (1, 49, .inl _) :: .inl (1, 4, .inl _) :: .inl (1, 5, .inl _) :: .inl (1, 27305, .inl _) :: .inl (1, 5461, .inl _) :: .inl (1, 5461, .inl _) :: .inl (1, 5461, .inl _) :: .inl (1, 5461, .inl _) :: .inl (1, 54610, .inl _) :: .inl (1, 54610, .inl _) :: .inl (1, 54610, .inl _) :: .inl (1, 5461, .inl _) :: .inl (1, 5461, .inl _) :: .inl (1, 5461, .inl _) :: .inl (1, 5461, .inl _) :: .inl (1, 5461, .inl _) :: .inl (1, 27305, .inl _) :: []), _, _))
  iterate 2 refine hR (?_ : R (_, _, _, _, _, _))
  refine hR (?_ : R (_, _, .ref 44 :: _, _, _, _))
  refine hR (?_ : R (_, _, _, _, _, _))
  refine (?_ : R (_, _, _, zCw (.inr (11, [_, _, _, _, _, _, _, _, _, _, _, _, _, _, _, _, _, _, _, _, _, _, _, _, _, _, _, _, _, _, _, _, _, _, _, _, _, _, _, _, _, _, _, _, _, _, _, _, _, _, _, _]) :: .inl (0, 2400, .inl _) :: .inl (1, 4, .inl _) :: .inl (1, 4, .inl _) :: .inl (1, 4, .inl _) :: .inl (1, 12, .inl _) :: .inl (1, 408, .inl _) :: .inl (1, 968, .inl _) :: .inl (1, 104, .inl _) :: .inl (1, 121, .inl _) :: .inl (1, 3, .inl _) :: .inl (1, 7, .inl _) :: .inl (1, 7, .inl _) :: .inl (1, 49, .inl _) :: .inl (1, 4, .inl _) :: .inl (1, 5, .inl _) :: .inl (1, 27305, .inl _) :: .inl (1, 5461, .inl _) :: .inl (1, 5461, .inl _) :: .inl (1, 5461, .inl _) :: .inl (1, 5461, .inl _) :: .inl (1, 54610, .inl _) :: .inl (1, 54610, .inl _) :: .inl (1, 54610, .inl _) :: .inl (1, 5461, .inl _) :: .inl (1, 5461, .inl _) :: .inl (1, 5461, .inl _) :: .inl (1, 5461, .inl _) :: .inl (1, 5461, .inl _) :: .inl (1, 27305, .inl _) :: .inl (2, 3, .inl _) :: []), _, _))
  iterate 4 refine hR (?_ : R (_, _, _, _, _, _))
  refine hR (And.intro (by unfold vp_in; decide) ?_)
  exact hR (zret_i rfl (Nat.le_refl _) (rfl) (h))
/-! THE START. -/
theorem bk0 : bkOK (fun _ => 0) := by
  intro b _
  refine ⟨by dsimp only; decide, by dsimp only; decide, fun j _ _ => by dsimp only; decide, fun j _ _ => by dsimp only; decide, fun j _ => by dsimp only; decide⟩
theorem yr0 : yrOK (fun _ => 0) := by
  intro b _
  refine ⟨by dsimp only; decide, fun j _ => by dsimp only; decide⟩
theorem si0 : siOK (fun _ => 0) := by
  intro b _
  dsimp only
  decide
def rl0 : Nat → Nat := fun q => [1, 2, 3, 4, 5, 6, 7, 8, 9, 10, 11, 12, 13, 14].getD q 0
theorem rl0_ge {q : Nat} (h : 14 ≤ q) : rl0 q = 0 := lgd_ge h
theorem TOP0 : TOP rl0 (zCw (zMf [])) := by
  have hci : CI rl0 (zCw (zMf [])) := by
    refine ⟨fun q hq => ?_, fun q hq => rl0_ge (by have h : (zCw (zMf [])).length = 45 := rfl; omega), fun q hq => ?_⟩
    · have hq : q < 45 := hq
      match q, hq with
      | 0, _ => exact ⟨_, rfl, ⟨none, none, rfl, rfl, rfl, rfl, rfl, rfl, rfl, (fun z h => by cases h), (fun z h => by cases h)⟩⟩
      | 1, _ => exact ⟨_, rfl, ⟨0, 0, -1, rfl, rfl, ⟨by decide, by decide⟩, ⟨by decide, by decide⟩, ⟨by decide, by decide⟩, rfl, rfl, rfl, rfl⟩⟩
      | 2, _ => exact ⟨_, rfl, ⟨_, rfl, fun j => by show _ ∧ _; decide⟩⟩
      | 3, _ => exact ⟨_, rfl, ⟨_, rfl, fun j => by show _ ∧ _; decide⟩⟩
      | 4, _ => exact ⟨_, rfl, ⟨_, rfl, fun j x hx => by cases hx⟩⟩
      | 5, _ => exact ⟨_, rfl, ⟨_, rfl, fun j x hx => by cases hx⟩⟩
      | 6, _ => exact ⟨_, rfl, ⟨_, rfl, fun j x hx => by cases hx⟩⟩
      | 7, _ => exact ⟨_, rfl, ⟨_, rfl, fun j x hx => by cases hx⟩⟩
      | 8, _ => exact ⟨_, rfl, ⟨none, 0, 0, 0, 0, 0, 0, -1, rfl, (fun z h => by cases h), ⟨by decide, by decide⟩, ⟨by decide, by decide⟩, ⟨by decide, by decide⟩, ⟨by decide, by decide⟩, ⟨by decide, by decide⟩, ⟨by decide, by decide⟩, ⟨by decide, by decide⟩⟩⟩
      | 9, _ => exact ⟨_, rfl, ⟨none, 0, 0, 0, 0, rfl, (fun z h => by cases h), ⟨by decide, by decide⟩, ⟨by decide, by decide⟩, ⟨by decide, by decide⟩, ⟨by decide, by decide⟩, rfl, rfl⟩⟩
      | 10, _ => exact ⟨_, rfl, ⟨_, rfl, fun j => by show _ ∧ _; decide⟩⟩
      | 11, _ => exact ⟨_, rfl, ⟨_, rfl, fun j => by show _ ∧ _; decide⟩⟩
      | 12, _ => exact ⟨_, rfl, ⟨_, rfl, fun j x hx => by cases hx⟩⟩
      | 13, _ => exact ⟨_, rfl, ⟨_, rfl, fun j x hx => by cases hx⟩⟩
      | 14, _ => exact ⟨_, rfl, trivial⟩
      | 15, _ => exact ⟨_, rfl, trivial⟩
      | 16, _ => exact ⟨_, rfl, trivial⟩
      | 17, _ => exact ⟨_, rfl, trivial⟩
      | 18, _ => exact ⟨_, rfl, trivial⟩
      | 19, _ => exact ⟨_, rfl, trivial⟩
      | 20, _ => exact ⟨_, rfl, trivial⟩
      | 21, _ => exact ⟨_, rfl, trivial⟩
      | 22, _ => exact ⟨_, rfl, trivial⟩
      | 23, _ => exact ⟨_, rfl, trivial⟩
      | 24, _ => exact ⟨_, rfl, trivial⟩
      | 25, _ => exact ⟨_, rfl, trivial⟩
      | 26, _ => exact ⟨_, rfl, trivial⟩
      | 27, _ => exact ⟨_, rfl, trivial⟩
      | 28, _ => exact ⟨_, rfl, trivial⟩
      | 29, _ => exact ⟨_, rfl, trivial⟩
      | 30, _ => exact ⟨_, rfl, trivial⟩
      | 31, _ => exact ⟨_, rfl, trivial⟩
      | 32, _ => exact ⟨_, rfl, trivial⟩
      | 33, _ => exact ⟨_, rfl, trivial⟩
      | 34, _ => exact ⟨_, rfl, trivial⟩
      | 35, _ => exact ⟨_, rfl, trivial⟩
      | 36, _ => exact ⟨_, rfl, trivial⟩
      | 37, _ => exact ⟨_, rfl, trivial⟩
      | 38, _ => exact ⟨_, rfl, trivial⟩
      | 39, _ => exact ⟨_, rfl, trivial⟩
      | 40, _ => exact ⟨_, rfl, trivial⟩
      | 41, _ => exact ⟨_, rfl, trivial⟩
      | 42, _ => exact ⟨_, rfl, trivial⟩
      | 43, _ => exact ⟨_, rfl, trivial⟩
      | 44, _ => exact ⟨_, rfl, trivial⟩
      | n + 45, h => omega
    · exfalso
      by_cases h : q < 14
      · have : q = 0 ∨ q = 1 ∨ q = 2 ∨ q = 3 ∨ q = 4 ∨ q = 5 ∨ q = 6 ∨ q = 7 ∨ q = 8 ∨ q = 9 ∨ q = 10 ∨ q = 11 ∨ q = 12 ∨ q = 13 := by omega
        rcases this with rfl | rfl | rfl | rfl | rfl | rfl | rfl | rfl | rfl | rfl | rfl | rfl | rfl | rfl <;> cases hq
      · rw [rl0_ge (by omega)] at hq; cases hq
  refine ⟨hci, rfl, fun q hq => ?_, fun q a _ => rl0_ge a, Nat.le_of_ble_eq_true rfl⟩
  exfalso
  by_cases h : q < 14
  · have : q = 0 ∨ q = 1 ∨ q = 2 ∨ q = 3 ∨ q = 4 ∨ q = 5 ∨ q = 6 ∨ q = 7 ∨ q = 8 ∨ q = 9 ∨ q = 10 ∨ q = 11 ∨ q = 12 ∨ q = 13 := by omega
    rcases this with rfl | rfl | rfl | rfl | rfl | rfl | rfl | rfl | rfl | rfl | rfl | rfl | rfl | rfl <;> cases hq
  · rw [rl0_ge (by omega)] at hq; cases hq
theorem MI0 : MI (zCw (zMf [])) (fun _ => 0) (fun _ => 0) := by
  have hz : ∀ lo hi : Int, lo ≤ 0 → 0 ≤ hi → zB lo hi (fun _ => 0) := fun lo hi a b j => ⟨a, b⟩
  exact ⟨_, _, _, _, _, _, _, _, _, _, _, _, _, _, 0, 0, 0, 0, 0, 0, 0, 0, 0, 0, (-1), 0, 0, 0, 0, 0, 0, 0, 0, 0, 0, 0, _, _, _, _, _, _, _, _, _, _, _, _, _, _, _, _, _, _, _, _, _, _, _, _, _, _, _, _, [], rfl, hz _ _ (by decide) (by decide), hz _ _ (by decide) (by decide), bk0, yr0, si0, hz _ _ (by decide) (by decide), hz _ _ (by decide) (by decide), hz _ _ (by decide) (by decide), hz _ _ (by decide) (by decide), hz _ _ (by decide) (by decide), hz _ _ (by decide) (by decide)⟩
theorem J0 : J (zCw (zMf [])) := by
  refine ⟨rl0, fun _ => 0, fun _ => 0, TOP0, MI0, ⟨⟨_, _, rfl, by decide, by decide⟩, fun _ => none, rfl, fun k hk => Or.inl ⟨rfl, rfl⟩, fun j k q _ _ h => by cases h⟩⟩
theorem phi0 : phi (zCw (zMf [])) = 254700 := by decide
def zLQ : zQ := fun r _ => r = some (.int 1)
theorem zrsub {C : zCT} {d : Nat} {M : zM} {E : zX} {tab : List zM} {mc ms : Nat} {Q : zQ} {R : zS → Prop} (cd : List zE) (h : cd.all (fun e => decide (zat M.2.2.2.2.2 e.1 = some e.2)) = true) (hR : ∀ y, zstep C d M E tab mc ms Q y R → R y) : ∀ {pc : Nat} {L : zL} {S : List Value} {w : zW} {k n : Nat}, zsc C d (M.1, M.2.1, M.2.2.1, M.2.2.2.1, M.2.2.2.2.1, cd) E tab mc ms Q pc L S w k n R → R (pc, L, S, w, k, n) := by
  intro pc L S w k n hy
  refine hR (pc, L, S, w, k, n) ?_
  unfold zsc at hy
  unfold zstep zsc
  dsimp only at hy ⊢
  split at hy
  · exact hy.elim
  · rename_i r hr
    have h1 := List.all_eq_true.mp h _ (zat_mem hr)
    rw [of_decide_eq_true h1]
    exact hy
def qL0 : List zE := [(192, .aload_n 1, 193, 0, 0), (193, .aload_n 0, 194, 0, 0), (194, .iload_n 3, 195, 0, 0), (195, .iconst 1, 196, 0, 0), (196, .iadd, 197, 0, 0), (197, .iaload, 198, 0, 0), (198, .aload_n 0, 199, 0, 0), (199, .iload_n 3, 200, 0, 0), (200, .iconst 2, 201, 0, 0), (201, .iadd, 202, 0, 0), (202, .iaload, 203, 0, 0), (203, .aload_n 0, 204, 0, 0), (204, .iload_n 3, 205, 0, 0), (205, .iconst 3, 206, 0, 0), (206, .iadd, 207, 0, 0), (207, .iaload, 208, 0, 0), (208, .aload_n 0, 209, 0, 0), (209, .iload_n 3, 210, 0, 0), (210, .iconst 4, 211, 0, 0), (211, .iadd, 212, 0, 0), (212, .iaload, 213, 0, 0), (213, .aload_n 0, 214, 0, 0), (214, .iload_n 3, 215, 0, 0), (215, .iconst 5, 216, 0, 0), (216, .iadd, 217, 0, 0), (217, .iaload, 218, 0, 0), (218, .invokevirtual 13, 221, 2, 5), (221, .pop, 222, 0, 0), (222, .aload_n 2, 223, 0, 0), (223, .aload_n 0, 224, 0, 0), (224, .iload_n 3, 225, 0, 0), (225, .iconst 1, 226, 0, 0), (226, .iadd, 227, 0, 0), (227, .iaload, 228, 0, 0), (228, .aload_n 0, 229, 0, 0), (229, .iload_n 3, 230, 0, 0), (230, .iconst 2, 231, 0, 0), (231, .iadd, 232, 0, 0), (232, .iaload, 233, 0, 0), (233, .aload_n 0, 234, 0, 0), (234, .iload_n 3, 235, 0, 0), (235, .iconst 3, 236, 0, 0), (236, .iadd, 237, 0, 0), (237, .iaload, 238, 0, 0), (238, .aload_n 0, 239, 0, 0), (239, .iload_n 3, 240, 0, 0), (240, .iconst 4, 241, 0, 0), (241, .iadd, 242, 0, 0), (242, .iaload, 243, 0, 0), (243, .aload_n 0, 244, 0, 0), (244, .iload_n 3, 245, 0, 0), (245, .iconst 5, 246, 0, 0), (246, .iadd, 247, 0, 0), (247, .iaload, 248, 0, 0), (248, .invokevirtual 17, 251, 188, 5), (251, .pop, 252, 0, 0), (252, .goto 1590, 255, 1842, 0)]
theorem sL0 : qL0.all (fun e => decide (zat kL_law.2.2.2.2.2 e.1 = some e.2)) = true := by decide +kernel
theorem l_c0 {R : zS → Prop} {L : Nat} {xs : Nat → Int32} (hR : ∀ y, zstep (zCl zTab 12) 12 kL_law (some (L, xs)) zTab 600000 7302250 zLQ y R → R y) (hL : L ≤ 3584) {w : zW} {i : Int} {k n : Nat} (hi : 0 ≤ i ∧ i + 7 ≤ L) (hJ : J w) (hk : k + 100 ≤ 600000) (hn : n + phi w + 300 ≤ 7302250) (hb : ∀ w' k' n', J w' → k' ≤ k + 100 → n' + phi w' ≤ n + phi w + 300 → R (1842, [some (.retAddr 0), some (.ref 0), some (.ref 14), some (.int (Int32.ofInt i))], [], w', k', n')) : R (192, [some (.retAddr 0), some (.ref 0), some (.ref 14), some (.int (Int32.ofInt i))], [], w, k, n) := by
  have hR := @zrsub _ _ _ _ _ _ _ _ _ qL0 sL0 hR
  refine hR (?_ : R (_, _, _, _, _, _))
  refine hR (?_ : R (_, _, _, _, _, _))
  refine hR (?_ : R (_, _, _, _, _, _))
  refine hR (?_ : R (_, _, _, _, _, _))
  refine hR (t_add ?_)
  refine hR (And.intro (zvin (by omega) (by omega) (by omega)) (t_raw ?_))
  refine hR (?_ : R (_, _, _, _, _, _))
  refine hR (?_ : R (_, _, _, _, _, _))
  refine hR (?_ : R (_, _, _, _, _, _))
  refine hR (t_add ?_)
  refine hR (And.intro (zvin (by omega) (by omega) (by omega)) (t_raw ?_))
  refine hR (?_ : R (_, _, _, _, _, _))
  refine hR (?_ : R (_, _, _, _, _, _))
  refine hR (?_ : R (_, _, _, _, _, _))
  refine hR (t_add ?_)
  refine hR (And.intro (zvin (by omega) (by omega) (by omega)) (t_raw ?_))
  refine hR (?_ : R (_, _, _, _, _, _))
  refine hR (?_ : R (_, _, _, _, _, _))
  refine hR (?_ : R (_, _, _, _, _, _))
  refine hR (t_add ?_)
  refine hR (And.intro (zvin (by omega) (by omega) (by omega)) (t_raw ?_))
  refine hR (?_ : R (_, _, _, _, _, _))
  refine hR (?_ : R (_, _, _, _, _, _))
  refine hR (?_ : R (_, _, _, _, _, _))
  refine hR (t_add ?_)
  refine hR (And.intro (zvin (by omega) (by omega) (by omega)) (t_raw ?_))
  obtain ⟨mc, ms, r, w1, r2, w2, run1, run2, ⟨fs0, h0⟩, ⟨fs1, h14⟩, hJ2, hmc, hms, hP⟩ := pr_feed hJ (xs (Int32.ofInt (i + 1)).toNatClampNeg).toInt (xs (Int32.ofInt (i + 2)).toNatClampNeg).toInt (xs (Int32.ofInt (i + 3)).toNatClampNeg).toInt (xs (Int32.ofInt (i + 4)).toNatClampNeg).toInt (xs (Int32.ofInt (i + 5)).toNatClampNeg).toInt (zrg _) (zrg _) (zrg _) (zrg _) (zrg _)
  obtain ⟨v, rfl, rfl⟩ := hP
  refine hR (c_obj h0 (zcall_i mc ms (by omega) (by omega) (run1 _ ?_)))
  refine (?_ : R (_, _, .int v :: [], w1, k + mc, n + ms))
  refine hR (?_ : R (_, _, _, _, _, _))
  refine hR (?_ : R (_, _, _, _, _, _))
  refine hR (?_ : R (_, _, _, _, _, _))
  refine hR (?_ : R (_, _, _, _, _, _))
  refine hR (?_ : R (_, _, _, _, _, _))
  refine hR (t_add ?_)
  refine hR (And.intro (zvin (by omega) (by omega) (by omega)) (t_raw ?_))
  refine hR (?_ : R (_, _, _, _, _, _))
  refine hR (?_ : R (_, _, _, _, _, _))
  refine hR (?_ : R (_, _, _, _, _, _))
  refine hR (t_add ?_)
  refine hR (And.intro (zvin (by omega) (by omega) (by omega)) (t_raw ?_))
  refine hR (?_ : R (_, _, _, _, _, _))
  refine hR (?_ : R (_, _, _, _, _, _))
  refine hR (?_ : R (_, _, _, _, _, _))
  refine hR (t_add ?_)
  refine hR (And.intro (zvin (by omega) (by omega) (by omega)) (t_raw ?_))
  refine hR (?_ : R (_, _, _, _, _, _))
  refine hR (?_ : R (_, _, _, _, _, _))
  refine hR (?_ : R (_, _, _, _, _, _))
  refine hR (t_add ?_)
  refine hR (And.intro (zvin (by omega) (by omega) (by omega)) (t_raw ?_))
  refine hR (?_ : R (_, _, _, _, _, _))
  refine hR (?_ : R (_, _, _, _, _, _))
  refine hR (?_ : R (_, _, _, _, _, _))
  refine hR (t_add ?_)
  refine hR (And.intro (zvin (by omega) (by omega) (by omega)) (t_raw ?_))
  refine hR (c_obj h14 (zcall_i 0 0 (by omega) (by omega) (run2 _ ?_)))
  refine (?_ : R (_, _, .int v :: [], w2, k + mc, n + ms))
  refine hR (?_ : R (_, _, _, _, _, _))
  refine hR (?_ : R (_, _, _, _, _, _))
  exact hb w2 _ _ hJ2 (by omega) (by omega)
def qL1 : List zE := [(255, .aload_n 1, 256, 0, 0), (256, .aload_n 0, 257, 0, 0), (257, .iload_n 3, 258, 0, 0), (258, .iconst 1, 259, 0, 0), (259, .iadd, 260, 0, 0), (260, .iaload, 261, 0, 0), (261, .invokevirtual 18, 264, 3, 1), (264, .pop, 265, 0, 0), (265, .aload_n 2, 266, 0, 0), (266, .aload_n 0, 267, 0, 0), (267, .iload_n 3, 268, 0, 0), (268, .iconst 1, 269, 0, 0), (269, .iadd, 270, 0, 0), (270, .iaload, 271, 0, 0), (271, .invokevirtual 22, 274, 190, 1), (274, .pop, 275, 0, 0), (275, .goto 1567, 278, 1842, 0)]
theorem sL1 : qL1.all (fun e => decide (zat kL_law.2.2.2.2.2 e.1 = some e.2)) = true := by decide +kernel
theorem l_c1 {R : zS → Prop} {L : Nat} {xs : Nat → Int32} (hR : ∀ y, zstep (zCl zTab 12) 12 kL_law (some (L, xs)) zTab 600000 7302250 zLQ y R → R y) (hL : L ≤ 3584) {w : zW} {i : Int} {k n : Nat} (hi : 0 ≤ i ∧ i + 7 ≤ L) (hJ : J w) (hk : k + 100 ≤ 600000) (hn : n + phi w + 300 ≤ 7302250) (hb : ∀ w' k' n', J w' → k' ≤ k + 100 → n' + phi w' ≤ n + phi w + 300 → R (1842, [some (.retAddr 0), some (.ref 0), some (.ref 14), some (.int (Int32.ofInt i))], [], w', k', n')) : R (255, [some (.retAddr 0), some (.ref 0), some (.ref 14), some (.int (Int32.ofInt i))], [], w, k, n) := by
  have hR := @zrsub _ _ _ _ _ _ _ _ _ qL1 sL1 hR
  refine hR (?_ : R (_, _, _, _, _, _))
  refine hR (?_ : R (_, _, _, _, _, _))
  refine hR (?_ : R (_, _, _, _, _, _))
  refine hR (?_ : R (_, _, _, _, _, _))
  refine hR (t_add ?_)
  refine hR (And.intro (zvin (by omega) (by omega) (by omega)) (t_raw ?_))
  obtain ⟨mc, ms, r, w1, r2, w2, run1, run2, ⟨fs0, h0⟩, ⟨fs1, h14⟩, hJ2, hmc, hms, hP⟩ := pr_end hJ (xs (Int32.ofInt (i + 1)).toNatClampNeg).toInt (zrg _)
  obtain ⟨v, rfl, rfl⟩ := hP
  refine hR (c_obj h0 (zcall_i mc ms (by omega) (by omega) (run1 _ ?_)))
  refine (?_ : R (_, _, .int v :: [], w1, k + mc, n + ms))
  refine hR (?_ : R (_, _, _, _, _, _))
  refine hR (?_ : R (_, _, _, _, _, _))
  refine hR (?_ : R (_, _, _, _, _, _))
  refine hR (?_ : R (_, _, _, _, _, _))
  refine hR (?_ : R (_, _, _, _, _, _))
  refine hR (t_add ?_)
  refine hR (And.intro (zvin (by omega) (by omega) (by omega)) (t_raw ?_))
  refine hR (c_obj h14 (zcall_i 0 0 (by omega) (by omega) (run2 _ ?_)))
  refine (?_ : R (_, _, .int v :: [], w2, k + mc, n + ms))
  refine hR (?_ : R (_, _, _, _, _, _))
  refine hR (?_ : R (_, _, _, _, _, _))
  exact hb w2 _ _ hJ2 (by omega) (by omega)
def qL2 : List zE := [(278, .aload_n 1, 279, 0, 0), (279, .aload_n 0, 280, 0, 0), (280, .iload_n 3, 281, 0, 0), (281, .iconst 1, 282, 0, 0), (282, .iadd, 283, 0, 0), (283, .iaload, 284, 0, 0), (284, .aload_n 0, 285, 0, 0), (285, .iload_n 3, 286, 0, 0), (286, .iconst 2, 287, 0, 0), (287, .iadd, 288, 0, 0), (288, .iaload, 289, 0, 0), (289, .invokevirtual 23, 292, 4, 2), (292, .pop, 293, 0, 0), (293, .aload_n 2, 294, 0, 0), (294, .aload_n 0, 295, 0, 0), (295, .iload_n 3, 296, 0, 0), (296, .iconst 1, 297, 0, 0), (297, .iadd, 298, 0, 0), (298, .iaload, 299, 0, 0), (299, .aload_n 0, 300, 0, 0), (300, .iload_n 3, 301, 0, 0), (301, .iconst 2, 302, 0, 0), (302, .iadd, 303, 0, 0), (303, .iaload, 304, 0, 0), (304, .invokevirtual 27, 307, 211, 2), (307, .pop, 308, 0, 0), (308, .goto 1534, 311, 1842, 0)]
theorem sL2 : qL2.all (fun e => decide (zat kL_law.2.2.2.2.2 e.1 = some e.2)) = true := by decide +kernel
theorem l_c2 {R : zS → Prop} {L : Nat} {xs : Nat → Int32} (hR : ∀ y, zstep (zCl zTab 12) 12 kL_law (some (L, xs)) zTab 600000 7302250 zLQ y R → R y) (hL : L ≤ 3584) {w : zW} {i : Int} {k n : Nat} (hi : 0 ≤ i ∧ i + 7 ≤ L) (hJ : J w) (hk : k + 100 ≤ 600000) (hn : n + phi w + 300 ≤ 7302250) (hb : ∀ w' k' n', J w' → k' ≤ k + 100 → n' + phi w' ≤ n + phi w + 300 → R (1842, [some (.retAddr 0), some (.ref 0), some (.ref 14), some (.int (Int32.ofInt i))], [], w', k', n')) : R (278, [some (.retAddr 0), some (.ref 0), some (.ref 14), some (.int (Int32.ofInt i))], [], w, k, n) := by
  have hR := @zrsub _ _ _ _ _ _ _ _ _ qL2 sL2 hR
  refine hR (?_ : R (_, _, _, _, _, _))
  refine hR (?_ : R (_, _, _, _, _, _))
  refine hR (?_ : R (_, _, _, _, _, _))
  refine hR (?_ : R (_, _, _, _, _, _))
  refine hR (t_add ?_)
  refine hR (And.intro (zvin (by omega) (by omega) (by omega)) (t_raw ?_))
  refine hR (?_ : R (_, _, _, _, _, _))
  refine hR (?_ : R (_, _, _, _, _, _))
  refine hR (?_ : R (_, _, _, _, _, _))
  refine hR (t_add ?_)
  refine hR (And.intro (zvin (by omega) (by omega) (by omega)) (t_raw ?_))
  obtain ⟨mc, ms, r, w1, r2, w2, run1, run2, ⟨fs0, h0⟩, ⟨fs1, h14⟩, hJ2, hmc, hms, hP⟩ := pr_text hJ (xs (Int32.ofInt (i + 1)).toNatClampNeg).toInt (xs (Int32.ofInt (i + 2)).toNatClampNeg).toInt (zrg _) (zrg _)
  obtain ⟨v, v2, rfl, rfl⟩ := hP
  refine hR (c_obj h0 (zcall_i mc ms (by omega) (by omega) (run1 _ ?_)))
  refine (?_ : R (_, _, .int v :: [], w1, k + mc, n + ms))
  refine hR (?_ : R (_, _, _, _, _, _))
  refine hR (?_ : R (_, _, _, _, _, _))
  refine hR (?_ : R (_, _, _, _, _, _))
  refine hR (?_ : R (_, _, _, _, _, _))
  refine hR (?_ : R (_, _, _, _, _, _))
  refine hR (t_add ?_)
  refine hR (And.intro (zvin (by omega) (by omega) (by omega)) (t_raw ?_))
  refine hR (?_ : R (_, _, _, _, _, _))
  refine hR (?_ : R (_, _, _, _, _, _))
  refine hR (?_ : R (_, _, _, _, _, _))
  refine hR (t_add ?_)
  refine hR (And.intro (zvin (by omega) (by omega) (by omega)) (t_raw ?_))
  refine hR (c_obj h14 (zcall_i 0 0 (by omega) (by omega) (run2 _ ?_)))
  refine (?_ : R (_, _, .int v2 :: [], w2, k + mc, n + ms))
  refine hR (?_ : R (_, _, _, _, _, _))
  refine hR (?_ : R (_, _, _, _, _, _))
  exact hb w2 _ _ hJ2 (by omega) (by omega)
def qL3 : List zE := [(311, .aload_n 1, 312, 0, 0), (312, .aload_n 0, 313, 0, 0), (313, .iload_n 3, 314, 0, 0), (314, .iconst 1, 315, 0, 0), (315, .iadd, 316, 0, 0), (316, .iaload, 317, 0, 0), (317, .invokevirtual 28, 320, 5, 1), (320, .pop, 321, 0, 0), (321, .aload_n 2, 322, 0, 0), (322, .aload_n 0, 323, 0, 0), (323, .iload_n 3, 324, 0, 0), (324, .iconst 1, 325, 0, 0), (325, .iadd, 326, 0, 0), (326, .iaload, 327, 0, 0), (327, .invokevirtual 31, 330, 212, 1), (330, .pop, 331, 0, 0), (331, .goto 1511, 334, 1842, 0)]
theorem sL3 : qL3.all (fun e => decide (zat kL_law.2.2.2.2.2 e.1 = some e.2)) = true := by decide +kernel
theorem l_c3 {R : zS → Prop} {L : Nat} {xs : Nat → Int32} (hR : ∀ y, zstep (zCl zTab 12) 12 kL_law (some (L, xs)) zTab 600000 7302250 zLQ y R → R y) (hL : L ≤ 3584) {w : zW} {i : Int} {k n : Nat} (hi : 0 ≤ i ∧ i + 7 ≤ L) (hJ : J w) (hk : k + 100 ≤ 600000) (hn : n + phi w + 300 ≤ 7302250) (hb : ∀ w' k' n', J w' → k' ≤ k + 100 → n' + phi w' ≤ n + phi w + 300 → R (1842, [some (.retAddr 0), some (.ref 0), some (.ref 14), some (.int (Int32.ofInt i))], [], w', k', n')) : R (311, [some (.retAddr 0), some (.ref 0), some (.ref 14), some (.int (Int32.ofInt i))], [], w, k, n) := by
  have hR := @zrsub _ _ _ _ _ _ _ _ _ qL3 sL3 hR
  refine hR (?_ : R (_, _, _, _, _, _))
  refine hR (?_ : R (_, _, _, _, _, _))
  refine hR (?_ : R (_, _, _, _, _, _))
  refine hR (?_ : R (_, _, _, _, _, _))
  refine hR (t_add ?_)
  refine hR (And.intro (zvin (by omega) (by omega) (by omega)) (t_raw ?_))
  obtain ⟨mc, ms, r, w1, r2, w2, run1, run2, ⟨fs0, h0⟩, ⟨fs1, h14⟩, hJ2, hmc, hms, hP⟩ := pr_fault hJ (xs (Int32.ofInt (i + 1)).toNatClampNeg).toInt (zrg _)
  obtain ⟨v, v2, rfl, rfl⟩ := hP
  refine hR (c_obj h0 (zcall_i mc ms (by omega) (by omega) (run1 _ ?_)))
  refine (?_ : R (_, _, .int v :: [], w1, k + mc, n + ms))
  refine hR (?_ : R (_, _, _, _, _, _))
  refine hR (?_ : R (_, _, _, _, _, _))
  refine hR (?_ : R (_, _, _, _, _, _))
  refine hR (?_ : R (_, _, _, _, _, _))
  refine hR (?_ : R (_, _, _, _, _, _))
  refine hR (t_add ?_)
  refine hR (And.intro (zvin (by omega) (by omega) (by omega)) (t_raw ?_))
  refine hR (c_obj h14 (zcall_i 0 0 (by omega) (by omega) (run2 _ ?_)))
  refine (?_ : R (_, _, .int v2 :: [], w2, k + mc, n + ms))
  refine hR (?_ : R (_, _, _, _, _, _))
  refine hR (?_ : R (_, _, _, _, _, _))
  exact hb w2 _ _ hJ2 (by omega) (by omega)
def qL4 : List zE := [(334, .aload_n 1, 335, 0, 0), (335, .aload_n 0, 336, 0, 0), (336, .iload_n 3, 337, 0, 0), (337, .iconst 1, 338, 0, 0), (338, .iadd, 339, 0, 0), (339, .iaload, 340, 0, 0), (340, .aload_n 0, 341, 0, 0), (341, .iload_n 3, 342, 0, 0), (342, .iconst 2, 343, 0, 0), (343, .iadd, 344, 0, 0), (344, .iaload, 345, 0, 0), (345, .invokevirtual 32, 348, 6, 2), (348, .pop, 349, 0, 0), (349, .aload_n 2, 350, 0, 0), (350, .aload_n 0, 351, 0, 0), (351, .iload_n 3, 352, 0, 0), (352, .iconst 1, 353, 0, 0), (353, .iadd, 354, 0, 0), (354, .iaload, 355, 0, 0), (355, .aload_n 0, 356, 0, 0), (356, .iload_n 3, 357, 0, 0), (357, .iconst 2, 358, 0, 0), (358, .iadd, 359, 0, 0), (359, .iaload, 360, 0, 0), (360, .invokevirtual 35, 363, 227, 2), (363, .pop, 364, 0, 0), (364, .goto 1478, 367, 1842, 0)]
theorem sL4 : qL4.all (fun e => decide (zat kL_law.2.2.2.2.2 e.1 = some e.2)) = true := by decide +kernel
theorem l_c4 {R : zS → Prop} {L : Nat} {xs : Nat → Int32} (hR : ∀ y, zstep (zCl zTab 12) 12 kL_law (some (L, xs)) zTab 600000 7302250 zLQ y R → R y) (hL : L ≤ 3584) {w : zW} {i : Int} {k n : Nat} (hi : 0 ≤ i ∧ i + 7 ≤ L) (hJ : J w) (hk : k + 100 ≤ 600000) (hn : n + phi w + 300 ≤ 7302250) (hb : ∀ w' k' n', J w' → k' ≤ k + 100 → n' + phi w' ≤ n + phi w + 300 → R (1842, [some (.retAddr 0), some (.ref 0), some (.ref 14), some (.int (Int32.ofInt i))], [], w', k', n')) : R (334, [some (.retAddr 0), some (.ref 0), some (.ref 14), some (.int (Int32.ofInt i))], [], w, k, n) := by
  have hR := @zrsub _ _ _ _ _ _ _ _ _ qL4 sL4 hR
  refine hR (?_ : R (_, _, _, _, _, _))
  refine hR (?_ : R (_, _, _, _, _, _))
  refine hR (?_ : R (_, _, _, _, _, _))
  refine hR (?_ : R (_, _, _, _, _, _))
  refine hR (t_add ?_)
  refine hR (And.intro (zvin (by omega) (by omega) (by omega)) (t_raw ?_))
  refine hR (?_ : R (_, _, _, _, _, _))
  refine hR (?_ : R (_, _, _, _, _, _))
  refine hR (?_ : R (_, _, _, _, _, _))
  refine hR (t_add ?_)
  refine hR (And.intro (zvin (by omega) (by omega) (by omega)) (t_raw ?_))
  obtain ⟨mc, ms, r, w1, r2, w2, run1, run2, ⟨fs0, h0⟩, ⟨fs1, h14⟩, hJ2, hmc, hms, hP⟩ := pr_book hJ (xs (Int32.ofInt (i + 1)).toNatClampNeg).toInt (xs (Int32.ofInt (i + 2)).toNatClampNeg).toInt (zrg _) (zrg _)
  obtain ⟨v, v2, rfl, rfl⟩ := hP
  refine hR (c_obj h0 (zcall_i mc ms (by omega) (by omega) (run1 _ ?_)))
  refine (?_ : R (_, _, .int v :: [], w1, k + mc, n + ms))
  refine hR (?_ : R (_, _, _, _, _, _))
  refine hR (?_ : R (_, _, _, _, _, _))
  refine hR (?_ : R (_, _, _, _, _, _))
  refine hR (?_ : R (_, _, _, _, _, _))
  refine hR (?_ : R (_, _, _, _, _, _))
  refine hR (t_add ?_)
  refine hR (And.intro (zvin (by omega) (by omega) (by omega)) (t_raw ?_))
  refine hR (?_ : R (_, _, _, _, _, _))
  refine hR (?_ : R (_, _, _, _, _, _))
  refine hR (?_ : R (_, _, _, _, _, _))
  refine hR (t_add ?_)
  refine hR (And.intro (zvin (by omega) (by omega) (by omega)) (t_raw ?_))
  refine hR (c_obj h14 (zcall_i 0 0 (by omega) (by omega) (run2 _ ?_)))
  refine (?_ : R (_, _, .int v2 :: [], w2, k + mc, n + ms))
  refine hR (?_ : R (_, _, _, _, _, _))
  refine hR (?_ : R (_, _, _, _, _, _))
  exact hb w2 _ _ hJ2 (by omega) (by omega)
def qL5 : List zE := [(367, .aload_n 1, 368, 0, 0), (368, .aload_n 0, 369, 0, 0), (369, .iload_n 3, 370, 0, 0), (370, .iconst 1, 371, 0, 0), (371, .iadd, 372, 0, 0), (372, .iaload, 373, 0, 0), (373, .aload_n 0, 374, 0, 0), (374, .iload_n 3, 375, 0, 0), (375, .iconst 2, 376, 0, 0), (376, .iadd, 377, 0, 0), (377, .iaload, 378, 0, 0), (378, .invokevirtual 36, 381, 7, 2), (381, .pop, 382, 0, 0), (382, .aload_n 2, 383, 0, 0), (383, .aload_n 0, 384, 0, 0), (384, .iload_n 3, 385, 0, 0), (385, .iconst 1, 386, 0, 0), (386, .iadd, 387, 0, 0), (387, .iaload, 388, 0, 0), (388, .aload_n 0, 389, 0, 0), (389, .iload_n 3, 390, 0, 0), (390, .iconst 2, 391, 0, 0), (391, .iadd, 392, 0, 0), (392, .iaload, 393, 0, 0), (393, .invokevirtual 39, 396, 228, 2), (396, .pop, 397, 0, 0), (397, .goto 1445, 400, 1842, 0)]
theorem sL5 : qL5.all (fun e => decide (zat kL_law.2.2.2.2.2 e.1 = some e.2)) = true := by decide +kernel
theorem l_c5 {R : zS → Prop} {L : Nat} {xs : Nat → Int32} (hR : ∀ y, zstep (zCl zTab 12) 12 kL_law (some (L, xs)) zTab 600000 7302250 zLQ y R → R y) (hL : L ≤ 3584) {w : zW} {i : Int} {k n : Nat} (hi : 0 ≤ i ∧ i + 7 ≤ L) (hJ : J w) (hk : k + 100 ≤ 600000) (hn : n + phi w + 300 ≤ 7302250) (hb : ∀ w' k' n', J w' → k' ≤ k + 100 → n' + phi w' ≤ n + phi w + 300 → R (1842, [some (.retAddr 0), some (.ref 0), some (.ref 14), some (.int (Int32.ofInt i))], [], w', k', n')) : R (367, [some (.retAddr 0), some (.ref 0), some (.ref 14), some (.int (Int32.ofInt i))], [], w, k, n) := by
  have hR := @zrsub _ _ _ _ _ _ _ _ _ qL5 sL5 hR
  refine hR (?_ : R (_, _, _, _, _, _))
  refine hR (?_ : R (_, _, _, _, _, _))
  refine hR (?_ : R (_, _, _, _, _, _))
  refine hR (?_ : R (_, _, _, _, _, _))
  refine hR (t_add ?_)
  refine hR (And.intro (zvin (by omega) (by omega) (by omega)) (t_raw ?_))
  refine hR (?_ : R (_, _, _, _, _, _))
  refine hR (?_ : R (_, _, _, _, _, _))
  refine hR (?_ : R (_, _, _, _, _, _))
  refine hR (t_add ?_)
  refine hR (And.intro (zvin (by omega) (by omega) (by omega)) (t_raw ?_))
  obtain ⟨mc, ms, r, w1, r2, w2, run1, run2, ⟨fs0, h0⟩, ⟨fs1, h14⟩, hJ2, hmc, hms, hP⟩ := pr_word hJ (xs (Int32.ofInt (i + 1)).toNatClampNeg).toInt (xs (Int32.ofInt (i + 2)).toNatClampNeg).toInt (zrg _) (zrg _)
  obtain ⟨v, rfl, rfl⟩ := hP
  refine hR (c_obj h0 (zcall_i mc ms (by omega) (by omega) (run1 _ ?_)))
  refine (?_ : R (_, _, .int v :: [], w1, k + mc, n + ms))
  refine hR (?_ : R (_, _, _, _, _, _))
  refine hR (?_ : R (_, _, _, _, _, _))
  refine hR (?_ : R (_, _, _, _, _, _))
  refine hR (?_ : R (_, _, _, _, _, _))
  refine hR (?_ : R (_, _, _, _, _, _))
  refine hR (t_add ?_)
  refine hR (And.intro (zvin (by omega) (by omega) (by omega)) (t_raw ?_))
  refine hR (?_ : R (_, _, _, _, _, _))
  refine hR (?_ : R (_, _, _, _, _, _))
  refine hR (?_ : R (_, _, _, _, _, _))
  refine hR (t_add ?_)
  refine hR (And.intro (zvin (by omega) (by omega) (by omega)) (t_raw ?_))
  refine hR (c_obj h14 (zcall_i 0 0 (by omega) (by omega) (run2 _ ?_)))
  refine (?_ : R (_, _, .int v :: [], w2, k + mc, n + ms))
  refine hR (?_ : R (_, _, _, _, _, _))
  refine hR (?_ : R (_, _, _, _, _, _))
  exact hb w2 _ _ hJ2 (by omega) (by omega)
def qL6 : List zE := [(400, .aload_n 1, 401, 0, 0), (401, .aload_n 0, 402, 0, 0), (402, .iload_n 3, 403, 0, 0), (403, .iconst 1, 404, 0, 0), (404, .iadd, 405, 0, 0), (405, .iaload, 406, 0, 0), (406, .aload_n 0, 407, 0, 0), (407, .iload_n 3, 408, 0, 0), (408, .iconst 2, 409, 0, 0), (409, .iadd, 410, 0, 0), (410, .iaload, 411, 0, 0), (411, .invokevirtual 40, 414, 8, 2), (414, .pop, 415, 0, 0), (415, .aload_n 2, 416, 0, 0), (416, .aload_n 0, 417, 0, 0), (417, .iload_n 3, 418, 0, 0), (418, .iconst 1, 419, 0, 0), (419, .iadd, 420, 0, 0), (420, .iaload, 421, 0, 0), (421, .aload_n 0, 422, 0, 0), (422, .iload_n 3, 423, 0, 0), (423, .iconst 2, 424, 0, 0), (424, .iadd, 425, 0, 0), (425, .iaload, 426, 0, 0), (426, .invokevirtual 43, 429, 229, 2), (429, .pop, 430, 0, 0), (430, .goto 1412, 433, 1842, 0)]
theorem sL6 : qL6.all (fun e => decide (zat kL_law.2.2.2.2.2 e.1 = some e.2)) = true := by decide +kernel
theorem l_c6 {R : zS → Prop} {L : Nat} {xs : Nat → Int32} (hR : ∀ y, zstep (zCl zTab 12) 12 kL_law (some (L, xs)) zTab 600000 7302250 zLQ y R → R y) (hL : L ≤ 3584) {w : zW} {i : Int} {k n : Nat} (hi : 0 ≤ i ∧ i + 7 ≤ L) (hJ : J w) (hk : k + 100 ≤ 600000) (hn : n + phi w + 300 ≤ 7302250) (hb : ∀ w' k' n', J w' → k' ≤ k + 100 → n' + phi w' ≤ n + phi w + 300 → R (1842, [some (.retAddr 0), some (.ref 0), some (.ref 14), some (.int (Int32.ofInt i))], [], w', k', n')) : R (400, [some (.retAddr 0), some (.ref 0), some (.ref 14), some (.int (Int32.ofInt i))], [], w, k, n) := by
  have hR := @zrsub _ _ _ _ _ _ _ _ _ qL6 sL6 hR
  refine hR (?_ : R (_, _, _, _, _, _))
  refine hR (?_ : R (_, _, _, _, _, _))
  refine hR (?_ : R (_, _, _, _, _, _))
  refine hR (?_ : R (_, _, _, _, _, _))
  refine hR (t_add ?_)
  refine hR (And.intro (zvin (by omega) (by omega) (by omega)) (t_raw ?_))
  refine hR (?_ : R (_, _, _, _, _, _))
  refine hR (?_ : R (_, _, _, _, _, _))
  refine hR (?_ : R (_, _, _, _, _, _))
  refine hR (t_add ?_)
  refine hR (And.intro (zvin (by omega) (by omega) (by omega)) (t_raw ?_))
  obtain ⟨mc, ms, r, w1, r2, w2, run1, run2, ⟨fs0, h0⟩, ⟨fs1, h14⟩, hJ2, hmc, hms, hP⟩ := pr_drift hJ (xs (Int32.ofInt (i + 1)).toNatClampNeg).toInt (xs (Int32.ofInt (i + 2)).toNatClampNeg).toInt (zrg _) (zrg _)
  obtain ⟨v, rfl, rfl⟩ := hP
  refine hR (c_obj h0 (zcall_i mc ms (by omega) (by omega) (run1 _ ?_)))
  refine (?_ : R (_, _, .int v :: [], w1, k + mc, n + ms))
  refine hR (?_ : R (_, _, _, _, _, _))
  refine hR (?_ : R (_, _, _, _, _, _))
  refine hR (?_ : R (_, _, _, _, _, _))
  refine hR (?_ : R (_, _, _, _, _, _))
  refine hR (?_ : R (_, _, _, _, _, _))
  refine hR (t_add ?_)
  refine hR (And.intro (zvin (by omega) (by omega) (by omega)) (t_raw ?_))
  refine hR (?_ : R (_, _, _, _, _, _))
  refine hR (?_ : R (_, _, _, _, _, _))
  refine hR (?_ : R (_, _, _, _, _, _))
  refine hR (t_add ?_)
  refine hR (And.intro (zvin (by omega) (by omega) (by omega)) (t_raw ?_))
  refine hR (c_obj h14 (zcall_i 0 0 (by omega) (by omega) (run2 _ ?_)))
  refine (?_ : R (_, _, .int v :: [], w2, k + mc, n + ms))
  refine hR (?_ : R (_, _, _, _, _, _))
  refine hR (?_ : R (_, _, _, _, _, _))
  exact hb w2 _ _ hJ2 (by omega) (by omega)
def qL7 : List zE := [(433, .aload_n 1, 434, 0, 0), (434, .aload_n 0, 435, 0, 0), (435, .iload_n 3, 436, 0, 0), (436, .iconst 1, 437, 0, 0), (437, .iadd, 438, 0, 0), (438, .iaload, 439, 0, 0), (439, .aload_n 0, 440, 0, 0), (440, .iload_n 3, 441, 0, 0), (441, .iconst 2, 442, 0, 0), (442, .iadd, 443, 0, 0), (443, .iaload, 444, 0, 0), (444, .aload_n 0, 445, 0, 0), (445, .iload_n 3, 446, 0, 0), (446, .iconst 3, 447, 0, 0), (447, .iadd, 448, 0, 0), (448, .iaload, 449, 0, 0), (449, .invokevirtual 44, 452, 9, 3), (452, .pop, 453, 0, 0), (453, .aload_n 2, 454, 0, 0), (454, .aload_n 0, 455, 0, 0), (455, .iload_n 3, 456, 0, 0), (456, .iconst 1, 457, 0, 0), (457, .iadd, 458, 0, 0), (458, .iaload, 459, 0, 0), (459, .aload_n 0, 460, 0, 0), (460, .iload_n 3, 461, 0, 0), (461, .iconst 2, 462, 0, 0), (462, .iadd, 463, 0, 0), (463, .iaload, 464, 0, 0), (464, .aload_n 0, 465, 0, 0), (465, .iload_n 3, 466, 0, 0), (466, .iconst 3, 467, 0, 0), (467, .iadd, 468, 0, 0), (468, .iaload, 469, 0, 0), (469, .invokevirtual 48, 472, 230, 3), (472, .pop, 473, 0, 0), (473, .goto 1369, 476, 1842, 0)]
theorem sL7 : qL7.all (fun e => decide (zat kL_law.2.2.2.2.2 e.1 = some e.2)) = true := by decide +kernel
theorem l_c7 {R : zS → Prop} {L : Nat} {xs : Nat → Int32} (hR : ∀ y, zstep (zCl zTab 12) 12 kL_law (some (L, xs)) zTab 600000 7302250 zLQ y R → R y) (hL : L ≤ 3584) {w : zW} {i : Int} {k n : Nat} (hi : 0 ≤ i ∧ i + 7 ≤ L) (hJ : J w) (hk : k + 100 ≤ 600000) (hn : n + phi w + 300 ≤ 7302250) (hb : ∀ w' k' n', J w' → k' ≤ k + 100 → n' + phi w' ≤ n + phi w + 300 → R (1842, [some (.retAddr 0), some (.ref 0), some (.ref 14), some (.int (Int32.ofInt i))], [], w', k', n')) : R (433, [some (.retAddr 0), some (.ref 0), some (.ref 14), some (.int (Int32.ofInt i))], [], w, k, n) := by
  have hR := @zrsub _ _ _ _ _ _ _ _ _ qL7 sL7 hR
  refine hR (?_ : R (_, _, _, _, _, _))
  refine hR (?_ : R (_, _, _, _, _, _))
  refine hR (?_ : R (_, _, _, _, _, _))
  refine hR (?_ : R (_, _, _, _, _, _))
  refine hR (t_add ?_)
  refine hR (And.intro (zvin (by omega) (by omega) (by omega)) (t_raw ?_))
  refine hR (?_ : R (_, _, _, _, _, _))
  refine hR (?_ : R (_, _, _, _, _, _))
  refine hR (?_ : R (_, _, _, _, _, _))
  refine hR (t_add ?_)
  refine hR (And.intro (zvin (by omega) (by omega) (by omega)) (t_raw ?_))
  refine hR (?_ : R (_, _, _, _, _, _))
  refine hR (?_ : R (_, _, _, _, _, _))
  refine hR (?_ : R (_, _, _, _, _, _))
  refine hR (t_add ?_)
  refine hR (And.intro (zvin (by omega) (by omega) (by omega)) (t_raw ?_))
  obtain ⟨mc, ms, r, w1, r2, w2, run1, run2, ⟨fs0, h0⟩, ⟨fs1, h14⟩, hJ2, hmc, hms, hP⟩ := pr_read hJ (xs (Int32.ofInt (i + 1)).toNatClampNeg).toInt (xs (Int32.ofInt (i + 2)).toNatClampNeg).toInt (xs (Int32.ofInt (i + 3)).toNatClampNeg).toInt (zrg _) (zrg _) (zrg _)
  obtain ⟨v, v2, rfl, rfl⟩ := hP
  refine hR (c_obj h0 (zcall_i mc ms (by omega) (by omega) (run1 _ ?_)))
  refine (?_ : R (_, _, .int v :: [], w1, k + mc, n + ms))
  refine hR (?_ : R (_, _, _, _, _, _))
  refine hR (?_ : R (_, _, _, _, _, _))
  refine hR (?_ : R (_, _, _, _, _, _))
  refine hR (?_ : R (_, _, _, _, _, _))
  refine hR (?_ : R (_, _, _, _, _, _))
  refine hR (t_add ?_)
  refine hR (And.intro (zvin (by omega) (by omega) (by omega)) (t_raw ?_))
  refine hR (?_ : R (_, _, _, _, _, _))
  refine hR (?_ : R (_, _, _, _, _, _))
  refine hR (?_ : R (_, _, _, _, _, _))
  refine hR (t_add ?_)
  refine hR (And.intro (zvin (by omega) (by omega) (by omega)) (t_raw ?_))
  refine hR (?_ : R (_, _, _, _, _, _))
  refine hR (?_ : R (_, _, _, _, _, _))
  refine hR (?_ : R (_, _, _, _, _, _))
  refine hR (t_add ?_)
  refine hR (And.intro (zvin (by omega) (by omega) (by omega)) (t_raw ?_))
  refine hR (c_obj h14 (zcall_i 0 0 (by omega) (by omega) (run2 _ ?_)))
  refine (?_ : R (_, _, .int v2 :: [], w2, k + mc, n + ms))
  refine hR (?_ : R (_, _, _, _, _, _))
  refine hR (?_ : R (_, _, _, _, _, _))
  exact hb w2 _ _ hJ2 (by omega) (by omega)
def qL8 : List zE := [(476, .aload_n 1, 477, 0, 0), (477, .aload_n 0, 478, 0, 0), (478, .iload_n 3, 479, 0, 0), (479, .iconst 1, 480, 0, 0), (480, .iadd, 481, 0, 0), (481, .iaload, 482, 0, 0), (482, .aload_n 0, 483, 0, 0), (483, .iload_n 3, 484, 0, 0), (484, .iconst 2, 485, 0, 0), (485, .iadd, 486, 0, 0), (486, .iaload, 487, 0, 0), (487, .aload_n 0, 488, 0, 0), (488, .iload_n 3, 489, 0, 0), (489, .iconst 3, 490, 0, 0), (490, .iadd, 491, 0, 0), (491, .iaload, 492, 0, 0), (492, .invokevirtual 49, 495, 10, 3), (495, .pop, 496, 0, 0), (496, .aload_n 2, 497, 0, 0), (497, .aload_n 0, 498, 0, 0), (498, .iload_n 3, 499, 0, 0), (499, .iconst 1, 500, 0, 0), (500, .iadd, 501, 0, 0), (501, .iaload, 502, 0, 0), (502, .aload_n 0, 503, 0, 0), (503, .iload_n 3, 504, 0, 0), (504, .iconst 2, 505, 0, 0), (505, .iadd, 506, 0, 0), (506, .iaload, 507, 0, 0), (507, .aload_n 0, 508, 0, 0), (508, .iload_n 3, 509, 0, 0), (509, .iconst 3, 510, 0, 0), (510, .iadd, 511, 0, 0), (511, .iaload, 512, 0, 0), (512, .invokevirtual 52, 515, 234, 3), (515, .pop, 516, 0, 0), (516, .goto 1326, 519, 1842, 0)]
theorem sL8 : qL8.all (fun e => decide (zat kL_law.2.2.2.2.2 e.1 = some e.2)) = true := by decide +kernel
theorem l_c8 {R : zS → Prop} {L : Nat} {xs : Nat → Int32} (hR : ∀ y, zstep (zCl zTab 12) 12 kL_law (some (L, xs)) zTab 600000 7302250 zLQ y R → R y) (hL : L ≤ 3584) {w : zW} {i : Int} {k n : Nat} (hi : 0 ≤ i ∧ i + 7 ≤ L) (hJ : J w) (hk : k + 100 ≤ 600000) (hn : n + phi w + 300 ≤ 7302250) (hb : ∀ w' k' n', J w' → k' ≤ k + 100 → n' + phi w' ≤ n + phi w + 300 → R (1842, [some (.retAddr 0), some (.ref 0), some (.ref 14), some (.int (Int32.ofInt i))], [], w', k', n')) : R (476, [some (.retAddr 0), some (.ref 0), some (.ref 14), some (.int (Int32.ofInt i))], [], w, k, n) := by
  have hR := @zrsub _ _ _ _ _ _ _ _ _ qL8 sL8 hR
  refine hR (?_ : R (_, _, _, _, _, _))
  refine hR (?_ : R (_, _, _, _, _, _))
  refine hR (?_ : R (_, _, _, _, _, _))
  refine hR (?_ : R (_, _, _, _, _, _))
  refine hR (t_add ?_)
  refine hR (And.intro (zvin (by omega) (by omega) (by omega)) (t_raw ?_))
  refine hR (?_ : R (_, _, _, _, _, _))
  refine hR (?_ : R (_, _, _, _, _, _))
  refine hR (?_ : R (_, _, _, _, _, _))
  refine hR (t_add ?_)
  refine hR (And.intro (zvin (by omega) (by omega) (by omega)) (t_raw ?_))
  refine hR (?_ : R (_, _, _, _, _, _))
  refine hR (?_ : R (_, _, _, _, _, _))
  refine hR (?_ : R (_, _, _, _, _, _))
  refine hR (t_add ?_)
  refine hR (And.intro (zvin (by omega) (by omega) (by omega)) (t_raw ?_))
  obtain ⟨mc, ms, r, w1, r2, w2, run1, run2, ⟨fs0, h0⟩, ⟨fs1, h14⟩, hJ2, hmc, hms, hP⟩ := pr_deed hJ (xs (Int32.ofInt (i + 1)).toNatClampNeg).toInt (xs (Int32.ofInt (i + 2)).toNatClampNeg).toInt (xs (Int32.ofInt (i + 3)).toNatClampNeg).toInt (zrg _) (zrg _) (zrg _)
  obtain ⟨v, v2, rfl, rfl⟩ := hP
  refine hR (c_obj h0 (zcall_i mc ms (by omega) (by omega) (run1 _ ?_)))
  refine (?_ : R (_, _, .int v :: [], w1, k + mc, n + ms))
  refine hR (?_ : R (_, _, _, _, _, _))
  refine hR (?_ : R (_, _, _, _, _, _))
  refine hR (?_ : R (_, _, _, _, _, _))
  refine hR (?_ : R (_, _, _, _, _, _))
  refine hR (?_ : R (_, _, _, _, _, _))
  refine hR (t_add ?_)
  refine hR (And.intro (zvin (by omega) (by omega) (by omega)) (t_raw ?_))
  refine hR (?_ : R (_, _, _, _, _, _))
  refine hR (?_ : R (_, _, _, _, _, _))
  refine hR (?_ : R (_, _, _, _, _, _))
  refine hR (t_add ?_)
  refine hR (And.intro (zvin (by omega) (by omega) (by omega)) (t_raw ?_))
  refine hR (?_ : R (_, _, _, _, _, _))
  refine hR (?_ : R (_, _, _, _, _, _))
  refine hR (?_ : R (_, _, _, _, _, _))
  refine hR (t_add ?_)
  refine hR (And.intro (zvin (by omega) (by omega) (by omega)) (t_raw ?_))
  refine hR (c_obj h14 (zcall_i 0 0 (by omega) (by omega) (run2 _ ?_)))
  refine (?_ : R (_, _, .int v2 :: [], w2, k + mc, n + ms))
  refine hR (?_ : R (_, _, _, _, _, _))
  refine hR (?_ : R (_, _, _, _, _, _))
  exact hb w2 _ _ hJ2 (by omega) (by omega)
def qL9 : List zE := [(519, .aload_n 1, 520, 0, 0), (520, .aload_n 0, 521, 0, 0), (521, .iload_n 3, 522, 0, 0), (522, .iconst 1, 523, 0, 0), (523, .iadd, 524, 0, 0), (524, .iaload, 525, 0, 0), (525, .aload_n 0, 526, 0, 0), (526, .iload_n 3, 527, 0, 0), (527, .iconst 2, 528, 0, 0), (528, .iadd, 529, 0, 0), (529, .iaload, 530, 0, 0), (530, .invokevirtual 53, 533, 11, 2), (533, .pop, 534, 0, 0), (534, .aload_n 2, 535, 0, 0), (535, .aload_n 0, 536, 0, 0), (536, .iload_n 3, 537, 0, 0), (537, .iconst 1, 538, 0, 0), (538, .iadd, 539, 0, 0), (539, .iaload, 540, 0, 0), (540, .aload_n 0, 541, 0, 0), (541, .iload_n 3, 542, 0, 0), (542, .iconst 2, 543, 0, 0), (543, .iadd, 544, 0, 0), (544, .iaload, 545, 0, 0), (545, .invokevirtual 56, 548, 242, 2), (548, .pop, 549, 0, 0), (549, .goto 1293, 552, 1842, 0)]
theorem sL9 : qL9.all (fun e => decide (zat kL_law.2.2.2.2.2 e.1 = some e.2)) = true := by decide +kernel
theorem l_c9 {R : zS → Prop} {L : Nat} {xs : Nat → Int32} (hR : ∀ y, zstep (zCl zTab 12) 12 kL_law (some (L, xs)) zTab 600000 7302250 zLQ y R → R y) (hL : L ≤ 3584) {w : zW} {i : Int} {k n : Nat} (hi : 0 ≤ i ∧ i + 7 ≤ L) (hJ : J w) (hk : k + 100 ≤ 600000) (hn : n + phi w + 300 ≤ 7302250) (hb : ∀ w' k' n', J w' → k' ≤ k + 100 → n' + phi w' ≤ n + phi w + 300 → R (1842, [some (.retAddr 0), some (.ref 0), some (.ref 14), some (.int (Int32.ofInt i))], [], w', k', n')) : R (519, [some (.retAddr 0), some (.ref 0), some (.ref 14), some (.int (Int32.ofInt i))], [], w, k, n) := by
  have hR := @zrsub _ _ _ _ _ _ _ _ _ qL9 sL9 hR
  refine hR (?_ : R (_, _, _, _, _, _))
  refine hR (?_ : R (_, _, _, _, _, _))
  refine hR (?_ : R (_, _, _, _, _, _))
  refine hR (?_ : R (_, _, _, _, _, _))
  refine hR (t_add ?_)
  refine hR (And.intro (zvin (by omega) (by omega) (by omega)) (t_raw ?_))
  refine hR (?_ : R (_, _, _, _, _, _))
  refine hR (?_ : R (_, _, _, _, _, _))
  refine hR (?_ : R (_, _, _, _, _, _))
  refine hR (t_add ?_)
  refine hR (And.intro (zvin (by omega) (by omega) (by omega)) (t_raw ?_))
  obtain ⟨mc, ms, r, w1, r2, w2, run1, run2, ⟨fs0, h0⟩, ⟨fs1, h14⟩, hJ2, hmc, hms, hP⟩ := pr_stop hJ (xs (Int32.ofInt (i + 1)).toNatClampNeg).toInt (xs (Int32.ofInt (i + 2)).toNatClampNeg).toInt (zrg _) (zrg _)
  obtain ⟨v, v2, rfl, rfl⟩ := hP
  refine hR (c_obj h0 (zcall_i mc ms (by omega) (by omega) (run1 _ ?_)))
  refine (?_ : R (_, _, .int v :: [], w1, k + mc, n + ms))
  refine hR (?_ : R (_, _, _, _, _, _))
  refine hR (?_ : R (_, _, _, _, _, _))
  refine hR (?_ : R (_, _, _, _, _, _))
  refine hR (?_ : R (_, _, _, _, _, _))
  refine hR (?_ : R (_, _, _, _, _, _))
  refine hR (t_add ?_)
  refine hR (And.intro (zvin (by omega) (by omega) (by omega)) (t_raw ?_))
  refine hR (?_ : R (_, _, _, _, _, _))
  refine hR (?_ : R (_, _, _, _, _, _))
  refine hR (?_ : R (_, _, _, _, _, _))
  refine hR (t_add ?_)
  refine hR (And.intro (zvin (by omega) (by omega) (by omega)) (t_raw ?_))
  refine hR (c_obj h14 (zcall_i 0 0 (by omega) (by omega) (run2 _ ?_)))
  refine (?_ : R (_, _, .int v2 :: [], w2, k + mc, n + ms))
  refine hR (?_ : R (_, _, _, _, _, _))
  refine hR (?_ : R (_, _, _, _, _, _))
  exact hb w2 _ _ hJ2 (by omega) (by omega)
def qL10 : List zE := [(552, .aload_n 1, 553, 0, 0), (553, .aload_n 0, 554, 0, 0), (554, .iload_n 3, 555, 0, 0), (555, .iconst 1, 556, 0, 0), (556, .iadd, 557, 0, 0), (557, .iaload, 558, 0, 0), (558, .aload_n 0, 559, 0, 0), (559, .iload_n 3, 560, 0, 0), (560, .iconst 2, 561, 0, 0), (561, .iadd, 562, 0, 0), (562, .iaload, 563, 0, 0), (563, .aload_n 0, 564, 0, 0), (564, .iload_n 3, 565, 0, 0), (565, .iconst 3, 566, 0, 0), (566, .iadd, 567, 0, 0), (567, .iaload, 568, 0, 0), (568, .aload_n 0, 569, 0, 0), (569, .iload_n 3, 570, 0, 0), (570, .iconst 4, 571, 0, 0), (571, .iadd, 572, 0, 0), (572, .iaload, 573, 0, 0), (573, .invokevirtual 57, 576, 12, 4), (576, .pop, 577, 0, 0), (577, .aload_n 2, 578, 0, 0), (578, .aload_n 0, 579, 0, 0), (579, .iload_n 3, 580, 0, 0), (580, .iconst 1, 581, 0, 0), (581, .iadd, 582, 0, 0), (582, .iaload, 583, 0, 0), (583, .aload_n 0, 584, 0, 0), (584, .iload_n 3, 585, 0, 0), (585, .iconst 2, 586, 0, 0), (586, .iadd, 587, 0, 0), (587, .iaload, 588, 0, 0), (588, .aload_n 0, 589, 0, 0), (589, .iload_n 3, 590, 0, 0), (590, .iconst 3, 591, 0, 0), (591, .iadd, 592, 0, 0), (592, .iaload, 593, 0, 0), (593, .aload_n 0, 594, 0, 0), (594, .iload_n 3, 595, 0, 0), (595, .iconst 4, 596, 0, 0), (596, .iadd, 597, 0, 0), (597, .iaload, 598, 0, 0), (598, .invokevirtual 61, 601, 244, 4), (601, .pop, 602, 0, 0), (602, .goto 1240, 605, 1842, 0)]
theorem sL10 : qL10.all (fun e => decide (zat kL_law.2.2.2.2.2 e.1 = some e.2)) = true := by decide +kernel
theorem l_c10 {R : zS → Prop} {L : Nat} {xs : Nat → Int32} (hR : ∀ y, zstep (zCl zTab 12) 12 kL_law (some (L, xs)) zTab 600000 7302250 zLQ y R → R y) (hL : L ≤ 3584) {w : zW} {i : Int} {k n : Nat} (hi : 0 ≤ i ∧ i + 7 ≤ L) (hJ : J w) (hk : k + 100 ≤ 600000) (hn : n + phi w + 300 ≤ 7302250) (hb : ∀ w' k' n', J w' → k' ≤ k + 100 → n' + phi w' ≤ n + phi w + 300 → R (1842, [some (.retAddr 0), some (.ref 0), some (.ref 14), some (.int (Int32.ofInt i))], [], w', k', n')) : R (552, [some (.retAddr 0), some (.ref 0), some (.ref 14), some (.int (Int32.ofInt i))], [], w, k, n) := by
  have hR := @zrsub _ _ _ _ _ _ _ _ _ qL10 sL10 hR
  refine hR (?_ : R (_, _, _, _, _, _))
  refine hR (?_ : R (_, _, _, _, _, _))
  refine hR (?_ : R (_, _, _, _, _, _))
  refine hR (?_ : R (_, _, _, _, _, _))
  refine hR (t_add ?_)
  refine hR (And.intro (zvin (by omega) (by omega) (by omega)) (t_raw ?_))
  refine hR (?_ : R (_, _, _, _, _, _))
  refine hR (?_ : R (_, _, _, _, _, _))
  refine hR (?_ : R (_, _, _, _, _, _))
  refine hR (t_add ?_)
  refine hR (And.intro (zvin (by omega) (by omega) (by omega)) (t_raw ?_))
  refine hR (?_ : R (_, _, _, _, _, _))
  refine hR (?_ : R (_, _, _, _, _, _))
  refine hR (?_ : R (_, _, _, _, _, _))
  refine hR (t_add ?_)
  refine hR (And.intro (zvin (by omega) (by omega) (by omega)) (t_raw ?_))
  refine hR (?_ : R (_, _, _, _, _, _))
  refine hR (?_ : R (_, _, _, _, _, _))
  refine hR (?_ : R (_, _, _, _, _, _))
  refine hR (t_add ?_)
  refine hR (And.intro (zvin (by omega) (by omega) (by omega)) (t_raw ?_))
  obtain ⟨mc, ms, r, w1, r2, w2, run1, run2, ⟨fs0, h0⟩, ⟨fs1, h14⟩, hJ2, hmc, hms, hP⟩ := pr_state hJ (xs (Int32.ofInt (i + 1)).toNatClampNeg).toInt (xs (Int32.ofInt (i + 2)).toNatClampNeg).toInt (xs (Int32.ofInt (i + 3)).toNatClampNeg).toInt (xs (Int32.ofInt (i + 4)).toNatClampNeg).toInt (zrg _) (zrg _) (zrg _) (zrg _)
  obtain ⟨v, v2, rfl, rfl⟩ := hP
  refine hR (c_obj h0 (zcall_i mc ms (by omega) (by omega) (run1 _ ?_)))
  refine (?_ : R (_, _, .int v :: [], w1, k + mc, n + ms))
  refine hR (?_ : R (_, _, _, _, _, _))
  refine hR (?_ : R (_, _, _, _, _, _))
  refine hR (?_ : R (_, _, _, _, _, _))
  refine hR (?_ : R (_, _, _, _, _, _))
  refine hR (?_ : R (_, _, _, _, _, _))
  refine hR (t_add ?_)
  refine hR (And.intro (zvin (by omega) (by omega) (by omega)) (t_raw ?_))
  refine hR (?_ : R (_, _, _, _, _, _))
  refine hR (?_ : R (_, _, _, _, _, _))
  refine hR (?_ : R (_, _, _, _, _, _))
  refine hR (t_add ?_)
  refine hR (And.intro (zvin (by omega) (by omega) (by omega)) (t_raw ?_))
  refine hR (?_ : R (_, _, _, _, _, _))
  refine hR (?_ : R (_, _, _, _, _, _))
  refine hR (?_ : R (_, _, _, _, _, _))
  refine hR (t_add ?_)
  refine hR (And.intro (zvin (by omega) (by omega) (by omega)) (t_raw ?_))
  refine hR (?_ : R (_, _, _, _, _, _))
  refine hR (?_ : R (_, _, _, _, _, _))
  refine hR (?_ : R (_, _, _, _, _, _))
  refine hR (t_add ?_)
  refine hR (And.intro (zvin (by omega) (by omega) (by omega)) (t_raw ?_))
  refine hR (c_obj h14 (zcall_i 0 0 (by omega) (by omega) (run2 _ ?_)))
  refine (?_ : R (_, _, .int v2 :: [], w2, k + mc, n + ms))
  refine hR (?_ : R (_, _, _, _, _, _))
  refine hR (?_ : R (_, _, _, _, _, _))
  exact hb w2 _ _ hJ2 (by omega) (by omega)
def qL11 : List zE := [(605, .aload_n 1, 606, 0, 0), (606, .aload_n 0, 607, 0, 0), (607, .iload_n 3, 608, 0, 0), (608, .iconst 1, 609, 0, 0), (609, .iadd, 610, 0, 0), (610, .iaload, 611, 0, 0), (611, .aload_n 0, 612, 0, 0), (612, .iload_n 3, 613, 0, 0), (613, .iconst 2, 614, 0, 0), (614, .iadd, 615, 0, 0), (615, .iaload, 616, 0, 0), (616, .aload_n 0, 617, 0, 0), (617, .iload_n 3, 618, 0, 0), (618, .iconst 3, 619, 0, 0), (619, .iadd, 620, 0, 0), (620, .iaload, 621, 0, 0), (621, .aload_n 0, 622, 0, 0), (622, .iload_n 3, 623, 0, 0), (623, .iconst 4, 624, 0, 0), (624, .iadd, 625, 0, 0), (625, .iaload, 626, 0, 0), (626, .invokevirtual 62, 629, 13, 4), (629, .pop, 630, 0, 0), (630, .aload_n 2, 631, 0, 0), (631, .aload_n 0, 632, 0, 0), (632, .iload_n 3, 633, 0, 0), (633, .iconst 1, 634, 0, 0), (634, .iadd, 635, 0, 0), (635, .iaload, 636, 0, 0), (636, .aload_n 0, 637, 0, 0), (637, .iload_n 3, 638, 0, 0), (638, .iconst 2, 639, 0, 0), (639, .iadd, 640, 0, 0), (640, .iaload, 641, 0, 0), (641, .aload_n 0, 642, 0, 0), (642, .iload_n 3, 643, 0, 0), (643, .iconst 3, 644, 0, 0), (644, .iadd, 645, 0, 0), (645, .iaload, 646, 0, 0), (646, .aload_n 0, 647, 0, 0), (647, .iload_n 3, 648, 0, 0), (648, .iconst 4, 649, 0, 0), (649, .iadd, 650, 0, 0), (650, .iaload, 651, 0, 0), (651, .invokevirtual 65, 654, 249, 4), (654, .pop, 655, 0, 0), (655, .goto 1187, 658, 1842, 0)]
theorem sL11 : qL11.all (fun e => decide (zat kL_law.2.2.2.2.2 e.1 = some e.2)) = true := by decide +kernel
theorem l_c11 {R : zS → Prop} {L : Nat} {xs : Nat → Int32} (hR : ∀ y, zstep (zCl zTab 12) 12 kL_law (some (L, xs)) zTab 600000 7302250 zLQ y R → R y) (hL : L ≤ 3584) {w : zW} {i : Int} {k n : Nat} (hi : 0 ≤ i ∧ i + 7 ≤ L) (hJ : J w) (hk : k + 100 ≤ 600000) (hn : n + phi w + 300 ≤ 7302250) (hb : ∀ w' k' n', J w' → k' ≤ k + 100 → n' + phi w' ≤ n + phi w + 300 → R (1842, [some (.retAddr 0), some (.ref 0), some (.ref 14), some (.int (Int32.ofInt i))], [], w', k', n')) : R (605, [some (.retAddr 0), some (.ref 0), some (.ref 14), some (.int (Int32.ofInt i))], [], w, k, n) := by
  have hR := @zrsub _ _ _ _ _ _ _ _ _ qL11 sL11 hR
  refine hR (?_ : R (_, _, _, _, _, _))
  refine hR (?_ : R (_, _, _, _, _, _))
  refine hR (?_ : R (_, _, _, _, _, _))
  refine hR (?_ : R (_, _, _, _, _, _))
  refine hR (t_add ?_)
  refine hR (And.intro (zvin (by omega) (by omega) (by omega)) (t_raw ?_))
  refine hR (?_ : R (_, _, _, _, _, _))
  refine hR (?_ : R (_, _, _, _, _, _))
  refine hR (?_ : R (_, _, _, _, _, _))
  refine hR (t_add ?_)
  refine hR (And.intro (zvin (by omega) (by omega) (by omega)) (t_raw ?_))
  refine hR (?_ : R (_, _, _, _, _, _))
  refine hR (?_ : R (_, _, _, _, _, _))
  refine hR (?_ : R (_, _, _, _, _, _))
  refine hR (t_add ?_)
  refine hR (And.intro (zvin (by omega) (by omega) (by omega)) (t_raw ?_))
  refine hR (?_ : R (_, _, _, _, _, _))
  refine hR (?_ : R (_, _, _, _, _, _))
  refine hR (?_ : R (_, _, _, _, _, _))
  refine hR (t_add ?_)
  refine hR (And.intro (zvin (by omega) (by omega) (by omega)) (t_raw ?_))
  obtain ⟨mc, ms, r, w1, r2, w2, run1, run2, ⟨fs0, h0⟩, ⟨fs1, h14⟩, hJ2, hmc, hms, hP⟩ := pr_making hJ (xs (Int32.ofInt (i + 1)).toNatClampNeg).toInt (xs (Int32.ofInt (i + 2)).toNatClampNeg).toInt (xs (Int32.ofInt (i + 3)).toNatClampNeg).toInt (xs (Int32.ofInt (i + 4)).toNatClampNeg).toInt (zrg _) (zrg _) (zrg _) (zrg _)
  obtain ⟨v, v2, rfl, rfl⟩ := hP
  refine hR (c_obj h0 (zcall_i mc ms (by omega) (by omega) (run1 _ ?_)))
  refine (?_ : R (_, _, .int v :: [], w1, k + mc, n + ms))
  refine hR (?_ : R (_, _, _, _, _, _))
  refine hR (?_ : R (_, _, _, _, _, _))
  refine hR (?_ : R (_, _, _, _, _, _))
  refine hR (?_ : R (_, _, _, _, _, _))
  refine hR (?_ : R (_, _, _, _, _, _))
  refine hR (t_add ?_)
  refine hR (And.intro (zvin (by omega) (by omega) (by omega)) (t_raw ?_))
  refine hR (?_ : R (_, _, _, _, _, _))
  refine hR (?_ : R (_, _, _, _, _, _))
  refine hR (?_ : R (_, _, _, _, _, _))
  refine hR (t_add ?_)
  refine hR (And.intro (zvin (by omega) (by omega) (by omega)) (t_raw ?_))
  refine hR (?_ : R (_, _, _, _, _, _))
  refine hR (?_ : R (_, _, _, _, _, _))
  refine hR (?_ : R (_, _, _, _, _, _))
  refine hR (t_add ?_)
  refine hR (And.intro (zvin (by omega) (by omega) (by omega)) (t_raw ?_))
  refine hR (?_ : R (_, _, _, _, _, _))
  refine hR (?_ : R (_, _, _, _, _, _))
  refine hR (?_ : R (_, _, _, _, _, _))
  refine hR (t_add ?_)
  refine hR (And.intro (zvin (by omega) (by omega) (by omega)) (t_raw ?_))
  refine hR (c_obj h14 (zcall_i 0 0 (by omega) (by omega) (run2 _ ?_)))
  refine (?_ : R (_, _, .int v2 :: [], w2, k + mc, n + ms))
  refine hR (?_ : R (_, _, _, _, _, _))
  refine hR (?_ : R (_, _, _, _, _, _))
  exact hb w2 _ _ hJ2 (by omega) (by omega)
def qL12 : List zE := [(658, .aload_n 1, 659, 0, 0), (659, .aload_n 0, 660, 0, 0), (660, .iload_n 3, 661, 0, 0), (661, .iconst 1, 662, 0, 0), (662, .iadd, 663, 0, 0), (663, .iaload, 664, 0, 0), (664, .aload_n 0, 665, 0, 0), (665, .iload_n 3, 666, 0, 0), (666, .iconst 2, 667, 0, 0), (667, .iadd, 668, 0, 0), (668, .iaload, 669, 0, 0), (669, .invokevirtual 66, 672, 14, 2), (672, .pop, 673, 0, 0), (673, .aload_n 2, 674, 0, 0), (674, .aload_n 0, 675, 0, 0), (675, .iload_n 3, 676, 0, 0), (676, .iconst 1, 677, 0, 0), (677, .iadd, 678, 0, 0), (678, .iaload, 679, 0, 0), (679, .aload_n 0, 680, 0, 0), (680, .iload_n 3, 681, 0, 0), (681, .iconst 2, 682, 0, 0), (682, .iadd, 683, 0, 0), (683, .iaload, 684, 0, 0), (684, .invokevirtual 69, 687, 250, 2), (687, .pop, 688, 0, 0), (688, .goto 1154, 691, 1842, 0)]
theorem sL12 : qL12.all (fun e => decide (zat kL_law.2.2.2.2.2 e.1 = some e.2)) = true := by decide +kernel
theorem l_c12 {R : zS → Prop} {L : Nat} {xs : Nat → Int32} (hR : ∀ y, zstep (zCl zTab 12) 12 kL_law (some (L, xs)) zTab 600000 7302250 zLQ y R → R y) (hL : L ≤ 3584) {w : zW} {i : Int} {k n : Nat} (hi : 0 ≤ i ∧ i + 7 ≤ L) (hJ : J w) (hk : k + 100 ≤ 600000) (hn : n + phi w + 300 ≤ 7302250) (hb : ∀ w' k' n', J w' → k' ≤ k + 100 → n' + phi w' ≤ n + phi w + 300 → R (1842, [some (.retAddr 0), some (.ref 0), some (.ref 14), some (.int (Int32.ofInt i))], [], w', k', n')) : R (658, [some (.retAddr 0), some (.ref 0), some (.ref 14), some (.int (Int32.ofInt i))], [], w, k, n) := by
  have hR := @zrsub _ _ _ _ _ _ _ _ _ qL12 sL12 hR
  refine hR (?_ : R (_, _, _, _, _, _))
  refine hR (?_ : R (_, _, _, _, _, _))
  refine hR (?_ : R (_, _, _, _, _, _))
  refine hR (?_ : R (_, _, _, _, _, _))
  refine hR (t_add ?_)
  refine hR (And.intro (zvin (by omega) (by omega) (by omega)) (t_raw ?_))
  refine hR (?_ : R (_, _, _, _, _, _))
  refine hR (?_ : R (_, _, _, _, _, _))
  refine hR (?_ : R (_, _, _, _, _, _))
  refine hR (t_add ?_)
  refine hR (And.intro (zvin (by omega) (by omega) (by omega)) (t_raw ?_))
  obtain ⟨mc, ms, r, w1, r2, w2, run1, run2, ⟨fs0, h0⟩, ⟨fs1, h14⟩, hJ2, hmc, hms, hP⟩ := pr_ring hJ (xs (Int32.ofInt (i + 1)).toNatClampNeg).toInt (xs (Int32.ofInt (i + 2)).toNatClampNeg).toInt (zrg _) (zrg _)
  obtain ⟨v, v2, rfl, rfl⟩ := hP
  refine hR (c_obj h0 (zcall_i mc ms (by omega) (by omega) (run1 _ ?_)))
  refine (?_ : R (_, _, .int v :: [], w1, k + mc, n + ms))
  refine hR (?_ : R (_, _, _, _, _, _))
  refine hR (?_ : R (_, _, _, _, _, _))
  refine hR (?_ : R (_, _, _, _, _, _))
  refine hR (?_ : R (_, _, _, _, _, _))
  refine hR (?_ : R (_, _, _, _, _, _))
  refine hR (t_add ?_)
  refine hR (And.intro (zvin (by omega) (by omega) (by omega)) (t_raw ?_))
  refine hR (?_ : R (_, _, _, _, _, _))
  refine hR (?_ : R (_, _, _, _, _, _))
  refine hR (?_ : R (_, _, _, _, _, _))
  refine hR (t_add ?_)
  refine hR (And.intro (zvin (by omega) (by omega) (by omega)) (t_raw ?_))
  refine hR (c_obj h14 (zcall_i 0 0 (by omega) (by omega) (run2 _ ?_)))
  refine (?_ : R (_, _, .int v2 :: [], w2, k + mc, n + ms))
  refine hR (?_ : R (_, _, _, _, _, _))
  refine hR (?_ : R (_, _, _, _, _, _))
  exact hb w2 _ _ hJ2 (by omega) (by omega)
def qL13 : List zE := [(691, .aload_n 1, 692, 0, 0), (692, .aload_n 0, 693, 0, 0), (693, .iload_n 3, 694, 0, 0), (694, .iconst 1, 695, 0, 0), (695, .iadd, 696, 0, 0), (696, .iaload, 697, 0, 0), (697, .aload_n 0, 698, 0, 0), (698, .iload_n 3, 699, 0, 0), (699, .iconst 2, 700, 0, 0), (700, .iadd, 701, 0, 0), (701, .iaload, 702, 0, 0), (702, .aload_n 0, 703, 0, 0), (703, .iload_n 3, 704, 0, 0), (704, .iconst 3, 705, 0, 0), (705, .iadd, 706, 0, 0), (706, .iaload, 707, 0, 0), (707, .ifCond .eq 7, 710, 714, 0), (710, .iconst 1, 711, 0, 0), (711, .goto 4, 714, 715, 0), (714, .iconst 0, 715, 0, 0), (715, .invokevirtual 70, 718, 15, 3), (718, .pop, 719, 0, 0), (719, .aload_n 2, 720, 0, 0), (720, .aload_n 0, 721, 0, 0), (721, .iload_n 3, 722, 0, 0), (722, .iconst 1, 723, 0, 0), (723, .iadd, 724, 0, 0), (724, .iaload, 725, 0, 0), (725, .aload_n 0, 726, 0, 0), (726, .iload_n 3, 727, 0, 0), (727, .iconst 2, 728, 0, 0), (728, .iadd, 729, 0, 0), (729, .iaload, 730, 0, 0), (730, .aload_n 0, 731, 0, 0), (731, .iload_n 3, 732, 0, 0), (732, .iconst 3, 733, 0, 0), (733, .iadd, 734, 0, 0), (734, .iaload, 735, 0, 0), (735, .ifCond .eq 7, 738, 742, 0), (738, .iconst 1, 739, 0, 0), (739, .goto 4, 742, 743, 0), (742, .iconst 0, 743, 0, 0), (743, .invokevirtual 74, 746, 251, 3), (746, .pop, 747, 0, 0), (747, .goto 1095, 750, 1842, 0)]
theorem sL13 : qL13.all (fun e => decide (zat kL_law.2.2.2.2.2 e.1 = some e.2)) = true := by decide +kernel
theorem l_c13 {R : zS → Prop} {L : Nat} {xs : Nat → Int32} (hR : ∀ y, zstep (zCl zTab 12) 12 kL_law (some (L, xs)) zTab 600000 7302250 zLQ y R → R y) (hL : L ≤ 3584) {w : zW} {i : Int} {k n : Nat} (hi : 0 ≤ i ∧ i + 7 ≤ L) (hJ : J w) (hk : k + 100 ≤ 600000) (hn : n + phi w + 300 ≤ 7302250) (hb : ∀ w' k' n', J w' → k' ≤ k + 100 → n' + phi w' ≤ n + phi w + 300 → R (1842, [some (.retAddr 0), some (.ref 0), some (.ref 14), some (.int (Int32.ofInt i))], [], w', k', n')) : R (691, [some (.retAddr 0), some (.ref 0), some (.ref 14), some (.int (Int32.ofInt i))], [], w, k, n) := by
  have hR := @zrsub _ _ _ _ _ _ _ _ _ qL13 sL13 hR
  refine hR (?_ : R (_, _, _, _, _, _))
  refine hR (?_ : R (_, _, _, _, _, _))
  refine hR (?_ : R (_, _, _, _, _, _))
  refine hR (?_ : R (_, _, _, _, _, _))
  refine hR (t_add ?_)
  refine hR (And.intro (zvin (by omega) (by omega) (by omega)) (t_raw ?_))
  refine hR (?_ : R (_, _, _, _, _, _))
  refine hR (?_ : R (_, _, _, _, _, _))
  refine hR (?_ : R (_, _, _, _, _, _))
  refine hR (t_add ?_)
  refine hR (And.intro (zvin (by omega) (by omega) (by omega)) (t_raw ?_))
  refine hR (?_ : R (_, _, _, _, _, _))
  refine hR (?_ : R (_, _, _, _, _, _))
  refine hR (?_ : R (_, _, _, _, _, _))
  refine hR (t_add ?_)
  refine hR (And.intro (zvin (by omega) (by omega) (by omega)) (t_raw ?_))
  refine hR (k_eq (zrg _) (fun hz3 => ?_) (fun hz3 => ?_))
  · skip
    refine hR (?_ : R (_, _, _, _, _, _))
    obtain ⟨mc, ms, r, w1, r2, w2, run1, run2, ⟨fs0, h0⟩, ⟨fs1, h14⟩, hJ2, hmc, hms, hP⟩ := pr_reach hJ (xs (Int32.ofInt (i + 1)).toNatClampNeg).toInt (xs (Int32.ofInt (i + 2)).toNatClampNeg).toInt 0 (zrg _) (zrg _) (by omega)
    obtain ⟨v, v2, rfl, rfl⟩ := hP
    refine hR (c_obj h0 (zcall_i mc ms (by omega) (by omega) (run1 _ ?_)))
    refine (?_ : R (_, _, .int v :: [], w1, k + mc, n + ms))
    refine hR (?_ : R (_, _, _, _, _, _))
    refine hR (?_ : R (_, _, _, _, _, _))
    refine hR (?_ : R (_, _, _, _, _, _))
    refine hR (?_ : R (_, _, _, _, _, _))
    refine hR (?_ : R (_, _, _, _, _, _))
    refine hR (t_add ?_)
    refine hR (And.intro (zvin (by omega) (by omega) (by omega)) (t_raw ?_))
    refine hR (?_ : R (_, _, _, _, _, _))
    refine hR (?_ : R (_, _, _, _, _, _))
    refine hR (?_ : R (_, _, _, _, _, _))
    refine hR (t_add ?_)
    refine hR (And.intro (zvin (by omega) (by omega) (by omega)) (t_raw ?_))
    refine hR (?_ : R (_, _, _, _, _, _))
    refine hR (?_ : R (_, _, _, _, _, _))
    refine hR (?_ : R (_, _, _, _, _, _))
    refine hR (t_add ?_)
    refine hR (And.intro (zvin (by omega) (by omega) (by omega)) (t_raw ?_))
    refine hR (k_eq (zrg _) (fun _ => ?_) (fun hc => absurd hz3 hc))
    refine hR (?_ : R (_, _, _, _, _, _))
    refine hR (c_obj h14 (zcall_i 0 0 (by omega) (by omega) (run2 _ ?_)))
    refine (?_ : R (_, _, .int v2 :: [], w2, k + mc, n + ms))
    refine hR (?_ : R (_, _, _, _, _, _))
    refine hR (?_ : R (_, _, _, _, _, _))
    exact hb w2 _ _ hJ2 (by omega) (by omega)
  · skip
    refine hR (?_ : R (_, _, _, _, _, _))
    refine hR (?_ : R (_, _, _, _, _, _))
    obtain ⟨mc, ms, r, w1, r2, w2, run1, run2, ⟨fs0, h0⟩, ⟨fs1, h14⟩, hJ2, hmc, hms, hP⟩ := pr_reach hJ (xs (Int32.ofInt (i + 1)).toNatClampNeg).toInt (xs (Int32.ofInt (i + 2)).toNatClampNeg).toInt 1 (zrg _) (zrg _) (by omega)
    obtain ⟨v, v2, rfl, rfl⟩ := hP
    refine hR (c_obj h0 (zcall_i mc ms (by omega) (by omega) (run1 _ ?_)))
    refine (?_ : R (_, _, .int v :: [], w1, k + mc, n + ms))
    refine hR (?_ : R (_, _, _, _, _, _))
    refine hR (?_ : R (_, _, _, _, _, _))
    refine hR (?_ : R (_, _, _, _, _, _))
    refine hR (?_ : R (_, _, _, _, _, _))
    refine hR (?_ : R (_, _, _, _, _, _))
    refine hR (t_add ?_)
    refine hR (And.intro (zvin (by omega) (by omega) (by omega)) (t_raw ?_))
    refine hR (?_ : R (_, _, _, _, _, _))
    refine hR (?_ : R (_, _, _, _, _, _))
    refine hR (?_ : R (_, _, _, _, _, _))
    refine hR (t_add ?_)
    refine hR (And.intro (zvin (by omega) (by omega) (by omega)) (t_raw ?_))
    refine hR (?_ : R (_, _, _, _, _, _))
    refine hR (?_ : R (_, _, _, _, _, _))
    refine hR (?_ : R (_, _, _, _, _, _))
    refine hR (t_add ?_)
    refine hR (And.intro (zvin (by omega) (by omega) (by omega)) (t_raw ?_))
    refine hR (k_eq (zrg _) (fun hc => absurd hc hz3) (fun _ => ?_))
    refine hR (?_ : R (_, _, _, _, _, _))
    refine hR (?_ : R (_, _, _, _, _, _))
    refine hR (c_obj h14 (zcall_i 0 0 (by omega) (by omega) (run2 _ ?_)))
    refine (?_ : R (_, _, .int v2 :: [], w2, k + mc, n + ms))
    refine hR (?_ : R (_, _, _, _, _, _))
    refine hR (?_ : R (_, _, _, _, _, _))
    exact hb w2 _ _ hJ2 (by omega) (by omega)
def qL14 : List zE := [(750, .aload_n 1, 751, 0, 0), (751, .aload_n 0, 752, 0, 0), (752, .iload_n 3, 753, 0, 0), (753, .iconst 1, 754, 0, 0), (754, .iadd, 755, 0, 0), (755, .iaload, 756, 0, 0), (756, .aload_n 0, 757, 0, 0), (757, .iload_n 3, 758, 0, 0), (758, .iconst 2, 759, 0, 0), (759, .iadd, 760, 0, 0), (760, .iaload, 761, 0, 0), (761, .invokevirtual 75, 764, 16, 2), (764, .pop, 765, 0, 0), (765, .aload_n 2, 766, 0, 0), (766, .aload_n 0, 767, 0, 0), (767, .iload_n 3, 768, 0, 0), (768, .iconst 1, 769, 0, 0), (769, .iadd, 770, 0, 0), (770, .iaload, 771, 0, 0), (771, .aload_n 0, 772, 0, 0), (772, .iload_n 3, 773, 0, 0), (773, .iconst 2, 774, 0, 0), (774, .iadd, 775, 0, 0), (775, .iaload, 776, 0, 0), (776, .invokevirtual 78, 779, 253, 2), (779, .pop, 780, 0, 0), (780, .goto 1062, 783, 1842, 0)]
theorem sL14 : qL14.all (fun e => decide (zat kL_law.2.2.2.2.2 e.1 = some e.2)) = true := by decide +kernel
theorem l_c14 {R : zS → Prop} {L : Nat} {xs : Nat → Int32} (hR : ∀ y, zstep (zCl zTab 12) 12 kL_law (some (L, xs)) zTab 600000 7302250 zLQ y R → R y) (hL : L ≤ 3584) {w : zW} {i : Int} {k n : Nat} (hi : 0 ≤ i ∧ i + 7 ≤ L) (hJ : J w) (hk : k + 100 ≤ 600000) (hn : n + phi w + 300 ≤ 7302250) (hb : ∀ w' k' n', J w' → k' ≤ k + 100 → n' + phi w' ≤ n + phi w + 300 → R (1842, [some (.retAddr 0), some (.ref 0), some (.ref 14), some (.int (Int32.ofInt i))], [], w', k', n')) : R (750, [some (.retAddr 0), some (.ref 0), some (.ref 14), some (.int (Int32.ofInt i))], [], w, k, n) := by
  have hR := @zrsub _ _ _ _ _ _ _ _ _ qL14 sL14 hR
  refine hR (?_ : R (_, _, _, _, _, _))
  refine hR (?_ : R (_, _, _, _, _, _))
  refine hR (?_ : R (_, _, _, _, _, _))
  refine hR (?_ : R (_, _, _, _, _, _))
  refine hR (t_add ?_)
  refine hR (And.intro (zvin (by omega) (by omega) (by omega)) (t_raw ?_))
  refine hR (?_ : R (_, _, _, _, _, _))
  refine hR (?_ : R (_, _, _, _, _, _))
  refine hR (?_ : R (_, _, _, _, _, _))
  refine hR (t_add ?_)
  refine hR (And.intro (zvin (by omega) (by omega) (by omega)) (t_raw ?_))
  obtain ⟨mc, ms, r, w1, r2, w2, run1, run2, ⟨fs0, h0⟩, ⟨fs1, h14⟩, hJ2, hmc, hms, hP⟩ := pr_sound hJ (xs (Int32.ofInt (i + 1)).toNatClampNeg).toInt (xs (Int32.ofInt (i + 2)).toNatClampNeg).toInt (zrg _) (zrg _)
  obtain ⟨v, v2, rfl, rfl⟩ := hP
  refine hR (c_obj h0 (zcall_i mc ms (by omega) (by omega) (run1 _ ?_)))
  refine (?_ : R (_, _, .int v :: [], w1, k + mc, n + ms))
  refine hR (?_ : R (_, _, _, _, _, _))
  refine hR (?_ : R (_, _, _, _, _, _))
  refine hR (?_ : R (_, _, _, _, _, _))
  refine hR (?_ : R (_, _, _, _, _, _))
  refine hR (?_ : R (_, _, _, _, _, _))
  refine hR (t_add ?_)
  refine hR (And.intro (zvin (by omega) (by omega) (by omega)) (t_raw ?_))
  refine hR (?_ : R (_, _, _, _, _, _))
  refine hR (?_ : R (_, _, _, _, _, _))
  refine hR (?_ : R (_, _, _, _, _, _))
  refine hR (t_add ?_)
  refine hR (And.intro (zvin (by omega) (by omega) (by omega)) (t_raw ?_))
  refine hR (c_obj h14 (zcall_i 0 0 (by omega) (by omega) (run2 _ ?_)))
  refine (?_ : R (_, _, .int v2 :: [], w2, k + mc, n + ms))
  refine hR (?_ : R (_, _, _, _, _, _))
  refine hR (?_ : R (_, _, _, _, _, _))
  exact hb w2 _ _ hJ2 (by omega) (by omega)
def qL15 : List zE := [(783, .aload_n 1, 784, 0, 0), (784, .aload_n 0, 785, 0, 0), (785, .iload_n 3, 786, 0, 0), (786, .iconst 1, 787, 0, 0), (787, .iadd, 788, 0, 0), (788, .iaload, 789, 0, 0), (789, .aload_n 0, 790, 0, 0), (790, .iload_n 3, 791, 0, 0), (791, .iconst 2, 792, 0, 0), (792, .iadd, 793, 0, 0), (793, .iaload, 794, 0, 0), (794, .aload_n 0, 795, 0, 0), (795, .iload_n 3, 796, 0, 0), (796, .iconst 3, 797, 0, 0), (797, .iadd, 798, 0, 0), (798, .iaload, 799, 0, 0), (799, .invokevirtual 79, 802, 17, 3), (802, .pop, 803, 0, 0), (803, .aload_n 2, 804, 0, 0), (804, .aload_n 0, 805, 0, 0), (805, .iload_n 3, 806, 0, 0), (806, .iconst 1, 807, 0, 0), (807, .iadd, 808, 0, 0), (808, .iaload, 809, 0, 0), (809, .aload_n 0, 810, 0, 0), (810, .iload_n 3, 811, 0, 0), (811, .iconst 2, 812, 0, 0), (812, .iadd, 813, 0, 0), (813, .iaload, 814, 0, 0), (814, .aload_n 0, 815, 0, 0), (815, .iload_n 3, 816, 0, 0), (816, .iconst 3, 817, 0, 0), (817, .iadd, 818, 0, 0), (818, .iaload, 819, 0, 0), (819, .invokevirtual 82, 822, 254, 3), (822, .pop, 823, 0, 0), (823, .goto 1019, 826, 1842, 0)]
theorem sL15 : qL15.all (fun e => decide (zat kL_law.2.2.2.2.2 e.1 = some e.2)) = true := by decide +kernel
theorem l_c15 {R : zS → Prop} {L : Nat} {xs : Nat → Int32} (hR : ∀ y, zstep (zCl zTab 12) 12 kL_law (some (L, xs)) zTab 600000 7302250 zLQ y R → R y) (hL : L ≤ 3584) {w : zW} {i : Int} {k n : Nat} (hi : 0 ≤ i ∧ i + 7 ≤ L) (hJ : J w) (hk : k + 100 ≤ 600000) (hn : n + phi w + 300 ≤ 7302250) (hb : ∀ w' k' n', J w' → k' ≤ k + 100 → n' + phi w' ≤ n + phi w + 300 → R (1842, [some (.retAddr 0), some (.ref 0), some (.ref 14), some (.int (Int32.ofInt i))], [], w', k', n')) : R (783, [some (.retAddr 0), some (.ref 0), some (.ref 14), some (.int (Int32.ofInt i))], [], w, k, n) := by
  have hR := @zrsub _ _ _ _ _ _ _ _ _ qL15 sL15 hR
  refine hR (?_ : R (_, _, _, _, _, _))
  refine hR (?_ : R (_, _, _, _, _, _))
  refine hR (?_ : R (_, _, _, _, _, _))
  refine hR (?_ : R (_, _, _, _, _, _))
  refine hR (t_add ?_)
  refine hR (And.intro (zvin (by omega) (by omega) (by omega)) (t_raw ?_))
  refine hR (?_ : R (_, _, _, _, _, _))
  refine hR (?_ : R (_, _, _, _, _, _))
  refine hR (?_ : R (_, _, _, _, _, _))
  refine hR (t_add ?_)
  refine hR (And.intro (zvin (by omega) (by omega) (by omega)) (t_raw ?_))
  refine hR (?_ : R (_, _, _, _, _, _))
  refine hR (?_ : R (_, _, _, _, _, _))
  refine hR (?_ : R (_, _, _, _, _, _))
  refine hR (t_add ?_)
  refine hR (And.intro (zvin (by omega) (by omega) (by omega)) (t_raw ?_))
  obtain ⟨mc, ms, r, w1, r2, w2, run1, run2, ⟨fs0, h0⟩, ⟨fs1, h14⟩, hJ2, hmc, hms, hP⟩ := pr_like hJ (xs (Int32.ofInt (i + 1)).toNatClampNeg).toInt (xs (Int32.ofInt (i + 2)).toNatClampNeg).toInt (xs (Int32.ofInt (i + 3)).toNatClampNeg).toInt (zrg _) (zrg _) (zrg _)
  obtain ⟨v, v2, rfl, rfl⟩ := hP
  refine hR (c_obj h0 (zcall_i mc ms (by omega) (by omega) (run1 _ ?_)))
  refine (?_ : R (_, _, .int v :: [], w1, k + mc, n + ms))
  refine hR (?_ : R (_, _, _, _, _, _))
  refine hR (?_ : R (_, _, _, _, _, _))
  refine hR (?_ : R (_, _, _, _, _, _))
  refine hR (?_ : R (_, _, _, _, _, _))
  refine hR (?_ : R (_, _, _, _, _, _))
  refine hR (t_add ?_)
  refine hR (And.intro (zvin (by omega) (by omega) (by omega)) (t_raw ?_))
  refine hR (?_ : R (_, _, _, _, _, _))
  refine hR (?_ : R (_, _, _, _, _, _))
  refine hR (?_ : R (_, _, _, _, _, _))
  refine hR (t_add ?_)
  refine hR (And.intro (zvin (by omega) (by omega) (by omega)) (t_raw ?_))
  refine hR (?_ : R (_, _, _, _, _, _))
  refine hR (?_ : R (_, _, _, _, _, _))
  refine hR (?_ : R (_, _, _, _, _, _))
  refine hR (t_add ?_)
  refine hR (And.intro (zvin (by omega) (by omega) (by omega)) (t_raw ?_))
  refine hR (c_obj h14 (zcall_i 0 0 (by omega) (by omega) (run2 _ ?_)))
  refine (?_ : R (_, _, .int v2 :: [], w2, k + mc, n + ms))
  refine hR (?_ : R (_, _, _, _, _, _))
  refine hR (?_ : R (_, _, _, _, _, _))
  exact hb w2 _ _ hJ2 (by omega) (by omega)
def qL16 : List zE := [(826, .aload_n 1, 827, 0, 0), (827, .aload_n 0, 828, 0, 0), (828, .iload_n 3, 829, 0, 0), (829, .iconst 1, 830, 0, 0), (830, .iadd, 831, 0, 0), (831, .iaload, 832, 0, 0), (832, .aload_n 0, 833, 0, 0), (833, .iload_n 3, 834, 0, 0), (834, .iconst 2, 835, 0, 0), (835, .iadd, 836, 0, 0), (836, .iaload, 837, 0, 0), (837, .aload_n 0, 838, 0, 0), (838, .iload_n 3, 839, 0, 0), (839, .iconst 3, 840, 0, 0), (840, .iadd, 841, 0, 0), (841, .iaload, 842, 0, 0), (842, .invokevirtual 83, 845, 18, 3), (845, .pop, 846, 0, 0), (846, .aload_n 2, 847, 0, 0), (847, .aload_n 0, 848, 0, 0), (848, .iload_n 3, 849, 0, 0), (849, .iconst 1, 850, 0, 0), (850, .iadd, 851, 0, 0), (851, .iaload, 852, 0, 0), (852, .aload_n 0, 853, 0, 0), (853, .iload_n 3, 854, 0, 0), (854, .iconst 2, 855, 0, 0), (855, .iadd, 856, 0, 0), (856, .iaload, 857, 0, 0), (857, .aload_n 0, 858, 0, 0), (858, .iload_n 3, 859, 0, 0), (859, .iconst 3, 860, 0, 0), (860, .iadd, 861, 0, 0), (861, .iaload, 862, 0, 0), (862, .invokevirtual 86, 865, 261, 3), (865, .pop, 866, 0, 0), (866, .goto 976, 869, 1842, 0)]
theorem sL16 : qL16.all (fun e => decide (zat kL_law.2.2.2.2.2 e.1 = some e.2)) = true := by decide +kernel
theorem l_c16 {R : zS → Prop} {L : Nat} {xs : Nat → Int32} (hR : ∀ y, zstep (zCl zTab 12) 12 kL_law (some (L, xs)) zTab 600000 7302250 zLQ y R → R y) (hL : L ≤ 3584) {w : zW} {i : Int} {k n : Nat} (hi : 0 ≤ i ∧ i + 7 ≤ L) (hJ : J w) (hk : k + 100 ≤ 600000) (hn : n + phi w + 300 ≤ 7302250) (hb : ∀ w' k' n', J w' → k' ≤ k + 100 → n' + phi w' ≤ n + phi w + 300 → R (1842, [some (.retAddr 0), some (.ref 0), some (.ref 14), some (.int (Int32.ofInt i))], [], w', k', n')) : R (826, [some (.retAddr 0), some (.ref 0), some (.ref 14), some (.int (Int32.ofInt i))], [], w, k, n) := by
  have hR := @zrsub _ _ _ _ _ _ _ _ _ qL16 sL16 hR
  refine hR (?_ : R (_, _, _, _, _, _))
  refine hR (?_ : R (_, _, _, _, _, _))
  refine hR (?_ : R (_, _, _, _, _, _))
  refine hR (?_ : R (_, _, _, _, _, _))
  refine hR (t_add ?_)
  refine hR (And.intro (zvin (by omega) (by omega) (by omega)) (t_raw ?_))
  refine hR (?_ : R (_, _, _, _, _, _))
  refine hR (?_ : R (_, _, _, _, _, _))
  refine hR (?_ : R (_, _, _, _, _, _))
  refine hR (t_add ?_)
  refine hR (And.intro (zvin (by omega) (by omega) (by omega)) (t_raw ?_))
  refine hR (?_ : R (_, _, _, _, _, _))
  refine hR (?_ : R (_, _, _, _, _, _))
  refine hR (?_ : R (_, _, _, _, _, _))
  refine hR (t_add ?_)
  refine hR (And.intro (zvin (by omega) (by omega) (by omega)) (t_raw ?_))
  obtain ⟨mc, ms, r, w1, r2, w2, run1, run2, ⟨fs0, h0⟩, ⟨fs1, h14⟩, hJ2, hmc, hms, hP⟩ := pr_orbits hJ (xs (Int32.ofInt (i + 1)).toNatClampNeg).toInt (xs (Int32.ofInt (i + 2)).toNatClampNeg).toInt (xs (Int32.ofInt (i + 3)).toNatClampNeg).toInt (zrg _) (zrg _) (zrg _)
  obtain ⟨v, v2, rfl, rfl⟩ := hP
  refine hR (c_obj h0 (zcall_i mc ms (by omega) (by omega) (run1 _ ?_)))
  refine (?_ : R (_, _, .int v :: [], w1, k + mc, n + ms))
  refine hR (?_ : R (_, _, _, _, _, _))
  refine hR (?_ : R (_, _, _, _, _, _))
  refine hR (?_ : R (_, _, _, _, _, _))
  refine hR (?_ : R (_, _, _, _, _, _))
  refine hR (?_ : R (_, _, _, _, _, _))
  refine hR (t_add ?_)
  refine hR (And.intro (zvin (by omega) (by omega) (by omega)) (t_raw ?_))
  refine hR (?_ : R (_, _, _, _, _, _))
  refine hR (?_ : R (_, _, _, _, _, _))
  refine hR (?_ : R (_, _, _, _, _, _))
  refine hR (t_add ?_)
  refine hR (And.intro (zvin (by omega) (by omega) (by omega)) (t_raw ?_))
  refine hR (?_ : R (_, _, _, _, _, _))
  refine hR (?_ : R (_, _, _, _, _, _))
  refine hR (?_ : R (_, _, _, _, _, _))
  refine hR (t_add ?_)
  refine hR (And.intro (zvin (by omega) (by omega) (by omega)) (t_raw ?_))
  refine hR (c_obj h14 (zcall_i 0 0 (by omega) (by omega) (run2 _ ?_)))
  refine (?_ : R (_, _, .int v2 :: [], w2, k + mc, n + ms))
  refine hR (?_ : R (_, _, _, _, _, _))
  refine hR (?_ : R (_, _, _, _, _, _))
  exact hb w2 _ _ hJ2 (by omega) (by omega)
def qL17 : List zE := [(869, .aload_n 1, 870, 0, 0), (870, .aload_n 0, 871, 0, 0), (871, .iload_n 3, 872, 0, 0), (872, .iconst 1, 873, 0, 0), (873, .iadd, 874, 0, 0), (874, .iaload, 875, 0, 0), (875, .aload_n 0, 876, 0, 0), (876, .iload_n 3, 877, 0, 0), (877, .iconst 2, 878, 0, 0), (878, .iadd, 879, 0, 0), (879, .iaload, 880, 0, 0), (880, .aload_n 0, 881, 0, 0), (881, .iload_n 3, 882, 0, 0), (882, .iconst 3, 883, 0, 0), (883, .iadd, 884, 0, 0), (884, .iaload, 885, 0, 0), (885, .invokevirtual 87, 888, 19, 3), (888, .pop, 889, 0, 0), (889, .aload_n 2, 890, 0, 0), (890, .aload_n 0, 891, 0, 0), (891, .iload_n 3, 892, 0, 0), (892, .iconst 1, 893, 0, 0), (893, .iadd, 894, 0, 0), (894, .iaload, 895, 0, 0), (895, .aload_n 0, 896, 0, 0), (896, .iload_n 3, 897, 0, 0), (897, .iconst 2, 898, 0, 0), (898, .iadd, 899, 0, 0), (899, .iaload, 900, 0, 0), (900, .aload_n 0, 901, 0, 0), (901, .iload_n 3, 902, 0, 0), (902, .iconst 3, 903, 0, 0), (903, .iadd, 904, 0, 0), (904, .iaload, 905, 0, 0), (905, .invokevirtual 90, 908, 266, 3), (908, .pop, 909, 0, 0), (909, .goto 933, 912, 1842, 0)]
theorem sL17 : qL17.all (fun e => decide (zat kL_law.2.2.2.2.2 e.1 = some e.2)) = true := by decide +kernel
theorem l_c17 {R : zS → Prop} {L : Nat} {xs : Nat → Int32} (hR : ∀ y, zstep (zCl zTab 12) 12 kL_law (some (L, xs)) zTab 600000 7302250 zLQ y R → R y) (hL : L ≤ 3584) {w : zW} {i : Int} {k n : Nat} (hi : 0 ≤ i ∧ i + 7 ≤ L) (hJ : J w) (hk : k + 100 ≤ 600000) (hn : n + phi w + 300 ≤ 7302250) (hb : ∀ w' k' n', J w' → k' ≤ k + 100 → n' + phi w' ≤ n + phi w + 300 → R (1842, [some (.retAddr 0), some (.ref 0), some (.ref 14), some (.int (Int32.ofInt i))], [], w', k', n')) : R (869, [some (.retAddr 0), some (.ref 0), some (.ref 14), some (.int (Int32.ofInt i))], [], w, k, n) := by
  have hR := @zrsub _ _ _ _ _ _ _ _ _ qL17 sL17 hR
  refine hR (?_ : R (_, _, _, _, _, _))
  refine hR (?_ : R (_, _, _, _, _, _))
  refine hR (?_ : R (_, _, _, _, _, _))
  refine hR (?_ : R (_, _, _, _, _, _))
  refine hR (t_add ?_)
  refine hR (And.intro (zvin (by omega) (by omega) (by omega)) (t_raw ?_))
  refine hR (?_ : R (_, _, _, _, _, _))
  refine hR (?_ : R (_, _, _, _, _, _))
  refine hR (?_ : R (_, _, _, _, _, _))
  refine hR (t_add ?_)
  refine hR (And.intro (zvin (by omega) (by omega) (by omega)) (t_raw ?_))
  refine hR (?_ : R (_, _, _, _, _, _))
  refine hR (?_ : R (_, _, _, _, _, _))
  refine hR (?_ : R (_, _, _, _, _, _))
  refine hR (t_add ?_)
  refine hR (And.intro (zvin (by omega) (by omega) (by omega)) (t_raw ?_))
  obtain ⟨mc, ms, r, w1, r2, w2, run1, run2, ⟨fs0, h0⟩, ⟨fs1, h14⟩, hJ2, hmc, hms, hP⟩ := pr_rota hJ (xs (Int32.ofInt (i + 1)).toNatClampNeg).toInt (xs (Int32.ofInt (i + 2)).toNatClampNeg).toInt (xs (Int32.ofInt (i + 3)).toNatClampNeg).toInt (zrg _) (zrg _) (zrg _)
  obtain ⟨v, v2, rfl, rfl⟩ := hP
  refine hR (c_obj h0 (zcall_i mc ms (by omega) (by omega) (run1 _ ?_)))
  refine (?_ : R (_, _, .int v :: [], w1, k + mc, n + ms))
  refine hR (?_ : R (_, _, _, _, _, _))
  refine hR (?_ : R (_, _, _, _, _, _))
  refine hR (?_ : R (_, _, _, _, _, _))
  refine hR (?_ : R (_, _, _, _, _, _))
  refine hR (?_ : R (_, _, _, _, _, _))
  refine hR (t_add ?_)
  refine hR (And.intro (zvin (by omega) (by omega) (by omega)) (t_raw ?_))
  refine hR (?_ : R (_, _, _, _, _, _))
  refine hR (?_ : R (_, _, _, _, _, _))
  refine hR (?_ : R (_, _, _, _, _, _))
  refine hR (t_add ?_)
  refine hR (And.intro (zvin (by omega) (by omega) (by omega)) (t_raw ?_))
  refine hR (?_ : R (_, _, _, _, _, _))
  refine hR (?_ : R (_, _, _, _, _, _))
  refine hR (?_ : R (_, _, _, _, _, _))
  refine hR (t_add ?_)
  refine hR (And.intro (zvin (by omega) (by omega) (by omega)) (t_raw ?_))
  refine hR (c_obj h14 (zcall_i 0 0 (by omega) (by omega) (run2 _ ?_)))
  refine (?_ : R (_, _, .int v2 :: [], w2, k + mc, n + ms))
  refine hR (?_ : R (_, _, _, _, _, _))
  refine hR (?_ : R (_, _, _, _, _, _))
  exact hb w2 _ _ hJ2 (by omega) (by omega)
