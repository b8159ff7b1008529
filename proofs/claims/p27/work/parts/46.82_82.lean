noncomputable def J (w : zW) : Prop := J1 w ∧ XT w
noncomputable def PAIR (iX iM : Nat) (As : List Value) (w : zW) (P : Option Value → Option Value → Prop) : Prop := ∃ mc ms r w1 r' w2, (∀ Q : zQ, Q r w1 → zCl zTab 12 iX (.ref 0 :: As) w mc ms Q) ∧ (∀ Q : zQ, Q r' w2 → zCl zTab 12 iM (.ref 14 :: As) w1 0 0 Q) ∧ (∃ fs, zix w 0 = some (.inr (10, fs))) ∧ (∃ fs, zix w1 14 = some (.inr (11, fs))) ∧ J w2 ∧ mc ≤ 100 ∧ ms + phi w2 ≤ phi w + 300 ∧ P r r'
theorem pair_mk {iX iM mc ms : Nat} {As : List Value} {w w1 w2 : zW} {r r' : Option Value} {P : Option Value → Option Value → Prop} {σ τ : Nat → Nat} {l : Int} {m : Nat → Option Int} {sz kp sz' kp' : Nat → Int32} (hT : TOP σ w) (run1 : ∀ Q : zQ, Q r w1 → zCl zTab 12 iX (.ref 0 :: As) w mc ms Q) (run2 : ∀ Q : zQ, Q r' w2 → zCl zTab 12 iM (.ref 14 :: As) w1 0 0 Q) (hT1 : TOP τ w1) (hI1 : IM w1 l m) (hM1 : MI w1 sz kp) (hS : SAME w1 w2) (hM2 : MI w2 sz' kp') (hl : l = (sz' 0).toInt) (hm : ∀ k, k < 3 → mOf sz' kp' k = m k) (hmc : mc ≤ 100) (hms : ms + phi w1 ≤ phi w + 300) (hX2 : XT w2) (hP : P r r') : PAIR iX iM As w P := by
  obtain ⟨hT2, hI2, hp2⟩ := top_same hT1 hS
  refine ⟨mc, ms, r, w1, r', w2, run1, run2, top_0 hT, mi_14 hM1, ⟨⟨τ, sz', kp', hT2, hM2, ?_⟩, hX2⟩, hmc, by omega, hP⟩
  rw [← hl]
  exact im_ext hm (hI2 _ _ hI1)
theorem pr_feed {w : zW} (hJ : J w) (a1 a2 a3 a4 a5 : Int) (ha1 : -2147483648 ≤ a1 ∧ a1 ≤ 2147483647) (ha2 : -2147483648 ≤ a2 ∧ a2 ≤ 2147483647) (ha3 : -2147483648 ≤ a3 ∧ a3 ≤ 2147483647) (ha4 : -2147483648 ≤ a4 ∧ a4 ≤ 2147483647) (ha5 : -2147483648 ≤ a5 ∧ a5 ≤ 2147483647) : PAIR iX11_feed iX12_feed [.int (Int32.ofInt a1), .int (Int32.ofInt a2), .int (Int32.ofInt a3), .int (Int32.ofInt a4), .int (Int32.ofInt a5)] w rEQ := by
  obtain ⟨⟨σ, sz, kp, hT, hM, hI⟩, hX⟩ := hJ
  obtain ⟨mc, ms, r, w1, hP, run1⟩ := k_feed hT hI 10 a1 a2 a3 a4 a5
  rcases hP with ⟨hc, ⟨⟨τ, hT1⟩, hI1, hK1, hm1, hs1⟩, rfl⟩ | ⟨hc, ⟨⟨τ, hT1⟩, hI1, hK1, hm1, hs1⟩, rfl⟩
  · skip
    have hM1 := mi_keep hM hK1 hT1.2.2.2.2
    obtain ⟨mc2, ms2, r2, w2, ⟨⟨rfl, rfl⟩, hS, v2, k16, k44, hM2, rfl, p0, p1, rfl⟩, run2⟩ := q_feed hM1 10 a1 a2 a3 a4 a5 ha1 ha2 ha3 ha4 ha5
    obtain rfl : v2 = -1 := by omega
    exact pair_mk hT run1 run2 hT1 hI1 hM1 hS hM2 (by omega) (mOf_0 p1) hm1 hs1 (xs_feed hT hX a1 a2 a3 a4 a5 ha1 ha2 ha3 ha4 ha5 run1 hM1 run2) ⟨_, rfl, rfl⟩
  · skip
    have hM1 := mi_keep hM hK1 hT1.2.2.2.2
    obtain ⟨mc2, ms2, r2, w2, ⟨⟨rfl, rfl⟩, hS, v2, k16, k44, hM2, rfl, p0, p1, rfl⟩, run2⟩ := q_feed hM1 10 a1 a2 a3 a4 a5 ha1 ha2 ha3 ha4 ha5
    obtain rfl : v2 = (sz 0).toInt + 20 := by omega
    exact pair_mk hT run1 run2 hT1 hI1 hM1 hS hM2 (by omega) (mOf_0 p1) hm1 hs1 (xs_feed hT hX a1 a2 a3 a4 a5 ha1 ha2 ha3 ha4 ha5 run1 hM1 run2) ⟨_, rfl, rfl⟩
theorem pr_end {w : zW} (hJ : J w) (a1 : Int) (ha1 : -2147483648 ≤ a1 ∧ a1 ≤ 2147483647) : PAIR iX11_end iX12_end [.int (Int32.ofInt a1)] w rEQ := by
  obtain ⟨⟨σ, sz, kp, hT, hM, hI⟩, hX⟩ := hJ
  obtain ⟨mc, ms, r, w1, hP, run1⟩ := k_end hT hI 11 a1 ha1
  rcases hP with ⟨hc, ⟨⟨τ, hT1⟩, hI1, hK1, hm1, hs1⟩, rfl⟩ | ⟨hc, ⟨⟨τ, hT1⟩, hI1, hK1, hm1, hs1⟩, rfl⟩
  · skip
    have hM1 := mi_keep hM hK1 hT1.2.2.2.2
    obtain ⟨mc2, ms2, r2, w2, ⟨⟨rfl, rfl⟩, hS, v2, k16, k44, hM2, rfl, p0, p1, rfl⟩, run2⟩ := q_end hM1 10 a1 ha1
    have e : v2 = -1 := by omega
    rw [e] at run2
    exact pair_mk hT run1 run2 hT1 hI1 hM1 hS hM2 (by omega) (mOf_0 p1) hm1 hs1 (xs_end hT hX a1 ha1 run1 hM1 run2) ⟨_, rfl, rfl⟩
  · skip
    have hM1 := mi_keep hM hK1 hT1.2.2.2.2
    obtain ⟨mc2, ms2, r2, w2, ⟨⟨rfl, rfl⟩, hS, v2, k16, k44, hM2, rfl, p0, p1, rfl⟩, run2⟩ := q_end hM1 10 a1 ha1
    have e : v2 = a1 := by omega
    rw [e] at run2
    exact pair_mk hT run1 run2 hT1 hI1 hM1 hS hM2 (by omega) (mOf_0 p1) hm1 hs1 (xs_end hT hX a1 ha1 run1 hM1 run2) ⟨_, rfl, rfl⟩
theorem pr_text {w : zW} (hJ : J w) (a1 a2 : Int) (ha1 : -2147483648 ≤ a1 ∧ a1 ≤ 2147483647) (ha2 : -2147483648 ≤ a2 ∧ a2 ≤ 2147483647) : PAIR iX11_text iX12_text [.int (Int32.ofInt a1), .int (Int32.ofInt a2)] w rEQ := by
  obtain ⟨⟨σ, sz, kp, hT, hM, hI⟩, hX⟩ := hJ
  obtain ⟨mc, ms, r, w1, ⟨⟨⟨τ, hT1⟩, hI1, hK1, hm1, hs1⟩, v, rfl⟩, run1⟩ := k_text hT hI 2 a1 a2 ha1 ha2
  have hM1 := mi_keep hM hK1 hT1.2.2.2.2
  obtain ⟨mc2, ms2, r2, w2, ⟨⟨rfl, rfl⟩, hS, v2, k16, k44, hM2, rfl, p0, p1, rfl⟩, run2⟩ := q_text hM1 2 a1 a2 ha1 ha2
  obtain ⟨hX2, hQ⟩ := xs_text hT hX a1 a2 ha1 ha2 run1 hM1 run2
  exact pair_mk hT run1 run2 hT1 hI1 hM1 hS hM2 p0.symm (mOf_0 p1) hm1 hs1 hX2 hQ
theorem pr_fault {w : zW} (hJ : J w) (a1 : Int) (ha1 : -2147483648 ≤ a1 ∧ a1 ≤ 2147483647) : PAIR iX11_fault iX12_fault [.int (Int32.ofInt a1)] w rII := by
  obtain ⟨⟨σ, sz, kp, hT, hM, hI⟩, hX⟩ := hJ
  obtain ⟨mc, ms, r, w1, ⟨⟨τ, hT1, hI1, hK1, hx1, hm1, hs1⟩, v, rfl⟩, run1⟩ := k_fault hT 8 a1 ha1
  have hM1 := mi_keep hM hK1.1 hT1.2.2.2.2
  obtain ⟨mc2, ms2, r2, w2, ⟨⟨rfl, rfl⟩, hS, hM2, v2, rfl⟩, run2⟩ := q_fault hM1 11 a1 ha1
  exact pair_mk hT run1 run2 hT1 (hI1 _ _ hI) hM1 hS.1 hM2 rfl (fun _ _ => rfl) hm1 (by omega) (XT_same hT1 (XT_keep hX hK1) hS) ⟨v, v2, rfl, rfl⟩
theorem pr_book {w : zW} (hJ : J w) (a1 a2 : Int) (ha1 : -2147483648 ≤ a1 ∧ a1 ≤ 2147483647) (ha2 : -2147483648 ≤ a2 ∧ a2 ≤ 2147483647) : PAIR iX11_book iX12_book [.int (Int32.ofInt a1), .int (Int32.ofInt a2)] w rII := by
  obtain ⟨⟨σ, sz, kp, hT, hM, hI⟩, hX⟩ := hJ
  obtain ⟨mc, ms, r, w1, ⟨⟨τ, hT1, hI1, hK1, hx1, hm1, hs1⟩, v, rfl⟩, run1⟩ := k_book hT 8 a1 a2 ha1 ha2
  have hM1 := mi_keep hM hK1.1 hT1.2.2.2.2
  obtain ⟨mc2, ms2, r2, w2, ⟨⟨rfl, rfl⟩, hS, hM2, v2, rfl⟩, run2⟩ := q_book hM1 8 a1 a2 ha1 ha2
  exact pair_mk hT run1 run2 hT1 (hI1 _ _ hI) hM1 hS.1 hM2 rfl (fun _ _ => rfl) hm1 (by omega) (XT_same hT1 (XT_keep hX hK1) hS) ⟨v, v2, rfl, rfl⟩
theorem pr_word {w : zW} (hJ : J w) (a1 a2 : Int) (ha1 : -2147483648 ≤ a1 ∧ a1 ≤ 2147483647) (ha2 : -2147483648 ≤ a2 ∧ a2 ≤ 2147483647) : PAIR iX11_word iX12_word [.int (Int32.ofInt a1), .int (Int32.ofInt a2)] w rII := by
  obtain ⟨⟨σ, sz, kp, hT, hM, hI⟩, hX⟩ := hJ
  obtain ⟨mc, ms, r, w1, ⟨⟨τ, hT1, hI1, hK1, hx1, hm1, hs1⟩, v, rfl⟩, run1⟩ := k_word hT 8 a1 a2 ha1 ha2
  have hM1 := mi_keep hM hK1.1 hT1.2.2.2.2
  obtain ⟨mc2, ms2, r2, w2, ⟨⟨rfl, rfl⟩, hS, hM2, v2, rfl⟩, run2⟩ := q_word hM1 8 a1 a2 ha1 ha2
  exact pair_mk hT run1 run2 hT1 (hI1 _ _ hI) hM1 hS.1 hM2 rfl (fun _ _ => rfl) hm1 (by omega) (XT_same hT1 (XT_keep hX hK1) hS) ⟨v, v2, rfl, rfl⟩
theorem pr_drift {w : zW} (hJ : J w) (a1 a2 : Int) (ha1 : -2147483648 ≤ a1 ∧ a1 ≤ 2147483647) (ha2 : -2147483648 ≤ a2 ∧ a2 ≤ 2147483647) : PAIR iX11_drift iX12_drift [.int (Int32.ofInt a1), .int (Int32.ofInt a2)] w rII := by
  obtain ⟨⟨σ, sz, kp, hT, hM, hI⟩, hX⟩ := hJ
  obtain ⟨mc, ms, r, w1, ⟨⟨τ, hT1, hI1, hK1, hx1, hm1, hs1⟩, v, rfl⟩, run1⟩ := k_drift hT 8 a1 a2 ha1 ha2
  have hM1 := mi_keep hM hK1.1 hT1.2.2.2.2
  obtain ⟨mc2, ms2, r2, w2, ⟨⟨rfl, rfl⟩, hS, hM2, v2, rfl⟩, run2⟩ := q_drift hM1 7 a1 a2 ha1 ha2
  exact pair_mk hT run1 run2 hT1 (hI1 _ _ hI) hM1 hS.1 hM2 rfl (fun _ _ => rfl) hm1 (by omega) (XT_same hT1 (XT_keep hX hK1) hS) ⟨v, v2, rfl, rfl⟩
theorem pr_read {w : zW} (hJ : J w) (a1 a2 a3 : Int) (ha1 : -2147483648 ≤ a1 ∧ a1 ≤ 2147483647) (ha2 : -2147483648 ≤ a2 ∧ a2 ≤ 2147483647) (ha3 : -2147483648 ≤ a3 ∧ a3 ≤ 2147483647) : PAIR iX11_read iX12_read [.int (Int32.ofInt a1), .int (Int32.ofInt a2), .int (Int32.ofInt a3)] w rII := by
  obtain ⟨⟨σ, sz, kp, hT, hM, hI⟩, hX⟩ := hJ
  obtain ⟨mc, ms, r, w1, ⟨⟨τ, hT1, hI1, hK1, hx1, hm1, hs1⟩, v, rfl⟩, run1⟩ := k_read hT 8 a1 a2 a3 ha1 ha2 ha3
  have hM1 := mi_keep hM hK1.1 hT1.2.2.2.2
  obtain ⟨mc2, ms2, r2, w2, ⟨⟨rfl, rfl⟩, hS, hM2, v2, rfl⟩, run2⟩ := q_read hM1 7 a1 a2 a3 ha1 ha2 ha3
  exact pair_mk hT run1 run2 hT1 (hI1 _ _ hI) hM1 hS.1 hM2 rfl (fun _ _ => rfl) hm1 (by omega) (XT_same hT1 (XT_keep hX hK1) hS) ⟨v, v2, rfl, rfl⟩
theorem pr_deed {w : zW} (hJ : J w) (a1 a2 a3 : Int) (ha1 : -2147483648 ≤ a1 ∧ a1 ≤ 2147483647) (ha2 : -2147483648 ≤ a2 ∧ a2 ≤ 2147483647) (ha3 : -2147483648 ≤ a3 ∧ a3 ≤ 2147483647) : PAIR iX11_deed iX12_deed [.int (Int32.ofInt a1), .int (Int32.ofInt a2), .int (Int32.ofInt a3)] w rII := by
  obtain ⟨⟨σ, sz, kp, hT, hM, hI⟩, hX⟩ := hJ
  obtain ⟨mc, ms, r, w1, ⟨⟨τ, hT1, hI1, hK1, hx1, hm1, hs1⟩, v, rfl⟩, run1⟩ := k_deed hT 8 a1 a2 a3 ha1 ha2 ha3
  have hM1 := mi_keep hM hK1.1 hT1.2.2.2.2
  obtain ⟨mc2, ms2, r2, w2, ⟨⟨rfl, rfl⟩, hS, hM2, v2, rfl⟩, run2⟩ := q_deed hM1 8 a1 a2 a3 ha1 ha2 ha3
  exact pair_mk hT run1 run2 hT1 (hI1 _ _ hI) hM1 hS.1 hM2 rfl (fun _ _ => rfl) hm1 (by omega) (XT_same hT1 (XT_keep hX hK1) hS) ⟨v, v2, rfl, rfl⟩
theorem pr_stop {w : zW} (hJ : J w) (a1 a2 : Int) (ha1 : -2147483648 ≤ a1 ∧ a1 ≤ 2147483647) (ha2 : -2147483648 ≤ a2 ∧ a2 ≤ 2147483647) : PAIR iX11_stop iX12_stop [.int (Int32.ofInt a1), .int (Int32.ofInt a2)] w rII := by
  obtain ⟨⟨σ, sz, kp, hT, hM, hI⟩, hX⟩ := hJ
  obtain ⟨mc, ms, r, w1, ⟨⟨τ, hT1, hI1, hK1, hx1, hm1, hs1⟩, v, rfl⟩, run1⟩ := k_stop hT 5 a1 a2 ha1 ha2
  have hM1 := mi_keep hM hK1.1 hT1.2.2.2.2
  obtain ⟨mc2, ms2, r2, w2, ⟨⟨rfl, rfl⟩, hS, hM2, v2, rfl⟩, run2⟩ := q_stop hM1 4 a1 a2 ha1 ha2
  exact pair_mk hT run1 run2 hT1 (hI1 _ _ hI) hM1 hS.1 hM2 rfl (fun _ _ => rfl) hm1 (by omega) (XT_same hT1 (XT_keep hX hK1) hS) ⟨v, v2, rfl, rfl⟩
theorem pr_state {w : zW} (hJ : J w) (a1 a2 a3 a4 : Int) (ha1 : -2147483648 ≤ a1 ∧ a1 ≤ 2147483647) (ha2 : -2147483648 ≤ a2 ∧ a2 ≤ 2147483647) (ha3 : -2147483648 ≤ a3 ∧ a3 ≤ 2147483647) (ha4 : -2147483648 ≤ a4 ∧ a4 ≤ 2147483647) : PAIR iX11_state iX12_state [.int (Int32.ofInt a1), .int (Int32.ofInt a2), .int (Int32.ofInt a3), .int (Int32.ofInt a4)] w rII := by
  obtain ⟨⟨σ, sz, kp, hT, hM, hI⟩, hX⟩ := hJ
  obtain ⟨mc, ms, r, w1, ⟨⟨τ, hT1, hI1, hK1, hx1, hm1, hs1⟩, v, rfl⟩, run1⟩ := k_state hT 5 a1 a2 a3 a4 ha1 ha2 ha3 ha4
  have hM1 := mi_keep hM hK1.1 hT1.2.2.2.2
  obtain ⟨mc2, ms2, r2, w2, ⟨⟨rfl, rfl⟩, hS, hM2, v2, rfl⟩, run2⟩ := q_state hM1 4 a1 a2 a3 a4 ha1 ha2 ha3 ha4
  exact pair_mk hT run1 run2 hT1 (hI1 _ _ hI) hM1 hS.1 hM2 rfl (fun _ _ => rfl) hm1 (by omega) (XT_same hT1 (XT_keep hX hK1) hS) ⟨v, v2, rfl, rfl⟩
theorem pr_making {w : zW} (hJ : J w) (a1 a2 a3 a4 : Int) (ha1 : -2147483648 ≤ a1 ∧ a1 ≤ 2147483647) (ha2 : -2147483648 ≤ a2 ∧ a2 ≤ 2147483647) (ha3 : -2147483648 ≤ a3 ∧ a3 ≤ 2147483647) (ha4 : -2147483648 ≤ a4 ∧ a4 ≤ 2147483647) : PAIR iX11_making iX12_making [.int (Int32.ofInt a1), .int (Int32.ofInt a2), .int (Int32.ofInt a3), .int (Int32.ofInt a4)] w rII := by
  obtain ⟨⟨σ, sz, kp, hT, hM, hI⟩, hX⟩ := hJ
  obtain ⟨mc, ms, r, w1, ⟨⟨τ, hT1, hI1, hK1, hx1, hm1, hs1⟩, v, rfl⟩, run1⟩ := k_making hT 6 a1 a2 a3 a4 ha1 ha2 ha3 ha4
  have hM1 := mi_keep hM hK1.1 hT1.2.2.2.2
  obtain ⟨mc2, ms2, r2, w2, ⟨⟨rfl, rfl⟩, hS, hM2, v2, rfl⟩, run2⟩ := q_making hM1 5 a1 a2 a3 a4 ha1 ha2 ha3 ha4
  exact pair_mk hT run1 run2 hT1 (hI1 _ _ hI) hM1 hS.1 hM2 rfl (fun _ _ => rfl) hm1 (by omega) (XT_same hT1 (XT_keep hX hK1) hS) ⟨v, v2, rfl, rfl⟩
theorem pr_ring {w : zW} (hJ : J w) (a1 a2 : Int) (ha1 : -2147483648 ≤ a1 ∧ a1 ≤ 2147483647) (ha2 : -2147483648 ≤ a2 ∧ a2 ≤ 2147483647) : PAIR iX11_ring iX12_ring [.int (Int32.ofInt a1), .int (Int32.ofInt a2)] w rII := by
  obtain ⟨⟨σ, sz, kp, hT, hM, hI⟩, hX⟩ := hJ
  obtain ⟨mc, ms, r, w1, ⟨⟨τ, hT1, hI1, hK1, hx1, hm1, hs1⟩, v, rfl⟩, run1⟩ := k_ring hT 6 a1 a2 ha1 ha2
  have hM1 := mi_keep hM hK1.1 hT1.2.2.2.2
  obtain ⟨mc2, ms2, r2, w2, ⟨⟨rfl, rfl⟩, hS, hM2, v2, rfl⟩, run2⟩ := q_ring hM1 5 a1 a2 ha1 ha2
  exact pair_mk hT run1 run2 hT1 (hI1 _ _ hI) hM1 hS.1 hM2 rfl (fun _ _ => rfl) hm1 (by omega) (XT_same hT1 (XT_keep hX hK1) hS) ⟨v, v2, rfl, rfl⟩
theorem pr_reach {w : zW} (hJ : J w) (a1 a2 a3 : Int) (ha1 : -2147483648 ≤ a1 ∧ a1 ≤ 2147483647) (ha2 : -2147483648 ≤ a2 ∧ a2 ≤ 2147483647) (ha3 : -2147483648 ≤ a3 ∧ a3 ≤ 2147483647) : PAIR iX11_reach iX12_reach [.int (Int32.ofInt a1), .int (Int32.ofInt a2), .int (Int32.ofInt a3)] w rII := by
  obtain ⟨⟨σ, sz, kp, hT, hM, hI⟩, hX⟩ := hJ
  obtain ⟨mc, ms, r, w1, ⟨⟨τ, hT1, hI1, hK1, hx1, hm1, hs1⟩, v, rfl⟩, run1⟩ := k_reach hT 6 a1 a2 a3 ha1 ha2 ha3
  have hM1 := mi_keep hM hK1.1 hT1.2.2.2.2
  obtain ⟨mc2, ms2, r2, w2, ⟨⟨rfl, rfl⟩, hS, hM2, v2, rfl⟩, run2⟩ := q_reach hM1 5 a1 a2 a3 ha1 ha2 ha3
  exact pair_mk hT run1 run2 hT1 (hI1 _ _ hI) hM1 hS.1 hM2 rfl (fun _ _ => rfl) hm1 (by omega) (XT_same hT1 (XT_keep hX hK1) hS) ⟨v, v2, rfl, rfl⟩
theorem pr_sound {w : zW} (hJ : J w) (a1 a2 : Int) (ha1 : -2147483648 ≤ a1 ∧ a1 ≤ 2147483647) (ha2 : -2147483648 ≤ a2 ∧ a2 ≤ 2147483647) : PAIR iX11_sound iX12_sound [.int (Int32.ofInt a1), .int (Int32.ofInt a2)] w rII := by
  obtain ⟨⟨σ, sz, kp, hT, hM, hI⟩, hX⟩ := hJ
  obtain ⟨mc, ms, r, w1, ⟨⟨τ, hT1, hI1, hK1, hx1, hm1, hs1⟩, v, rfl⟩, run1⟩ := k_sound hT 5 a1 a2 ha1 ha2
  have hM1 := mi_keep hM hK1.1 hT1.2.2.2.2
  obtain ⟨mc2, ms2, r2, w2, ⟨⟨rfl, rfl⟩, hS, hM2, v2, rfl⟩, run2⟩ := q_sound hM1 6 a1 a2 ha1 ha2
  exact pair_mk hT run1 run2 hT1 (hI1 _ _ hI) hM1 hS.1 hM2 rfl (fun _ _ => rfl) hm1 (by omega) (XT_same hT1 (XT_keep hX hK1) hS) ⟨v, v2, rfl, rfl⟩
theorem pr_like {w : zW} (hJ : J w) (a1 a2 a3 : Int) (ha1 : -2147483648 ≤ a1 ∧ a1 ≤ 2147483647) (ha2 : -2147483648 ≤ a2 ∧ a2 ≤ 2147483647) (ha3 : -2147483648 ≤ a3 ∧ a3 ≤ 2147483647) : PAIR iX11_like iX12_like [.int (Int32.ofInt a1), .int (Int32.ofInt a2), .int (Int32.ofInt a3)] w rII := by
  obtain ⟨⟨σ, sz, kp, hT, hM, hI⟩, hX⟩ := hJ
  obtain ⟨mc, ms, r, w1, ⟨⟨τ, hT1, hI1, hK1, hx1, hm1, hs1⟩, v, rfl⟩, run1⟩ := k_like hT 6 a1 a2 a3 ha1 ha2 ha3
  have hM1 := mi_keep hM hK1.1 hT1.2.2.2.2
  obtain ⟨mc2, ms2, r2, w2, ⟨⟨rfl, rfl⟩, hS, hM2, v2, rfl⟩, run2⟩ := q_like hM1 6 a1 a2 a3 ha1 ha2 ha3
  exact pair_mk hT run1 run2 hT1 (hI1 _ _ hI) hM1 hS.1 hM2 rfl (fun _ _ => rfl) hm1 (by omega) (XT_same hT1 (XT_keep hX hK1) hS) ⟨v, v2, rfl, rfl⟩
theorem pr_orbits {w : zW} (hJ : J w) (a1 a2 a3 : Int) (ha1 : -2147483648 ≤ a1 ∧ a1 ≤ 2147483647) (ha2 : -2147483648 ≤ a2 ∧ a2 ≤ 2147483647) (ha3 : -2147483648 ≤ a3 ∧ a3 ≤ 2147483647) : PAIR iX11_orbits iX12_orbits [.int (Int32.ofInt a1), .int (Int32.ofInt a2), .int (Int32.ofInt a3)] w rII := by
  obtain ⟨⟨σ, sz, kp, hT, hM, hI⟩, hX⟩ := hJ
  obtain ⟨mc, ms, r, w1, ⟨⟨τ, hT1, hI1, hK1, hx1, hm1, hs1⟩, v, rfl⟩, run1⟩ := k_orbits hT 5 a1 a2 a3 ha1 ha2 ha3
  have hM1 := mi_keep hM hK1.1 hT1.2.2.2.2
  obtain ⟨mc2, ms2, r2, w2, ⟨⟨rfl, rfl⟩, hS, hM2, v2, rfl⟩, run2⟩ := q_orbits hM1 6 a1 a2 a3 ha1 ha2 ha3
  exact pair_mk hT run1 run2 hT1 (hI1 _ _ hI) hM1 hS.1 hM2 rfl (fun _ _ => rfl) hm1 (by omega) (XT_same hT1 (XT_keep hX hK1) hS) ⟨v, v2, rfl, rfl⟩
theorem pr_rota {w : zW} (hJ : J w) (a1 a2 a3 : Int) (ha1 : -2147483648 ≤ a1 ∧ a1 ≤ 2147483647) (ha2 : -2147483648 ≤ a2 ∧ a2 ≤ 2147483647) (ha3 : -2147483648 ≤ a3 ∧ a3 ≤ 2147483647) : PAIR iX11_rota iX12_rota [.int (Int32.ofInt a1), .int (Int32.ofInt a2), .int (Int32.ofInt a3)] w rII := by
  obtain ⟨⟨σ, sz, kp, hT, hM, hI⟩, hX⟩ := hJ
  obtain ⟨mc, ms, r, w1, ⟨⟨τ, hT1, hI1, hK1, hx1, hm1, hs1⟩, v, rfl⟩, run1⟩ := k_rota hT 5 a1 a2 a3 ha1 ha2 ha3
  have hM1 := mi_keep hM hK1.1 hT1.2.2.2.2
  obtain ⟨mc2, ms2, r2, w2, ⟨⟨rfl, rfl⟩, hS, hM2, v2, rfl⟩, run2⟩ := q_rota hM1 6 a1 a2 a3 ha1 ha2 ha3
  exact pair_mk hT run1 run2 hT1 (hI1 _ _ hI) hM1 hS.1 hM2 rfl (fun _ _ => rfl) hm1 (by omega) (XT_same hT1 (XT_keep hX hK1) hS) ⟨v, v2, rfl, rfl⟩
theorem pr_mean {w : zW} (hJ : J w) (a1 a2 a3 : Int) (ha1 : -2147483648 ≤ a1 ∧ a1 ≤ 2147483647) (ha2 : -2147483648 ≤ a2 ∧ a2 ≤ 2147483647) (ha3 : -2147483648 ≤ a3 ∧ a3 ≤ 2147483647) : PAIR iX11_mean iX12_mean [.int (Int32.ofInt a1), .int (Int32.ofInt a2), .int (Int32.ofInt a3)] w rLL := by
  obtain ⟨⟨σ, sz, kp, hT, hM, hI⟩, hX⟩ := hJ
  obtain ⟨mc, ms, r, w1, ⟨⟨τ, hT1, hI1, hK1, hx1, hm1, hs1⟩, v, rfl⟩, run1⟩ := k_mean hT 5 a1 a2 a3 ha1 ha2 ha3
  have hM1 := mi_keep hM hK1.1 hT1.2.2.2.2
  obtain ⟨mc2, ms2, r2, w2, ⟨⟨rfl, rfl⟩, hS, hM2, v2, rfl⟩, run2⟩ := q_mean hM1 6 a1 a2 a3 ha1 ha2 ha3
  exact pair_mk hT run1 run2 hT1 (hI1 _ _ hI) hM1 hS.1 hM2 rfl (fun _ _ => rfl) hm1 (by omega) (XT_same hT1 (XT_keep hX hK1) hS) ⟨v, v2, rfl, rfl⟩
theorem pr_elders {w : zW} (hJ : J w) (a1 a2 a3 a4 : Int) (ha1 : -2147483648 ≤ a1 ∧ a1 ≤ 2147483647) (ha2 : -2147483648 ≤ a2 ∧ a2 ≤ 2147483647) (ha3 : -2147483648 ≤ a3 ∧ a3 ≤ 2147483647) (ha4 : -2147483648 ≤ a4 ∧ a4 ≤ 2147483647) : PAIR iX11_elders iX12_elders [.int (Int32.ofInt a1), .int (Int32.ofInt a2), .int (Int32.ofInt a3), .int (Int32.ofInt a4)] w rII := by
  obtain ⟨⟨σ, sz, kp, hT, hM, hI⟩, hX⟩ := hJ
  obtain ⟨mc, ms, r, w1, ⟨⟨τ, hT1, hI1, hK1, hx1, hm1, hs1⟩, v, rfl⟩, run1⟩ := k_elders hT 5 a1 a2 a3 a4 ha1 ha2 ha3 ha4
  have hM1 := mi_keep hM hK1.1 hT1.2.2.2.2
  obtain ⟨mc2, ms2, r2, w2, ⟨⟨rfl, rfl⟩, hS, hM2, v2, rfl⟩, run2⟩ := q_elders hM1 5 a1 a2 a3 a4 ha1 ha2 ha3 ha4
  exact pair_mk hT run1 run2 hT1 (hI1 _ _ hI) hM1 hS.1 hM2 rfl (fun _ _ => rfl) hm1 (by omega) (XT_same hT1 (XT_keep hX hK1) hS) ⟨v, v2, rfl, rfl⟩
theorem pr_play {w : zW} (hJ : J w) (a1 a2 a3 a4 a5 a6 : Int) (ha1 : -2147483648 ≤ a1 ∧ a1 ≤ 2147483647) (ha2 : -2147483648 ≤ a2 ∧ a2 ≤ 2147483647) (ha3 : -2147483648 ≤ a3 ∧ a3 ≤ 2147483647) (ha4 : -2147483648 ≤ a4 ∧ a4 ≤ 2147483647) (ha5 : -2147483648 ≤ a5 ∧ a5 ≤ 2147483647) (ha6 : -2147483648 ≤ a6 ∧ a6 ≤ 2147483647) : PAIR iX11_play iX12_play_ [.int (Int32.ofInt a1), .int (Int32.ofInt a2), .int (Int32.ofInt a3), .int (Int32.ofInt a4), .int (Int32.ofInt a5), .int (Int32.ofInt a6)] w rII := by
  obtain ⟨⟨σ, sz, kp, hT, hM, hI⟩, hX⟩ := hJ
  obtain ⟨mc, ms, r, w1, ⟨⟨τ, hT1, hI1, hK1, hx1, hm1, hs1⟩, v, rfl⟩, run1⟩ := k_play hT 5 a1 a2 a3 a4 a5 a6 ha1 ha2 ha3 ha4 ha5 ha6
  have hM1 := mi_keep hM hK1.1 hT1.2.2.2.2
  obtain ⟨mc2, ms2, r2, w2, ⟨⟨rfl, rfl⟩, hS, hM2, v2, rfl⟩, run2⟩ := q_play hM1 6 a1 a2 a3 a4 a5 a6 ha1 ha2 ha3 ha4 ha5 ha6
  exact pair_mk hT run1 run2 hT1 (hI1 _ _ hI) hM1 hS.1 hM2 rfl (fun _ _ => rfl) hm1 (by omega) (XT_same hT1 (XT_keep hX hK1) hS) ⟨v, v2, rfl, rfl⟩
theorem pr_fact {w : zW} (hJ : J w) (a1 a2 a3 : Int) (ha1 : -2147483648 ≤ a1 ∧ a1 ≤ 2147483647) (ha2 : -2147483648 ≤ a2 ∧ a2 ≤ 2147483647) (ha3 : -2147483648 ≤ a3 ∧ a3 ≤ 2147483647) : PAIR iX11_fact iX12_fact [.int (Int32.ofInt a1), .int (Int32.ofInt a2), .int (Int32.ofInt a3)] w rII := by
  obtain ⟨⟨σ, sz, kp, hT, hM, hI⟩, hX⟩ := hJ
  obtain ⟨mc, ms, r, w1, ⟨⟨τ, hT1, hI1, hK1, hx1, hm1, hs1⟩, v, rfl⟩, run1⟩ := k_fact hT 8 a1 a2 a3 ha1 ha2 ha3
  have hM1 := mi_keep hM hK1.1 hT1.2.2.2.2
  obtain ⟨mc2, ms2, r2, w2, ⟨⟨rfl, rfl⟩, hS, hM2, v2, rfl⟩, run2⟩ := q_fact hM1 8 a1 a2 a3 ha1 ha2 ha3
  exact pair_mk hT run1 run2 hT1 (hI1 _ _ hI) hM1 hS.1 hM2 rfl (fun _ _ => rfl) hm1 (by omega) (XT_same hT1 (XT_keep hX hK1) hS) ⟨v, v2, rfl, rfl⟩
theorem pr_fits {w : zW} (hJ : J w) (a1 a2 a3 a4 : Int) (ha1 : -2147483648 ≤ a1 ∧ a1 ≤ 2147483647) (ha2 : -2147483648 ≤ a2 ∧ a2 ≤ 2147483647) (ha3 : -2147483648 ≤ a3 ∧ a3 ≤ 2147483647) (ha4 : -2147483648 ≤ a4 ∧ a4 ≤ 2147483647) : PAIR iX11_fits iX12_fits [.int (Int32.ofInt a1), .int (Int32.ofInt a2), .int (Int32.ofInt a3), .int (Int32.ofInt a4)] w rII := by
  obtain ⟨⟨σ, sz, kp, hT, hM, hI⟩, hX⟩ := hJ
  obtain ⟨mc, ms, r, w1, ⟨⟨τ, hT1, hI1, hK1, hx1, hm1, hs1⟩, v, rfl⟩, run1⟩ := k_fits hT 5 a1 a2 a3 a4 ha1 ha2 ha3 ha4
  have hM1 := mi_keep hM hK1.1 hT1.2.2.2.2
  obtain ⟨mc2, ms2, r2, w2, ⟨⟨rfl, rfl⟩, hS, hM2, v2, rfl⟩, run2⟩ := q_fits hM1 5 a1 a2 a3 a4 ha1 ha2 ha3 ha4
  exact pair_mk hT run1 run2 hT1 (hI1 _ _ hI) hM1 hS.1 hM2 rfl (fun _ _ => rfl) hm1 (by omega) (XT_same hT1 (XT_keep hX hK1) hS) ⟨v, v2, rfl, rfl⟩
theorem pr_sure {w : zW} (hJ : J w) (a1 a2 a3 a4 : Int) (ha1 : -2147483648 ≤ a1 ∧ a1 ≤ 2147483647) (ha2 : -2147483648 ≤ a2 ∧ a2 ≤ 2147483647) (ha3 : -2147483648 ≤ a3 ∧ a3 ≤ 2147483647) (ha4 : -2147483648 ≤ a4 ∧ a4 ≤ 2147483647) : PAIR iX11_sure iX12_sure [.int (Int32.ofInt a1), .int (Int32.ofInt a2), .int (Int32.ofInt a3), .int (Int32.ofInt a4)] w rII := by
  obtain ⟨⟨σ, sz, kp, hT, hM, hI⟩, hX⟩ := hJ
  obtain ⟨mc, ms, r, w1, ⟨⟨τ, hT1, hI1, hK1, hx1, hm1, hs1⟩, v, rfl⟩, run1⟩ := k_sure hT 5 a1 a2 a3 a4 ha1 ha2 ha3 ha4
  have hM1 := mi_keep hM hK1.1 hT1.2.2.2.2
  obtain ⟨mc2, ms2, r2, w2, ⟨⟨rfl, rfl⟩, hS, hM2, v2, rfl⟩, run2⟩ := q_sure hM1 5 a1 a2 a3 a4 ha1 ha2 ha3 ha4
  exact pair_mk hT run1 run2 hT1 (hI1 _ _ hI) hM1 hS.1 hM2 rfl (fun _ _ => rfl) hm1 (by omega) (XT_same hT1 (XT_keep hX hK1) hS) ⟨v, v2, rfl, rfl⟩
theorem pr_drawn {w : zW} (hJ : J w) (a1 a2 a3 a4 : Int) (ha1 : -2147483648 ≤ a1 ∧ a1 ≤ 2147483647) (ha2 : -2147483648 ≤ a2 ∧ a2 ≤ 2147483647) (ha3 : -2147483648 ≤ a3 ∧ a3 ≤ 2147483647) (ha4 : -2147483648 ≤ a4 ∧ a4 ≤ 2147483647) : PAIR iX11_drawn iX12_drawn [.int (Int32.ofInt a1), .int (Int32.ofInt a2), .int (Int32.ofInt a3), .int (Int32.ofInt a4)] w rII := by
  obtain ⟨⟨σ, sz, kp, hT, hM, hI⟩, hX⟩ := hJ
  obtain ⟨mc, ms, r, w1, ⟨⟨τ, hT1, hI1, hK1, hx1, hm1, hs1⟩, v, rfl⟩, run1⟩ := k_drawn hT 5 a1 a2 a3 a4 ha1 ha2 ha3 ha4
  have hM1 := mi_keep hM hK1.1 hT1.2.2.2.2
  obtain ⟨mc2, ms2, r2, w2, ⟨⟨rfl, rfl⟩, hS, hM2, v2, rfl⟩, run2⟩ := q_drawn hM1 5 a1 a2 a3 a4 ha1 ha2 ha3 ha4
  exact pair_mk hT run1 run2 hT1 (hI1 _ _ hI) hM1 hS.1 hM2 rfl (fun _ _ => rfl) hm1 (by omega) (XT_same hT1 (XT_keep hX hK1) hS) ⟨v, v2, rfl, rfl⟩
theorem pr_kinship {w : zW} (hJ : J w) (a1 a2 a3 : Int) (ha1 : -2147483648 ≤ a1 ∧ a1 ≤ 2147483647) (ha2 : -2147483648 ≤ a2 ∧ a2 ≤ 2147483647) (ha3 : -2147483648 ≤ a3 ∧ a3 ≤ 2147483647) : PAIR iX11_kinship iX12_kinship [.int (Int32.ofInt a1), .int (Int32.ofInt a2), .int (Int32.ofInt a3)] w rEQ := by
  obtain ⟨⟨σ, sz, kp, hT, hM, hI⟩, hX⟩ := hJ
  obtain ⟨mc, ms, r, w1, ⟨⟨τ, hT1, hI1, hK1, hx1, hm1, hs1⟩, v, rfl⟩, run1⟩ := k_kinship hT 8 a1 a2 a3 ha1 ha2 ha3
  have hM1 := mi_keep hM hK1.1 hT1.2.2.2.2
  obtain ⟨mc2, ms2, r2, w2, ⟨⟨rfl, rfl⟩, hS, hM2, v2, rfl⟩, run2⟩ := q_kinship hM1 8 a1 a2 a3 ha1 ha2 ha3
  exact pair_mk hT run1 run2 hT1 (hI1 _ _ hI) hM1 hS.1 hM2 rfl (fun _ _ => rfl) hm1 (by omega) (XT_same hT1 (XT_keep hX hK1) hS) (ea_kinship hT hX hK1 a1 a2 a3 ha1 ha2 ha3 run1 hM1 run2)
theorem pr_shared {w : zW} (hJ : J w) (a1 a2 a3 : Int) (ha1 : -2147483648 ≤ a1 ∧ a1 ≤ 2147483647) (ha2 : -2147483648 ≤ a2 ∧ a2 ≤ 2147483647) (ha3 : -2147483648 ≤ a3 ∧ a3 ≤ 2147483647) : PAIR iX11_shared iX12_shared [.int (Int32.ofInt a1), .int (Int32.ofInt a2), .int (Int32.ofInt a3)] w rII := by
  obtain ⟨⟨σ, sz, kp, hT, hM, hI⟩, hX⟩ := hJ
  obtain ⟨mc, ms, r, w1, ⟨⟨τ, hT1, hI1, hK1, hx1, hm1, hs1⟩, v, rfl⟩, run1⟩ := k_shared hT 6 a1 a2 a3 ha1 ha2 ha3
  have hM1 := mi_keep hM hK1.1 hT1.2.2.2.2
  obtain ⟨mc2, ms2, r2, w2, ⟨⟨rfl, rfl⟩, hS, hM2, v2, rfl⟩, run2⟩ := q_shared hM1 6 a1 a2 a3 ha1 ha2 ha3
  exact pair_mk hT run1 run2 hT1 (hI1 _ _ hI) hM1 hS.1 hM2 rfl (fun _ _ => rfl) hm1 (by omega) (XT_same hT1 (XT_keep hX hK1) hS) ⟨v, v2, rfl, rfl⟩
theorem pr_joined {w : zW} (hJ : J w) (a1 a2 a3 a4 : Int) (ha1 : -2147483648 ≤ a1 ∧ a1 ≤ 2147483647) (ha2 : -2147483648 ≤ a2 ∧ a2 ≤ 2147483647) (ha3 : -2147483648 ≤ a3 ∧ a3 ≤ 2147483647) (ha4 : -2147483648 ≤ a4 ∧ a4 ≤ 2147483647) : PAIR iX11_joined iX12_joined [.int (Int32.ofInt a1), .int (Int32.ofInt a2), .int (Int32.ofInt a3), .int (Int32.ofInt a4)] w rII := by
  obtain ⟨⟨σ, sz, kp, hT, hM, hI⟩, hX⟩ := hJ
  obtain ⟨mc, ms, r, w1, ⟨⟨τ, hT1, hI1, hK1, hx1, hm1, hs1⟩, v, rfl⟩, run1⟩ := k_joined hT 6 a1 a2 a3 a4 ha1 ha2 ha3 ha4
  have hM1 := mi_keep hM hK1.1 hT1.2.2.2.2
  obtain ⟨mc2, ms2, r2, w2, ⟨⟨rfl, rfl⟩, hS, hM2, v2, rfl⟩, run2⟩ := q_joined hM1 5 a1 a2 a3 a4 ha1 ha2 ha3 ha4
  exact pair_mk hT run1 run2 hT1 (hI1 _ _ hI) hM1 hS.1 hM2 rfl (fun _ _ => rfl) hm1 (by omega) (XT_same hT1 (XT_keep hX hK1) hS) ⟨v, v2, rfl, rfl⟩
theorem pr_nearest {w : zW} (hJ : J w) (a1 a2 a3 a4 : Int) (ha1 : -2147483648 ≤ a1 ∧ a1 ≤ 2147483647) (ha2 : -2147483648 ≤ a2 ∧ a2 ≤ 2147483647) (ha3 : -2147483648 ≤ a3 ∧ a3 ≤ 2147483647) (ha4 : -2147483648 ≤ a4 ∧ a4 ≤ 2147483647) : PAIR iX11_nearest iX12_nearest [.int (Int32.ofInt a1), .int (Int32.ofInt a2), .int (Int32.ofInt a3), .int (Int32.ofInt a4)] w rII := by
  obtain ⟨⟨σ, sz, kp, hT, hM, hI⟩, hX⟩ := hJ
  obtain ⟨mc, ms, r, w1, ⟨⟨τ, hT1, hI1, hK1, hx1, hm1, hs1⟩, v, rfl⟩, run1⟩ := k_nearest hT 6 a1 a2 a3 a4 ha1 ha2 ha3 ha4
  have hM1 := mi_keep hM hK1.1 hT1.2.2.2.2
  obtain ⟨mc2, ms2, r2, w2, ⟨⟨rfl, rfl⟩, hS, hM2, v2, rfl⟩, run2⟩ := q_nearest hM1 5 a1 a2 a3 a4 ha1 ha2 ha3 ha4
  exact pair_mk hT run1 run2 hT1 (hI1 _ _ hI) hM1 hS.1 hM2 rfl (fun _ _ => rfl) hm1 (by omega) (XT_same hT1 (XT_keep hX hK1) hS) ⟨v, v2, rfl, rfl⟩
theorem pr_settles {w : zW} (hJ : J w) (a1 a2 a3 : Int) (ha1 : -2147483648 ≤ a1 ∧ a1 ≤ 2147483647) (ha2 : -2147483648 ≤ a2 ∧ a2 ≤ 2147483647) (ha3 : -2147483648 ≤ a3 ∧ a3 ≤ 2147483647) : PAIR iX11_settles iX12_settles [.int (Int32.ofInt a1), .int (Int32.ofInt a2), .int (Int32.ofInt a3)] w rII := by
  obtain ⟨⟨σ, sz, kp, hT, hM, hI⟩, hX⟩ := hJ
  obtain ⟨mc, ms, r, w1, ⟨⟨τ, hT1, hI1, hK1, hx1, hm1, hs1⟩, v, rfl⟩, run1⟩ := k_settles hT 5 a1 a2 a3 ha1 ha2 ha3
  have hM1 := mi_keep hM hK1.1 hT1.2.2.2.2
  obtain ⟨mc2, ms2, r2, w2, ⟨⟨rfl, rfl⟩, hS, hM2, v2, rfl⟩, run2⟩ := q_settles hM1 5 a1 a2 a3 ha1 ha2 ha3
  exact pair_mk hT run1 run2 hT1 (hI1 _ _ hI) hM1 hS.1 hM2 rfl (fun _ _ => rfl) hm1 (by omega) (XT_same hT1 (XT_keep hX hK1) hS) ⟨v, v2, rfl, rfl⟩
theorem pr_unmade {w : zW} (hJ : J w) (a1 a2 : Int) (ha1 : -2147483648 ≤ a1 ∧ a1 ≤ 2147483647) (ha2 : -2147483648 ≤ a2 ∧ a2 ≤ 2147483647) : PAIR iX11_unmade iX12_unmade [.int (Int32.ofInt a1), .int (Int32.ofInt a2)] w rII := by
  obtain ⟨⟨σ, sz, kp, hT, hM, hI⟩, hX⟩ := hJ
  obtain ⟨mc, ms, r, w1, ⟨⟨τ, hT1, hI1, hK1, hx1, hm1, hs1⟩, v, rfl⟩, run1⟩ := k_unmade hT 6 a1 a2 ha1 ha2
  have hM1 := mi_keep hM hK1.1 hT1.2.2.2.2
  obtain ⟨mc2, ms2, r2, w2, ⟨⟨rfl, rfl⟩, hS, hM2, v2, rfl⟩, run2⟩ := q_unmade hM1 5 a1 a2 ha1 ha2
  exact pair_mk hT run1 run2 hT1 (hI1 _ _ hI) hM1 hS.1 hM2 rfl (fun _ _ => rfl) hm1 (by omega) (XT_same hT1 (XT_keep hX hK1) hS) ⟨v, v2, rfl, rfl⟩
theorem pr_silenced {w : zW} (hJ : J w) (a1 a2 a3 : Int) (ha1 : -2147483648 ≤ a1 ∧ a1 ≤ 2147483647) (ha2 : -2147483648 ≤ a2 ∧ a2 ≤ 2147483647) (ha3 : -2147483648 ≤ a3 ∧ a3 ≤ 2147483647) : PAIR iX11_silenced iX12_silenced [.int (Int32.ofInt a1), .int (Int32.ofInt a2), .int (Int32.ofInt a3)] w rII := by
  obtain ⟨⟨σ, sz, kp, hT, hM, hI⟩, hX⟩ := hJ
  obtain ⟨mc, ms, r, w1, ⟨⟨τ, hT1, hI1, hK1, hx1, hm1, hs1⟩, v, rfl⟩, run1⟩ := k_silenced hT 6 a1 a2 a3 ha1 ha2 ha3
  have hM1 := mi_keep hM hK1.1 hT1.2.2.2.2
  obtain ⟨mc2, ms2, r2, w2, ⟨⟨rfl, rfl⟩, hS, hM2, v2, rfl⟩, run2⟩ := q_silenced hM1 5 a1 a2 a3 ha1 ha2 ha3
  exact pair_mk hT run1 run2 hT1 (hI1 _ _ hI) hM1 hS.1 hM2 rfl (fun _ _ => rfl) hm1 (by omega) (XT_same hT1 (XT_keep hX hK1) hS) ⟨v, v2, rfl, rfl⟩
theorem pr_circles {w : zW} (hJ : J w) (a1 a2 : Int) (ha1 : -2147483648 ≤ a1 ∧ a1 ≤ 2147483647) (ha2 : -2147483648 ≤ a2 ∧ a2 ≤ 2147483647) : PAIR iX11_circles iX12_circles [.int (Int32.ofInt a1), .int (Int32.ofInt a2)] w rII := by
  obtain ⟨⟨σ, sz, kp, hT, hM, hI⟩, hX⟩ := hJ
  obtain ⟨mc, ms, r, w1, ⟨⟨τ, hT1, hI1, hK1, hx1, hm1, hs1⟩, v, rfl⟩, run1⟩ := k_circles hT 4 a1 a2 ha1 ha2
  have hM1 := mi_keep hM hK1.1 hT1.2.2.2.2
  obtain ⟨mc2, ms2, r2, w2, ⟨⟨rfl, rfl⟩, hS, hM2, v2, rfl⟩, run2⟩ := q_circles hM1 5 a1 a2 ha1 ha2
  exact pair_mk hT run1 run2 hT1 (hI1 _ _ hI) hM1 hS.1 hM2 rfl (fun _ _ => rfl) hm1 (by omega) (XT_same hT1 (XT_keep hX hK1) hS) ⟨v, v2, rfl, rfl⟩
theorem pr_count {w : zW} (hJ : J w) (a1 : Int) (ha1 : -2147483648 ≤ a1 ∧ a1 ≤ 2147483647) : PAIR iX11_count iX12_count [.int (Int32.ofInt a1)] w rII := by
  obtain ⟨⟨σ, sz, kp, hT, hM, hI⟩, hX⟩ := hJ
  obtain ⟨mc, ms, r, w1, ⟨⟨τ, hT1, hI1, hK1, hx1, hm1, hs1⟩, v, rfl⟩, run1⟩ := k_count hT 8 a1 ha1
  have hM1 := mi_keep hM hK1.1 hT1.2.2.2.2
  obtain ⟨mc2, ms2, r2, w2, ⟨⟨rfl, rfl⟩, hS, hM2, v2, rfl⟩, run2⟩ := q_count hM1 10 a1 ha1
  exact pair_mk hT run1 run2 hT1 (hI1 _ _ hI) hM1 hS.1 hM2 rfl (fun _ _ => rfl) hm1 (by omega) (XT_same hT1 (XT_keep hX hK1) hS) ⟨v, v2, rfl, rfl⟩
theorem pr_image {w : zW} (hJ : J w) (a1 : Int) (ha1 : -2147483648 ≤ a1 ∧ a1 ≤ 2147483647) : PAIR iX11_image iX12_image [.int (Int32.ofInt a1)] w rEQ := by
  obtain ⟨⟨σ, sz, kp, hT, hM, hI⟩, hX⟩ := hJ
  obtain ⟨mc, ms, r, w1, hP, run1⟩ := k_image hT hI 9 a1 ha1
  rcases hP with ⟨hc, ⟨⟨τ, hT1⟩, hI1, hK1, hm1, hs1⟩, rfl⟩ | ⟨hc, ⟨⟨τ, hT1⟩, hI1, hK1, hm1, hs1⟩, rfl⟩
  · skip
    have hM1 := mi_keep hM hK1 hT1.2.2.2.2
    obtain ⟨mc2, ms2, r2, w2, ⟨⟨rfl, rfl⟩, hS, v2, k16, k44, hM2, rfl, p0, p1, p2⟩, run2⟩ := q_image hM1 9 a1 ha1
    have e : v2 = 0 := by omega
    subst e
    obtain ⟨-, rfl⟩ : (0 : Int) = 0 ∧ k44 = kp := p1.resolve_right (fun h => by omega)
    obtain ⟨-, rfl⟩ : (0 : Int) = 0 ∧ k16 = sz := p2.resolve_right (fun h => by omega)
    exact pair_mk hT run1 run2 hT1 hI1 hM1 hS hM2 rfl (fun _ _ => rfl) hm1 hs1 (xs_image hT hX hI a1 ha1 run1 hM1 run2) ⟨_, rfl, rfl⟩
  · skip
    have hM1 := mi_keep hM hK1 hT1.2.2.2.2
    obtain ⟨mc2, ms2, r2, w2, ⟨⟨rfl, rfl⟩, hS, v2, k16, k44, hM2, rfl, p0, p1, p2⟩, run2⟩ := q_image hM1 9 a1 ha1
    have e : v2 = 1 := by omega
    subst e
    obtain ⟨-, rfl⟩ := p1.resolve_left (fun h => by omega)
    obtain ⟨-, rfl⟩ := p2.resolve_left (fun h => by omega)
    refine pair_mk hT run1 run2 hT1 hI1 hM1 hS hM2 ?_ (fun k hk => ?_) hm1 hs1 (xs_image hT hX hI a1 ha1 run1 hM1 run2) ⟨_, rfl, rfl⟩
    · unfold cpR
      rw [if_neg (by omega)]
    · have ec : k ≠ a1.toNat → cpR sz 1 0 (a1 + 1).toNat 1 (k + 1) = sz (k + 1) := by
        intro e
        unfold cpR
        rw [if_neg (by omega)]
      have ed : k = a1.toNat → cpR sz 1 0 (a1 + 1).toNat 1 (k + 1) = sz 0 := by
        intro e
        unfold cpR
        rw [if_pos (by omega)]
        congr 1
        omega
      unfold upm
      by_cases e : k = a1.toNat
      · rw [if_pos e]
        unfold mOf
        rw [ed e, e, pk_us, if_neg (by decide)]
      · rw [if_neg e]
        unfold mOf
        rw [ec e, pk_un e]
theorem pr_again {w : zW} (hJ : J w) (a1 : Int) (ha1 : -2147483648 ≤ a1 ∧ a1 ≤ 2147483647) : PAIR iX11_again iX12_again [.int (Int32.ofInt a1)] w rEQ := by
  obtain ⟨⟨σ, sz, kp, hT, hM, hI⟩, hX⟩ := hJ
  obtain ⟨mc, ms, r, w1, hP, run1⟩ := k_again hT hI 9 a1 ha1
  rcases hP with ⟨hc, ⟨⟨τ, hT1⟩, hI1, hK1, hm1, hs1⟩, rfl⟩ | ⟨x, hc, hx, ⟨⟨τ, hT1⟩, hI1, hK1, hm1, hs1⟩, rfl⟩
  · skip
    have hM1 := mi_keep hM hK1 hT1.2.2.2.2
    obtain ⟨mc2, ms2, r2, w2, ⟨⟨rfl, rfl⟩, hS, v2, k16, k44, hM2, rfl, p0, p1, rfl⟩, run2⟩ := q_again hM1 9 a1 ha1
    have e : v2 = 0 := by
      rcases hc with hc | hc
      · omega
      · unfold mOf at hc
        split at hc
        · omega
        · cases hc
    subst e
    obtain ⟨-, rfl⟩ : (0 : Int) = 0 ∧ k16 = sz := p1.resolve_right (fun h => by omega)
    exact pair_mk hT run1 run2 hT1 hI1 hM1 hS hM2 rfl (fun _ _ => rfl) hm1 hs1 (xs_again hT hX a1 ha1 run1 hM1 run2) ⟨_, rfl, rfl⟩
  · skip
    have hM1 := mi_keep hM hK1 hT1.2.2.2.2
    obtain ⟨mc2, ms2, r2, w2, ⟨⟨rfl, rfl⟩, hS, v2, k16, k44, hM2, rfl, p0, p1, rfl⟩, run2⟩ := q_again hM1 9 a1 ha1
    unfold mOf at hx
    split at hx
    · cases hx
    · rename_i hne
      cases hx
      have e : v2 = 1 := by omega
      subst e
      obtain ⟨-, rfl⟩ := p1.resolve_left (fun h => by omega)
      refine pair_mk hT run1 run2 hT1 hI1 hM1 hS hM2 ?_ (fun k hk => ?_) hm1 hs1 (xs_again hT hX a1 ha1 run1 hM1 run2) ⟨_, rfl, rfl⟩
      · unfold cpR
        rw [if_pos (by omega)]
        congr 2
        omega
      · have ec : cpR sz 1 (a1 + 1).toNat 0 1 (k + 1) = sz (k + 1) := by
          unfold cpR
          rw [if_neg (by omega)]
        unfold mOf
        rw [ec]
