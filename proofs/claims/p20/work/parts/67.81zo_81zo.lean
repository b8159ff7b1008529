/-! THE CALLS ON LEVELS. -/
theorem rx_dl {τ : Nat → Nat} {w : zW} {p z q : Nat} (hw : CI τ w) (hq : τ q = 70) (hp : τ p = 50) (hz : τ z = 20) : (q + 6 < p ∨ p + 1 < q) ∧ (q + 6 < z ∨ z + 4 < q) ∧ (z + 4 < p ∨ p + 1 < z) := by
  obtain ⟨_, _, _, -, -, r1, -⟩ := CI_o50 hw hp
  obtain ⟨b1, b2, b3, b4⟩ := CI_r20 hw hz
  obtain ⟨_, _, _, _, -, -, -, -, -, c1, c2, c3, c4, c5, c6⟩ := CI_o70 hw hq
  have ne : ∀ {x y : Nat}, τ x ≠ τ y → x ≠ y := fun h e => h (by rw [e])
  have hQ : ∀ x, (τ x < 70) → x < q ∨ q + 6 < x := fun x hx => by
    have q0 : x ≠ q := ne (by omega)
    have q1 : x ≠ q + 1 := ne (by omega)
    have q2 : x ≠ q + 2 := ne (by omega)
    have q3 : x ≠ q + 3 := ne (by omega)
    have q4 : x ≠ q + 4 := ne (by omega)
    have q5 : x ≠ q + 5 := ne (by omega)
    have q6 : x ≠ q + 6 := ne (by omega)
    omega
  have hZ : ∀ x, (50 ≤ τ x) → x < z ∨ z + 4 < x := fun x hx => by
    have q0 : x ≠ z := ne (by omega)
    have q1 : x ≠ z + 1 := ne (by omega)
    have q2 : x ≠ z + 2 := ne (by omega)
    have q3 : x ≠ z + 3 := ne (by omega)
    have q4 : x ≠ z + 4 := ne (by omega)
    omega
  have m0 := hQ p (by omega)
  have m1 := hQ (p + 1) (by omega)
  have m2 := hZ p (by omega)
  have m3 := hZ (p + 1) (by omega)
  have z0 := hQ z (by omega)
  have z1 := hQ (z + 1) (by omega)
  have z2 := hQ (z + 2) (by omega)
  have z3 := hQ (z + 3) (by omega)
  have z4 := hQ (z + 4) (by omega)
  omega
theorem lv_open {τ : Nat → Nat} {w : zW} (hT : TOP τ w) {q : Nat} (hq : τ q = 70) (hl : LVp w q) : ∃ (yo : Option Nat) (y1 y2 y3 : Int) (gS gW g3 g4 g5 g6 : Nat → Int32), zix w q = some (.inr (2, [va_rf yo, .int (Int32.ofInt y1), .int (Int32.ofInt y2), .int (Int32.ofInt y3), .ref (q + 1), .ref (q + 2), .ref (q + 3), .ref (q + 4), .ref (q + 5), .ref (q + 6)])) ∧ zix w (q + 1) = some (.inl (1, 11, .inl gS)) ∧ zix w (q + 2) = some (.inl (1, 10, .inl gW)) ∧ zix w (q + 3) = some (.inl (1, 25750, .inl g3)) ∧ zix w (q + 4) = some (.inl (1, 25750, .inl g4)) ∧ zix w (q + 5) = some (.inl (1, 25750, .inl g5)) ∧ zix w (q + 6) = some (.inl (1, 5461, .inl g6)) ∧ ∀ t : Int, 0 ≤ t → t ≤ 5460 → tBy g6 t = -1 := by
  obtain ⟨yo, y1, y2, y3, hO, -, -, -, -, c1, c2, c3, c4, c5, c6⟩ := CI_o70 hT.1 hq
  obtain ⟨g1, h1, -⟩ := CI_ar hT.1 (q := q + 1) (by rw [c1]; rfl)
  obtain ⟨g2, h2, -⟩ := CI_ar hT.1 (q := q + 2) (by rw [c2]; rfl)
  obtain ⟨g3, h3, -⟩ := CI_ar hT.1 (q := q + 3) (by rw [c3]; rfl)
  obtain ⟨g4, h4, -⟩ := CI_ar hT.1 (q := q + 4) (by rw [c4]; rfl)
  obtain ⟨g5, h5, -⟩ := CI_ar hT.1 (q := q + 5) (by rw [c5]; rfl)
  obtain ⟨g6, h6, hn⟩ := hT.2.2.1.2 hT.2.1 q hl
  exact ⟨yo, y1, y2, y3, g1, g2, g3, g4, g5, g6, hO, h1, h2, h3, h4, h5, h6, fun t t0 t1 => hn t.toNat (by omega)⟩
noncomputable def RXPL (dd : Nat) (w : zW) (a dft : Int) (V : Int → Int → (Int → Int → Int) → Int) (r : Option Value) : Prop := ∃ (o : Option Nat) (wm : zW), (∀ Q : zQ, Q (some (va_rf o)) w → zCl zTab (dd + 1) iX11_bookAt [.ref 0, .int (Int32.ofInt a)] w 0 0 Q) ∧ (∀ q, TC w q → zix wm q = zix w q) ∧ ((o = none ∧ r = some (.long (Int64.ofInt dft))) ∨ ∃ (z : Nat) (X : tpB), o = some z ∧ OBB wm z X ∧ bkXA wm z X ∧ bkX1 X ∧ (0 ≤ bkB X ∧ bkB X ≤ 5460) ∧ r = some (.long (Int64.ofInt (V (bkB X) (bkN X) (bkF X)))))
theorem rx_retL {e v : Int} (h : e = v) : (some (.long (Int64.ofInt e)) : Option Value) = some (.long (Int64.ofInt v)) := by rw [h]
theorem kx_mean {ρ : Nat → Nat} {w : zW} (hT : TOP ρ w) (d : Nat) (a1 a2 a3 : Int) (hr0 : (-2147483648 ≤ a1 ∧ a1 ≤ 2147483647)) (hr1 : (-2147483648 ≤ a2 ∧ a2 ≤ 2147483647)) (hr2 : (-2147483648 ≤ a3 ∧ a3 ≤ 2147483647)) : DET zTab (d + 7) iX11_mean [.ref 0, .int (Int32.ofInt a1), .int (Int32.ofInt a2), .int (Int32.ofInt a3)] w (fun _ _ r _ => RXPL (d + 4) w a1 (-1) (fun x0 nn F => meaV F x0 nn a2 a3) r) := by
  obtain ⟨y6, y7, h0, -⟩ := top_o hT
  obtain ⟨mc1, ms1, re1, wm, ⟨σ, o, hA1, hbk, hr_1⟩, hrun1⟩ := a_readingsAtX hT (d + 3) a1 hr0
  have hT1 := hA1.1
  have hK := hA1.2.2.1.2
  refine z_rel (M := kX11_mean) _ rfl (Nat.le_of_ble_eq_true rfl) fun R hR0 => ?_
  have hR : ∀ {pc : Nat} {L : zL} {S : List Value} {w1 : zW} {k n : Nat}, zsc (zCl zTab (d + 6)) (d + 6) kX11_mean none zTab k n ((fun _ _ r _ => RXPL (d + 4) w a1 (-1) (fun x0 nn F => meaV F x0 nn a2 a3) r) k n) pc L S w1 k n R → R (pc, L, S, w1, k, n) := fun h => hR0 _ _ (Nat.le_refl _) (Nat.le_refl _) h
  iterate 2 refine hR (?_ : R (_, _, _, _, _, _))
  refine hR0 (0 + mc1) (0 + ms1) (Nat.le_add_right _ _) (Nat.le_add_right _ _) (c_obj h0 (zcall_i mc1 ms1 (Nat.le_refl _) (Nat.le_refl _) (hrun1 _ ?_)))
  rcases hr_1 with ⟨rfl, rfl⟩ | ⟨z, p, z2, z3, rfl, rfl, hp, hz, hO⟩
  · skip
    refine (?_ : R (_, _, .null :: [], wm, 0 + mc1, 0 + ms1))
    iterate 3 refine hR (?_ : R (_, _, _, _, _, _))
    refine hR (tl_c (y := Int64.ofInt ((-1))) (by decide) ?_)
    exact hR (zret_i rfl (Nat.le_refl _) trivial ⟨none, wm, hbk, hK, Or.inl ⟨rfl, rfl⟩⟩)
  · skip
    refine (?_ : R (_, _, .ref p :: [], wm, 0 + mc1, 0 + ms1))
    obtain ⟨x0, nn, x2, gk, gs, gi, gn, gm, gm2, hB, hX, hXA, hx1, hx0, hAF, hm2, hm3, hds, hRD⟩ := rx_open hT1.1 hp hz hO
    iterate 4 refine hR (?_ : R (_, _, _, _, _, _))
    refine hR (zcall_i 0 0 (Nat.le_refl _) (Nat.le_refl _) (c_isSpan _ _ a2 (by omega) _ fun v1 hp2 => ?_))
    refine (?_ : R (_, _, .int (Int32.ofInt v1) :: [], wm, 0 + mc1, 0 + ms1))
    refine hR (k_eq (by omega) (fun hc3 => ?_) (fun hc3 => ?_))
    · skip
      refine hR (tl_c (y := Int64.ofInt ((-1))) (by decide) ?_)
      exact hR (zret_i rfl (Nat.le_refl _) trivial ⟨some z, wm, hbk, hK, Or.inr ⟨z, (0, 0, x0, nn, x2, gk, gs, gi, gn), rfl, hX, hXA, hx1, hx0, rx_retL (show (-1) = meaV (rdF gk gs gi gn) x0 nn a2 a3 from (mea_n (by omega)).symm)⟩⟩)
    refine hR (?_ : R (_, _, _, _, _, _))
    refine hR (k_le (by omega) (fun hc4 => ?_) (fun hc4 => ?_))
    · skip
      refine hR (?_ : R (_, _, _, _, _, _))
      obtain ⟨y6w, y7w, h0w, -⟩ := top_o hT1
      obtain ⟨mc2, ms2, re2, w2, ⟨τ, q, hA2, hre2, hq, hlv, hfr2⟩, hrun2⟩ := a_levelsThereX hT1 (d + 3)
      subst hre2
      refine hR0 (0 + mc1 + mc2) (0 + ms1 + ms2) (Nat.le_add_right _ _) (Nat.le_add_right _ _) (c_obj h0w (zcall_i mc2 ms2 (Nat.le_refl _) (Nat.le_refl _) (hrun2 _ ?_)))
      refine (?_ : R (_, _, .ref q :: [], w2, 0 + mc1 + mc2, 0 + ms1 + ms2))
      have hT2 := hA2.1
      have hx2 := hA2.2.2.2.1
      obtain ⟨kp2, kz2, kk2⟩ := rx_keep hT1 hfr2 hp hz (Or.inl hT1.2.1)
      have hOw2 := kp2.trans hO
      have hBw2 := (kz2 z (by omega) (by omega)).trans hB
      have hAFw2 := AFK_fr hAF (fun j hj => rx_j kk2 kz2 hj)
      have hFO := AFK_ok hAF hx1
      have hpT := (hx2 p (by rw [hp]; decide)).trans hp
      have hzT := (hx2 z (by rw [hz]; decide)).trans hz
      have hdw := rx_dl hT2.1 hq hpT hzT
      obtain ⟨yo, y1, y2, y3, gS, gW, g3, g4, g5, g6, hQ0, hQ1, hQ2, hQ3, hQ4, hQ5, hQ6, hN6⟩ := lv_open hT2 hq hlv
      iterate 2 refine hR (?_ : R (_, _, _, _, _, _))
      refine hR (c_obj hQ0 (zcall_i 0 0 (Nat.le_refl _) (Nat.le_refl _) (x_wantNothingI _ _ _ _ _ _ _ _ hQ0 hQ2 _ fun T2_5 w6 gg7 hC8 hp9 => ?_)))
      have hC11 := (gg7.2 p (by (try dsimp only); omega)).trans hOw2
      have hC12 := (gg7.2 z (by (try dsimp only); omega)).trans hBw2
      have hC13 := AFK_fr hAFw2 (fun j hj => gg7.2 j (by (try dsimp only); omega))
      have hC14 := (gg7.2 q (by (try dsimp only); omega)).trans hQ0
      have hC15 := (gg7.2 (q + 1) (by (try dsimp only); omega)).trans hQ1
      have hC16 := (gg7.2 (q + 3) (by (try dsimp only); omega)).trans hQ3
      have hC17 := (gg7.2 (q + 4) (by (try dsimp only); omega)).trans hQ4
      have hC18 := (gg7.2 (q + 5) (by (try dsimp only); omega)).trans hQ5
      have hC19 := (gg7.2 (q + 6) (by (try dsimp only); omega)).trans hQ6
      refine (?_ : R (_, _, [], w6, 0 + mc1 + mc2, 0 + ms1 + ms2))
      iterate 4 refine hR (?_ : R (_, _, _, _, _, _))
      refine hR (c_obj hC11 (zcall_i 0 0 (Nat.le_refl _) (Nat.le_refl _) (x_allI _ _ _ _ _ _ _ _ _ hC11 hC12 (by omega) _ fun v20 hp21 => ?_)))
      subst hp21
      refine (?_ : R (_, _, .int (Int32.ofInt (bShl 1 nn - 1)) :: .int (Int32.ofInt a2) :: .ref p :: .ref q :: [], w6, 0 + mc1 + mc2, 0 + ms1 + ms2))
      have hsb := shl_b hx1
      have ha0 := all_0 hx1
      refine hR (?_ : R (_, _, _, _, _, _))
      refine hR (c_obj hC11 (zcall_i 0 0 (Nat.le_refl _) (Nat.le_refl _) (x_allI _ _ _ _ _ _ _ _ _ hC11 hC12 (by omega) _ fun v22 hp23 => ?_)))
      subst hp23
      refine (?_ : R (_, _, .int (Int32.ofInt (bShl 1 nn - 1)) :: .int (Int32.ofInt (bShl 1 nn - 1)) :: .int (Int32.ofInt a2) :: .ref p :: .ref q :: [], w6, 0 + mc1 + mc2, 0 + ms1 + ms2))
      have hsb := shl_b hx1
      have ha0 := all_0 hx1
      refine hR (c_obj hC14 (zcall_i 0 0 (Nat.le_refl _) (Nat.le_refl _) (x_spreadI _ _ _ _ _ _ _ _ _ _ _ _ _ _ _ _ _ _ _ _ _ _ _ hC14 hC15 hC8 hC16 hC17 hC19 hC11 hC12 hC13 (by omega) hds hdw (by omega) hx1 hFO hx0 hN6 _ fun T1_24 T3_25 T4_26 T6_27 w28 gg29 hC30 hC31 hC32 hC33 hC34 hC35 hp36 => ?_)))
      have hC38 := (gg29.2 p (by (try dsimp only); omega)).trans hC11
      have hC39 := (gg29.2 z (by (try dsimp only); omega)).trans hC12
      have hC40 := (gg29.2 (q + 2) (by (try dsimp only); omega)).trans hC8
      have hC41 := (gg29.2 (q + 5) (by (try dsimp only); omega)).trans hC18
      refine (?_ : R (_, _, [], w28, 0 + mc1 + mc2, 0 + ms1 + ms2))
      have hSP := hp36
      have hok : ∀ L t : Int, 0 ≤ L → L ≤ 9 → okW T2_5 L t = true := fun L t l0 l1 => okW_t (Or.inl (hp9 L l0 l1))
      have hMA := hM_all hx1 (rfl : bShl 1 nn - 1 = bShl 1 nn - 1)
      have hR1 : 0 < a2 → nn ≠ 0 := fun z => by omega
      have hsn := spq_r hSP (lv := a2) (by omega) (by omega) (by omega)
      refine hR (?_ : R (_, _, _, _, _, _))
      refine hR (c_obj hC30 (zcall_i 0 0 (Nat.le_refl _) (Nat.le_refl _) (x_endByDriftI _ _ _ _ _ _ _ _ _ _ _ _ _ _ _ _ hC30 hC31 hC32 hC41 hC38 hC39 (by omega) hsn (fun j j0 j1 => (spq_x hSP (by omega) (by omega) j0 j1).1) hx0 ⟨hdw.1, hdw.2.1⟩ _ fun T5_42 w43 gg44 hC45 hp46 => ?_)))
      have hC48 := (gg44.2 p (by (try dsimp only); omega)).trans hC38
      have hC49 := (gg44.2 z (by (try dsimp only); omega)).trans hC39
      have hC50 := AFK_fr hC35 (fun j hj => gg44.2 j (by (try dsimp only); omega))
      have hC51 := (gg44.2 q (by (try dsimp only); omega)).trans hC30
      have hC52 := (gg44.2 (q + 1) (by (try dsimp only); omega)).trans hC31
      have hC53 := (gg44.2 (q + 2) (by (try dsimp only); omega)).trans hC40
      have hC54 := (gg44.2 (q + 3) (by (try dsimp only); omega)).trans hC32
      have hC55 := (gg44.2 (q + 4) (by (try dsimp only); omega)).trans hC33
      have hC56 := (gg44.2 (q + 6) (by (try dsimp only); omega)).trans hC34
      refine (?_ : R (_, _, [], w43, 0 + mc1 + mc2, 0 + ms1 + ms2))
      have h5 := hp46
      have hmw := mea_w hSP (by omega) (by omega)
      refine hR (?_ : R (_, _, _, _, _, _))
      refine hR (c_obj hC51 (zcall_i 0 0 (Nat.le_refl _) (Nat.le_refl _) (x_sumOfEndsI _ _ _ _ _ _ _ _ _ _ hC51 hC52 hC55 hC45 (by omega) hsn hmw.2 (fun i i0 i1 => by rw [h5 i i0 i1]; exact dft_r) hmw.1 _ fun v57 hp58 hp59 => ?_)))
      refine (?_ : R (_, _, .long (Int64.ofInt v57) :: [], w43, 0 + mc1 + mc2, 0 + ms1 + ms2))
      have hSu : v57 = saF (rdF gk gs gi gn) nn (fun t => dft t x0) a2.toNat x0 := hp58.trans ((mea_s hSP (by omega) hFO hx1.1 (by omega) hMA hx0 (D := fun t => dft t x0) h5).trans (on_sa hok (by omega) _ _ (by omega)))
      have hSr := hp59
      iterate 2 refine hR (?_ : R (_, _, _, _, _, _))
      refine hR (c_obj hC51 (zcall_i 0 0 (Nat.le_refl _) (Nat.le_refl _) (x_rowsI _ _ _ _ _ _ _ _ _ hC51 hC52 hC55 (by omega) hsn (fun i i0 i1 => (hmw.2 i i0 i1).1) hmw.1 _ fun v60 hp61 hp62 => ?_)))
      refine (?_ : R (_, _, .int (Int32.ofInt v60) :: [], w43, 0 + mc1 + mc2, 0 + ms1 + ms2))
      have hRw : v60 = rPw nn a2.toNat := by
        have h9 := mea_s (g := fun _ => 1) (D := fun _ => 1) hSP (by omega) hFO hx1.1 (by omega) hMA hx0 (fun i _ _ => rfl)
        rw [on_sa hok (by omega) _ _ (by omega), sa_1 hx1.1] at h9
        rw [← h9, hp61]
        exact sm_cg (fun j _ _ => (Int.mul_one _).symm)
      have hRr := hp62
      have hRp : 0 < v60 := by
        rw [hRw]
        by_cases z : 0 < a2
        · exact rp_p (by have := hR1 z; omega) _
        · rw [show a2.toNat = 0 by omega]
          exact (show (0 : Int) < 1 by decide)
      refine hR (tl_c (i2l_e (by exact ⟨by omega, by omega⟩)) ?_)
      iterate 3 refine hR (?_ : R (_, _, _, _, _, _))
      refine hR (zcall_i 0 0 (Nat.le_refl _) (Nat.le_refl _) (x_commonI _ _ _ _ (by omega) (by omega) _ fun v63 hp64 => ?_))
      refine (?_ : R (_, _, .long (Int64.ofInt v63) :: [], w43, 0 + mc1 + mc2, 0 + ms1 + ms2))
      have hg1 := gc_p (a := v57) (b := v60) (Or.inr hRp)
      have hg2 := gc_leb (a := v57) (b := v60) hRp
      have hgv := hp64
      iterate 4 refine hR (?_ : R (_, _, _, _, _, _))
      have hle65 := li_t (e := v63) (by omega) (by omega)
      refine hR (x_lcmp (a := 0) (by decide) (fun hc66 => ?_) (fun hc66 => ?_))
      rotate_left
      · skip
        refine hR (tl_c (y := Int64.ofInt ((-1))) (by decide) ?_)
        exact hR (zret_i rfl (Nat.le_refl _) trivial ⟨some z, wm, hbk, hK, Or.inr ⟨z, (0, 0, x0, nn, x2, gk, gs, gi, gn), rfl, hX, hXA, hx1, hx0, rx_retL (show (-1) = meaV (rdF gk gs gi gn) x0 nn a2 a3 from (by exfalso; omega))⟩⟩)
      refine hR (?_ : R (_, _, _, _, _, _))
      refine hR (k_eq (by omega) (fun hc67 => ?_) (fun hc67 => ?_))
      · skip
        iterate 2 refine hR (?_ : R (_, _, _, _, _, _))
        refine hR (And.intro (li_ne (by omega) (by omega)) (tl_c (li_div (by omega) (by omega) (by omega) (by omega)) ?_))
        exact hR (zret_i rfl (Nat.le_refl _) trivial ⟨some z, wm, hbk, hK, Or.inr ⟨z, (0, 0, x0, nn, x2, gk, gs, gi, gn), rfl, hX, hXA, hx1, hx0, rx_retL (show v57 / v63 = meaV (rdF gk gs gi gn) x0 nn a2 a3 from (by rw [mea_0 (by omega) hR1 (by omega), ← hSu, ← hRw, gc_c, ← hgv]))⟩⟩)
      iterate 2 refine hR (?_ : R (_, _, _, _, _, _))
      refine hR (And.intro (li_ne (by omega) (by omega)) (tl_c (li_div (by omega) (by omega) (by omega) (by omega)) ?_))
      refine hR (?_ : R (_, _, _, _, _, _))
      exact hR (zret_i rfl (Nat.le_refl _) trivial ⟨some z, wm, hbk, hK, Or.inr ⟨z, (0, 0, x0, nn, x2, gk, gs, gi, gn), rfl, hX, hXA, hx1, hx0, rx_retL (show v60 / v63 = meaV (rdF gk gs gi gn) x0 nn a2 a3 from (by rw [mea_1 (by omega) hR1 (by omega), ← hSu, ← hRw, gc_c, ← hgv]))⟩⟩)
    refine hR (?_ : R (_, _, _, _, _, _))
    refine hR (c_obj hO (zcall_i 0 0 (Nat.le_refl _) (Nat.le_refl _) (x_allI _ _ _ _ _ _ _ _ _ hO hB (by omega) _ fun v68 hp69 => ?_)))
    subst hp69
    refine (?_ : R (_, _, .int (Int32.ofInt (bShl 1 nn - 1)) :: [], wm, 0 + mc1, 0 + ms1))
    have hsb := shl_b hx1
    have ha0 := all_0 hx1
    refine hR (k_ne (by omega) (fun hc70 => ?_) (fun hc70 => ?_))
    rotate_left
    · skip
      refine hR (tl_c (y := Int64.ofInt ((-1))) (by decide) ?_)
      exact hR (zret_i rfl (Nat.le_refl _) trivial ⟨some z, wm, hbk, hK, Or.inr ⟨z, (0, 0, x0, nn, x2, gk, gs, gi, gn), rfl, hX, hXA, hx1, hx0, rx_retL (show (-1) = meaV (rdF gk gs gi gn) x0 nn a2 a3 from (mea_n (by omega)).symm)⟩⟩)
    refine hR (?_ : R (_, _, _, _, _, _))
    obtain ⟨y6w, y7w, h0w, -⟩ := top_o hT1
    obtain ⟨mc2, ms2, re2, w2, ⟨τ, q, hA2, hre2, hq, hlv, hfr2⟩, hrun2⟩ := a_levelsThereX hT1 (d + 3)
    subst hre2
    refine hR0 (0 + mc1 + mc2) (0 + ms1 + ms2) (Nat.le_add_right _ _) (Nat.le_add_right _ _) (c_obj h0w (zcall_i mc2 ms2 (Nat.le_refl _) (Nat.le_refl _) (hrun2 _ ?_)))
    refine (?_ : R (_, _, .ref q :: [], w2, 0 + mc1 + mc2, 0 + ms1 + ms2))
    have hT2 := hA2.1
    have hx2 := hA2.2.2.2.1
    obtain ⟨kp2, kz2, kk2⟩ := rx_keep hT1 hfr2 hp hz (Or.inl hT1.2.1)
    have hOw2 := kp2.trans hO
    have hBw2 := (kz2 z (by omega) (by omega)).trans hB
    have hAFw2 := AFK_fr hAF (fun j hj => rx_j kk2 kz2 hj)
    have hFO := AFK_ok hAF hx1
    have hpT := (hx2 p (by rw [hp]; decide)).trans hp
    have hzT := (hx2 z (by rw [hz]; decide)).trans hz
    have hdw := rx_dl hT2.1 hq hpT hzT
    obtain ⟨yo, y1, y2, y3, gS, gW, g3, g4, g5, g6, hQ0, hQ1, hQ2, hQ3, hQ4, hQ5, hQ6, hN6⟩ := lv_open hT2 hq hlv
    iterate 2 refine hR (?_ : R (_, _, _, _, _, _))
    refine hR (c_obj hQ0 (zcall_i 0 0 (Nat.le_refl _) (Nat.le_refl _) (x_wantNothingI _ _ _ _ _ _ _ _ hQ0 hQ2 _ fun T2_71 w72 gg73 hC74 hp75 => ?_)))
    have hC77 := (gg73.2 p (by (try dsimp only); omega)).trans hOw2
    have hC78 := (gg73.2 z (by (try dsimp only); omega)).trans hBw2
    have hC79 := AFK_fr hAFw2 (fun j hj => gg73.2 j (by (try dsimp only); omega))
    have hC80 := (gg73.2 q (by (try dsimp only); omega)).trans hQ0
    have hC81 := (gg73.2 (q + 1) (by (try dsimp only); omega)).trans hQ1
    have hC82 := (gg73.2 (q + 3) (by (try dsimp only); omega)).trans hQ3
    have hC83 := (gg73.2 (q + 4) (by (try dsimp only); omega)).trans hQ4
    have hC84 := (gg73.2 (q + 5) (by (try dsimp only); omega)).trans hQ5
    have hC85 := (gg73.2 (q + 6) (by (try dsimp only); omega)).trans hQ6
    refine (?_ : R (_, _, [], w72, 0 + mc1 + mc2, 0 + ms1 + ms2))
    iterate 4 refine hR (?_ : R (_, _, _, _, _, _))
    refine hR (c_obj hC77 (zcall_i 0 0 (Nat.le_refl _) (Nat.le_refl _) (x_allI _ _ _ _ _ _ _ _ _ hC77 hC78 (by omega) _ fun v86 hp87 => ?_)))
    subst hp87
    refine (?_ : R (_, _, .int (Int32.ofInt (bShl 1 nn - 1)) :: .int (Int32.ofInt a2) :: .ref p :: .ref q :: [], w72, 0 + mc1 + mc2, 0 + ms1 + ms2))
    have hsb := shl_b hx1
    have ha0 := all_0 hx1
    refine hR (?_ : R (_, _, _, _, _, _))
    refine hR (c_obj hC77 (zcall_i 0 0 (Nat.le_refl _) (Nat.le_refl _) (x_allI _ _ _ _ _ _ _ _ _ hC77 hC78 (by omega) _ fun v88 hp89 => ?_)))
    subst hp89
    refine (?_ : R (_, _, .int (Int32.ofInt (bShl 1 nn - 1)) :: .int (Int32.ofInt (bShl 1 nn - 1)) :: .int (Int32.ofInt a2) :: .ref p :: .ref q :: [], w72, 0 + mc1 + mc2, 0 + ms1 + ms2))
    have hsb := shl_b hx1
    have ha0 := all_0 hx1
    refine hR (c_obj hC80 (zcall_i 0 0 (Nat.le_refl _) (Nat.le_refl _) (x_spreadI _ _ _ _ _ _ _ _ _ _ _ _ _ _ _ _ _ _ _ _ _ _ _ hC80 hC81 hC74 hC82 hC83 hC85 hC77 hC78 hC79 (by omega) hds hdw (by omega) hx1 hFO hx0 hN6 _ fun T1_90 T3_91 T4_92 T6_93 w94 gg95 hC96 hC97 hC98 hC99 hC100 hC101 hp102 => ?_)))
    have hC104 := (gg95.2 p (by (try dsimp only); omega)).trans hC77
    have hC105 := (gg95.2 z (by (try dsimp only); omega)).trans hC78
    have hC106 := (gg95.2 (q + 2) (by (try dsimp only); omega)).trans hC74
    have hC107 := (gg95.2 (q + 5) (by (try dsimp only); omega)).trans hC84
    refine (?_ : R (_, _, [], w94, 0 + mc1 + mc2, 0 + ms1 + ms2))
    have hSP := hp102
    have hok : ∀ L t : Int, 0 ≤ L → L ≤ 9 → okW T2_71 L t = true := fun L t l0 l1 => okW_t (Or.inl (hp75 L l0 l1))
    have hMA := hM_all hx1 (rfl : bShl 1 nn - 1 = bShl 1 nn - 1)
    have hR1 : 0 < a2 → nn ≠ 0 := fun z => by omega
    have hsn := spq_r hSP (lv := a2) (by omega) (by omega) (by omega)
    refine hR (?_ : R (_, _, _, _, _, _))
    refine hR (c_obj hC96 (zcall_i 0 0 (Nat.le_refl _) (Nat.le_refl _) (x_endByDriftI _ _ _ _ _ _ _ _ _ _ _ _ _ _ _ _ hC96 hC97 hC98 hC107 hC104 hC105 (by omega) hsn (fun j j0 j1 => (spq_x hSP (by omega) (by omega) j0 j1).1) hx0 ⟨hdw.1, hdw.2.1⟩ _ fun T5_108 w109 gg110 hC111 hp112 => ?_)))
    have hC114 := (gg110.2 p (by (try dsimp only); omega)).trans hC104
    have hC115 := (gg110.2 z (by (try dsimp only); omega)).trans hC105
    have hC116 := AFK_fr hC101 (fun j hj => gg110.2 j (by (try dsimp only); omega))
    have hC117 := (gg110.2 q (by (try dsimp only); omega)).trans hC96
    have hC118 := (gg110.2 (q + 1) (by (try dsimp only); omega)).trans hC97
    have hC119 := (gg110.2 (q + 2) (by (try dsimp only); omega)).trans hC106
    have hC120 := (gg110.2 (q + 3) (by (try dsimp only); omega)).trans hC98
    have hC121 := (gg110.2 (q + 4) (by (try dsimp only); omega)).trans hC99
    have hC122 := (gg110.2 (q + 6) (by (try dsimp only); omega)).trans hC100
    refine (?_ : R (_, _, [], w109, 0 + mc1 + mc2, 0 + ms1 + ms2))
    have h5 := hp112
    have hmw := mea_w hSP (by omega) (by omega)
    refine hR (?_ : R (_, _, _, _, _, _))
    refine hR (c_obj hC117 (zcall_i 0 0 (Nat.le_refl _) (Nat.le_refl _) (x_sumOfEndsI _ _ _ _ _ _ _ _ _ _ hC117 hC118 hC121 hC111 (by omega) hsn hmw.2 (fun i i0 i1 => by rw [h5 i i0 i1]; exact dft_r) hmw.1 _ fun v123 hp124 hp125 => ?_)))
    refine (?_ : R (_, _, .long (Int64.ofInt v123) :: [], w109, 0 + mc1 + mc2, 0 + ms1 + ms2))
    have hSu : v123 = saF (rdF gk gs gi gn) nn (fun t => dft t x0) a2.toNat x0 := hp124.trans ((mea_s hSP (by omega) hFO hx1.1 (by omega) hMA hx0 (D := fun t => dft t x0) h5).trans (on_sa hok (by omega) _ _ (by omega)))
    have hSr := hp125
    iterate 2 refine hR (?_ : R (_, _, _, _, _, _))
    refine hR (c_obj hC117 (zcall_i 0 0 (Nat.le_refl _) (Nat.le_refl _) (x_rowsI _ _ _ _ _ _ _ _ _ hC117 hC118 hC121 (by omega) hsn (fun i i0 i1 => (hmw.2 i i0 i1).1) hmw.1 _ fun v126 hp127 hp128 => ?_)))
    refine (?_ : R (_, _, .int (Int32.ofInt v126) :: [], w109, 0 + mc1 + mc2, 0 + ms1 + ms2))
    have hRw : v126 = rPw nn a2.toNat := by
      have h9 := mea_s (g := fun _ => 1) (D := fun _ => 1) hSP (by omega) hFO hx1.1 (by omega) hMA hx0 (fun i _ _ => rfl)
      rw [on_sa hok (by omega) _ _ (by omega), sa_1 hx1.1] at h9
      rw [← h9, hp127]
      exact sm_cg (fun j _ _ => (Int.mul_one _).symm)
    have hRr := hp128
    have hRp : 0 < v126 := by
      rw [hRw]
      by_cases z : 0 < a2
      · exact rp_p (by have := hR1 z; omega) _
      · rw [show a2.toNat = 0 by omega]
        exact (show (0 : Int) < 1 by decide)
    refine hR (tl_c (i2l_e (by exact ⟨by omega, by omega⟩)) ?_)
    iterate 3 refine hR (?_ : R (_, _, _, _, _, _))
    refine hR (zcall_i 0 0 (Nat.le_refl _) (Nat.le_refl _) (x_commonI _ _ _ _ (by omega) (by omega) _ fun v129 hp130 => ?_))
    refine (?_ : R (_, _, .long (Int64.ofInt v129) :: [], w109, 0 + mc1 + mc2, 0 + ms1 + ms2))
    have hg1 := gc_p (a := v123) (b := v126) (Or.inr hRp)
    have hg2 := gc_leb (a := v123) (b := v126) hRp
    have hgv := hp130
    iterate 4 refine hR (?_ : R (_, _, _, _, _, _))
    have hle131 := li_t (e := v129) (by omega) (by omega)
    refine hR (x_lcmp (a := 0) (by decide) (fun hc132 => ?_) (fun hc132 => ?_))
    rotate_left
    · skip
      refine hR (tl_c (y := Int64.ofInt ((-1))) (by decide) ?_)
      exact hR (zret_i rfl (Nat.le_refl _) trivial ⟨some z, wm, hbk, hK, Or.inr ⟨z, (0, 0, x0, nn, x2, gk, gs, gi, gn), rfl, hX, hXA, hx1, hx0, rx_retL (show (-1) = meaV (rdF gk gs gi gn) x0 nn a2 a3 from (by exfalso; omega))⟩⟩)
    refine hR (?_ : R (_, _, _, _, _, _))
    refine hR (k_eq (by omega) (fun hc133 => ?_) (fun hc133 => ?_))
    · skip
      iterate 2 refine hR (?_ : R (_, _, _, _, _, _))
      refine hR (And.intro (li_ne (by omega) (by omega)) (tl_c (li_div (by omega) (by omega) (by omega) (by omega)) ?_))
      exact hR (zret_i rfl (Nat.le_refl _) trivial ⟨some z, wm, hbk, hK, Or.inr ⟨z, (0, 0, x0, nn, x2, gk, gs, gi, gn), rfl, hX, hXA, hx1, hx0, rx_retL (show v123 / v129 = meaV (rdF gk gs gi gn) x0 nn a2 a3 from (by rw [mea_0 (by omega) hR1 (by omega), ← hSu, ← hRw, gc_c, ← hgv]))⟩⟩)
    iterate 2 refine hR (?_ : R (_, _, _, _, _, _))
    refine hR (And.intro (li_ne (by omega) (by omega)) (tl_c (li_div (by omega) (by omega) (by omega) (by omega)) ?_))
    refine hR (?_ : R (_, _, _, _, _, _))
    exact hR (zret_i rfl (Nat.le_refl _) trivial ⟨some z, wm, hbk, hK, Or.inr ⟨z, (0, 0, x0, nn, x2, gk, gs, gi, gn), rfl, hX, hXA, hx1, hx0, rx_retL (show v126 / v129 = meaV (rdF gk gs gi gn) x0 nn a2 a3 from (by rw [mea_1 (by omega) hR1 (by omega), ← hSu, ← hRw, gc_c, ← hgv]))⟩⟩)
