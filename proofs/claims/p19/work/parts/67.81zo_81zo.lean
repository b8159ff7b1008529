/-! THE CALLS ON LEVELS. -/
theorem rx_dl {τ : Nat → Nat} {w : zW} {p z q : Nat} (hw : CI τ w) (hq : τ q = 70) (hp : τ p = 50) (hz : τ z = 20) : (q + 6 < p ∨ p + 1 < q) ∧ (q + 6 < z ∨ z + 4 < q) ∧ (z + 4 < p ∨ p + 1 < z) := by
  obtain ⟨_, _, _, -, -, r1, -⟩ := CI_o50 hw hp
  obtain ⟨b1, b2, b3, b4⟩ := CI_r20 hw hz
  obtain ⟨_, _, _, _, -, -, -, -, -, c1, c2, c3, c4, c5, c6⟩ := CI_o70 hw hq
  have ne : ∀ {x y : Nat}, τ x ≠ τ y → x ≠ y := fun h e => h (by rw [e])
  have hQ : ∀ x, (τ x < 70) → x < q ∨ q + 6 < x := fun x hx => by
    have q0 : x ≠ q := ne (by omega)
    have q1 : x ≠ q + 1 := ne (by omega)
    have q2 : x ≠ q + 2 := ne (by omega)
    have q3 : x ≠ q + 3 := ne (by omega)
    have q4 : x ≠ q + 4 := ne (by omega)
    have q5 : x ≠ q + 5 := ne (by omega)
    have q6 : x ≠ q + 6 := ne (by omega)
    omega
  have hZ : ∀ x, (50 ≤ τ x) → x < z ∨ z + 4 < x := fun x hx => by
    have q0 : x ≠ z := ne (by omega)
    have q1 : x ≠ z + 1 := ne (by omega)
    have q2 : x ≠ z + 2 := ne (by omega)
    have q3 : x ≠ z + 3 := ne (by omega)
    have q4 : x ≠ z + 4 := ne (by omega)
    omega
  have m0 := hQ p (by omega)
  have m1 := hQ (p + 1) (by omega)
  have m2 := hZ p (by omega)
  have m3 := hZ (p + 1) (by omega)
  have z0 := hQ z (by omega)
  have z1 := hQ (z + 1) (by omega)
  have z2 := hQ (z + 2) (by omega)
  have z3 := hQ (z + 3) (by omega)
  have z4 := hQ (z + 4) (by omega)
  omega
theorem lv_open {τ : Nat → Nat} {w : zW} (hT : TOP τ w) {q : Nat} (hq : τ q = 70) (hl : LVp w q) : ∃ (yo : Option Nat) (y1 y2 y3 : Int) (gS gW g3 g4 g5 g6 : Nat → Int32), zix w q = some (.inr (2, [va_rf yo, .int (Int32.ofInt y1), .int (Int32.ofInt y2), .int (Int32.ofInt y3), .ref (q + 1), .ref (q + 2), .ref (q + 3), .ref (q + 4), .ref (q + 5), .ref (q + 6)])) ∧ zix w (q + 1) = some (.inl (1, 11, .inl gS)) ∧ zix w (q + 2) = some (.inl (1, 10, .inl gW)) ∧ zix w (q + 3) = some (.inl (1, 25750, .inl g3)) ∧ zix w (q + 4) = some (.inl (1, 25750, .inl g4)) ∧ zix w (q + 5) = some (.inl (1, 25750, .inl g5)) ∧ zix w (q + 6) = some (.inl (1, 5461, .inl g6)) ∧ ∀ t : Int, 0 ≤ t → t ≤ 5460 → tBy g6 t = -1 := by
  obtain ⟨yo, y1, y2, y3, hO, -, -, -, -, c1, c2, c3, c4, c5, c6⟩ := CI_o70 hT.1 hq
  obtain ⟨g1, h1, -⟩ := CI_ar hT.1 (q := q + 1) (by rw [c1]; rfl)
  obtain ⟨g2, h2, -⟩ := CI_ar hT.1 (q := q + 2) (by rw [c2]; rfl)
  obtain ⟨g3, h3, -⟩ := CI_ar hT.1 (q := q + 3) (by rw [c3]; rfl)
  obtain ⟨g4, h4, -⟩ := CI_ar hT.1 (q := q + 4) (by rw [c4]; rfl)
  obtain ⟨g5, h5, -⟩ := CI_ar hT.1 (q := q + 5) (by rw [c5]; rfl)
  obtain ⟨g6, h6, hn⟩ := hT.2.2.1.2 hT.2.1 q hl
  exact ⟨yo, y1, y2, y3, g1, g2, g3, g4, g5, g6, hO, h1, h2, h3, h4, h5, h6, fun t t0 t1 => hn t.toNat (by omega)⟩
theorem kx_rota {ρ : Nat → Nat} {w : zW} (hT : TOP ρ w) (d : Nat) (a1 a2 a3 : Int) (hr0 : (-2147483648 ≤ a1 ∧ a1 ≤ 2147483647)) (hr1 : (-2147483648 ≤ a2 ∧ a2 ≤ 2147483647)) (hr2 : (-2147483648 ≤ a3 ∧ a3 ≤ 2147483647)) : DET zTab (d + 7) iX11_rota [.ref 0, .int (Int32.ofInt a1), .int (Int32.ofInt a2), .int (Int32.ofInt a3)] w (fun _ _ r _ => RXP (d + 4) w a1 (-1) (fun x0 nn F => rotV F x0 nn a2 a3) r) := by
  obtain ⟨y6, y7, h0, -⟩ := top_o hT
  obtain ⟨mc1, ms1, re1, wm, ⟨σ, o, hA1, hbk, hr_1⟩, hrun1⟩ := a_readingsAtX hT (d + 3) a1 hr0
  have hT1 := hA1.1
  have hK := hA1.2.2.1.2
  refine z_rel (M := kX11_rota) _ rfl (Nat.le_of_ble_eq_true rfl) fun R hR0 => ?_
  have hR : ∀ {pc : Nat} {L : zL} {S : List Value} {w1 : zW} {k n : Nat}, zsc (zCl zTab (d + 6)) (d + 6) kX11_rota none zTab k n ((fun _ _ r _ => RXP (d + 4) w a1 (-1) (fun x0 nn F => rotV F x0 nn a2 a3) r) k n) pc L S w1 k n R → R (pc, L, S, w1, k, n) := fun h => hR0 _ _ (Nat.le_refl _) (Nat.le_refl _) h
  iterate 2 refine hR (?_ : R (_, _, _, _, _, _))
  refine hR0 (0 + mc1) (0 + ms1) (Nat.le_add_right _ _) (Nat.le_add_right _ _) (c_obj h0 (zcall_i mc1 ms1 (Nat.le_refl _) (Nat.le_refl _) (hrun1 _ ?_)))
  rcases hr_1 with ⟨rfl, rfl⟩ | ⟨z, p, z2, z3, rfl, rfl, hp, hz, hO⟩
  · skip
    refine (?_ : R (_, _, .null :: [], wm, 0 + mc1, 0 + ms1))
    iterate 4 refine hR (?_ : R (_, _, _, _, _, _))
    exact hR (zret_i rfl (Nat.le_refl _) trivial ⟨none, wm, hbk, hK, Or.inl ⟨rfl, rfl⟩⟩)
  · skip
    refine (?_ : R (_, _, .ref p :: [], wm, 0 + mc1, 0 + ms1))
    obtain ⟨x0, nn, x2, gk, gs, gi, gn, gm, gm2, hB, hX, hXA, hx1, hx0, hAF, hm2, hm3, hds, hRD⟩ := rx_open hT1.1 hp hz hO
    iterate 4 refine hR (?_ : R (_, _, _, _, _, _))
    refine hR (zcall_i 0 0 (Nat.le_refl _) (Nat.le_refl _) (c_isSpan _ _ a2 (by omega) _ fun v1 hp2 => ?_))
    refine (?_ : R (_, _, .int (Int32.ofInt v1) :: [], wm, 0 + mc1, 0 + ms1))
    refine hR (k_eq (by omega) (fun hc3 => ?_) (fun hc3 => ?_))
    · skip
      refine hR (?_ : R (_, _, _, _, _, _))
      exact hR (zret_i rfl (Nat.le_refl _) trivial ⟨some z, wm, hbk, hK, Or.inr ⟨z, (0, 0, x0, nn, x2, gk, gs, gi, gn), rfl, hX, hXA, hx1, hx0, rx_ret (show (-1) = rotV (rdF gk gs gi gn) x0 nn a2 a3 from (rot_n (by omega)).symm)⟩⟩)
    refine hR (?_ : R (_, _, _, _, _, _))
    refine hR (k_le (by omega) (fun hc4 => ?_) (fun hc4 => ?_))
    · skip
      refine hR (?_ : R (_, _, _, _, _, _))
      refine hR (t_c 10 (by decide) ?_)
      refine hR (j_lt (by omega) (by omega) (fun hc5 => ?_) (fun hc5 => ?_))
      · skip
        iterate 3 refine hR (?_ : R (_, _, _, _, _, _))
        refine hR (k_eq (by omega) (fun hc6 => ?_) (fun hc6 => ?_))
        · skip
          refine hR (?_ : R (_, _, _, _, _, _))
          obtain ⟨y6w, y7w, h0w, -⟩ := top_o hT1
          obtain ⟨mc2, ms2, re2, w2, ⟨τ, q, hA2, hre2, hq, hlv, hfr2⟩, hrun2⟩ := a_levelsThereX hT1 (d + 3)
          subst hre2
          refine hR0 (0 + mc1 + mc2) (0 + ms1 + ms2) (Nat.le_add_right _ _) (Nat.le_add_right _ _) (c_obj h0w (zcall_i mc2 ms2 (Nat.le_refl _) (Nat.le_refl _) (hrun2 _ ?_)))
          refine (?_ : R (_, _, .ref q :: [], w2, 0 + mc1 + mc2, 0 + ms1 + ms2))
          have hT2 := hA2.1
          have hx2 := hA2.2.2.2.1
          obtain ⟨kp2, kz2, kk2⟩ := rx_keep hT1 hfr2 hp hz (Or.inl hT1.2.1)
          have hOw2 := kp2.trans hO
          have hBw2 := (kz2 z (by omega) (by omega)).trans hB
          have hAFw2 := AFK_fr hAF (fun j hj => rx_j kk2 kz2 hj)
          have hFO := AFK_ok hAF hx1
          have hpT := (hx2 p (by rw [hp]; decide)).trans hp
          have hzT := (hx2 z (by rw [hz]; decide)).trans hz
          have hdw := rx_dl hT2.1 hq hpT hzT
          obtain ⟨yo, y1, y2, y3, gS, gW, g3, g4, g5, g6, hQ0, hQ1, hQ2, hQ3, hQ4, hQ5, hQ6, hN6⟩ := lv_open hT2 hq hlv
          iterate 2 refine hR (?_ : R (_, _, _, _, _, _))
          refine hR (c_obj hQ0 (zcall_i 0 0 (Nat.le_refl _) (Nat.le_refl _) (x_wantNothingI _ _ _ _ _ _ _ _ hQ0 hQ2 _ fun T2_7 w8 gg9 hC10 hp11 => ?_)))
          have hC13 := (gg9.2 p (by (try dsimp only); omega)).trans hOw2
          have hC14 := (gg9.2 z (by (try dsimp only); omega)).trans hBw2
          have hC15 := AFK_fr hAFw2 (fun j hj => gg9.2 j (by (try dsimp only); omega))
          have hC16 := (gg9.2 q (by (try dsimp only); omega)).trans hQ0
          have hC17 := (gg9.2 (q + 1) (by (try dsimp only); omega)).trans hQ1
          have hC18 := (gg9.2 (q + 3) (by (try dsimp only); omega)).trans hQ3
          have hC19 := (gg9.2 (q + 4) (by (try dsimp only); omega)).trans hQ4
          have hC20 := (gg9.2 (q + 5) (by (try dsimp only); omega)).trans hQ5
          have hC21 := (gg9.2 (q + 6) (by (try dsimp only); omega)).trans hQ6
          refine (?_ : R (_, _, [], w8, 0 + mc1 + mc2, 0 + ms1 + ms2))
          iterate 4 refine hR (?_ : R (_, _, _, _, _, _))
          refine hR (c_obj hC13 (zcall_i 0 0 (Nat.le_refl _) (Nat.le_refl _) (x_allI _ _ _ _ _ _ _ _ _ hC13 hC14 (by omega) _ fun v22 hp23 => ?_)))
          subst hp23
          refine (?_ : R (_, _, .int (Int32.ofInt (bShl 1 nn - 1)) :: .int (Int32.ofInt a2) :: .ref p :: .ref q :: [], w8, 0 + mc1 + mc2, 0 + ms1 + ms2))
          have hsb := shl_b hx1
          have ha0 := all_0 hx1
          refine hR (?_ : R (_, _, _, _, _, _))
          refine hR (c_obj hC13 (zcall_i 0 0 (Nat.le_refl _) (Nat.le_refl _) (x_allI _ _ _ _ _ _ _ _ _ hC13 hC14 (by omega) _ fun v24 hp25 => ?_)))
          subst hp25
          refine (?_ : R (_, _, .int (Int32.ofInt (bShl 1 nn - 1)) :: .int (Int32.ofInt (bShl 1 nn - 1)) :: .int (Int32.ofInt a2) :: .ref p :: .ref q :: [], w8, 0 + mc1 + mc2, 0 + ms1 + ms2))
          have hsb := shl_b hx1
          have ha0 := all_0 hx1
          refine hR (c_obj hC16 (zcall_i 0 0 (Nat.le_refl _) (Nat.le_refl _) (x_spreadI _ _ _ _ _ _ _ _ _ _ _ _ _ _ _ _ _ _ _ _ _ _ _ hC16 hC17 hC10 hC18 hC19 hC21 hC13 hC14 hC15 (by omega) hds hdw (by omega) hx1 hFO hx0 hN6 _ fun T1_26 T3_27 T4_28 T6_29 w30 gg31 hC32 hC33 hC34 hC35 hC36 hC37 hp38 => ?_)))
          have hC40 := (gg31.2 p (by (try dsimp only); omega)).trans hC13
          have hC41 := (gg31.2 z (by (try dsimp only); omega)).trans hC14
          have hC42 := (gg31.2 (q + 2) (by (try dsimp only); omega)).trans hC10
          have hC43 := (gg31.2 (q + 5) (by (try dsimp only); omega)).trans hC20
          refine (?_ : R (_, _, [], w30, 0 + mc1 + mc2, 0 + ms1 + ms2))
          have hSP := hp38
          have hok : ∀ L t : Int, 0 ≤ L → L ≤ 9 → okW T2_7 L t = true := fun L t l0 l1 => okW_t (Or.inl (hp11 L l0 l1))
          have hMA := hM_all hx1 (rfl : bShl 1 nn - 1 = bShl 1 nn - 1)
          have hR1 : 0 < a2 → nn ≠ 0 := fun z => by omega
          have hsn := spq_r hSP (lv := a2) (by omega) (by omega) (by omega)
          refine hR (?_ : R (_, _, _, _, _, _))
          refine hR (c_obj hC32 (zcall_i 0 0 (Nat.le_refl _) (Nat.le_refl _) (x_endByDriftI _ _ _ _ _ _ _ _ _ _ _ _ _ _ _ _ hC32 hC33 hC34 hC43 hC40 hC41 (by omega) hsn (fun j j0 j1 => (spq_x hSP (by omega) (by omega) j0 j1).1) hx0 ⟨hdw.1, hdw.2.1⟩ _ fun T5_44 w45 gg46 hC47 hp48 => ?_)))
          have hC50 := (gg46.2 p (by (try dsimp only); omega)).trans hC40
          have hC51 := (gg46.2 z (by (try dsimp only); omega)).trans hC41
          have hC52 := AFK_fr hC37 (fun j hj => gg46.2 j (by (try dsimp only); omega))
          have hC53 := (gg46.2 q (by (try dsimp only); omega)).trans hC32
          have hC54 := (gg46.2 (q + 1) (by (try dsimp only); omega)).trans hC33
          have hC55 := (gg46.2 (q + 2) (by (try dsimp only); omega)).trans hC42
          have hC56 := (gg46.2 (q + 3) (by (try dsimp only); omega)).trans hC34
          have hC57 := (gg46.2 (q + 4) (by (try dsimp only); omega)).trans hC35
          have hC58 := (gg46.2 (q + 6) (by (try dsimp only); omega)).trans hC36
          refine (?_ : R (_, _, [], w45, 0 + mc1 + mc2, 0 + ms1 + ms2))
          have h5 := hp48
          refine hR (?_ : R (_, _, _, _, _, _))
          refine hR (k_ne (by omega) (fun hc => by omega) (fun _ => ?_))
          iterate 3 refine hR (?_ : R (_, _, _, _, _, _))
          refine hR (j_ne (by omega) (by omega) (fun hc59 => ?_) (fun hc59 => ?_))
          · skip
            refine hR (?_ : R (_, _, _, _, _, _))
            have hmx := rot_mx (how := 0) hFO hx1 hR1 (by omega) (by omega) (by omega) hMA hok hx0
            refine hR (c_obj hC53 (zcall_i 0 0 (Nat.le_refl _) (Nat.le_refl _) (x_bestEndI _ _ _ _ _ _ _ _ _ _ hC53 hC54 hC47 (by omega) hsn (rot_ne hSP (by omega) hmx) (by omega) _ fun v60 hp61 => ?_)))
            refine (?_ : R (_, _, .int (Int32.ofInt v60) :: [], w45, 0 + mc1 + mc2, 0 + ms1 + ms2))
            have hbe := rot_be hSP (by omega) (by omega) hmx h5 hp61
            exact hR (zret_i rfl (Nat.le_refl _) trivial ⟨some z, wm, hbk, hK, Or.inr ⟨z, (0, 0, x0, nn, x2, gk, gs, gi, gn), rfl, hX, hXA, hx1, hx0, rx_ret (show v60 = rotV (rdF gk gs gi gn) x0 nn a2 a3 from (by rw [rot_y (by omega) hR1 (by omega), show a3 = 0 by omega]; exact hbe))⟩⟩)
          iterate 2 refine hR (?_ : R (_, _, _, _, _, _))
          have hmx := rot_mx (how := 1) hFO hx1 hR1 (by omega) (by omega) (by omega) hMA hok hx0
          refine hR (c_obj hC53 (zcall_i 0 0 (Nat.le_refl _) (Nat.le_refl _) (x_bestEndI _ _ _ _ _ _ _ _ _ _ hC53 hC54 hC47 (by omega) hsn (rot_ne hSP (by omega) hmx) (by omega) _ fun v62 hp63 => ?_)))
          refine (?_ : R (_, _, .int (Int32.ofInt v62) :: [], w45, 0 + mc1 + mc2, 0 + ms1 + ms2))
          have hbe := rot_be hSP (by omega) (by omega) hmx h5 hp63
          exact hR (zret_i rfl (Nat.le_refl _) trivial ⟨some z, wm, hbk, hK, Or.inr ⟨z, (0, 0, x0, nn, x2, gk, gs, gi, gn), rfl, hX, hXA, hx1, hx0, rx_ret (show v62 = rotV (rdF gk gs gi gn) x0 nn a2 a3 from (by rw [rot_y (by omega) hR1 (by omega), show a3 = 1 by omega]; exact hbe))⟩⟩)
        iterate 2 refine hR (?_ : R (_, _, _, _, _, _))
        refine hR (j_eq (by omega) (by omega) (fun hc64 => ?_) (fun hc64 => ?_))
        rotate_left
        · skip
          refine hR (?_ : R (_, _, _, _, _, _))
          refine hR (k_ne (by omega) (fun hc => by omega) (fun _ => ?_))
          refine hR (?_ : R (_, _, _, _, _, _))
          exact hR (zret_i rfl (Nat.le_refl _) trivial ⟨some z, wm, hbk, hK, Or.inr ⟨z, (0, 0, x0, nn, x2, gk, gs, gi, gn), rfl, hX, hXA, hx1, hx0, rx_ret (show (-1) = rotV (rdF gk gs gi gn) x0 nn a2 a3 from (rot_n (by omega)).symm)⟩⟩)
        refine hR (?_ : R (_, _, _, _, _, _))
        obtain ⟨y6w, y7w, h0w, -⟩ := top_o hT1
        obtain ⟨mc2, ms2, re2, w2, ⟨τ, q, hA2, hre2, hq, hlv, hfr2⟩, hrun2⟩ := a_levelsThereX hT1 (d + 3)
        subst hre2
        refine hR0 (0 + mc1 + mc2) (0 + ms1 + ms2) (Nat.le_add_right _ _) (Nat.le_add_right _ _) (c_obj h0w (zcall_i mc2 ms2 (Nat.le_refl _) (Nat.le_refl _) (hrun2 _ ?_)))
        refine (?_ : R (_, _, .ref q :: [], w2, 0 + mc1 + mc2, 0 + ms1 + ms2))
        have hT2 := hA2.1
        have hx2 := hA2.2.2.2.1
        obtain ⟨kp2, kz2, kk2⟩ := rx_keep hT1 hfr2 hp hz (Or.inl hT1.2.1)
        have hOw2 := kp2.trans hO
        have hBw2 := (kz2 z (by omega) (by omega)).trans hB
        have hAFw2 := AFK_fr hAF (fun j hj => rx_j kk2 kz2 hj)
        have hFO := AFK_ok hAF hx1
        have hpT := (hx2 p (by rw [hp]; decide)).trans hp
        have hzT := (hx2 z (by rw [hz]; decide)).trans hz
        have hdw := rx_dl hT2.1 hq hpT hzT
        obtain ⟨yo, y1, y2, y3, gS, gW, g3, g4, g5, g6, hQ0, hQ1, hQ2, hQ3, hQ4, hQ5, hQ6, hN6⟩ := lv_open hT2 hq hlv
        iterate 2 refine hR (?_ : R (_, _, _, _, _, _))
        refine hR (c_obj hQ0 (zcall_i 0 0 (Nat.le_refl _) (Nat.le_refl _) (x_wantNothingI _ _ _ _ _ _ _ _ hQ0 hQ2 _ fun T2_65 w66 gg67 hC68 hp69 => ?_)))
        have hC71 := (gg67.2 p (by (try dsimp only); omega)).trans hOw2
        have hC72 := (gg67.2 z (by (try dsimp only); omega)).trans hBw2
        have hC73 := AFK_fr hAFw2 (fun j hj => gg67.2 j (by (try dsimp only); omega))
        have hC74 := (gg67.2 q (by (try dsimp only); omega)).trans hQ0
        have hC75 := (gg67.2 (q + 1) (by (try dsimp only); omega)).trans hQ1
        have hC76 := (gg67.2 (q + 3) (by (try dsimp only); omega)).trans hQ3
        have hC77 := (gg67.2 (q + 4) (by (try dsimp only); omega)).trans hQ4
        have hC78 := (gg67.2 (q + 5) (by (try dsimp only); omega)).trans hQ5
        have hC79 := (gg67.2 (q + 6) (by (try dsimp only); omega)).trans hQ6
        refine (?_ : R (_, _, [], w66, 0 + mc1 + mc2, 0 + ms1 + ms2))
        iterate 4 refine hR (?_ : R (_, _, _, _, _, _))
        refine hR (c_obj hC71 (zcall_i 0 0 (Nat.le_refl _) (Nat.le_refl _) (x_allI _ _ _ _ _ _ _ _ _ hC71 hC72 (by omega) _ fun v80 hp81 => ?_)))
        subst hp81
        refine (?_ : R (_, _, .int (Int32.ofInt (bShl 1 nn - 1)) :: .int (Int32.ofInt a2) :: .ref p :: .ref q :: [], w66, 0 + mc1 + mc2, 0 + ms1 + ms2))
        have hsb := shl_b hx1
        have ha0 := all_0 hx1
        refine hR (?_ : R (_, _, _, _, _, _))
        refine hR (c_obj hC71 (zcall_i 0 0 (Nat.le_refl _) (Nat.le_refl _) (x_allI _ _ _ _ _ _ _ _ _ hC71 hC72 (by omega) _ fun v82 hp83 => ?_)))
        subst hp83
        refine (?_ : R (_, _, .int (Int32.ofInt (bShl 1 nn - 1)) :: .int (Int32.ofInt (bShl 1 nn - 1)) :: .int (Int32.ofInt a2) :: .ref p :: .ref q :: [], w66, 0 + mc1 + mc2, 0 + ms1 + ms2))
        have hsb := shl_b hx1
        have ha0 := all_0 hx1
        refine hR (c_obj hC74 (zcall_i 0 0 (Nat.le_refl _) (Nat.le_refl _) (x_spreadI _ _ _ _ _ _ _ _ _ _ _ _ _ _ _ _ _ _ _ _ _ _ _ hC74 hC75 hC68 hC76 hC77 hC79 hC71 hC72 hC73 (by omega) hds hdw (by omega) hx1 hFO hx0 hN6 _ fun T1_84 T3_85 T4_86 T6_87 w88 gg89 hC90 hC91 hC92 hC93 hC94 hC95 hp96 => ?_)))
        have hC98 := (gg89.2 p (by (try dsimp only); omega)).trans hC71
        have hC99 := (gg89.2 z (by (try dsimp only); omega)).trans hC72
        have hC100 := (gg89.2 (q + 2) (by (try dsimp only); omega)).trans hC68
        have hC101 := (gg89.2 (q + 5) (by (try dsimp only); omega)).trans hC78
        refine (?_ : R (_, _, [], w88, 0 + mc1 + mc2, 0 + ms1 + ms2))
        have hSP := hp96
        have hok : ∀ L t : Int, 0 ≤ L → L ≤ 9 → okW T2_65 L t = true := fun L t l0 l1 => okW_t (Or.inl (hp69 L l0 l1))
        have hMA := hM_all hx1 (rfl : bShl 1 nn - 1 = bShl 1 nn - 1)
        have hR1 : 0 < a2 → nn ≠ 0 := fun z => by omega
        have hsn := spq_r hSP (lv := a2) (by omega) (by omega) (by omega)
        refine hR (?_ : R (_, _, _, _, _, _))
        refine hR (c_obj hC90 (zcall_i 0 0 (Nat.le_refl _) (Nat.le_refl _) (x_endByDriftI _ _ _ _ _ _ _ _ _ _ _ _ _ _ _ _ hC90 hC91 hC92 hC101 hC98 hC99 (by omega) hsn (fun j j0 j1 => (spq_x hSP (by omega) (by omega) j0 j1).1) hx0 ⟨hdw.1, hdw.2.1⟩ _ fun T5_102 w103 gg104 hC105 hp106 => ?_)))
        have hC108 := (gg104.2 p (by (try dsimp only); omega)).trans hC98
        have hC109 := (gg104.2 z (by (try dsimp only); omega)).trans hC99
        have hC110 := AFK_fr hC95 (fun j hj => gg104.2 j (by (try dsimp only); omega))
        have hC111 := (gg104.2 q (by (try dsimp only); omega)).trans hC90
        have hC112 := (gg104.2 (q + 1) (by (try dsimp only); omega)).trans hC91
        have hC113 := (gg104.2 (q + 2) (by (try dsimp only); omega)).trans hC100
        have hC114 := (gg104.2 (q + 3) (by (try dsimp only); omega)).trans hC92
        have hC115 := (gg104.2 (q + 4) (by (try dsimp only); omega)).trans hC93
        have hC116 := (gg104.2 (q + 6) (by (try dsimp only); omega)).trans hC94
        refine (?_ : R (_, _, [], w103, 0 + mc1 + mc2, 0 + ms1 + ms2))
        have h5 := hp106
        refine hR (?_ : R (_, _, _, _, _, _))
        refine hR (k_ne (by omega) (fun hc => by omega) (fun _ => ?_))
        iterate 3 refine hR (?_ : R (_, _, _, _, _, _))
        refine hR (j_ne (by omega) (by omega) (fun hc => by omega) (fun _ => ?_))
        iterate 2 refine hR (?_ : R (_, _, _, _, _, _))
        have hmx := rot_mx (how := 1) hFO hx1 hR1 (by omega) (by omega) (by omega) hMA hok hx0
        refine hR (c_obj hC111 (zcall_i 0 0 (Nat.le_refl _) (Nat.le_refl _) (x_bestEndI _ _ _ _ _ _ _ _ _ _ hC111 hC112 hC105 (by omega) hsn (rot_ne hSP (by omega) hmx) (by omega) _ fun v117 hp118 => ?_)))
        refine (?_ : R (_, _, .int (Int32.ofInt v117) :: [], w103, 0 + mc1 + mc2, 0 + ms1 + ms2))
        have hbe := rot_be hSP (by omega) (by omega) hmx h5 hp118
        exact hR (zret_i rfl (Nat.le_refl _) trivial ⟨some z, wm, hbk, hK, Or.inr ⟨z, (0, 0, x0, nn, x2, gk, gs, gi, gn), rfl, hX, hXA, hx1, hx0, rx_ret (show v117 = rotV (rdF gk gs gi gn) x0 nn a2 a3 from (by rw [rot_y (by omega) hR1 (by omega), show a3 = 1 by omega]; exact hbe))⟩⟩)
      refine hR (?_ : R (_, _, _, _, _, _))
      refine hR (t_c 10 (by decide) ?_)
      refine hR (?_ : R (_, _, _, _, _, _))
      refine hR (t_add ?_)
      refine hR (j_ge (by omega) (by omega) (fun hc119 => ?_) (fun hc119 => ?_))
      · skip
        iterate 3 refine hR (?_ : R (_, _, _, _, _, _))
        refine hR (k_eq (by omega) (fun hc120 => ?_) (fun hc120 => ?_))
        · skip
          refine hR (?_ : R (_, _, _, _, _, _))
          obtain ⟨y6w, y7w, h0w, -⟩ := top_o hT1
          obtain ⟨mc2, ms2, re2, w2, ⟨τ, q, hA2, hre2, hq, hlv, hfr2⟩, hrun2⟩ := a_levelsThereX hT1 (d + 3)
          subst hre2
          refine hR0 (0 + mc1 + mc2) (0 + ms1 + ms2) (Nat.le_add_right _ _) (Nat.le_add_right _ _) (c_obj h0w (zcall_i mc2 ms2 (Nat.le_refl _) (Nat.le_refl _) (hrun2 _ ?_)))
          refine (?_ : R (_, _, .ref q :: [], w2, 0 + mc1 + mc2, 0 + ms1 + ms2))
          have hT2 := hA2.1
          have hx2 := hA2.2.2.2.1
          obtain ⟨kp2, kz2, kk2⟩ := rx_keep hT1 hfr2 hp hz (Or.inl hT1.2.1)
          have hOw2 := kp2.trans hO
          have hBw2 := (kz2 z (by omega) (by omega)).trans hB
          have hAFw2 := AFK_fr hAF (fun j hj => rx_j kk2 kz2 hj)
          have hFO := AFK_ok hAF hx1
          have hpT := (hx2 p (by rw [hp]; decide)).trans hp
          have hzT := (hx2 z (by rw [hz]; decide)).trans hz
          have hdw := rx_dl hT2.1 hq hpT hzT
          obtain ⟨yo, y1, y2, y3, gS, gW, g3, g4, g5, g6, hQ0, hQ1, hQ2, hQ3, hQ4, hQ5, hQ6, hN6⟩ := lv_open hT2 hq hlv
          iterate 2 refine hR (?_ : R (_, _, _, _, _, _))
          refine hR (c_obj hQ0 (zcall_i 0 0 (Nat.le_refl _) (Nat.le_refl _) (x_wantNothingI _ _ _ _ _ _ _ _ hQ0 hQ2 _ fun T2_121 w122 gg123 hC124 hp125 => ?_)))
          have hC127 := (gg123.2 p (by (try dsimp only); omega)).trans hOw2
          have hC128 := (gg123.2 z (by (try dsimp only); omega)).trans hBw2
          have hC129 := AFK_fr hAFw2 (fun j hj => gg123.2 j (by (try dsimp only); omega))
          have hC130 := (gg123.2 q (by (try dsimp only); omega)).trans hQ0
          have hC131 := (gg123.2 (q + 1) (by (try dsimp only); omega)).trans hQ1
          have hC132 := (gg123.2 (q + 3) (by (try dsimp only); omega)).trans hQ3
          have hC133 := (gg123.2 (q + 4) (by (try dsimp only); omega)).trans hQ4
          have hC134 := (gg123.2 (q + 5) (by (try dsimp only); omega)).trans hQ5
          have hC135 := (gg123.2 (q + 6) (by (try dsimp only); omega)).trans hQ6
          refine (?_ : R (_, _, [], w122, 0 + mc1 + mc2, 0 + ms1 + ms2))
          iterate 4 refine hR (?_ : R (_, _, _, _, _, _))
          refine hR (c_obj hC127 (zcall_i 0 0 (Nat.le_refl _) (Nat.le_refl _) (x_allI _ _ _ _ _ _ _ _ _ hC127 hC128 (by omega) _ fun v136 hp137 => ?_)))
          subst hp137
          refine (?_ : R (_, _, .int (Int32.ofInt (bShl 1 nn - 1)) :: .int (Int32.ofInt a2) :: .ref p :: .ref q :: [], w122, 0 + mc1 + mc2, 0 + ms1 + ms2))
          have hsb := shl_b hx1
          have ha0 := all_0 hx1
          refine hR (?_ : R (_, _, _, _, _, _))
          refine hR (c_obj hC127 (zcall_i 0 0 (Nat.le_refl _) (Nat.le_refl _) (x_allI _ _ _ _ _ _ _ _ _ hC127 hC128 (by omega) _ fun v138 hp139 => ?_)))
          subst hp139
          refine (?_ : R (_, _, .int (Int32.ofInt (bShl 1 nn - 1)) :: .int (Int32.ofInt (bShl 1 nn - 1)) :: .int (Int32.ofInt a2) :: .ref p :: .ref q :: [], w122, 0 + mc1 + mc2, 0 + ms1 + ms2))
          have hsb := shl_b hx1
          have ha0 := all_0 hx1
          refine hR (c_obj hC130 (zcall_i 0 0 (Nat.le_refl _) (Nat.le_refl _) (x_spreadI _ _ _ _ _ _ _ _ _ _ _ _ _ _ _ _ _ _ _ _ _ _ _ hC130 hC131 hC124 hC132 hC133 hC135 hC127 hC128 hC129 (by omega) hds hdw (by omega) hx1 hFO hx0 hN6 _ fun T1_140 T3_141 T4_142 T6_143 w144 gg145 hC146 hC147 hC148 hC149 hC150 hC151 hp152 => ?_)))
          have hC154 := (gg145.2 p (by (try dsimp only); omega)).trans hC127
          have hC155 := (gg145.2 z (by (try dsimp only); omega)).trans hC128
          have hC156 := (gg145.2 (q + 2) (by (try dsimp only); omega)).trans hC124
          have hC157 := (gg145.2 (q + 5) (by (try dsimp only); omega)).trans hC134
          refine (?_ : R (_, _, [], w144, 0 + mc1 + mc2, 0 + ms1 + ms2))
          have hSP := hp152
          have hok : ∀ L t : Int, 0 ≤ L → L ≤ 9 → okW T2_121 L t = true := fun L t l0 l1 => okW_t (Or.inl (hp125 L l0 l1))
          have hMA := hM_all hx1 (rfl : bShl 1 nn - 1 = bShl 1 nn - 1)
          have hR1 : 0 < a2 → nn ≠ 0 := fun z => by omega
          have hsn := spq_r hSP (lv := a2) (by omega) (by omega) (by omega)
          refine hR (?_ : R (_, _, _, _, _, _))
          refine hR (c_obj hC146 (zcall_i 0 0 (Nat.le_refl _) (Nat.le_refl _) (x_endByDriftI _ _ _ _ _ _ _ _ _ _ _ _ _ _ _ _ hC146 hC147 hC148 hC157 hC154 hC155 (by omega) hsn (fun j j0 j1 => (spq_x hSP (by omega) (by omega) j0 j1).1) hx0 ⟨hdw.1, hdw.2.1⟩ _ fun T5_158 w159 gg160 hC161 hp162 => ?_)))
          have hC164 := (gg160.2 p (by (try dsimp only); omega)).trans hC154
          have hC165 := (gg160.2 z (by (try dsimp only); omega)).trans hC155
          have hC166 := AFK_fr hC151 (fun j hj => gg160.2 j (by (try dsimp only); omega))
          have hC167 := (gg160.2 q (by (try dsimp only); omega)).trans hC146
          have hC168 := (gg160.2 (q + 1) (by (try dsimp only); omega)).trans hC147
          have hC169 := (gg160.2 (q + 2) (by (try dsimp only); omega)).trans hC156
          have hC170 := (gg160.2 (q + 3) (by (try dsimp only); omega)).trans hC148
          have hC171 := (gg160.2 (q + 4) (by (try dsimp only); omega)).trans hC149
          have hC172 := (gg160.2 (q + 6) (by (try dsimp only); omega)).trans hC150
          refine (?_ : R (_, _, [], w159, 0 + mc1 + mc2, 0 + ms1 + ms2))
          have h5 := hp162
          refine hR (?_ : R (_, _, _, _, _, _))
          refine hR (k_ne (by omega) (fun hc => by omega) (fun _ => ?_))
          iterate 3 refine hR (?_ : R (_, _, _, _, _, _))
          refine hR (j_ne (by omega) (by omega) (fun hc173 => ?_) (fun hc173 => ?_))
          · skip
            refine hR (?_ : R (_, _, _, _, _, _))
            have hmx := rot_mx (how := 0) hFO hx1 hR1 (by omega) (by omega) (by omega) hMA hok hx0
            refine hR (c_obj hC167 (zcall_i 0 0 (Nat.le_refl _) (Nat.le_refl _) (x_bestEndI _ _ _ _ _ _ _ _ _ _ hC167 hC168 hC161 (by omega) hsn (rot_ne hSP (by omega) hmx) (by omega) _ fun v174 hp175 => ?_)))
            refine (?_ : R (_, _, .int (Int32.ofInt v174) :: [], w159, 0 + mc1 + mc2, 0 + ms1 + ms2))
            have hbe := rot_be hSP (by omega) (by omega) hmx h5 hp175
            exact hR (zret_i rfl (Nat.le_refl _) trivial ⟨some z, wm, hbk, hK, Or.inr ⟨z, (0, 0, x0, nn, x2, gk, gs, gi, gn), rfl, hX, hXA, hx1, hx0, rx_ret (show v174 = rotV (rdF gk gs gi gn) x0 nn a2 a3 from (by rw [rot_y (by omega) hR1 (by omega), show a3 = 0 by omega]; exact hbe))⟩⟩)
          iterate 2 refine hR (?_ : R (_, _, _, _, _, _))
          have hmx := rot_mx (how := 1) hFO hx1 hR1 (by omega) (by omega) (by omega) hMA hok hx0
          refine hR (c_obj hC167 (zcall_i 0 0 (Nat.le_refl _) (Nat.le_refl _) (x_bestEndI _ _ _ _ _ _ _ _ _ _ hC167 hC168 hC161 (by omega) hsn (rot_ne hSP (by omega) hmx) (by omega) _ fun v176 hp177 => ?_)))
          refine (?_ : R (_, _, .int (Int32.ofInt v176) :: [], w159, 0 + mc1 + mc2, 0 + ms1 + ms2))
          have hbe := rot_be hSP (by omega) (by omega) hmx h5 hp177
          exact hR (zret_i rfl (Nat.le_refl _) trivial ⟨some z, wm, hbk, hK, Or.inr ⟨z, (0, 0, x0, nn, x2, gk, gs, gi, gn), rfl, hX, hXA, hx1, hx0, rx_ret (show v176 = rotV (rdF gk gs gi gn) x0 nn a2 a3 from (by rw [rot_y (by omega) hR1 (by omega), show a3 = 1 by omega]; exact hbe))⟩⟩)
        iterate 2 refine hR (?_ : R (_, _, _, _, _, _))
        refine hR (j_eq (by omega) (by omega) (fun hc178 => ?_) (fun hc178 => ?_))
        rotate_left
        · skip
          refine hR (?_ : R (_, _, _, _, _, _))
          refine hR (k_ne (by omega) (fun hc => by omega) (fun _ => ?_))
          refine hR (?_ : R (_, _, _, _, _, _))
          exact hR (zret_i rfl (Nat.le_refl _) trivial ⟨some z, wm, hbk, hK, Or.inr ⟨z, (0, 0, x0, nn, x2, gk, gs, gi, gn), rfl, hX, hXA, hx1, hx0, rx_ret (show (-1) = rotV (rdF gk gs gi gn) x0 nn a2 a3 from (rot_n (by omega)).symm)⟩⟩)
        refine hR (?_ : R (_, _, _, _, _, _))
        obtain ⟨y6w, y7w, h0w, -⟩ := top_o hT1
        obtain ⟨mc2, ms2, re2, w2, ⟨τ, q, hA2, hre2, hq, hlv, hfr2⟩, hrun2⟩ := a_levelsThereX hT1 (d + 3)
        subst hre2
        refine hR0 (0 + mc1 + mc2) (0 + ms1 + ms2) (Nat.le_add_right _ _) (Nat.le_add_right _ _) (c_obj h0w (zcall_i mc2 ms2 (Nat.le_refl _) (Nat.le_refl _) (hrun2 _ ?_)))
        refine (?_ : R (_, _, .ref q :: [], w2, 0 + mc1 + mc2, 0 + ms1 + ms2))
        have hT2 := hA2.1
        have hx2 := hA2.2.2.2.1
        obtain ⟨kp2, kz2, kk2⟩ := rx_keep hT1 hfr2 hp hz (Or.inl hT1.2.1)
        have hOw2 := kp2.trans hO
        have hBw2 := (kz2 z (by omega) (by omega)).trans hB
        have hAFw2 := AFK_fr hAF (fun j hj => rx_j kk2 kz2 hj)
        have hFO := AFK_ok hAF hx1
        have hpT := (hx2 p (by rw [hp]; decide)).trans hp
        have hzT := (hx2 z (by rw [hz]; decide)).trans hz
        have hdw := rx_dl hT2.1 hq hpT hzT
        obtain ⟨yo, y1, y2, y3, gS, gW, g3, g4, g5, g6, hQ0, hQ1, hQ2, hQ3, hQ4, hQ5, hQ6, hN6⟩ := lv_open hT2 hq hlv
        iterate 2 refine hR (?_ : R (_, _, _, _, _, _))
        refine hR (c_obj hQ0 (zcall_i 0 0 (Nat.le_refl _) (Nat.le_refl _) (x_wantNothingI _ _ _ _ _ _ _ _ hQ0 hQ2 _ fun T2_179 w180 gg181 hC182 hp183 => ?_)))
        have hC185 := (gg181.2 p (by (try dsimp only); omega)).trans hOw2
        have hC186 := (gg181.2 z (by (try dsimp only); omega)).trans hBw2
        have hC187 := AFK_fr hAFw2 (fun j hj => gg181.2 j (by (try dsimp only); omega))
        have hC188 := (gg181.2 q (by (try dsimp only); omega)).trans hQ0
        have hC189 := (gg181.2 (q + 1) (by (try dsimp only); omega)).trans hQ1
        have hC190 := (gg181.2 (q + 3) (by (try dsimp only); omega)).trans hQ3
        have hC191 := (gg181.2 (q + 4) (by (try dsimp only); omega)).trans hQ4
        have hC192 := (gg181.2 (q + 5) (by (try dsimp only); omega)).trans hQ5
        have hC193 := (gg181.2 (q + 6) (by (try dsimp only); omega)).trans hQ6
        refine (?_ : R (_, _, [], w180, 0 + mc1 + mc2, 0 + ms1 + ms2))
        iterate 4 refine hR (?_ : R (_, _, _, _, _, _))
        refine hR (c_obj hC185 (zcall_i 0 0 (Nat.le_refl _) (Nat.le_refl _) (x_allI _ _ _ _ _ _ _ _ _ hC185 hC186 (by omega) _ fun v194 hp195 => ?_)))
        subst hp195
        refine (?_ : R (_, _, .int (Int32.ofInt (bShl 1 nn - 1)) :: .int (Int32.ofInt a2) :: .ref p :: .ref q :: [], w180, 0 + mc1 + mc2, 0 + ms1 + ms2))
        have hsb := shl_b hx1
        have ha0 := all_0 hx1
        refine hR (?_ : R (_, _, _, _, _, _))
        refine hR (c_obj hC185 (zcall_i 0 0 (Nat.le_refl _) (Nat.le_refl _) (x_allI _ _ _ _ _ _ _ _ _ hC185 hC186 (by omega) _ fun v196 hp197 => ?_)))
        subst hp197
        refine (?_ : R (_, _, .int (Int32.ofInt (bShl 1 nn - 1)) :: .int (Int32.ofInt (bShl 1 nn - 1)) :: .int (Int32.ofInt a2) :: .ref p :: .ref q :: [], w180, 0 + mc1 + mc2, 0 + ms1 + ms2))
        have hsb := shl_b hx1
        have ha0 := all_0 hx1
        refine hR (c_obj hC188 (zcall_i 0 0 (Nat.le_refl _) (Nat.le_refl _) (x_spreadI _ _ _ _ _ _ _ _ _ _ _ _ _ _ _ _ _ _ _ _ _ _ _ hC188 hC189 hC182 hC190 hC191 hC193 hC185 hC186 hC187 (by omega) hds hdw (by omega) hx1 hFO hx0 hN6 _ fun T1_198 T3_199 T4_200 T6_201 w202 gg203 hC204 hC205 hC206 hC207 hC208 hC209 hp210 => ?_)))
        have hC212 := (gg203.2 p (by (try dsimp only); omega)).trans hC185
        have hC213 := (gg203.2 z (by (try dsimp only); omega)).trans hC186
        have hC214 := (gg203.2 (q + 2) (by (try dsimp only); omega)).trans hC182
        have hC215 := (gg203.2 (q + 5) (by (try dsimp only); omega)).trans hC192
        refine (?_ : R (_, _, [], w202, 0 + mc1 + mc2, 0 + ms1 + ms2))
        have hSP := hp210
        have hok : ∀ L t : Int, 0 ≤ L → L ≤ 9 → okW T2_179 L t = true := fun L t l0 l1 => okW_t (Or.inl (hp183 L l0 l1))
        have hMA := hM_all hx1 (rfl : bShl 1 nn - 1 = bShl 1 nn - 1)
        have hR1 : 0 < a2 → nn ≠ 0 := fun z => by omega
        have hsn := spq_r hSP (lv := a2) (by omega) (by omega) (by omega)
        refine hR (?_ : R (_, _, _, _, _, _))
        refine hR (c_obj hC204 (zcall_i 0 0 (Nat.le_refl _) (Nat.le_refl _) (x_endByDriftI _ _ _ _ _ _ _ _ _ _ _ _ _ _ _ _ hC204 hC205 hC206 hC215 hC212 hC213 (by omega) hsn (fun j j0 j1 => (spq_x hSP (by omega) (by omega) j0 j1).1) hx0 ⟨hdw.1, hdw.2.1⟩ _ fun T5_216 w217 gg218 hC219 hp220 => ?_)))
        have hC222 := (gg218.2 p (by (try dsimp only); omega)).trans hC212
        have hC223 := (gg218.2 z (by (try dsimp only); omega)).trans hC213
        have hC224 := AFK_fr hC209 (fun j hj => gg218.2 j (by (try dsimp only); omega))
        have hC225 := (gg218.2 q (by (try dsimp only); omega)).trans hC204
        have hC226 := (gg218.2 (q + 1) (by (try dsimp only); omega)).trans hC205
        have hC227 := (gg218.2 (q + 2) (by (try dsimp only); omega)).trans hC214
        have hC228 := (gg218.2 (q + 3) (by (try dsimp only); omega)).trans hC206
        have hC229 := (gg218.2 (q + 4) (by (try dsimp only); omega)).trans hC207
        have hC230 := (gg218.2 (q + 6) (by (try dsimp only); omega)).trans hC208
        refine (?_ : R (_, _, [], w217, 0 + mc1 + mc2, 0 + ms1 + ms2))
        have h5 := hp220
        refine hR (?_ : R (_, _, _, _, _, _))
        refine hR (k_ne (by omega) (fun hc => by omega) (fun _ => ?_))
        iterate 3 refine hR (?_ : R (_, _, _, _, _, _))
        refine hR (j_ne (by omega) (by omega) (fun hc => by omega) (fun _ => ?_))
        iterate 2 refine hR (?_ : R (_, _, _, _, _, _))
        have hmx := rot_mx (how := 1) hFO hx1 hR1 (by omega) (by omega) (by omega) hMA hok hx0
        refine hR (c_obj hC225 (zcall_i 0 0 (Nat.le_refl _) (Nat.le_refl _) (x_bestEndI _ _ _ _ _ _ _ _ _ _ hC225 hC226 hC219 (by omega) hsn (rot_ne hSP (by omega) hmx) (by omega) _ fun v231 hp232 => ?_)))
        refine (?_ : R (_, _, .int (Int32.ofInt v231) :: [], w217, 0 + mc1 + mc2, 0 + ms1 + ms2))
        have hbe := rot_be hSP (by omega) (by omega) hmx h5 hp232
        exact hR (zret_i rfl (Nat.le_refl _) trivial ⟨some z, wm, hbk, hK, Or.inr ⟨z, (0, 0, x0, nn, x2, gk, gs, gi, gn), rfl, hX, hXA, hx1, hx0, rx_ret (show v231 = rotV (rdF gk gs gi gn) x0 nn a2 a3 from (by rw [rot_y (by omega) hR1 (by omega), show a3 = 1 by omega]; exact hbe))⟩⟩)
      iterate 4 refine hR (?_ : R (_, _, _, _, _, _))
      refine hR (k_eq (by omega) (fun hc233 => ?_) (fun hc233 => ?_))
      · skip
        refine hR (?_ : R (_, _, _, _, _, _))
        obtain ⟨y6w, y7w, h0w, -⟩ := top_o hT1
        obtain ⟨mc2, ms2, re2, w2, ⟨τ, q, hA2, hre2, hq, hlv, hfr2⟩, hrun2⟩ := a_levelsThereX hT1 (d + 3)
        subst hre2
        refine hR0 (0 + mc1 + mc2) (0 + ms1 + ms2) (Nat.le_add_right _ _) (Nat.le_add_right _ _) (c_obj h0w (zcall_i mc2 ms2 (Nat.le_refl _) (Nat.le_refl _) (hrun2 _ ?_)))
        refine (?_ : R (_, _, .ref q :: [], w2, 0 + mc1 + mc2, 0 + ms1 + ms2))
        have hT2 := hA2.1
        have hx2 := hA2.2.2.2.1
        obtain ⟨kp2, kz2, kk2⟩ := rx_keep hT1 hfr2 hp hz (Or.inl hT1.2.1)
        have hOw2 := kp2.trans hO
        have hBw2 := (kz2 z (by omega) (by omega)).trans hB
        have hAFw2 := AFK_fr hAF (fun j hj => rx_j kk2 kz2 hj)
        have hFO := AFK_ok hAF hx1
        have hpT := (hx2 p (by rw [hp]; decide)).trans hp
        have hzT := (hx2 z (by rw [hz]; decide)).trans hz
        have hdw := rx_dl hT2.1 hq hpT hzT
        obtain ⟨yo, y1, y2, y3, gS, gW, g3, g4, g5, g6, hQ0, hQ1, hQ2, hQ3, hQ4, hQ5, hQ6, hN6⟩ := lv_open hT2 hq hlv
        iterate 2 refine hR (?_ : R (_, _, _, _, _, _))
        refine hR (c_obj hQ0 (zcall_i 0 0 (Nat.le_refl _) (Nat.le_refl _) (x_wantNothingI _ _ _ _ _ _ _ _ hQ0 hQ2 _ fun T2_234 w235 gg236 hC237 hp238 => ?_)))
        have hC240 := (gg236.2 p (by (try dsimp only); omega)).trans hOw2
        have hC241 := (gg236.2 z (by (try dsimp only); omega)).trans hBw2
        have hC242 := AFK_fr hAFw2 (fun j hj => gg236.2 j (by (try dsimp only); omega))
        have hC243 := (gg236.2 q (by (try dsimp only); omega)).trans hQ0
        have hC244 := (gg236.2 (q + 1) (by (try dsimp only); omega)).trans hQ1
        have hC245 := (gg236.2 (q + 3) (by (try dsimp only); omega)).trans hQ3
        have hC246 := (gg236.2 (q + 4) (by (try dsimp only); omega)).trans hQ4
        have hC247 := (gg236.2 (q + 5) (by (try dsimp only); omega)).trans hQ5
        have hC248 := (gg236.2 (q + 6) (by (try dsimp only); omega)).trans hQ6
        refine (?_ : R (_, _, [], w235, 0 + mc1 + mc2, 0 + ms1 + ms2))
        iterate 4 refine hR (?_ : R (_, _, _, _, _, _))
        refine hR (c_obj hC240 (zcall_i 0 0 (Nat.le_refl _) (Nat.le_refl _) (x_allI _ _ _ _ _ _ _ _ _ hC240 hC241 (by omega) _ fun v249 hp250 => ?_)))
        subst hp250
        refine (?_ : R (_, _, .int (Int32.ofInt (bShl 1 nn - 1)) :: .int (Int32.ofInt a2) :: .ref p :: .ref q :: [], w235, 0 + mc1 + mc2, 0 + ms1 + ms2))
        have hsb := shl_b hx1
        have ha0 := all_0 hx1
        refine hR (?_ : R (_, _, _, _, _, _))
        refine hR (c_obj hC240 (zcall_i 0 0 (Nat.le_refl _) (Nat.le_refl _) (x_allI _ _ _ _ _ _ _ _ _ hC240 hC241 (by omega) _ fun v251 hp252 => ?_)))
        subst hp252
        refine (?_ : R (_, _, .int (Int32.ofInt (bShl 1 nn - 1)) :: .int (Int32.ofInt (bShl 1 nn - 1)) :: .int (Int32.ofInt a2) :: .ref p :: .ref q :: [], w235, 0 + mc1 + mc2, 0 + ms1 + ms2))
        have hsb := shl_b hx1
        have ha0 := all_0 hx1
        refine hR (c_obj hC243 (zcall_i 0 0 (Nat.le_refl _) (Nat.le_refl _) (x_spreadI _ _ _ _ _ _ _ _ _ _ _ _ _ _ _ _ _ _ _ _ _ _ _ hC243 hC244 hC237 hC245 hC246 hC248 hC240 hC241 hC242 (by omega) hds hdw (by omega) hx1 hFO hx0 hN6 _ fun T1_253 T3_254 T4_255 T6_256 w257 gg258 hC259 hC260 hC261 hC262 hC263 hC264 hp265 => ?_)))
        have hC267 := (gg258.2 p (by (try dsimp only); omega)).trans hC240
        have hC268 := (gg258.2 z (by (try dsimp only); omega)).trans hC241
        have hC269 := (gg258.2 (q + 2) (by (try dsimp only); omega)).trans hC237
        have hC270 := (gg258.2 (q + 5) (by (try dsimp only); omega)).trans hC247
        refine (?_ : R (_, _, [], w257, 0 + mc1 + mc2, 0 + ms1 + ms2))
        have hSP := hp265
        have hok : ∀ L t : Int, 0 ≤ L → L ≤ 9 → okW T2_234 L t = true := fun L t l0 l1 => okW_t (Or.inl (hp238 L l0 l1))
        have hMA := hM_all hx1 (rfl : bShl 1 nn - 1 = bShl 1 nn - 1)
        have hR1 : 0 < a2 → nn ≠ 0 := fun z => by omega
        have hsn := spq_r hSP (lv := a2) (by omega) (by omega) (by omega)
        refine hR (?_ : R (_, _, _, _, _, _))
        refine hR (c_obj hC259 (zcall_i 0 0 (Nat.le_refl _) (Nat.le_refl _) (x_endByDriftI _ _ _ _ _ _ _ _ _ _ _ _ _ _ _ _ hC259 hC260 hC261 hC270 hC267 hC268 (by omega) hsn (fun j j0 j1 => (spq_x hSP (by omega) (by omega) j0 j1).1) hx0 ⟨hdw.1, hdw.2.1⟩ _ fun T5_271 w272 gg273 hC274 hp275 => ?_)))
        have hC277 := (gg273.2 p (by (try dsimp only); omega)).trans hC267
        have hC278 := (gg273.2 z (by (try dsimp only); omega)).trans hC268
        have hC279 := AFK_fr hC264 (fun j hj => gg273.2 j (by (try dsimp only); omega))
        have hC280 := (gg273.2 q (by (try dsimp only); omega)).trans hC259
        have hC281 := (gg273.2 (q + 1) (by (try dsimp only); omega)).trans hC260
        have hC282 := (gg273.2 (q + 2) (by (try dsimp only); omega)).trans hC269
        have hC283 := (gg273.2 (q + 3) (by (try dsimp only); omega)).trans hC261
        have hC284 := (gg273.2 (q + 4) (by (try dsimp only); omega)).trans hC262
        have hC285 := (gg273.2 (q + 6) (by (try dsimp only); omega)).trans hC263
        refine (?_ : R (_, _, [], w272, 0 + mc1 + mc2, 0 + ms1 + ms2))
        have h5 := hp275
        refine hR (?_ : R (_, _, _, _, _, _))
        refine hR (k_ne (by omega) (fun _ => ?_) (fun hc => by omega))
        iterate 3 refine hR (?_ : R (_, _, _, _, _, _))
        refine hR (c_obj hC280 (zcall_i 0 0 (Nat.le_refl _) (Nat.le_refl _) (x_foldBackI _ _ _ _ _ _ _ _ _ _ _ _ _ _ _ _ _ _ _ _ _ _ _ _ hC280 hC281 hC283 hC274 hC285 hC277 hC278 hC279 (by omega) hds hdw (by omega) hx1 hFO (by omega) hSP (⟨by omega, dft_b x0⟩ : (0 ≤ (12 : Int) ∧ (12 : Int) ≤ 12) ∧ ∀ t : Int, 0 ≤ t → t ≤ 5460 → 0 ≤ (fun t => dft t x0) t ∧ (fun t => dft t x0) t ≤ 12) (fbq_n (D := fun t => dft t x0) h5) _ fun T5_286 T6_287 w288 gg289 hC290 hC291 hC292 hp293 hp294 => ?_)))
        have hC296 := (gg289.2 p (by (try dsimp only); omega)).trans hC277
        have hC297 := (gg289.2 z (by (try dsimp only); omega)).trans hC278
        have hC298 := (gg289.2 q (by (try dsimp only); omega)).trans hC280
        have hC299 := (gg289.2 (q + 1) (by (try dsimp only); omega)).trans hC281
        have hC300 := (gg289.2 (q + 2) (by (try dsimp only); omega)).trans hC282
        have hC301 := (gg289.2 (q + 3) (by (try dsimp only); omega)).trans hC283
        have hC302 := (gg289.2 (q + 4) (by (try dsimp only); omega)).trans hC284
        refine (?_ : R (_, _, [], w288, 0 + mc1 + mc2, 0 + ms1 + ms2))
        have hFB := fbq_va hSP hFO hx1.1 (by omega) hMA hok hp293
        have hSP2 := spq_6 hSP hp294
        iterate 2 refine hR (?_ : R (_, _, _, _, _, _))
        refine hR (t_c 10 (by decide) ?_)
        refine hR (t_sub ?_)
        refine hR (c_obj hC298 (zcall_i 0 0 (Nat.le_refl _) (Nat.le_refl _) (x_chosenAtI _ _ _ _ _ _ _ _ _ _ _ _ _ _ _ _ _ _ _ _ _ _ hC298 hC299 hC301 hC290 hC291 hC296 hC297 hC292 (by omega) hds hdw (by omega) hx1 hFO hSP2 hFB (fun d t t0 t1 => by have h9 := va_b (how := 0) hFO hx1 (by decide) (dft_b x0) (Or.inl rfl) d t t0 t1; omega) hMA hok (fun lv t l0 l1 t0 t1 => cr_ex hFO ⟨by omega, by omega⟩ (by decide) (dft_b x0) l0 l1 t0 t1) (by omega) hx0 _ fun v303 T6_304 w305 gg306 hC307 hC308 hp309 hp310 => ?_)))
        have hC312 := (gg306.2 p (by (try dsimp only); omega)).trans hC296
        have hC313 := (gg306.2 z (by (try dsimp only); omega)).trans hC297
        have hC314 := (gg306.2 q (by (try dsimp only); omega)).trans hC298
        have hC315 := (gg306.2 (q + 1) (by (try dsimp only); omega)).trans hC299
        have hC316 := (gg306.2 (q + 2) (by (try dsimp only); omega)).trans hC300
        have hC317 := (gg306.2 (q + 3) (by (try dsimp only); omega)).trans hC301
        have hC318 := (gg306.2 (q + 4) (by (try dsimp only); omega)).trans hC302
        have hC319 := (gg306.2 (q + 5) (by (try dsimp only); omega)).trans hC290
        refine (?_ : R (_, _, .int (Int32.ofInt v303) :: [], w305, 0 + mc1 + mc2, 0 + ms1 + ms2))
        exact hR (zret_i rfl (Nat.le_refl _) trivial ⟨some z, wm, hbk, hK, Or.inr ⟨z, (0, 0, x0, nn, x2, gk, gs, gi, gn), rfl, hX, hXA, hx1, hx0, rx_ret (show v303 = rotV (rdF gk gs gi gn) x0 nn a2 a3 from hp309.trans (rot_k (by omega) hR1 (by omega)).symm)⟩⟩)
      iterate 2 refine hR (?_ : R (_, _, _, _, _, _))
      refine hR (j_eq (by omega) (by omega) (fun hc320 => ?_) (fun hc320 => ?_))
      · skip
        refine hR (?_ : R (_, _, _, _, _, _))
        obtain ⟨y6w, y7w, h0w, -⟩ := top_o hT1
        obtain ⟨mc2, ms2, re2, w2, ⟨τ, q, hA2, hre2, hq, hlv, hfr2⟩, hrun2⟩ := a_levelsThereX hT1 (d + 3)
        subst hre2
        refine hR0 (0 + mc1 + mc2) (0 + ms1 + ms2) (Nat.le_add_right _ _) (Nat.le_add_right _ _) (c_obj h0w (zcall_i mc2 ms2 (Nat.le_refl _) (Nat.le_refl _) (hrun2 _ ?_)))
        refine (?_ : R (_, _, .ref q :: [], w2, 0 + mc1 + mc2, 0 + ms1 + ms2))
        have hT2 := hA2.1
        have hx2 := hA2.2.2.2.1
        obtain ⟨kp2, kz2, kk2⟩ := rx_keep hT1 hfr2 hp hz (Or.inl hT1.2.1)
        have hOw2 := kp2.trans hO
        have hBw2 := (kz2 z (by omega) (by omega)).trans hB
        have hAFw2 := AFK_fr hAF (fun j hj => rx_j kk2 kz2 hj)
        have hFO := AFK_ok hAF hx1
        have hpT := (hx2 p (by rw [hp]; decide)).trans hp
        have hzT := (hx2 z (by rw [hz]; decide)).trans hz
        have hdw := rx_dl hT2.1 hq hpT hzT
        obtain ⟨yo, y1, y2, y3, gS, gW, g3, g4, g5, g6, hQ0, hQ1, hQ2, hQ3, hQ4, hQ5, hQ6, hN6⟩ := lv_open hT2 hq hlv
        iterate 2 refine hR (?_ : R (_, _, _, _, _, _))
        refine hR (c_obj hQ0 (zcall_i 0 0 (Nat.le_refl _) (Nat.le_refl _) (x_wantNothingI _ _ _ _ _ _ _ _ hQ0 hQ2 _ fun T2_321 w322 gg323 hC324 hp325 => ?_)))
        have hC327 := (gg323.2 p (by (try dsimp only); omega)).trans hOw2
        have hC328 := (gg323.2 z (by (try dsimp only); omega)).trans hBw2
        have hC329 := AFK_fr hAFw2 (fun j hj => gg323.2 j (by (try dsimp only); omega))
        have hC330 := (gg323.2 q (by (try dsimp only); omega)).trans hQ0
        have hC331 := (gg323.2 (q + 1) (by (try dsimp only); omega)).trans hQ1
        have hC332 := (gg323.2 (q + 3) (by (try dsimp only); omega)).trans hQ3
        have hC333 := (gg323.2 (q + 4) (by (try dsimp only); omega)).trans hQ4
        have hC334 := (gg323.2 (q + 5) (by (try dsimp only); omega)).trans hQ5
        have hC335 := (gg323.2 (q + 6) (by (try dsimp only); omega)).trans hQ6
        refine (?_ : R (_, _, [], w322, 0 + mc1 + mc2, 0 + ms1 + ms2))
        iterate 4 refine hR (?_ : R (_, _, _, _, _, _))
        refine hR (c_obj hC327 (zcall_i 0 0 (Nat.le_refl _) (Nat.le_refl _) (x_allI _ _ _ _ _ _ _ _ _ hC327 hC328 (by omega) _ fun v336 hp337 => ?_)))
        subst hp337
        refine (?_ : R (_, _, .int (Int32.ofInt (bShl 1 nn - 1)) :: .int (Int32.ofInt a2) :: .ref p :: .ref q :: [], w322, 0 + mc1 + mc2, 0 + ms1 + ms2))
        have hsb := shl_b hx1
        have ha0 := all_0 hx1
        refine hR (?_ : R (_, _, _, _, _, _))
        refine hR (c_obj hC327 (zcall_i 0 0 (Nat.le_refl _) (Nat.le_refl _) (x_allI _ _ _ _ _ _ _ _ _ hC327 hC328 (by omega) _ fun v338 hp339 => ?_)))
        subst hp339
        refine (?_ : R (_, _, .int (Int32.ofInt (bShl 1 nn - 1)) :: .int (Int32.ofInt (bShl 1 nn - 1)) :: .int (Int32.ofInt a2) :: .ref p :: .ref q :: [], w322, 0 + mc1 + mc2, 0 + ms1 + ms2))
        have hsb := shl_b hx1
        have ha0 := all_0 hx1
        refine hR (c_obj hC330 (zcall_i 0 0 (Nat.le_refl _) (Nat.le_refl _) (x_spreadI _ _ _ _ _ _ _ _ _ _ _ _ _ _ _ _ _ _ _ _ _ _ _ hC330 hC331 hC324 hC332 hC333 hC335 hC327 hC328 hC329 (by omega) hds hdw (by omega) hx1 hFO hx0 hN6 _ fun T1_340 T3_341 T4_342 T6_343 w344 gg345 hC346 hC347 hC348 hC349 hC350 hC351 hp352 => ?_)))
        have hC354 := (gg345.2 p (by (try dsimp only); omega)).trans hC327
        have hC355 := (gg345.2 z (by (try dsimp only); omega)).trans hC328
        have hC356 := (gg345.2 (q + 2) (by (try dsimp only); omega)).trans hC324
        have hC357 := (gg345.2 (q + 5) (by (try dsimp only); omega)).trans hC334
        refine (?_ : R (_, _, [], w344, 0 + mc1 + mc2, 0 + ms1 + ms2))
        have hSP := hp352
        have hok : ∀ L t : Int, 0 ≤ L → L ≤ 9 → okW T2_321 L t = true := fun L t l0 l1 => okW_t (Or.inl (hp325 L l0 l1))
        have hMA := hM_all hx1 (rfl : bShl 1 nn - 1 = bShl 1 nn - 1)
        have hR1 : 0 < a2 → nn ≠ 0 := fun z => by omega
        have hsn := spq_r hSP (lv := a2) (by omega) (by omega) (by omega)
        refine hR (?_ : R (_, _, _, _, _, _))
        refine hR (c_obj hC346 (zcall_i 0 0 (Nat.le_refl _) (Nat.le_refl _) (x_endByDriftI _ _ _ _ _ _ _ _ _ _ _ _ _ _ _ _ hC346 hC347 hC348 hC357 hC354 hC355 (by omega) hsn (fun j j0 j1 => (spq_x hSP (by omega) (by omega) j0 j1).1) hx0 ⟨hdw.1, hdw.2.1⟩ _ fun T5_358 w359 gg360 hC361 hp362 => ?_)))
        have hC364 := (gg360.2 p (by (try dsimp only); omega)).trans hC354
        have hC365 := (gg360.2 z (by (try dsimp only); omega)).trans hC355
        have hC366 := AFK_fr hC351 (fun j hj => gg360.2 j (by (try dsimp only); omega))
        have hC367 := (gg360.2 q (by (try dsimp only); omega)).trans hC346
        have hC368 := (gg360.2 (q + 1) (by (try dsimp only); omega)).trans hC347
        have hC369 := (gg360.2 (q + 2) (by (try dsimp only); omega)).trans hC356
        have hC370 := (gg360.2 (q + 3) (by (try dsimp only); omega)).trans hC348
        have hC371 := (gg360.2 (q + 4) (by (try dsimp only); omega)).trans hC349
        have hC372 := (gg360.2 (q + 6) (by (try dsimp only); omega)).trans hC350
        refine (?_ : R (_, _, [], w359, 0 + mc1 + mc2, 0 + ms1 + ms2))
        have h5 := hp362
        refine hR (?_ : R (_, _, _, _, _, _))
        refine hR (k_ne (by omega) (fun _ => ?_) (fun hc => by omega))
        iterate 3 refine hR (?_ : R (_, _, _, _, _, _))
        refine hR (c_obj hC367 (zcall_i 0 0 (Nat.le_refl _) (Nat.le_refl _) (x_foldBackI _ _ _ _ _ _ _ _ _ _ _ _ _ _ _ _ _ _ _ _ _ _ _ _ hC367 hC368 hC370 hC361 hC372 hC364 hC365 hC366 (by omega) hds hdw (by omega) hx1 hFO (by omega) hSP (⟨by omega, dft_b x0⟩ : (0 ≤ (12 : Int) ∧ (12 : Int) ≤ 12) ∧ ∀ t : Int, 0 ≤ t → t ≤ 5460 → 0 ≤ (fun t => dft t x0) t ∧ (fun t => dft t x0) t ≤ 12) (fbq_n (D := fun t => dft t x0) h5) _ fun T5_373 T6_374 w375 gg376 hC377 hC378 hC379 hp380 hp381 => ?_)))
        have hC383 := (gg376.2 p (by (try dsimp only); omega)).trans hC364
        have hC384 := (gg376.2 z (by (try dsimp only); omega)).trans hC365
        have hC385 := (gg376.2 q (by (try dsimp only); omega)).trans hC367
        have hC386 := (gg376.2 (q + 1) (by (try dsimp only); omega)).trans hC368
        have hC387 := (gg376.2 (q + 2) (by (try dsimp only); omega)).trans hC369
        have hC388 := (gg376.2 (q + 3) (by (try dsimp only); omega)).trans hC370
        have hC389 := (gg376.2 (q + 4) (by (try dsimp only); omega)).trans hC371
        refine (?_ : R (_, _, [], w375, 0 + mc1 + mc2, 0 + ms1 + ms2))
        have hFB := fbq_va hSP hFO hx1.1 (by omega) hMA hok hp380
        have hSP2 := spq_6 hSP hp381
        iterate 2 refine hR (?_ : R (_, _, _, _, _, _))
        refine hR (t_c 10 (by decide) ?_)
        refine hR (t_sub ?_)
        refine hR (c_obj hC385 (zcall_i 0 0 (Nat.le_refl _) (Nat.le_refl _) (x_chosenAtI _ _ _ _ _ _ _ _ _ _ _ _ _ _ _ _ _ _ _ _ _ _ hC385 hC386 hC388 hC377 hC378 hC383 hC384 hC379 (by omega) hds hdw (by omega) hx1 hFO hSP2 hFB (fun d t t0 t1 => by have h9 := va_b (how := 0) hFO hx1 (by decide) (dft_b x0) (Or.inl rfl) d t t0 t1; omega) hMA hok (fun lv t l0 l1 t0 t1 => cr_ex hFO ⟨by omega, by omega⟩ (by decide) (dft_b x0) l0 l1 t0 t1) (by omega) hx0 _ fun v390 T6_391 w392 gg393 hC394 hC395 hp396 hp397 => ?_)))
        have hC399 := (gg393.2 p (by (try dsimp only); omega)).trans hC383
        have hC400 := (gg393.2 z (by (try dsimp only); omega)).trans hC384
        have hC401 := (gg393.2 q (by (try dsimp only); omega)).trans hC385
        have hC402 := (gg393.2 (q + 1) (by (try dsimp only); omega)).trans hC386
        have hC403 := (gg393.2 (q + 2) (by (try dsimp only); omega)).trans hC387
        have hC404 := (gg393.2 (q + 3) (by (try dsimp only); omega)).trans hC388
        have hC405 := (gg393.2 (q + 4) (by (try dsimp only); omega)).trans hC389
        have hC406 := (gg393.2 (q + 5) (by (try dsimp only); omega)).trans hC377
        refine (?_ : R (_, _, .int (Int32.ofInt v390) :: [], w392, 0 + mc1 + mc2, 0 + ms1 + ms2))
        exact hR (zret_i rfl (Nat.le_refl _) trivial ⟨some z, wm, hbk, hK, Or.inr ⟨z, (0, 0, x0, nn, x2, gk, gs, gi, gn), rfl, hX, hXA, hx1, hx0, rx_ret (show v390 = rotV (rdF gk gs gi gn) x0 nn a2 a3 from hp396.trans (rot_k (by omega) hR1 (by omega)).symm)⟩⟩)
      refine hR (?_ : R (_, _, _, _, _, _))
      refine hR (k_ne (by omega) (fun _ => ?_) (fun hc => by omega))
      refine hR (?_ : R (_, _, _, _, _, _))
      obtain ⟨y6w, y7w, h0w, -⟩ := top_o hT1
      obtain ⟨mc2, ms2, re2, w2, ⟨τ, q, hA2, hre2, hq, hlv, hfr2⟩, hrun2⟩ := a_levelsThereX hT1 (d + 3)
      subst hre2
      refine hR0 (0 + mc1 + mc2) (0 + ms1 + ms2) (Nat.le_add_right _ _) (Nat.le_add_right _ _) (c_obj h0w (zcall_i mc2 ms2 (Nat.le_refl _) (Nat.le_refl _) (hrun2 _ ?_)))
      refine (?_ : R (_, _, .ref q :: [], w2, 0 + mc1 + mc2, 0 + ms1 + ms2))
      have hT2 := hA2.1
      have hx2 := hA2.2.2.2.1
      obtain ⟨kp2, kz2, kk2⟩ := rx_keep hT1 hfr2 hp hz (Or.inl hT1.2.1)
      have hOw2 := kp2.trans hO
      have hBw2 := (kz2 z (by omega) (by omega)).trans hB
      have hAFw2 := AFK_fr hAF (fun j hj => rx_j kk2 kz2 hj)
      have hFO := AFK_ok hAF hx1
      have hpT := (hx2 p (by rw [hp]; decide)).trans hp
      have hzT := (hx2 z (by rw [hz]; decide)).trans hz
      have hdw := rx_dl hT2.1 hq hpT hzT
      obtain ⟨yo, y1, y2, y3, gS, gW, g3, g4, g5, g6, hQ0, hQ1, hQ2, hQ3, hQ4, hQ5, hQ6, hN6⟩ := lv_open hT2 hq hlv
      iterate 2 refine hR (?_ : R (_, _, _, _, _, _))
      refine hR (c_obj hQ0 (zcall_i 0 0 (Nat.le_refl _) (Nat.le_refl _) (x_wantNothingI _ _ _ _ _ _ _ _ hQ0 hQ2 _ fun T2_407 w408 gg409 hC410 hp411 => ?_)))
      have hC413 := (gg409.2 p (by (try dsimp only); omega)).trans hOw2
      have hC414 := (gg409.2 z (by (try dsimp only); omega)).trans hBw2
      have hC415 := AFK_fr hAFw2 (fun j hj => gg409.2 j (by (try dsimp only); omega))
      have hC416 := (gg409.2 q (by (try dsimp only); omega)).trans hQ0
      have hC417 := (gg409.2 (q + 1) (by (try dsimp only); omega)).trans hQ1
      have hC418 := (gg409.2 (q + 3) (by (try dsimp only); omega)).trans hQ3
      have hC419 := (gg409.2 (q + 4) (by (try dsimp only); omega)).trans hQ4
      have hC420 := (gg409.2 (q + 5) (by (try dsimp only); omega)).trans hQ5
      have hC421 := (gg409.2 (q + 6) (by (try dsimp only); omega)).trans hQ6
      refine (?_ : R (_, _, [], w408, 0 + mc1 + mc2, 0 + ms1 + ms2))
      iterate 4 refine hR (?_ : R (_, _, _, _, _, _))
      refine hR (c_obj hC413 (zcall_i 0 0 (Nat.le_refl _) (Nat.le_refl _) (x_allI _ _ _ _ _ _ _ _ _ hC413 hC414 (by omega) _ fun v422 hp423 => ?_)))
      subst hp423
      refine (?_ : R (_, _, .int (Int32.ofInt (bShl 1 nn - 1)) :: .int (Int32.ofInt a2) :: .ref p :: .ref q :: [], w408, 0 + mc1 + mc2, 0 + ms1 + ms2))
      have hsb := shl_b hx1
      have ha0 := all_0 hx1
      refine hR (?_ : R (_, _, _, _, _, _))
      refine hR (c_obj hC413 (zcall_i 0 0 (Nat.le_refl _) (Nat.le_refl _) (x_allI _ _ _ _ _ _ _ _ _ hC413 hC414 (by omega) _ fun v424 hp425 => ?_)))
      subst hp425
      refine (?_ : R (_, _, .int (Int32.ofInt (bShl 1 nn - 1)) :: .int (Int32.ofInt (bShl 1 nn - 1)) :: .int (Int32.ofInt a2) :: .ref p :: .ref q :: [], w408, 0 + mc1 + mc2, 0 + ms1 + ms2))
      have hsb := shl_b hx1
      have ha0 := all_0 hx1
      refine hR (c_obj hC416 (zcall_i 0 0 (Nat.le_refl _) (Nat.le_refl _) (x_spreadI _ _ _ _ _ _ _ _ _ _ _ _ _ _ _ _ _ _ _ _ _ _ _ hC416 hC417 hC410 hC418 hC419 hC421 hC413 hC414 hC415 (by omega) hds hdw (by omega) hx1 hFO hx0 hN6 _ fun T1_426 T3_427 T4_428 T6_429 w430 gg431 hC432 hC433 hC434 hC435 hC436 hC437 hp438 => ?_)))
      have hC440 := (gg431.2 p (by (try dsimp only); omega)).trans hC413
      have hC441 := (gg431.2 z (by (try dsimp only); omega)).trans hC414
      have hC442 := (gg431.2 (q + 2) (by (try dsimp only); omega)).trans hC410
      have hC443 := (gg431.2 (q + 5) (by (try dsimp only); omega)).trans hC420
      refine (?_ : R (_, _, [], w430, 0 + mc1 + mc2, 0 + ms1 + ms2))
      have hSP := hp438
      have hok : ∀ L t : Int, 0 ≤ L → L ≤ 9 → okW T2_407 L t = true := fun L t l0 l1 => okW_t (Or.inl (hp411 L l0 l1))
      have hMA := hM_all hx1 (rfl : bShl 1 nn - 1 = bShl 1 nn - 1)
      have hR1 : 0 < a2 → nn ≠ 0 := fun z => by omega
      have hsn := spq_r hSP (lv := a2) (by omega) (by omega) (by omega)
      refine hR (?_ : R (_, _, _, _, _, _))
      refine hR (c_obj hC432 (zcall_i 0 0 (Nat.le_refl _) (Nat.le_refl _) (x_endByDriftI _ _ _ _ _ _ _ _ _ _ _ _ _ _ _ _ hC432 hC433 hC434 hC443 hC440 hC441 (by omega) hsn (fun j j0 j1 => (spq_x hSP (by omega) (by omega) j0 j1).1) hx0 ⟨hdw.1, hdw.2.1⟩ _ fun T5_444 w445 gg446 hC447 hp448 => ?_)))
      have hC450 := (gg446.2 p (by (try dsimp only); omega)).trans hC440
      have hC451 := (gg446.2 z (by (try dsimp only); omega)).trans hC441
      have hC452 := AFK_fr hC437 (fun j hj => gg446.2 j (by (try dsimp only); omega))
      have hC453 := (gg446.2 q (by (try dsimp only); omega)).trans hC432
      have hC454 := (gg446.2 (q + 1) (by (try dsimp only); omega)).trans hC433
      have hC455 := (gg446.2 (q + 2) (by (try dsimp only); omega)).trans hC442
      have hC456 := (gg446.2 (q + 3) (by (try dsimp only); omega)).trans hC434
      have hC457 := (gg446.2 (q + 4) (by (try dsimp only); omega)).trans hC435
      have hC458 := (gg446.2 (q + 6) (by (try dsimp only); omega)).trans hC436
      refine (?_ : R (_, _, [], w445, 0 + mc1 + mc2, 0 + ms1 + ms2))
      have h5 := hp448
      refine hR (?_ : R (_, _, _, _, _, _))
      refine hR (k_ne (by omega) (fun _ => ?_) (fun hc => by omega))
      iterate 3 refine hR (?_ : R (_, _, _, _, _, _))
      refine hR (c_obj hC453 (zcall_i 0 0 (Nat.le_refl _) (Nat.le_refl _) (x_foldBackI _ _ _ _ _ _ _ _ _ _ _ _ _ _ _ _ _ _ _ _ _ _ _ _ hC453 hC454 hC456 hC447 hC458 hC450 hC451 hC452 (by omega) hds hdw (by omega) hx1 hFO (by omega) hSP (⟨by omega, dft_b x0⟩ : (0 ≤ (12 : Int) ∧ (12 : Int) ≤ 12) ∧ ∀ t : Int, 0 ≤ t → t ≤ 5460 → 0 ≤ (fun t => dft t x0) t ∧ (fun t => dft t x0) t ≤ 12) (fbq_n (D := fun t => dft t x0) h5) _ fun T5_459 T6_460 w461 gg462 hC463 hC464 hC465 hp466 hp467 => ?_)))
      have hC469 := (gg462.2 p (by (try dsimp only); omega)).trans hC450
      have hC470 := (gg462.2 z (by (try dsimp only); omega)).trans hC451
      have hC471 := (gg462.2 q (by (try dsimp only); omega)).trans hC453
      have hC472 := (gg462.2 (q + 1) (by (try dsimp only); omega)).trans hC454
      have hC473 := (gg462.2 (q + 2) (by (try dsimp only); omega)).trans hC455
      have hC474 := (gg462.2 (q + 3) (by (try dsimp only); omega)).trans hC456
      have hC475 := (gg462.2 (q + 4) (by (try dsimp only); omega)).trans hC457
      refine (?_ : R (_, _, [], w461, 0 + mc1 + mc2, 0 + ms1 + ms2))
      have hFB := fbq_va hSP hFO hx1.1 (by omega) hMA hok hp466
      have hSP2 := spq_6 hSP hp467
      iterate 2 refine hR (?_ : R (_, _, _, _, _, _))
      refine hR (t_c 10 (by decide) ?_)
      refine hR (t_sub ?_)
      refine hR (c_obj hC471 (zcall_i 0 0 (Nat.le_refl _) (Nat.le_refl _) (x_chosenAtI _ _ _ _ _ _ _ _ _ _ _ _ _ _ _ _ _ _ _ _ _ _ hC471 hC472 hC474 hC463 hC464 hC469 hC470 hC465 (by omega) hds hdw (by omega) hx1 hFO hSP2 hFB (fun d t t0 t1 => by have h9 := va_b (how := 0) hFO hx1 (by decide) (dft_b x0) (Or.inl rfl) d t t0 t1; omega) hMA hok (fun lv t l0 l1 t0 t1 => cr_ex hFO ⟨by omega, by omega⟩ (by decide) (dft_b x0) l0 l1 t0 t1) (by omega) hx0 _ fun v476 T6_477 w478 gg479 hC480 hC481 hp482 hp483 => ?_)))
      have hC485 := (gg479.2 p (by (try dsimp only); omega)).trans hC469
      have hC486 := (gg479.2 z (by (try dsimp only); omega)).trans hC470
      have hC487 := (gg479.2 q (by (try dsimp only); omega)).trans hC471
      have hC488 := (gg479.2 (q + 1) (by (try dsimp only); omega)).trans hC472
      have hC489 := (gg479.2 (q + 2) (by (try dsimp only); omega)).trans hC473
      have hC490 := (gg479.2 (q + 3) (by (try dsimp only); omega)).trans hC474
      have hC491 := (gg479.2 (q + 4) (by (try dsimp only); omega)).trans hC475
      have hC492 := (gg479.2 (q + 5) (by (try dsimp only); omega)).trans hC463
      refine (?_ : R (_, _, .int (Int32.ofInt v476) :: [], w478, 0 + mc1 + mc2, 0 + ms1 + ms2))
      exact hR (zret_i rfl (Nat.le_refl _) trivial ⟨some z, wm, hbk, hK, Or.inr ⟨z, (0, 0, x0, nn, x2, gk, gs, gi, gn), rfl, hX, hXA, hx1, hx0, rx_ret (show v476 = rotV (rdF gk gs gi gn) x0 nn a2 a3 from hp482.trans (rot_k (by omega) hR1 (by omega)).symm)⟩⟩)
    refine hR (?_ : R (_, _, _, _, _, _))
    refine hR (c_obj hO (zcall_i 0 0 (Nat.le_refl _) (Nat.le_refl _) (x_allI _ _ _ _ _ _ _ _ _ hO hB (by omega) _ fun v493 hp494 => ?_)))
    subst hp494
    refine (?_ : R (_, _, .int (Int32.ofInt (bShl 1 nn - 1)) :: [], wm, 0 + mc1, 0 + ms1))
    have hsb := shl_b hx1
    have ha0 := all_0 hx1
    refine hR (k_ne (by omega) (fun hc495 => ?_) (fun hc495 => ?_))
    rotate_left
    · skip
      refine hR (?_ : R (_, _, _, _, _, _))
      exact hR (zret_i rfl (Nat.le_refl _) trivial ⟨some z, wm, hbk, hK, Or.inr ⟨z, (0, 0, x0, nn, x2, gk, gs, gi, gn), rfl, hX, hXA, hx1, hx0, rx_ret (show (-1) = rotV (rdF gk gs gi gn) x0 nn a2 a3 from (rot_n (by omega)).symm)⟩⟩)
    refine hR (?_ : R (_, _, _, _, _, _))
    refine hR (t_c 10 (by decide) ?_)
    refine hR (j_lt (by omega) (by omega) (fun hc496 => ?_) (fun hc496 => ?_))
    · skip
      iterate 3 refine hR (?_ : R (_, _, _, _, _, _))
      refine hR (k_eq (by omega) (fun hc497 => ?_) (fun hc497 => ?_))
      · skip
        refine hR (?_ : R (_, _, _, _, _, _))
        obtain ⟨y6w, y7w, h0w, -⟩ := top_o hT1
        obtain ⟨mc2, ms2, re2, w2, ⟨τ, q, hA2, hre2, hq, hlv, hfr2⟩, hrun2⟩ := a_levelsThereX hT1 (d + 3)
        subst hre2
        refine hR0 (0 + mc1 + mc2) (0 + ms1 + ms2) (Nat.le_add_right _ _) (Nat.le_add_right _ _) (c_obj h0w (zcall_i mc2 ms2 (Nat.le_refl _) (Nat.le_refl _) (hrun2 _ ?_)))
        refine (?_ : R (_, _, .ref q :: [], w2, 0 + mc1 + mc2, 0 + ms1 + ms2))
        have hT2 := hA2.1
        have hx2 := hA2.2.2.2.1
        obtain ⟨kp2, kz2, kk2⟩ := rx_keep hT1 hfr2 hp hz (Or.inl hT1.2.1)
        have hOw2 := kp2.trans hO
        have hBw2 := (kz2 z (by omega) (by omega)).trans hB
        have hAFw2 := AFK_fr hAF (fun j hj => rx_j kk2 kz2 hj)
        have hFO := AFK_ok hAF hx1
        have hpT := (hx2 p (by rw [hp]; decide)).trans hp
        have hzT := (hx2 z (by rw [hz]; decide)).trans hz
        have hdw := rx_dl hT2.1 hq hpT hzT
        obtain ⟨yo, y1, y2, y3, gS, gW, g3, g4, g5, g6, hQ0, hQ1, hQ2, hQ3, hQ4, hQ5, hQ6, hN6⟩ := lv_open hT2 hq hlv
        iterate 2 refine hR (?_ : R (_, _, _, _, _, _))
        refine hR (c_obj hQ0 (zcall_i 0 0 (Nat.le_refl _) (Nat.le_refl _) (x_wantNothingI _ _ _ _ _ _ _ _ hQ0 hQ2 _ fun T2_498 w499 gg500 hC501 hp502 => ?_)))
        have hC504 := (gg500.2 p (by (try dsimp only); omega)).trans hOw2
        have hC505 := (gg500.2 z (by (try dsimp only); omega)).trans hBw2
        have hC506 := AFK_fr hAFw2 (fun j hj => gg500.2 j (by (try dsimp only); omega))
        have hC507 := (gg500.2 q (by (try dsimp only); omega)).trans hQ0
        have hC508 := (gg500.2 (q + 1) (by (try dsimp only); omega)).trans hQ1
        have hC509 := (gg500.2 (q + 3) (by (try dsimp only); omega)).trans hQ3
        have hC510 := (gg500.2 (q + 4) (by (try dsimp only); omega)).trans hQ4
        have hC511 := (gg500.2 (q + 5) (by (try dsimp only); omega)).trans hQ5
        have hC512 := (gg500.2 (q + 6) (by (try dsimp only); omega)).trans hQ6
        refine (?_ : R (_, _, [], w499, 0 + mc1 + mc2, 0 + ms1 + ms2))
        iterate 4 refine hR (?_ : R (_, _, _, _, _, _))
        refine hR (c_obj hC504 (zcall_i 0 0 (Nat.le_refl _) (Nat.le_refl _) (x_allI _ _ _ _ _ _ _ _ _ hC504 hC505 (by omega) _ fun v513 hp514 => ?_)))
        subst hp514
        refine (?_ : R (_, _, .int (Int32.ofInt (bShl 1 nn - 1)) :: .int (Int32.ofInt a2) :: .ref p :: .ref q :: [], w499, 0 + mc1 + mc2, 0 + ms1 + ms2))
        have hsb := shl_b hx1
        have ha0 := all_0 hx1
        refine hR (?_ : R (_, _, _, _, _, _))
        refine hR (c_obj hC504 (zcall_i 0 0 (Nat.le_refl _) (Nat.le_refl _) (x_allI _ _ _ _ _ _ _ _ _ hC504 hC505 (by omega) _ fun v515 hp516 => ?_)))
        subst hp516
        refine (?_ : R (_, _, .int (Int32.ofInt (bShl 1 nn - 1)) :: .int (Int32.ofInt (bShl 1 nn - 1)) :: .int (Int32.ofInt a2) :: .ref p :: .ref q :: [], w499, 0 + mc1 + mc2, 0 + ms1 + ms2))
        have hsb := shl_b hx1
        have ha0 := all_0 hx1
        refine hR (c_obj hC507 (zcall_i 0 0 (Nat.le_refl _) (Nat.le_refl _) (x_spreadI _ _ _ _ _ _ _ _ _ _ _ _ _ _ _ _ _ _ _ _ _ _ _ hC507 hC508 hC501 hC509 hC510 hC512 hC504 hC505 hC506 (by omega) hds hdw (by omega) hx1 hFO hx0 hN6 _ fun T1_517 T3_518 T4_519 T6_520 w521 gg522 hC523 hC524 hC525 hC526 hC527 hC528 hp529 => ?_)))
        have hC531 := (gg522.2 p (by (try dsimp only); omega)).trans hC504
        have hC532 := (gg522.2 z (by (try dsimp only); omega)).trans hC505
        have hC533 := (gg522.2 (q + 2) (by (try dsimp only); omega)).trans hC501
        have hC534 := (gg522.2 (q + 5) (by (try dsimp only); omega)).trans hC511
        refine (?_ : R (_, _, [], w521, 0 + mc1 + mc2, 0 + ms1 + ms2))
        have hSP := hp529
        have hok : ∀ L t : Int, 0 ≤ L → L ≤ 9 → okW T2_498 L t = true := fun L t l0 l1 => okW_t (Or.inl (hp502 L l0 l1))
        have hMA := hM_all hx1 (rfl : bShl 1 nn - 1 = bShl 1 nn - 1)
        have hR1 : 0 < a2 → nn ≠ 0 := fun z => by omega
        have hsn := spq_r hSP (lv := a2) (by omega) (by omega) (by omega)
        refine hR (?_ : R (_, _, _, _, _, _))
        refine hR (c_obj hC523 (zcall_i 0 0 (Nat.le_refl _) (Nat.le_refl _) (x_endByDriftI _ _ _ _ _ _ _ _ _ _ _ _ _ _ _ _ hC523 hC524 hC525 hC534 hC531 hC532 (by omega) hsn (fun j j0 j1 => (spq_x hSP (by omega) (by omega) j0 j1).1) hx0 ⟨hdw.1, hdw.2.1⟩ _ fun T5_535 w536 gg537 hC538 hp539 => ?_)))
        have hC541 := (gg537.2 p (by (try dsimp only); omega)).trans hC531
        have hC542 := (gg537.2 z (by (try dsimp only); omega)).trans hC532
        have hC543 := AFK_fr hC528 (fun j hj => gg537.2 j (by (try dsimp only); omega))
        have hC544 := (gg537.2 q (by (try dsimp only); omega)).trans hC523
        have hC545 := (gg537.2 (q + 1) (by (try dsimp only); omega)).trans hC524
        have hC546 := (gg537.2 (q + 2) (by (try dsimp only); omega)).trans hC533
        have hC547 := (gg537.2 (q + 3) (by (try dsimp only); omega)).trans hC525
        have hC548 := (gg537.2 (q + 4) (by (try dsimp only); omega)).trans hC526
        have hC549 := (gg537.2 (q + 6) (by (try dsimp only); omega)).trans hC527
        refine (?_ : R (_, _, [], w536, 0 + mc1 + mc2, 0 + ms1 + ms2))
        have h5 := hp539
        refine hR (?_ : R (_, _, _, _, _, _))
        refine hR (k_ne (by omega) (fun hc => by omega) (fun _ => ?_))
        iterate 3 refine hR (?_ : R (_, _, _, _, _, _))
        refine hR (j_ne (by omega) (by omega) (fun hc550 => ?_) (fun hc550 => ?_))
        · skip
          refine hR (?_ : R (_, _, _, _, _, _))
          have hmx := rot_mx (how := 0) hFO hx1 hR1 (by omega) (by omega) (by omega) hMA hok hx0
          refine hR (c_obj hC544 (zcall_i 0 0 (Nat.le_refl _) (Nat.le_refl _) (x_bestEndI _ _ _ _ _ _ _ _ _ _ hC544 hC545 hC538 (by omega) hsn (rot_ne hSP (by omega) hmx) (by omega) _ fun v551 hp552 => ?_)))
          refine (?_ : R (_, _, .int (Int32.ofInt v551) :: [], w536, 0 + mc1 + mc2, 0 + ms1 + ms2))
          have hbe := rot_be hSP (by omega) (by omega) hmx h5 hp552
          exact hR (zret_i rfl (Nat.le_refl _) trivial ⟨some z, wm, hbk, hK, Or.inr ⟨z, (0, 0, x0, nn, x2, gk, gs, gi, gn), rfl, hX, hXA, hx1, hx0, rx_ret (show v551 = rotV (rdF gk gs gi gn) x0 nn a2 a3 from (by rw [rot_y (by omega) hR1 (by omega), show a3 = 0 by omega]; exact hbe))⟩⟩)
        iterate 2 refine hR (?_ : R (_, _, _, _, _, _))
        have hmx := rot_mx (how := 1) hFO hx1 hR1 (by omega) (by omega) (by omega) hMA hok hx0
        refine hR (c_obj hC544 (zcall_i 0 0 (Nat.le_refl _) (Nat.le_refl _) (x_bestEndI _ _ _ _ _ _ _ _ _ _ hC544 hC545 hC538 (by omega) hsn (rot_ne hSP (by omega) hmx) (by omega) _ fun v553 hp554 => ?_)))
        refine (?_ : R (_, _, .int (Int32.ofInt v553) :: [], w536, 0 + mc1 + mc2, 0 + ms1 + ms2))
        have hbe := rot_be hSP (by omega) (by omega) hmx h5 hp554
        exact hR (zret_i rfl (Nat.le_refl _) trivial ⟨some z, wm, hbk, hK, Or.inr ⟨z, (0, 0, x0, nn, x2, gk, gs, gi, gn), rfl, hX, hXA, hx1, hx0, rx_ret (show v553 = rotV (rdF gk gs gi gn) x0 nn a2 a3 from (by rw [rot_y (by omega) hR1 (by omega), show a3 = 1 by omega]; exact hbe))⟩⟩)
      iterate 2 refine hR (?_ : R (_, _, _, _, _, _))
      refine hR (j_eq (by omega) (by omega) (fun hc555 => ?_) (fun hc555 => ?_))
      rotate_left
      · skip
        refine hR (?_ : R (_, _, _, _, _, _))
        refine hR (k_ne (by omega) (fun hc => by omega) (fun _ => ?_))
        refine hR (?_ : R (_, _, _, _, _, _))
        exact hR (zret_i rfl (Nat.le_refl _) trivial ⟨some z, wm, hbk, hK, Or.inr ⟨z, (0, 0, x0, nn, x2, gk, gs, gi, gn), rfl, hX, hXA, hx1, hx0, rx_ret (show (-1) = rotV (rdF gk gs gi gn) x0 nn a2 a3 from (rot_n (by omega)).symm)⟩⟩)
      refine hR (?_ : R (_, _, _, _, _, _))
      obtain ⟨y6w, y7w, h0w, -⟩ := top_o hT1
      obtain ⟨mc2, ms2, re2, w2, ⟨τ, q, hA2, hre2, hq, hlv, hfr2⟩, hrun2⟩ := a_levelsThereX hT1 (d + 3)
      subst hre2
      refine hR0 (0 + mc1 + mc2) (0 + ms1 + ms2) (Nat.le_add_right _ _) (Nat.le_add_right _ _) (c_obj h0w (zcall_i mc2 ms2 (Nat.le_refl _) (Nat.le_refl _) (hrun2 _ ?_)))
      refine (?_ : R (_, _, .ref q :: [], w2, 0 + mc1 + mc2, 0 + ms1 + ms2))
      have hT2 := hA2.1
      have hx2 := hA2.2.2.2.1
      obtain ⟨kp2, kz2, kk2⟩ := rx_keep hT1 hfr2 hp hz (Or.inl hT1.2.1)
      have hOw2 := kp2.trans hO
      have hBw2 := (kz2 z (by omega) (by omega)).trans hB
      have hAFw2 := AFK_fr hAF (fun j hj => rx_j kk2 kz2 hj)
      have hFO := AFK_ok hAF hx1
      have hpT := (hx2 p (by rw [hp]; decide)).trans hp
      have hzT := (hx2 z (by rw [hz]; decide)).trans hz
      have hdw := rx_dl hT2.1 hq hpT hzT
      obtain ⟨yo, y1, y2, y3, gS, gW, g3, g4, g5, g6, hQ0, hQ1, hQ2, hQ3, hQ4, hQ5, hQ6, hN6⟩ := lv_open hT2 hq hlv
      iterate 2 refine hR (?_ : R (_, _, _, _, _, _))
      refine hR (c_obj hQ0 (zcall_i 0 0 (Nat.le_refl _) (Nat.le_refl _) (x_wantNothingI _ _ _ _ _ _ _ _ hQ0 hQ2 _ fun T2_556 w557 gg558 hC559 hp560 => ?_)))
      have hC562 := (gg558.2 p (by (try dsimp only); omega)).trans hOw2
      have hC563 := (gg558.2 z (by (try dsimp only); omega)).trans hBw2
      have hC564 := AFK_fr hAFw2 (fun j hj => gg558.2 j (by (try dsimp only); omega))
      have hC565 := (gg558.2 q (by (try dsimp only); omega)).trans hQ0
      have hC566 := (gg558.2 (q + 1) (by (try dsimp only); omega)).trans hQ1
      have hC567 := (gg558.2 (q + 3) (by (try dsimp only); omega)).trans hQ3
      have hC568 := (gg558.2 (q + 4) (by (try dsimp only); omega)).trans hQ4
      have hC569 := (gg558.2 (q + 5) (by (try dsimp only); omega)).trans hQ5
      have hC570 := (gg558.2 (q + 6) (by (try dsimp only); omega)).trans hQ6
      refine (?_ : R (_, _, [], w557, 0 + mc1 + mc2, 0 + ms1 + ms2))
      iterate 4 refine hR (?_ : R (_, _, _, _, _, _))
      refine hR (c_obj hC562 (zcall_i 0 0 (Nat.le_refl _) (Nat.le_refl _) (x_allI _ _ _ _ _ _ _ _ _ hC562 hC563 (by omega) _ fun v571 hp572 => ?_)))
      subst hp572
      refine (?_ : R (_, _, .int (Int32.ofInt (bShl 1 nn - 1)) :: .int (Int32.ofInt a2) :: .ref p :: .ref q :: [], w557, 0 + mc1 + mc2, 0 + ms1 + ms2))
      have hsb := shl_b hx1
      have ha0 := all_0 hx1
      refine hR (?_ : R (_, _, _, _, _, _))
      refine hR (c_obj hC562 (zcall_i 0 0 (Nat.le_refl _) (Nat.le_refl _) (x_allI _ _ _ _ _ _ _ _ _ hC562 hC563 (by omega) _ fun v573 hp574 => ?_)))
      subst hp574
      refine (?_ : R (_, _, .int (Int32.ofInt (bShl 1 nn - 1)) :: .int (Int32.ofInt (bShl 1 nn - 1)) :: .int (Int32.ofInt a2) :: .ref p :: .ref q :: [], w557, 0 + mc1 + mc2, 0 + ms1 + ms2))
      have hsb := shl_b hx1
      have ha0 := all_0 hx1
      refine hR (c_obj hC565 (zcall_i 0 0 (Nat.le_refl _) (Nat.le_refl _) (x_spreadI _ _ _ _ _ _ _ _ _ _ _ _ _ _ _ _ _ _ _ _ _ _ _ hC565 hC566 hC559 hC567 hC568 hC570 hC562 hC563 hC564 (by omega) hds hdw (by omega) hx1 hFO hx0 hN6 _ fun T1_575 T3_576 T4_577 T6_578 w579 gg580 hC581 hC582 hC583 hC584 hC585 hC586 hp587 => ?_)))
      have hC589 := (gg580.2 p (by (try dsimp only); omega)).trans hC562
      have hC590 := (gg580.2 z (by (try dsimp only); omega)).trans hC563
      have hC591 := (gg580.2 (q + 2) (by (try dsimp only); omega)).trans hC559
      have hC592 := (gg580.2 (q + 5) (by (try dsimp only); omega)).trans hC569
      refine (?_ : R (_, _, [], w579, 0 + mc1 + mc2, 0 + ms1 + ms2))
      have hSP := hp587
      have hok : ∀ L t : Int, 0 ≤ L → L ≤ 9 → okW T2_556 L t = true := fun L t l0 l1 => okW_t (Or.inl (hp560 L l0 l1))
      have hMA := hM_all hx1 (rfl : bShl 1 nn - 1 = bShl 1 nn - 1)
      have hR1 : 0 < a2 → nn ≠ 0 := fun z => by omega
      have hsn := spq_r hSP (lv := a2) (by omega) (by omega) (by omega)
      refine hR (?_ : R (_, _, _, _, _, _))
      refine hR (c_obj hC581 (zcall_i 0 0 (Nat.le_refl _) (Nat.le_refl _) (x_endByDriftI _ _ _ _ _ _ _ _ _ _ _ _ _ _ _ _ hC581 hC582 hC583 hC592 hC589 hC590 (by omega) hsn (fun j j0 j1 => (spq_x hSP (by omega) (by omega) j0 j1).1) hx0 ⟨hdw.1, hdw.2.1⟩ _ fun T5_593 w594 gg595 hC596 hp597 => ?_)))
      have hC599 := (gg595.2 p (by (try dsimp only); omega)).trans hC589
      have hC600 := (gg595.2 z (by (try dsimp only); omega)).trans hC590
      have hC601 := AFK_fr hC586 (fun j hj => gg595.2 j (by (try dsimp only); omega))
      have hC602 := (gg595.2 q (by (try dsimp only); omega)).trans hC581
      have hC603 := (gg595.2 (q + 1) (by (try dsimp only); omega)).trans hC582
      have hC604 := (gg595.2 (q + 2) (by (try dsimp only); omega)).trans hC591
      have hC605 := (gg595.2 (q + 3) (by (try dsimp only); omega)).trans hC583
      have hC606 := (gg595.2 (q + 4) (by (try dsimp only); omega)).trans hC584
      have hC607 := (gg595.2 (q + 6) (by (try dsimp only); omega)).trans hC585
      refine (?_ : R (_, _, [], w594, 0 + mc1 + mc2, 0 + ms1 + ms2))
      have h5 := hp597
      refine hR (?_ : R (_, _, _, _, _, _))
      refine hR (k_ne (by omega) (fun hc => by omega) (fun _ => ?_))
      iterate 3 refine hR (?_ : R (_, _, _, _, _, _))
      refine hR (j_ne (by omega) (by omega) (fun hc => by omega) (fun _ => ?_))
      iterate 2 refine hR (?_ : R (_, _, _, _, _, _))
      have hmx := rot_mx (how := 1) hFO hx1 hR1 (by omega) (by omega) (by omega) hMA hok hx0
      refine hR (c_obj hC602 (zcall_i 0 0 (Nat.le_refl _) (Nat.le_refl _) (x_bestEndI _ _ _ _ _ _ _ _ _ _ hC602 hC603 hC596 (by omega) hsn (rot_ne hSP (by omega) hmx) (by omega) _ fun v608 hp609 => ?_)))
      refine (?_ : R (_, _, .int (Int32.ofInt v608) :: [], w594, 0 + mc1 + mc2, 0 + ms1 + ms2))
      have hbe := rot_be hSP (by omega) (by omega) hmx h5 hp609
      exact hR (zret_i rfl (Nat.le_refl _) trivial ⟨some z, wm, hbk, hK, Or.inr ⟨z, (0, 0, x0, nn, x2, gk, gs, gi, gn), rfl, hX, hXA, hx1, hx0, rx_ret (show v608 = rotV (rdF gk gs gi gn) x0 nn a2 a3 from (by rw [rot_y (by omega) hR1 (by omega), show a3 = 1 by omega]; exact hbe))⟩⟩)
    refine hR (?_ : R (_, _, _, _, _, _))
    refine hR (t_c 10 (by decide) ?_)
    refine hR (?_ : R (_, _, _, _, _, _))
    refine hR (t_add ?_)
    refine hR (j_ge (by omega) (by omega) (fun hc610 => ?_) (fun hc610 => ?_))
    · skip
      iterate 3 refine hR (?_ : R (_, _, _, _, _, _))
      refine hR (k_eq (by omega) (fun hc611 => ?_) (fun hc611 => ?_))
      · skip
        refine hR (?_ : R (_, _, _, _, _, _))
        obtain ⟨y6w, y7w, h0w, -⟩ := top_o hT1
        obtain ⟨mc2, ms2, re2, w2, ⟨τ, q, hA2, hre2, hq, hlv, hfr2⟩, hrun2⟩ := a_levelsThereX hT1 (d + 3)
        subst hre2
        refine hR0 (0 + mc1 + mc2) (0 + ms1 + ms2) (Nat.le_add_right _ _) (Nat.le_add_right _ _) (c_obj h0w (zcall_i mc2 ms2 (Nat.le_refl _) (Nat.le_refl _) (hrun2 _ ?_)))
        refine (?_ : R (_, _, .ref q :: [], w2, 0 + mc1 + mc2, 0 + ms1 + ms2))
        have hT2 := hA2.1
        have hx2 := hA2.2.2.2.1
        obtain ⟨kp2, kz2, kk2⟩ := rx_keep hT1 hfr2 hp hz (Or.inl hT1.2.1)
        have hOw2 := kp2.trans hO
        have hBw2 := (kz2 z (by omega) (by omega)).trans hB
        have hAFw2 := AFK_fr hAF (fun j hj => rx_j kk2 kz2 hj)
        have hFO := AFK_ok hAF hx1
        have hpT := (hx2 p (by rw [hp]; decide)).trans hp
        have hzT := (hx2 z (by rw [hz]; decide)).trans hz
        have hdw := rx_dl hT2.1 hq hpT hzT
        obtain ⟨yo, y1, y2, y3, gS, gW, g3, g4, g5, g6, hQ0, hQ1, hQ2, hQ3, hQ4, hQ5, hQ6, hN6⟩ := lv_open hT2 hq hlv
        iterate 2 refine hR (?_ : R (_, _, _, _, _, _))
        refine hR (c_obj hQ0 (zcall_i 0 0 (Nat.le_refl _) (Nat.le_refl _) (x_wantNothingI _ _ _ _ _ _ _ _ hQ0 hQ2 _ fun T2_612 w613 gg614 hC615 hp616 => ?_)))
        have hC618 := (gg614.2 p (by (try dsimp only); omega)).trans hOw2
        have hC619 := (gg614.2 z (by (try dsimp only); omega)).trans hBw2
        have hC620 := AFK_fr hAFw2 (fun j hj => gg614.2 j (by (try dsimp only); omega))
        have hC621 := (gg614.2 q (by (try dsimp only); omega)).trans hQ0
        have hC622 := (gg614.2 (q + 1) (by (try dsimp only); omega)).trans hQ1
        have hC623 := (gg614.2 (q + 3) (by (try dsimp only); omega)).trans hQ3
        have hC624 := (gg614.2 (q + 4) (by (try dsimp only); omega)).trans hQ4
        have hC625 := (gg614.2 (q + 5) (by (try dsimp only); omega)).trans hQ5
        have hC626 := (gg614.2 (q + 6) (by (try dsimp only); omega)).trans hQ6
        refine (?_ : R (_, _, [], w613, 0 + mc1 + mc2, 0 + ms1 + ms2))
        iterate 4 refine hR (?_ : R (_, _, _, _, _, _))
        refine hR (c_obj hC618 (zcall_i 0 0 (Nat.le_refl _) (Nat.le_refl _) (x_allI _ _ _ _ _ _ _ _ _ hC618 hC619 (by omega) _ fun v627 hp628 => ?_)))
        subst hp628
        refine (?_ : R (_, _, .int (Int32.ofInt (bShl 1 nn - 1)) :: .int (Int32.ofInt a2) :: .ref p :: .ref q :: [], w613, 0 + mc1 + mc2, 0 + ms1 + ms2))
        have hsb := shl_b hx1
        have ha0 := all_0 hx1
        refine hR (?_ : R (_, _, _, _, _, _))
        refine hR (c_obj hC618 (zcall_i 0 0 (Nat.le_refl _) (Nat.le_refl _) (x_allI _ _ _ _ _ _ _ _ _ hC618 hC619 (by omega) _ fun v629 hp630 => ?_)))
        subst hp630
        refine (?_ : R (_, _, .int (Int32.ofInt (bShl 1 nn - 1)) :: .int (Int32.ofInt (bShl 1 nn - 1)) :: .int (Int32.ofInt a2) :: .ref p :: .ref q :: [], w613, 0 + mc1 + mc2, 0 + ms1 + ms2))
        have hsb := shl_b hx1
        have ha0 := all_0 hx1
        refine hR (c_obj hC621 (zcall_i 0 0 (Nat.le_refl _) (Nat.le_refl _) (x_spreadI _ _ _ _ _ _ _ _ _ _ _ _ _ _ _ _ _ _ _ _ _ _ _ hC621 hC622 hC615 hC623 hC624 hC626 hC618 hC619 hC620 (by omega) hds hdw (by omega) hx1 hFO hx0 hN6 _ fun T1_631 T3_632 T4_633 T6_634 w635 gg636 hC637 hC638 hC639 hC640 hC641 hC642 hp643 => ?_)))
        have hC645 := (gg636.2 p (by (try dsimp only); omega)).trans hC618
        have hC646 := (gg636.2 z (by (try dsimp only); omega)).trans hC619
        have hC647 := (gg636.2 (q + 2) (by (try dsimp only); omega)).trans hC615
        have hC648 := (gg636.2 (q + 5) (by (try dsimp only); omega)).trans hC625
        refine (?_ : R (_, _, [], w635, 0 + mc1 + mc2, 0 + ms1 + ms2))
        have hSP := hp643
        have hok : ∀ L t : Int, 0 ≤ L → L ≤ 9 → okW T2_612 L t = true := fun L t l0 l1 => okW_t (Or.inl (hp616 L l0 l1))
        have hMA := hM_all hx1 (rfl : bShl 1 nn - 1 = bShl 1 nn - 1)
        have hR1 : 0 < a2 → nn ≠ 0 := fun z => by omega
        have hsn := spq_r hSP (lv := a2) (by omega) (by omega) (by omega)
        refine hR (?_ : R (_, _, _, _, _, _))
        refine hR (c_obj hC637 (zcall_i 0 0 (Nat.le_refl _) (Nat.le_refl _) (x_endByDriftI _ _ _ _ _ _ _ _ _ _ _ _ _ _ _ _ hC637 hC638 hC639 hC648 hC645 hC646 (by omega) hsn (fun j j0 j1 => (spq_x hSP (by omega) (by omega) j0 j1).1) hx0 ⟨hdw.1, hdw.2.1⟩ _ fun T5_649 w650 gg651 hC652 hp653 => ?_)))
        have hC655 := (gg651.2 p (by (try dsimp only); omega)).trans hC645
        have hC656 := (gg651.2 z (by (try dsimp only); omega)).trans hC646
        have hC657 := AFK_fr hC642 (fun j hj => gg651.2 j (by (try dsimp only); omega))
        have hC658 := (gg651.2 q (by (try dsimp only); omega)).trans hC637
        have hC659 := (gg651.2 (q + 1) (by (try dsimp only); omega)).trans hC638
        have hC660 := (gg651.2 (q + 2) (by (try dsimp only); omega)).trans hC647
        have hC661 := (gg651.2 (q + 3) (by (try dsimp only); omega)).trans hC639
        have hC662 := (gg651.2 (q + 4) (by (try dsimp only); omega)).trans hC640
        have hC663 := (gg651.2 (q + 6) (by (try dsimp only); omega)).trans hC641
        refine (?_ : R (_, _, [], w650, 0 + mc1 + mc2, 0 + ms1 + ms2))
        have h5 := hp653
        refine hR (?_ : R (_, _, _, _, _, _))
        refine hR (k_ne (by omega) (fun hc => by omega) (fun _ => ?_))
        iterate 3 refine hR (?_ : R (_, _, _, _, _, _))
        refine hR (j_ne (by omega) (by omega) (fun hc664 => ?_) (fun hc664 => ?_))
        · skip
          refine hR (?_ : R (_, _, _, _, _, _))
          have hmx := rot_mx (how := 0) hFO hx1 hR1 (by omega) (by omega) (by omega) hMA hok hx0
          refine hR (c_obj hC658 (zcall_i 0 0 (Nat.le_refl _) (Nat.le_refl _) (x_bestEndI _ _ _ _ _ _ _ _ _ _ hC658 hC659 hC652 (by omega) hsn (rot_ne hSP (by omega) hmx) (by omega) _ fun v665 hp666 => ?_)))
          refine (?_ : R (_, _, .int (Int32.ofInt v665) :: [], w650, 0 + mc1 + mc2, 0 + ms1 + ms2))
          have hbe := rot_be hSP (by omega) (by omega) hmx h5 hp666
          exact hR (zret_i rfl (Nat.le_refl _) trivial ⟨some z, wm, hbk, hK, Or.inr ⟨z, (0, 0, x0, nn, x2, gk, gs, gi, gn), rfl, hX, hXA, hx1, hx0, rx_ret (show v665 = rotV (rdF gk gs gi gn) x0 nn a2 a3 from (by rw [rot_y (by omega) hR1 (by omega), show a3 = 0 by omega]; exact hbe))⟩⟩)
        iterate 2 refine hR (?_ : R (_, _, _, _, _, _))
        have hmx := rot_mx (how := 1) hFO hx1 hR1 (by omega) (by omega) (by omega) hMA hok hx0
        refine hR (c_obj hC658 (zcall_i 0 0 (Nat.le_refl _) (Nat.le_refl _) (x_bestEndI _ _ _ _ _ _ _ _ _ _ hC658 hC659 hC652 (by omega) hsn (rot_ne hSP (by omega) hmx) (by omega) _ fun v667 hp668 => ?_)))
        refine (?_ : R (_, _, .int (Int32.ofInt v667) :: [], w650, 0 + mc1 + mc2, 0 + ms1 + ms2))
        have hbe := rot_be hSP (by omega) (by omega) hmx h5 hp668
        exact hR (zret_i rfl (Nat.le_refl _) trivial ⟨some z, wm, hbk, hK, Or.inr ⟨z, (0, 0, x0, nn, x2, gk, gs, gi, gn), rfl, hX, hXA, hx1, hx0, rx_ret (show v667 = rotV (rdF gk gs gi gn) x0 nn a2 a3 from (by rw [rot_y (by omega) hR1 (by omega), show a3 = 1 by omega]; exact hbe))⟩⟩)
      iterate 2 refine hR (?_ : R (_, _, _, _, _, _))
      refine hR (j_eq (by omega) (by omega) (fun hc669 => ?_) (fun hc669 => ?_))
      rotate_left
      · skip
        refine hR (?_ : R (_, _, _, _, _, _))
        refine hR (k_ne (by omega) (fun hc => by omega) (fun _ => ?_))
        refine hR (?_ : R (_, _, _, _, _, _))
        exact hR (zret_i rfl (Nat.le_refl _) trivial ⟨some z, wm, hbk, hK, Or.inr ⟨z, (0, 0, x0, nn, x2, gk, gs, gi, gn), rfl, hX, hXA, hx1, hx0, rx_ret (show (-1) = rotV (rdF gk gs gi gn) x0 nn a2 a3 from (rot_n (by omega)).symm)⟩⟩)
      refine hR (?_ : R (_, _, _, _, _, _))
      obtain ⟨y6w, y7w, h0w, -⟩ := top_o hT1
      obtain ⟨mc2, ms2, re2, w2, ⟨τ, q, hA2, hre2, hq, hlv, hfr2⟩, hrun2⟩ := a_levelsThereX hT1 (d + 3)
      subst hre2
      refine hR0 (0 + mc1 + mc2) (0 + ms1 + ms2) (Nat.le_add_right _ _) (Nat.le_add_right _ _) (c_obj h0w (zcall_i mc2 ms2 (Nat.le_refl _) (Nat.le_refl _) (hrun2 _ ?_)))
      refine (?_ : R (_, _, .ref q :: [], w2, 0 + mc1 + mc2, 0 + ms1 + ms2))
      have hT2 := hA2.1
      have hx2 := hA2.2.2.2.1
      obtain ⟨kp2, kz2, kk2⟩ := rx_keep hT1 hfr2 hp hz (Or.inl hT1.2.1)
      have hOw2 := kp2.trans hO
      have hBw2 := (kz2 z (by omega) (by omega)).trans hB
      have hAFw2 := AFK_fr hAF (fun j hj => rx_j kk2 kz2 hj)
      have hFO := AFK_ok hAF hx1
      have hpT := (hx2 p (by rw [hp]; decide)).trans hp
      have hzT := (hx2 z (by rw [hz]; decide)).trans hz
      have hdw := rx_dl hT2.1 hq hpT hzT
      obtain ⟨yo, y1, y2, y3, gS, gW, g3, g4, g5, g6, hQ0, hQ1, hQ2, hQ3, hQ4, hQ5, hQ6, hN6⟩ := lv_open hT2 hq hlv
      iterate 2 refine hR (?_ : R (_, _, _, _, _, _))
      refine hR (c_obj hQ0 (zcall_i 0 0 (Nat.le_refl _) (Nat.le_refl _) (x_wantNothingI _ _ _ _ _ _ _ _ hQ0 hQ2 _ fun T2_670 w671 gg672 hC673 hp674 => ?_)))
      have hC676 := (gg672.2 p (by (try dsimp only); omega)).trans hOw2
      have hC677 := (gg672.2 z (by (try dsimp only); omega)).trans hBw2
      have hC678 := AFK_fr hAFw2 (fun j hj => gg672.2 j (by (try dsimp only); omega))
      have hC679 := (gg672.2 q (by (try dsimp only); omega)).trans hQ0
      have hC680 := (gg672.2 (q + 1) (by (try dsimp only); omega)).trans hQ1
      have hC681 := (gg672.2 (q + 3) (by (try dsimp only); omega)).trans hQ3
      have hC682 := (gg672.2 (q + 4) (by (try dsimp only); omega)).trans hQ4
      have hC683 := (gg672.2 (q + 5) (by (try dsimp only); omega)).trans hQ5
      have hC684 := (gg672.2 (q + 6) (by (try dsimp only); omega)).trans hQ6
      refine (?_ : R (_, _, [], w671, 0 + mc1 + mc2, 0 + ms1 + ms2))
      iterate 4 refine hR (?_ : R (_, _, _, _, _, _))
      refine hR (c_obj hC676 (zcall_i 0 0 (Nat.le_refl _) (Nat.le_refl _) (x_allI _ _ _ _ _ _ _ _ _ hC676 hC677 (by omega) _ fun v685 hp686 => ?_)))
      subst hp686
      refine (?_ : R (_, _, .int (Int32.ofInt (bShl 1 nn - 1)) :: .int (Int32.ofInt a2) :: .ref p :: .ref q :: [], w671, 0 + mc1 + mc2, 0 + ms1 + ms2))
      have hsb := shl_b hx1
      have ha0 := all_0 hx1
      refine hR (?_ : R (_, _, _, _, _, _))
      refine hR (c_obj hC676 (zcall_i 0 0 (Nat.le_refl _) (Nat.le_refl _) (x_allI _ _ _ _ _ _ _ _ _ hC676 hC677 (by omega) _ fun v687 hp688 => ?_)))
      subst hp688
      refine (?_ : R (_, _, .int (Int32.ofInt (bShl 1 nn - 1)) :: .int (Int32.ofInt (bShl 1 nn - 1)) :: .int (Int32.ofInt a2) :: .ref p :: .ref q :: [], w671, 0 + mc1 + mc2, 0 + ms1 + ms2))
      have hsb := shl_b hx1
      have ha0 := all_0 hx1
      refine hR (c_obj hC679 (zcall_i 0 0 (Nat.le_refl _) (Nat.le_refl _) (x_spreadI _ _ _ _ _ _ _ _ _ _ _ _ _ _ _ _ _ _ _ _ _ _ _ hC679 hC680 hC673 hC681 hC682 hC684 hC676 hC677 hC678 (by omega) hds hdw (by omega) hx1 hFO hx0 hN6 _ fun T1_689 T3_690 T4_691 T6_692 w693 gg694 hC695 hC696 hC697 hC698 hC699 hC700 hp701 => ?_)))
      have hC703 := (gg694.2 p (by (try dsimp only); omega)).trans hC676
      have hC704 := (gg694.2 z (by (try dsimp only); omega)).trans hC677
      have hC705 := (gg694.2 (q + 2) (by (try dsimp only); omega)).trans hC673
      have hC706 := (gg694.2 (q + 5) (by (try dsimp only); omega)).trans hC683
      refine (?_ : R (_, _, [], w693, 0 + mc1 + mc2, 0 + ms1 + ms2))
      have hSP := hp701
      have hok : ∀ L t : Int, 0 ≤ L → L ≤ 9 → okW T2_670 L t = true := fun L t l0 l1 => okW_t (Or.inl (hp674 L l0 l1))
      have hMA := hM_all hx1 (rfl : bShl 1 nn - 1 = bShl 1 nn - 1)
      have hR1 : 0 < a2 → nn ≠ 0 := fun z => by omega
      have hsn := spq_r hSP (lv := a2) (by omega) (by omega) (by omega)
      refine hR (?_ : R (_, _, _, _, _, _))
      refine hR (c_obj hC695 (zcall_i 0 0 (Nat.le_refl _) (Nat.le_refl _) (x_endByDriftI _ _ _ _ _ _ _ _ _ _ _ _ _ _ _ _ hC695 hC696 hC697 hC706 hC703 hC704 (by omega) hsn (fun j j0 j1 => (spq_x hSP (by omega) (by omega) j0 j1).1) hx0 ⟨hdw.1, hdw.2.1⟩ _ fun T5_707 w708 gg709 hC710 hp711 => ?_)))
      have hC713 := (gg709.2 p (by (try dsimp only); omega)).trans hC703
      have hC714 := (gg709.2 z (by (try dsimp only); omega)).trans hC704
      have hC715 := AFK_fr hC700 (fun j hj => gg709.2 j (by (try dsimp only); omega))
      have hC716 := (gg709.2 q (by (try dsimp only); omega)).trans hC695
      have hC717 := (gg709.2 (q + 1) (by (try dsimp only); omega)).trans hC696
      have hC718 := (gg709.2 (q + 2) (by (try dsimp only); omega)).trans hC705
      have hC719 := (gg709.2 (q + 3) (by (try dsimp only); omega)).trans hC697
      have hC720 := (gg709.2 (q + 4) (by (try dsimp only); omega)).trans hC698
      have hC721 := (gg709.2 (q + 6) (by (try dsimp only); omega)).trans hC699
      refine (?_ : R (_, _, [], w708, 0 + mc1 + mc2, 0 + ms1 + ms2))
      have h5 := hp711
      refine hR (?_ : R (_, _, _, _, _, _))
      refine hR (k_ne (by omega) (fun hc => by omega) (fun _ => ?_))
      iterate 3 refine hR (?_ : R (_, _, _, _, _, _))
      refine hR (j_ne (by omega) (by omega) (fun hc => by omega) (fun _ => ?_))
      iterate 2 refine hR (?_ : R (_, _, _, _, _, _))
      have hmx := rot_mx (how := 1) hFO hx1 hR1 (by omega) (by omega) (by omega) hMA hok hx0
      refine hR (c_obj hC716 (zcall_i 0 0 (Nat.le_refl _) (Nat.le_refl _) (x_bestEndI _ _ _ _ _ _ _ _ _ _ hC716 hC717 hC710 (by omega) hsn (rot_ne hSP (by omega) hmx) (by omega) _ fun v722 hp723 => ?_)))
      refine (?_ : R (_, _, .int (Int32.ofInt v722) :: [], w708, 0 + mc1 + mc2, 0 + ms1 + ms2))
      have hbe := rot_be hSP (by omega) (by omega) hmx h5 hp723
      exact hR (zret_i rfl (Nat.le_refl _) trivial ⟨some z, wm, hbk, hK, Or.inr ⟨z, (0, 0, x0, nn, x2, gk, gs, gi, gn), rfl, hX, hXA, hx1, hx0, rx_ret (show v722 = rotV (rdF gk gs gi gn) x0 nn a2 a3 from (by rw [rot_y (by omega) hR1 (by omega), show a3 = 1 by omega]; exact hbe))⟩⟩)
    iterate 4 refine hR (?_ : R (_, _, _, _, _, _))
    refine hR (k_eq (by omega) (fun hc724 => ?_) (fun hc724 => ?_))
    · skip
      refine hR (?_ : R (_, _, _, _, _, _))
      obtain ⟨y6w, y7w, h0w, -⟩ := top_o hT1
      obtain ⟨mc2, ms2, re2, w2, ⟨τ, q, hA2, hre2, hq, hlv, hfr2⟩, hrun2⟩ := a_levelsThereX hT1 (d + 3)
      subst hre2
      refine hR0 (0 + mc1 + mc2) (0 + ms1 + ms2) (Nat.le_add_right _ _) (Nat.le_add_right _ _) (c_obj h0w (zcall_i mc2 ms2 (Nat.le_refl _) (Nat.le_refl _) (hrun2 _ ?_)))
      refine (?_ : R (_, _, .ref q :: [], w2, 0 + mc1 + mc2, 0 + ms1 + ms2))
      have hT2 := hA2.1
      have hx2 := hA2.2.2.2.1
      obtain ⟨kp2, kz2, kk2⟩ := rx_keep hT1 hfr2 hp hz (Or.inl hT1.2.1)
      have hOw2 := kp2.trans hO
      have hBw2 := (kz2 z (by omega) (by omega)).trans hB
      have hAFw2 := AFK_fr hAF (fun j hj => rx_j kk2 kz2 hj)
      have hFO := AFK_ok hAF hx1
      have hpT := (hx2 p (by rw [hp]; decide)).trans hp
      have hzT := (hx2 z (by rw [hz]; decide)).trans hz
      have hdw := rx_dl hT2.1 hq hpT hzT
      obtain ⟨yo, y1, y2, y3, gS, gW, g3, g4, g5, g6, hQ0, hQ1, hQ2, hQ3, hQ4, hQ5, hQ6, hN6⟩ := lv_open hT2 hq hlv
      iterate 2 refine hR (?_ : R (_, _, _, _, _, _))
      refine hR (c_obj hQ0 (zcall_i 0 0 (Nat.le_refl _) (Nat.le_refl _) (x_wantNothingI _ _ _ _ _ _ _ _ hQ0 hQ2 _ fun T2_725 w726 gg727 hC728 hp729 => ?_)))
      have hC731 := (gg727.2 p (by (try dsimp only); omega)).trans hOw2
      have hC732 := (gg727.2 z (by (try dsimp only); omega)).trans hBw2
      have hC733 := AFK_fr hAFw2 (fun j hj => gg727.2 j (by (try dsimp only); omega))
      have hC734 := (gg727.2 q (by (try dsimp only); omega)).trans hQ0
      have hC735 := (gg727.2 (q + 1) (by (try dsimp only); omega)).trans hQ1
      have hC736 := (gg727.2 (q + 3) (by (try dsimp only); omega)).trans hQ3
      have hC737 := (gg727.2 (q + 4) (by (try dsimp only); omega)).trans hQ4
      have hC738 := (gg727.2 (q + 5) (by (try dsimp only); omega)).trans hQ5
      have hC739 := (gg727.2 (q + 6) (by (try dsimp only); omega)).trans hQ6
      refine (?_ : R (_, _, [], w726, 0 + mc1 + mc2, 0 + ms1 + ms2))
      iterate 4 refine hR (?_ : R (_, _, _, _, _, _))
      refine hR (c_obj hC731 (zcall_i 0 0 (Nat.le_refl _) (Nat.le_refl _) (x_allI _ _ _ _ _ _ _ _ _ hC731 hC732 (by omega) _ fun v740 hp741 => ?_)))
      subst hp741
      refine (?_ : R (_, _, .int (Int32.ofInt (bShl 1 nn - 1)) :: .int (Int32.ofInt a2) :: .ref p :: .ref q :: [], w726, 0 + mc1 + mc2, 0 + ms1 + ms2))
      have hsb := shl_b hx1
      have ha0 := all_0 hx1
      refine hR (?_ : R (_, _, _, _, _, _))
      refine hR (c_obj hC731 (zcall_i 0 0 (Nat.le_refl _) (Nat.le_refl _) (x_allI _ _ _ _ _ _ _ _ _ hC731 hC732 (by omega) _ fun v742 hp743 => ?_)))
      subst hp743
      refine (?_ : R (_, _, .int (Int32.ofInt (bShl 1 nn - 1)) :: .int (Int32.ofInt (bShl 1 nn - 1)) :: .int (Int32.ofInt a2) :: .ref p :: .ref q :: [], w726, 0 + mc1 + mc2, 0 + ms1 + ms2))
      have hsb := shl_b hx1
      have ha0 := all_0 hx1
      refine hR (c_obj hC734 (zcall_i 0 0 (Nat.le_refl _) (Nat.le_refl _) (x_spreadI _ _ _ _ _ _ _ _ _ _ _ _ _ _ _ _ _ _ _ _ _ _ _ hC734 hC735 hC728 hC736 hC737 hC739 hC731 hC732 hC733 (by omega) hds hdw (by omega) hx1 hFO hx0 hN6 _ fun T1_744 T3_745 T4_746 T6_747 w748 gg749 hC750 hC751 hC752 hC753 hC754 hC755 hp756 => ?_)))
      have hC758 := (gg749.2 p (by (try dsimp only); omega)).trans hC731
      have hC759 := (gg749.2 z (by (try dsimp only); omega)).trans hC732
      have hC760 := (gg749.2 (q + 2) (by (try dsimp only); omega)).trans hC728
      have hC761 := (gg749.2 (q + 5) (by (try dsimp only); omega)).trans hC738
      refine (?_ : R (_, _, [], w748, 0 + mc1 + mc2, 0 + ms1 + ms2))
      have hSP := hp756
      have hok : ∀ L t : Int, 0 ≤ L → L ≤ 9 → okW T2_725 L t = true := fun L t l0 l1 => okW_t (Or.inl (hp729 L l0 l1))
      have hMA := hM_all hx1 (rfl : bShl 1 nn - 1 = bShl 1 nn - 1)
      have hR1 : 0 < a2 → nn ≠ 0 := fun z => by omega
      have hsn := spq_r hSP (lv := a2) (by omega) (by omega) (by omega)
      refine hR (?_ : R (_, _, _, _, _, _))
      refine hR (c_obj hC750 (zcall_i 0 0 (Nat.le_refl _) (Nat.le_refl _) (x_endByDriftI _ _ _ _ _ _ _ _ _ _ _ _ _ _ _ _ hC750 hC751 hC752 hC761 hC758 hC759 (by omega) hsn (fun j j0 j1 => (spq_x hSP (by omega) (by omega) j0 j1).1) hx0 ⟨hdw.1, hdw.2.1⟩ _ fun T5_762 w763 gg764 hC765 hp766 => ?_)))
      have hC768 := (gg764.2 p (by (try dsimp only); omega)).trans hC758
      have hC769 := (gg764.2 z (by (try dsimp only); omega)).trans hC759
      have hC770 := AFK_fr hC755 (fun j hj => gg764.2 j (by (try dsimp only); omega))
      have hC771 := (gg764.2 q (by (try dsimp only); omega)).trans hC750
      have hC772 := (gg764.2 (q + 1) (by (try dsimp only); omega)).trans hC751
      have hC773 := (gg764.2 (q + 2) (by (try dsimp only); omega)).trans hC760
      have hC774 := (gg764.2 (q + 3) (by (try dsimp only); omega)).trans hC752
      have hC775 := (gg764.2 (q + 4) (by (try dsimp only); omega)).trans hC753
      have hC776 := (gg764.2 (q + 6) (by (try dsimp only); omega)).trans hC754
      refine (?_ : R (_, _, [], w763, 0 + mc1 + mc2, 0 + ms1 + ms2))
      have h5 := hp766
      refine hR (?_ : R (_, _, _, _, _, _))
      refine hR (k_ne (by omega) (fun _ => ?_) (fun hc => by omega))
      iterate 3 refine hR (?_ : R (_, _, _, _, _, _))
      refine hR (c_obj hC771 (zcall_i 0 0 (Nat.le_refl _) (Nat.le_refl _) (x_foldBackI _ _ _ _ _ _ _ _ _ _ _ _ _ _ _ _ _ _ _ _ _ _ _ _ hC771 hC772 hC774 hC765 hC776 hC768 hC769 hC770 (by omega) hds hdw (by omega) hx1 hFO (by omega) hSP (⟨by omega, dft_b x0⟩ : (0 ≤ (12 : Int) ∧ (12 : Int) ≤ 12) ∧ ∀ t : Int, 0 ≤ t → t ≤ 5460 → 0 ≤ (fun t => dft t x0) t ∧ (fun t => dft t x0) t ≤ 12) (fbq_n (D := fun t => dft t x0) h5) _ fun T5_777 T6_778 w779 gg780 hC781 hC782 hC783 hp784 hp785 => ?_)))
      have hC787 := (gg780.2 p (by (try dsimp only); omega)).trans hC768
      have hC788 := (gg780.2 z (by (try dsimp only); omega)).trans hC769
      have hC789 := (gg780.2 q (by (try dsimp only); omega)).trans hC771
      have hC790 := (gg780.2 (q + 1) (by (try dsimp only); omega)).trans hC772
      have hC791 := (gg780.2 (q + 2) (by (try dsimp only); omega)).trans hC773
      have hC792 := (gg780.2 (q + 3) (by (try dsimp only); omega)).trans hC774
      have hC793 := (gg780.2 (q + 4) (by (try dsimp only); omega)).trans hC775
      refine (?_ : R (_, _, [], w779, 0 + mc1 + mc2, 0 + ms1 + ms2))
      have hFB := fbq_va hSP hFO hx1.1 (by omega) hMA hok hp784
      have hSP2 := spq_6 hSP hp785
      iterate 2 refine hR (?_ : R (_, _, _, _, _, _))
      refine hR (t_c 10 (by decide) ?_)
      refine hR (t_sub ?_)
      refine hR (c_obj hC789 (zcall_i 0 0 (Nat.le_refl _) (Nat.le_refl _) (x_chosenAtI _ _ _ _ _ _ _ _ _ _ _ _ _ _ _ _ _ _ _ _ _ _ hC789 hC790 hC792 hC781 hC782 hC787 hC788 hC783 (by omega) hds hdw (by omega) hx1 hFO hSP2 hFB (fun d t t0 t1 => by have h9 := va_b (how := 0) hFO hx1 (by decide) (dft_b x0) (Or.inl rfl) d t t0 t1; omega) hMA hok (fun lv t l0 l1 t0 t1 => cr_ex hFO ⟨by omega, by omega⟩ (by decide) (dft_b x0) l0 l1 t0 t1) (by omega) hx0 _ fun v794 T6_795 w796 gg797 hC798 hC799 hp800 hp801 => ?_)))
      have hC803 := (gg797.2 p (by (try dsimp only); omega)).trans hC787
      have hC804 := (gg797.2 z (by (try dsimp only); omega)).trans hC788
      have hC805 := (gg797.2 q (by (try dsimp only); omega)).trans hC789
      have hC806 := (gg797.2 (q + 1) (by (try dsimp only); omega)).trans hC790
      have hC807 := (gg797.2 (q + 2) (by (try dsimp only); omega)).trans hC791
      have hC808 := (gg797.2 (q + 3) (by (try dsimp only); omega)).trans hC792
      have hC809 := (gg797.2 (q + 4) (by (try dsimp only); omega)).trans hC793
      have hC810 := (gg797.2 (q + 5) (by (try dsimp only); omega)).trans hC781
      refine (?_ : R (_, _, .int (Int32.ofInt v794) :: [], w796, 0 + mc1 + mc2, 0 + ms1 + ms2))
      exact hR (zret_i rfl (Nat.le_refl _) trivial ⟨some z, wm, hbk, hK, Or.inr ⟨z, (0, 0, x0, nn, x2, gk, gs, gi, gn), rfl, hX, hXA, hx1, hx0, rx_ret (show v794 = rotV (rdF gk gs gi gn) x0 nn a2 a3 from hp800.trans (rot_k (by omega) hR1 (by omega)).symm)⟩⟩)
    iterate 2 refine hR (?_ : R (_, _, _, _, _, _))
    refine hR (j_eq (by omega) (by omega) (fun hc811 => ?_) (fun hc811 => ?_))
    · skip
      refine hR (?_ : R (_, _, _, _, _, _))
      obtain ⟨y6w, y7w, h0w, -⟩ := top_o hT1
      obtain ⟨mc2, ms2, re2, w2, ⟨τ, q, hA2, hre2, hq, hlv, hfr2⟩, hrun2⟩ := a_levelsThereX hT1 (d + 3)
      subst hre2
      refine hR0 (0 + mc1 + mc2) (0 + ms1 + ms2) (Nat.le_add_right _ _) (Nat.le_add_right _ _) (c_obj h0w (zcall_i mc2 ms2 (Nat.le_refl _) (Nat.le_refl _) (hrun2 _ ?_)))
      refine (?_ : R (_, _, .ref q :: [], w2, 0 + mc1 + mc2, 0 + ms1 + ms2))
      have hT2 := hA2.1
      have hx2 := hA2.2.2.2.1
      obtain ⟨kp2, kz2, kk2⟩ := rx_keep hT1 hfr2 hp hz (Or.inl hT1.2.1)
      have hOw2 := kp2.trans hO
      have hBw2 := (kz2 z (by omega) (by omega)).trans hB
      have hAFw2 := AFK_fr hAF (fun j hj => rx_j kk2 kz2 hj)
      have hFO := AFK_ok hAF hx1
      have hpT := (hx2 p (by rw [hp]; decide)).trans hp
      have hzT := (hx2 z (by rw [hz]; decide)).trans hz
      have hdw := rx_dl hT2.1 hq hpT hzT
      obtain ⟨yo, y1, y2, y3, gS, gW, g3, g4, g5, g6, hQ0, hQ1, hQ2, hQ3, hQ4, hQ5, hQ6, hN6⟩ := lv_open hT2 hq hlv
      iterate 2 refine hR (?_ : R (_, _, _, _, _, _))
      refine hR (c_obj hQ0 (zcall_i 0 0 (Nat.le_refl _) (Nat.le_refl _) (x_wantNothingI _ _ _ _ _ _ _ _ hQ0 hQ2 _ fun T2_812 w813 gg814 hC815 hp816 => ?_)))
      have hC818 := (gg814.2 p (by (try dsimp only); omega)).trans hOw2
      have hC819 := (gg814.2 z (by (try dsimp only); omega)).trans hBw2
      have hC820 := AFK_fr hAFw2 (fun j hj => gg814.2 j (by (try dsimp only); omega))
      have hC821 := (gg814.2 q (by (try dsimp only); omega)).trans hQ0
      have hC822 := (gg814.2 (q + 1) (by (try dsimp only); omega)).trans hQ1
      have hC823 := (gg814.2 (q + 3) (by (try dsimp only); omega)).trans hQ3
      have hC824 := (gg814.2 (q + 4) (by (try dsimp only); omega)).trans hQ4
      have hC825 := (gg814.2 (q + 5) (by (try dsimp only); omega)).trans hQ5
      have hC826 := (gg814.2 (q + 6) (by (try dsimp only); omega)).trans hQ6
      refine (?_ : R (_, _, [], w813, 0 + mc1 + mc2, 0 + ms1 + ms2))
      iterate 4 refine hR (?_ : R (_, _, _, _, _, _))
      refine hR (c_obj hC818 (zcall_i 0 0 (Nat.le_refl _) (Nat.le_refl _) (x_allI _ _ _ _ _ _ _ _ _ hC818 hC819 (by omega) _ fun v827 hp828 => ?_)))
      subst hp828
      refine (?_ : R (_, _, .int (Int32.ofInt (bShl 1 nn - 1)) :: .int (Int32.ofInt a2) :: .ref p :: .ref q :: [], w813, 0 + mc1 + mc2, 0 + ms1 + ms2))
      have hsb := shl_b hx1
      have ha0 := all_0 hx1
      refine hR (?_ : R (_, _, _, _, _, _))
      refine hR (c_obj hC818 (zcall_i 0 0 (Nat.le_refl _) (Nat.le_refl _) (x_allI _ _ _ _ _ _ _ _ _ hC818 hC819 (by omega) _ fun v829 hp830 => ?_)))
      subst hp830
      refine (?_ : R (_, _, .int (Int32.ofInt (bShl 1 nn - 1)) :: .int (Int32.ofInt (bShl 1 nn - 1)) :: .int (Int32.ofInt a2) :: .ref p :: .ref q :: [], w813, 0 + mc1 + mc2, 0 + ms1 + ms2))
      have hsb := shl_b hx1
      have ha0 := all_0 hx1
      refine hR (c_obj hC821 (zcall_i 0 0 (Nat.le_refl _) (Nat.le_refl _) (x_spreadI _ _ _ _ _ _ _ _ _ _ _ _ _ _ _ _ _ _ _ _ _ _ _ hC821 hC822 hC815 hC823 hC824 hC826 hC818 hC819 hC820 (by omega) hds hdw (by omega) hx1 hFO hx0 hN6 _ fun T1_831 T3_832 T4_833 T6_834 w835 gg836 hC837 hC838 hC839 hC840 hC841 hC842 hp843 => ?_)))
      have hC845 := (gg836.2 p (by (try dsimp only); omega)).trans hC818
      have hC846 := (gg836.2 z (by (try dsimp only); omega)).trans hC819
      have hC847 := (gg836.2 (q + 2) (by (try dsimp only); omega)).trans hC815
      have hC848 := (gg836.2 (q + 5) (by (try dsimp only); omega)).trans hC825
      refine (?_ : R (_, _, [], w835, 0 + mc1 + mc2, 0 + ms1 + ms2))
      have hSP := hp843
      have hok : ∀ L t : Int, 0 ≤ L → L ≤ 9 → okW T2_812 L t = true := fun L t l0 l1 => okW_t (Or.inl (hp816 L l0 l1))
      have hMA := hM_all hx1 (rfl : bShl 1 nn - 1 = bShl 1 nn - 1)
      have hR1 : 0 < a2 → nn ≠ 0 := fun z => by omega
      have hsn := spq_r hSP (lv := a2) (by omega) (by omega) (by omega)
      refine hR (?_ : R (_, _, _, _, _, _))
      refine hR (c_obj hC837 (zcall_i 0 0 (Nat.le_refl _) (Nat.le_refl _) (x_endByDriftI _ _ _ _ _ _ _ _ _ _ _ _ _ _ _ _ hC837 hC838 hC839 hC848 hC845 hC846 (by omega) hsn (fun j j0 j1 => (spq_x hSP (by omega) (by omega) j0 j1).1) hx0 ⟨hdw.1, hdw.2.1⟩ _ fun T5_849 w850 gg851 hC852 hp853 => ?_)))
      have hC855 := (gg851.2 p (by (try dsimp only); omega)).trans hC845
      have hC856 := (gg851.2 z (by (try dsimp only); omega)).trans hC846
      have hC857 := AFK_fr hC842 (fun j hj => gg851.2 j (by (try dsimp only); omega))
      have hC858 := (gg851.2 q (by (try dsimp only); omega)).trans hC837
      have hC859 := (gg851.2 (q + 1) (by (try dsimp only); omega)).trans hC838
      have hC860 := (gg851.2 (q + 2) (by (try dsimp only); omega)).trans hC847
      have hC861 := (gg851.2 (q + 3) (by (try dsimp only); omega)).trans hC839
      have hC862 := (gg851.2 (q + 4) (by (try dsimp only); omega)).trans hC840
      have hC863 := (gg851.2 (q + 6) (by (try dsimp only); omega)).trans hC841
      refine (?_ : R (_, _, [], w850, 0 + mc1 + mc2, 0 + ms1 + ms2))
      have h5 := hp853
      refine hR (?_ : R (_, _, _, _, _, _))
      refine hR (k_ne (by omega) (fun _ => ?_) (fun hc => by omega))
      iterate 3 refine hR (?_ : R (_, _, _, _, _, _))
      refine hR (c_obj hC858 (zcall_i 0 0 (Nat.le_refl _) (Nat.le_refl _) (x_foldBackI _ _ _ _ _ _ _ _ _ _ _ _ _ _ _ _ _ _ _ _ _ _ _ _ hC858 hC859 hC861 hC852 hC863 hC855 hC856 hC857 (by omega) hds hdw (by omega) hx1 hFO (by omega) hSP (⟨by omega, dft_b x0⟩ : (0 ≤ (12 : Int) ∧ (12 : Int) ≤ 12) ∧ ∀ t : Int, 0 ≤ t → t ≤ 5460 → 0 ≤ (fun t => dft t x0) t ∧ (fun t => dft t x0) t ≤ 12) (fbq_n (D := fun t => dft t x0) h5) _ fun T5_864 T6_865 w866 gg867 hC868 hC869 hC870 hp871 hp872 => ?_)))
      have hC874 := (gg867.2 p (by (try dsimp only); omega)).trans hC855
      have hC875 := (gg867.2 z (by (try dsimp only); omega)).trans hC856
      have hC876 := (gg867.2 q (by (try dsimp only); omega)).trans hC858
      have hC877 := (gg867.2 (q + 1) (by (try dsimp only); omega)).trans hC859
      have hC878 := (gg867.2 (q + 2) (by (try dsimp only); omega)).trans hC860
      have hC879 := (gg867.2 (q + 3) (by (try dsimp only); omega)).trans hC861
      have hC880 := (gg867.2 (q + 4) (by (try dsimp only); omega)).trans hC862
      refine (?_ : R (_, _, [], w866, 0 + mc1 + mc2, 0 + ms1 + ms2))
      have hFB := fbq_va hSP hFO hx1.1 (by omega) hMA hok hp871
      have hSP2 := spq_6 hSP hp872
      iterate 2 refine hR (?_ : R (_, _, _, _, _, _))
      refine hR (t_c 10 (by decide) ?_)
      refine hR (t_sub ?_)
      refine hR (c_obj hC876 (zcall_i 0 0 (Nat.le_refl _) (Nat.le_refl _) (x_chosenAtI _ _ _ _ _ _ _ _ _ _ _ _ _ _ _ _ _ _ _ _ _ _ hC876 hC877 hC879 hC868 hC869 hC874 hC875 hC870 (by omega) hds hdw (by omega) hx1 hFO hSP2 hFB (fun d t t0 t1 => by have h9 := va_b (how := 0) hFO hx1 (by decide) (dft_b x0) (Or.inl rfl) d t t0 t1; omega) hMA hok (fun lv t l0 l1 t0 t1 => cr_ex hFO ⟨by omega, by omega⟩ (by decide) (dft_b x0) l0 l1 t0 t1) (by omega) hx0 _ fun v881 T6_882 w883 gg884 hC885 hC886 hp887 hp888 => ?_)))
      have hC890 := (gg884.2 p (by (try dsimp only); omega)).trans hC874
      have hC891 := (gg884.2 z (by (try dsimp only); omega)).trans hC875
      have hC892 := (gg884.2 q (by (try dsimp only); omega)).trans hC876
      have hC893 := (gg884.2 (q + 1) (by (try dsimp only); omega)).trans hC877
      have hC894 := (gg884.2 (q + 2) (by (try dsimp only); omega)).trans hC878
      have hC895 := (gg884.2 (q + 3) (by (try dsimp only); omega)).trans hC879
      have hC896 := (gg884.2 (q + 4) (by (try dsimp only); omega)).trans hC880
      have hC897 := (gg884.2 (q + 5) (by (try dsimp only); omega)).trans hC868
      refine (?_ : R (_, _, .int (Int32.ofInt v881) :: [], w883, 0 + mc1 + mc2, 0 + ms1 + ms2))
      exact hR (zret_i rfl (Nat.le_refl _) trivial ⟨some z, wm, hbk, hK, Or.inr ⟨z, (0, 0, x0, nn, x2, gk, gs, gi, gn), rfl, hX, hXA, hx1, hx0, rx_ret (show v881 = rotV (rdF gk gs gi gn) x0 nn a2 a3 from hp887.trans (rot_k (by omega) hR1 (by omega)).symm)⟩⟩)
    refine hR (?_ : R (_, _, _, _, _, _))
    refine hR (k_ne (by omega) (fun _ => ?_) (fun hc => by omega))
    refine hR (?_ : R (_, _, _, _, _, _))
    obtain ⟨y6w, y7w, h0w, -⟩ := top_o hT1
    obtain ⟨mc2, ms2, re2, w2, ⟨τ, q, hA2, hre2, hq, hlv, hfr2⟩, hrun2⟩ := a_levelsThereX hT1 (d + 3)
    subst hre2
    refine hR0 (0 + mc1 + mc2) (0 + ms1 + ms2) (Nat.le_add_right _ _) (Nat.le_add_right _ _) (c_obj h0w (zcall_i mc2 ms2 (Nat.le_refl _) (Nat.le_refl _) (hrun2 _ ?_)))
    refine (?_ : R (_, _, .ref q :: [], w2, 0 + mc1 + mc2, 0 + ms1 + ms2))
    have hT2 := hA2.1
    have hx2 := hA2.2.2.2.1
    obtain ⟨kp2, kz2, kk2⟩ := rx_keep hT1 hfr2 hp hz (Or.inl hT1.2.1)
    have hOw2 := kp2.trans hO
    have hBw2 := (kz2 z (by omega) (by omega)).trans hB
    have hAFw2 := AFK_fr hAF (fun j hj => rx_j kk2 kz2 hj)
    have hFO := AFK_ok hAF hx1
    have hpT := (hx2 p (by rw [hp]; decide)).trans hp
    have hzT := (hx2 z (by rw [hz]; decide)).trans hz
    have hdw := rx_dl hT2.1 hq hpT hzT
    obtain ⟨yo, y1, y2, y3, gS, gW, g3, g4, g5, g6, hQ0, hQ1, hQ2, hQ3, hQ4, hQ5, hQ6, hN6⟩ := lv_open hT2 hq hlv
    iterate 2 refine hR (?_ : R (_, _, _, _, _, _))
    refine hR (c_obj hQ0 (zcall_i 0 0 (Nat.le_refl _) (Nat.le_refl _) (x_wantNothingI _ _ _ _ _ _ _ _ hQ0 hQ2 _ fun T2_898 w899 gg900 hC901 hp902 => ?_)))
    have hC904 := (gg900.2 p (by (try dsimp only); omega)).trans hOw2
    have hC905 := (gg900.2 z (by (try dsimp only); omega)).trans hBw2
    have hC906 := AFK_fr hAFw2 (fun j hj => gg900.2 j (by (try dsimp only); omega))
    have hC907 := (gg900.2 q (by (try dsimp only); omega)).trans hQ0
    have hC908 := (gg900.2 (q + 1) (by (try dsimp only); omega)).trans hQ1
    have hC909 := (gg900.2 (q + 3) (by (try dsimp only); omega)).trans hQ3
    have hC910 := (gg900.2 (q + 4) (by (try dsimp only); omega)).trans hQ4
    have hC911 := (gg900.2 (q + 5) (by (try dsimp only); omega)).trans hQ5
    have hC912 := (gg900.2 (q + 6) (by (try dsimp only); omega)).trans hQ6
    refine (?_ : R (_, _, [], w899, 0 + mc1 + mc2, 0 + ms1 + ms2))
    iterate 4 refine hR (?_ : R (_, _, _, _, _, _))
    refine hR (c_obj hC904 (zcall_i 0 0 (Nat.le_refl _) (Nat.le_refl _) (x_allI _ _ _ _ _ _ _ _ _ hC904 hC905 (by omega) _ fun v913 hp914 => ?_)))
    subst hp914
    refine (?_ : R (_, _, .int (Int32.ofInt (bShl 1 nn - 1)) :: .int (Int32.ofInt a2) :: .ref p :: .ref q :: [], w899, 0 + mc1 + mc2, 0 + ms1 + ms2))
    have hsb := shl_b hx1
    have ha0 := all_0 hx1
    refine hR (?_ : R (_, _, _, _, _, _))
    refine hR (c_obj hC904 (zcall_i 0 0 (Nat.le_refl _) (Nat.le_refl _) (x_allI _ _ _ _ _ _ _ _ _ hC904 hC905 (by omega) _ fun v915 hp916 => ?_)))
    subst hp916
    refine (?_ : R (_, _, .int (Int32.ofInt (bShl 1 nn - 1)) :: .int (Int32.ofInt (bShl 1 nn - 1)) :: .int (Int32.ofInt a2) :: .ref p :: .ref q :: [], w899, 0 + mc1 + mc2, 0 + ms1 + ms2))
    have hsb := shl_b hx1
    have ha0 := all_0 hx1
    refine hR (c_obj hC907 (zcall_i 0 0 (Nat.le_refl _) (Nat.le_refl _) (x_spreadI _ _ _ _ _ _ _ _ _ _ _ _ _ _ _ _ _ _ _ _ _ _ _ hC907 hC908 hC901 hC909 hC910 hC912 hC904 hC905 hC906 (by omega) hds hdw (by omega) hx1 hFO hx0 hN6 _ fun T1_917 T3_918 T4_919 T6_920 w921 gg922 hC923 hC924 hC925 hC926 hC927 hC928 hp929 => ?_)))
    have hC931 := (gg922.2 p (by (try dsimp only); omega)).trans hC904
    have hC932 := (gg922.2 z (by (try dsimp only); omega)).trans hC905
    have hC933 := (gg922.2 (q + 2) (by (try dsimp only); omega)).trans hC901
    have hC934 := (gg922.2 (q + 5) (by (try dsimp only); omega)).trans hC911
    refine (?_ : R (_, _, [], w921, 0 + mc1 + mc2, 0 + ms1 + ms2))
    have hSP := hp929
    have hok : ∀ L t : Int, 0 ≤ L → L ≤ 9 → okW T2_898 L t = true := fun L t l0 l1 => okW_t (Or.inl (hp902 L l0 l1))
    have hMA := hM_all hx1 (rfl : bShl 1 nn - 1 = bShl 1 nn - 1)
    have hR1 : 0 < a2 → nn ≠ 0 := fun z => by omega
    have hsn := spq_r hSP (lv := a2) (by omega) (by omega) (by omega)
    refine hR (?_ : R (_, _, _, _, _, _))
    refine hR (c_obj hC923 (zcall_i 0 0 (Nat.le_refl _) (Nat.le_refl _) (x_endByDriftI _ _ _ _ _ _ _ _ _ _ _ _ _ _ _ _ hC923 hC924 hC925 hC934 hC931 hC932 (by omega) hsn (fun j j0 j1 => (spq_x hSP (by omega) (by omega) j0 j1).1) hx0 ⟨hdw.1, hdw.2.1⟩ _ fun T5_935 w936 gg937 hC938 hp939 => ?_)))
    have hC941 := (gg937.2 p (by (try dsimp only); omega)).trans hC931
    have hC942 := (gg937.2 z (by (try dsimp only); omega)).trans hC932
    have hC943 := AFK_fr hC928 (fun j hj => gg937.2 j (by (try dsimp only); omega))
    have hC944 := (gg937.2 q (by (try dsimp only); omega)).trans hC923
    have hC945 := (gg937.2 (q + 1) (by (try dsimp only); omega)).trans hC924
    have hC946 := (gg937.2 (q + 2) (by (try dsimp only); omega)).trans hC933
    have hC947 := (gg937.2 (q + 3) (by (try dsimp only); omega)).trans hC925
    have hC948 := (gg937.2 (q + 4) (by (try dsimp only); omega)).trans hC926
    have hC949 := (gg937.2 (q + 6) (by (try dsimp only); omega)).trans hC927
    refine (?_ : R (_, _, [], w936, 0 + mc1 + mc2, 0 + ms1 + ms2))
    have h5 := hp939
    refine hR (?_ : R (_, _, _, _, _, _))
    refine hR (k_ne (by omega) (fun _ => ?_) (fun hc => by omega))
    iterate 3 refine hR (?_ : R (_, _, _, _, _, _))
    refine hR (c_obj hC944 (zcall_i 0 0 (Nat.le_refl _) (Nat.le_refl _) (x_foldBackI _ _ _ _ _ _ _ _ _ _ _ _ _ _ _ _ _ _ _ _ _ _ _ _ hC944 hC945 hC947 hC938 hC949 hC941 hC942 hC943 (by omega) hds hdw (by omega) hx1 hFO (by omega) hSP (⟨by omega, dft_b x0⟩ : (0 ≤ (12 : Int) ∧ (12 : Int) ≤ 12) ∧ ∀ t : Int, 0 ≤ t → t ≤ 5460 → 0 ≤ (fun t => dft t x0) t ∧ (fun t => dft t x0) t ≤ 12) (fbq_n (D := fun t => dft t x0) h5) _ fun T5_950 T6_951 w952 gg953 hC954 hC955 hC956 hp957 hp958 => ?_)))
    have hC960 := (gg953.2 p (by (try dsimp only); omega)).trans hC941
    have hC961 := (gg953.2 z (by (try dsimp only); omega)).trans hC942
    have hC962 := (gg953.2 q (by (try dsimp only); omega)).trans hC944
    have hC963 := (gg953.2 (q + 1) (by (try dsimp only); omega)).trans hC945
    have hC964 := (gg953.2 (q + 2) (by (try dsimp only); omega)).trans hC946
    have hC965 := (gg953.2 (q + 3) (by (try dsimp only); omega)).trans hC947
    have hC966 := (gg953.2 (q + 4) (by (try dsimp only); omega)).trans hC948
    refine (?_ : R (_, _, [], w952, 0 + mc1 + mc2, 0 + ms1 + ms2))
    have hFB := fbq_va hSP hFO hx1.1 (by omega) hMA hok hp957
    have hSP2 := spq_6 hSP hp958
    iterate 2 refine hR (?_ : R (_, _, _, _, _, _))
    refine hR (t_c 10 (by decide) ?_)
    refine hR (t_sub ?_)
    refine hR (c_obj hC962 (zcall_i 0 0 (Nat.le_refl _) (Nat.le_refl _) (x_chosenAtI _ _ _ _ _ _ _ _ _ _ _ _ _ _ _ _ _ _ _ _ _ _ hC962 hC963 hC965 hC954 hC955 hC960 hC961 hC956 (by omega) hds hdw (by omega) hx1 hFO hSP2 hFB (fun d t t0 t1 => by have h9 := va_b (how := 0) hFO hx1 (by decide) (dft_b x0) (Or.inl rfl) d t t0 t1; omega) hMA hok (fun lv t l0 l1 t0 t1 => cr_ex hFO ⟨by omega, by omega⟩ (by decide) (dft_b x0) l0 l1 t0 t1) (by omega) hx0 _ fun v967 T6_968 w969 gg970 hC971 hC972 hp973 hp974 => ?_)))
    have hC976 := (gg970.2 p (by (try dsimp only); omega)).trans hC960
    have hC977 := (gg970.2 z (by (try dsimp only); omega)).trans hC961
    have hC978 := (gg970.2 q (by (try dsimp only); omega)).trans hC962
    have hC979 := (gg970.2 (q + 1) (by (try dsimp only); omega)).trans hC963
    have hC980 := (gg970.2 (q + 2) (by (try dsimp only); omega)).trans hC964
    have hC981 := (gg970.2 (q + 3) (by (try dsimp only); omega)).trans hC965
    have hC982 := (gg970.2 (q + 4) (by (try dsimp only); omega)).trans hC966
    have hC983 := (gg970.2 (q + 5) (by (try dsimp only); omega)).trans hC954
    refine (?_ : R (_, _, .int (Int32.ofInt v967) :: [], w969, 0 + mc1 + mc2, 0 + ms1 + ms2))
    exact hR (zret_i rfl (Nat.le_refl _) trivial ⟨some z, wm, hbk, hK, Or.inr ⟨z, (0, 0, x0, nn, x2, gk, gs, gi, gn), rfl, hX, hXA, hx1, hx0, rx_ret (show v967 = rotV (rdF gk gs gi gn) x0 nn a2 a3 from hp973.trans (rot_k (by omega) hR1 (by omega)).symm)⟩⟩)
