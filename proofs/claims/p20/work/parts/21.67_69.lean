theorem c_bitCount (w : zW) (d : Nat) (a1 : Int)  (Q : zQ) (h : ∀ (v : Int), (-2147483648 ≤ v ∧ v ≤ 2147483647) → Q (some (.int (Int32.ofInt v))) w) : zCl zTab (d + 1) iJ6_bitCount_0f7a4 [.int (Int32.ofInt a1)] w 0 0 Q := by
  refine zCl_i (M := kJ6_bitCount_0f7a4) rfl (Nat.le_of_ble_eq_true rfl) fun R hR => ?_
  iterate 3 refine hR (?_ : R (_, _, _, _, _, _))
  refine hR (t_o fun v1 rv1 => ?_)
  refine hR (t_c 1431655765 (by decide) ?_)
  refine hR (t_o fun v2 rv2 => ?_)
  refine hR (t_sub ?_)
  iterate 2 refine hR (?_ : R (_, _, _, _, _, _))
  refine hR (t_c 858993459 (by decide) ?_)
  refine hR (t_o fun v3 rv3 => ?_)
  iterate 2 refine hR (?_ : R (_, _, _, _, _, _))
  refine hR (t_o fun v4 rv4 => ?_)
  refine hR (t_c 858993459 (by decide) ?_)
  refine hR (t_o fun v5 rv5 => ?_)
  refine hR (t_add ?_)
  iterate 4 refine hR (?_ : R (_, _, _, _, _, _))
  refine hR (t_o fun v6 rv6 => ?_)
  refine hR (t_add ?_)
  refine hR (t_c 252645135 (by decide) ?_)
  refine hR (t_o fun v7 rv7 => ?_)
  iterate 3 refine hR (?_ : R (_, _, _, _, _, _))
  refine hR (t_c 8 (by decide) ?_)
  refine hR (t_o fun v8 rv8 => ?_)
  refine hR (t_add ?_)
  iterate 3 refine hR (?_ : R (_, _, _, _, _, _))
  refine hR (t_c 16 (by decide) ?_)
  obtain ⟨v9, lv9, uv9, qv9⟩ := zushr_r (Int32.ofInt (v7 + v8))
  refine hR (t_c v9 qv9 ?_)
  refine hR (t_add ?_)
  iterate 2 refine hR (?_ : R (_, _, _, _, _, _))
  refine hR (t_c 63 (by decide) ?_)
  obtain ⟨v10, lv10, uv10, qv10⟩ := zand_r (Int32.ofInt ((v7 + v8) + v9)) (m := Int32.ofInt 63) 6 (by decide) (by decide)
  refine hR (t_c v10 qv10 ?_)
  exact hR (zret_i rfl (Nat.le_refl _) trivial (h _ (by omega)))
theorem k_rota {ρ : Nat → Nat} {w : zW} (hT : TOP ρ w) (d : Nat) (a1 a2 a3 : Int) (hr0 : -2147483648 ≤ a1 ∧ a1 ≤ 2147483647) (hr1 : -2147483648 ≤ a2 ∧ a2 ≤ 2147483647) (hr2 : -2147483648 ≤ a3 ∧ a3 ≤ 2147483647) : DET zTab (d + 7) iX11_rota [.ref 0, .int (Int32.ofInt a1), .int (Int32.ofInt a2), .int (Int32.ofInt a3)] w (PB ρ w) := by
  refine z_rel (M := kX11_rota) _ rfl (Nat.le_of_ble_eq_true rfl) fun R hR0 => ?_
  have hR : ∀ {pc : Nat} {L : zL} {S : List Value} {w1 : zW} {k n : Nat}, zsc (zCl zTab (d + 6)) (d + 6) kX11_rota none zTab k n (PB ρ w k n) pc L S w1 k n R → R (pc, L, S, w1, k, n) := fun h => hR0 _ _ (Nat.le_refl _) (Nat.le_refl _) h
  have fr0 := wfR_rf [51, 70, 71, 72, 73, 74, 75, 76] ρ w
  iterate 2 refine hR (?_ : R (_, _, _, _, _, _))
  obtain ⟨y6_2, y7_2, hO2, hk2_0, hk2_1, hk2_2, hk2_3, hk2_4, hk2_5, hk2_6, hk2_7⟩ := CI_o1 hT.1 hT.2.1
  obtain ⟨hTt1, hIt1, hpt1, hKt1⟩ := top_fr2 hT hT.1 fr0 (by decide) hT.2.2.1
  obtain ⟨mc1, ms1, re1, w, ⟨ρ, hA1, hr_1⟩, hrun1⟩ := a_readingsAt hTt1 (d + 3) a1 (by omega)
  refine hR0 (0 + mc1) (0 + ms1) (Nat.le_add_right _ _) (Nat.le_add_right _ _) (c_obj hO2 (zcall_i mc1 ms1 (Nat.le_refl _) (Nat.le_refl _) (hrun1 _ ?_)))
  obtain ⟨hT, hI1, hK1, hx1, hm1, hs1⟩ := hA1
  have fr3 := wfR_rf [51, 70, 71, 72, 73, 74, 75, 76] ρ w
  rcases hr_1 with rfl | ⟨z1, rfl, hz1⟩
  · skip
    refine (?_ : R (_, _, .null :: [], w, 0 + mc1, 0 + ms1))
    iterate 4 refine hR (?_ : R (_, _, _, _, _, _))
    obtain ⟨hTf4, hIf4, hpf4, hKf4⟩ := top_fr2 hT hT.1 fr3 (by decide) hT.2.2.1
    exact hR (zret_i rfl (Nat.le_refl _) trivial ⟨⟨_, hTf4, fun l m h => hIf4 _ _ (hI1 _ _ (hIt1 _ _ (h))), (KEEP2_tr hKt1 (KEEP2_tr hK1 hKf4)), hx1, by omega, by omega⟩, _, rfl⟩)
  · skip
    refine (?_ : R (_, _, (.ref z1) :: [], w, 0 + mc1, 0 + ms1))
    iterate 4 refine hR (?_ : R (_, _, _, _, _, _))
    refine hR (zcall_i 0 0 (Nat.le_refl _) (Nat.le_refl _) (c_isSpan _ _ a2 (by omega) _ fun v5 hp7 => ?_))
    refine (?_ : R (_, _, (.int (Int32.ofInt v5)) :: [], w, 0 + mc1, 0 + ms1))
    refine hR (k_eq (by omega) (fun hc8 => ?_) (fun hc8 => ?_))
    · skip
      refine hR (?_ : R (_, _, _, _, _, _))
      obtain ⟨hTf9, hIf9, hpf9, hKf9⟩ := top_fr2 hT hT.1 fr3 (by decide) hT.2.2.1
      exact hR (zret_i rfl (Nat.le_refl _) trivial ⟨⟨_, hTf9, fun l m h => hIf9 _ _ (hI1 _ _ (hIt1 _ _ (h))), (KEEP2_tr hKt1 (KEEP2_tr hK1 hKf9)), hx1, by omega, by omega⟩, _, rfl⟩)
    refine hR (?_ : R (_, _, _, _, _, _))
    refine hR (k_le (by omega) (fun hc10 => ?_) (fun hc10 => ?_))
    · skip
      refine hR (?_ : R (_, _, _, _, _, _))
      refine hR (t_c 10 (by decide) ?_)
      refine hR (j_lt (by omega) (by omega) (fun hc11 => ?_) (fun hc11 => ?_))
      · skip
        iterate 3 refine hR (?_ : R (_, _, _, _, _, _))
        refine hR (k_eq (by omega) (fun hc12 => ?_) (fun hc12 => ?_))
        · skip
          refine hR (?_ : R (_, _, _, _, _, _))
          obtain ⟨y6_14, y7_14, hO14, hk14_0, hk14_1, hk14_2, hk14_3, hk14_4, hk14_5, hk14_6, hk14_7⟩ := CI_o1 hT.1 hT.2.1
          obtain ⟨hTt13, hIt13, hpt13, hKt13⟩ := top_fr2 hT hT.1 fr3 (by decide) hT.2.2.1
          obtain ⟨mc13, ms13, re13, w, ⟨ρ, z13, hA13, hre13, hz13, hlv13⟩, hrun13⟩ := a_levelsThere hTt13 (d + 3)
          subst hre13
          refine hR0 (0 + mc1 + mc13) (0 + ms1 + ms13) (Nat.le_add_right _ _) (Nat.le_add_right _ _) (c_obj hO14 (zcall_i mc13 ms13 (Nat.le_refl _) (Nat.le_refl _) (hrun13 _ ?_)))
          obtain ⟨hT, hI13, hK13, hx13, hm13, hs13⟩ := hA13
          have hl15 : ρ z1 = 50 := (hx13 z1 (by rw [hz1]; decide)).trans hz1
          have fr16 := wfR_rf [51, 70, 71, 72, 73, 74, 75, 76] ρ w
          refine (?_ : R (_, _, (.ref z13) :: [], w, 0 + mc1 + mc13, 0 + ms1 + ms13))
          iterate 2 refine hR (?_ : R (_, _, _, _, _, _))
          obtain ⟨y0_18, x1_18, x2_18, x3_18, hO18, hk18_0, hk18_1, hk18_2, hk18_3, hk18_4, hk18_5, hk18_6, hk18_7, hk18_8, hk18_9⟩ := CI_o70 hT.1 hz13
          refine hR (c_obj hO18 (zcall_i 0 0 (Nat.le_refl _) (Nat.le_refl _) (c_wantNothing _ z13 hT.1 hz13 _ fun w17 hw17 g17 => ?_)))
          have fr19 := wfR_tr fr16 g17 (by decide)
          have hO20 := (g17.2 z13 (by rw [hz13]; decide)).trans hO18
          refine (?_ : R (_, _, [], w17, 0 + mc1 + mc13, 0 + ms1 + ms13))
          have aw21 := AWK_fr hT.1 g17 hT.2.2.1 (by decide)
          have hlx22 := LVp_eq (g17.2 0 (by rw [hT.2.1]; decide)) hlv13
          iterate 4 refine hR (?_ : R (_, _, _, _, _, _))
          obtain ⟨z0_26, z2_26, z3_26, hO26, hk26_0, hk26_1, hk26_2, hk26_3, hk26_4⟩ := CI_o50 hw17 hl15
          refine hR (c_obj hO26 (zcall_i 0 0 (Nat.le_refl _) (Nat.le_refl _) (c_all _ z1 hw17 hl15 _ fun v23 hp25 => ?_)))
          refine (?_ : R (_, _, (.int (Int32.ofInt v23)) :: (.int (Int32.ofInt a2)) :: (.ref z1) :: (.ref z13) :: [], w17, 0 + mc1 + mc13, 0 + ms1 + ms13))
          refine hR (?_ : R (_, _, _, _, _, _))
          refine hR (c_obj hO26 (zcall_i 0 0 (Nat.le_refl _) (Nat.le_refl _) (c_all _ z1 hw17 hl15 _ fun v27 hp29 => ?_)))
          refine (?_ : R (_, _, (.int (Int32.ofInt v27)) :: (.int (Int32.ofInt v23)) :: (.int (Int32.ofInt a2)) :: (.ref z1) :: (.ref z13) :: [], w17, 0 + mc1 + mc13, 0 + ms1 + ms13))
          refine hR (c_obj hO20 (zcall_i 0 0 (Nat.le_refl _) (Nat.le_refl _) (c_spread _ z13 z1 a2 v23 v27 hw17 hz13 hl15 (by omega) (by omega) (by omega) (aw21.2 hT.2.1 _ hlx22) _ fun w30 hw30 g30 hn31 hp32 hp33 => ?_)))
          have fr34 := wfR_tr fr19 g30 (by decide)
          have hO35 := (g30.2 z1 (by rw [hl15]; decide)).trans hO26
          refine (?_ : R (_, _, [], w30, 0 + mc1 + mc13, 0 + ms1 + ms13))
          have aw36 := AWK_lv hw17 g30 aw21 (by decide) hlx22 hp32
          have hlx37 := LVp_eq (g30.2 0 (by rw [hT.2.1]; decide)) hlx22
          refine hR (?_ : R (_, _, _, _, _, _))
          obtain ⟨y0_39, x1_39, x2_39, x3_39, hO39, hk39_0, hk39_1, hk39_2, hk39_3, hk39_4, hk39_5, hk39_6, hk39_7, hk39_8, hk39_9⟩ := CI_o70 hw30 hz13
          refine hR (c_obj hO39 (zcall_i 0 0 (Nat.le_refl _) (Nat.le_refl _) (c_endByDrift _ z13 hw30 hz13 hn31 _ fun w38 hw38 g38 => ?_)))
          have fr40 := wfR_tr fr34 g38 (by decide)
          have hn41 := nn_eq (g38.2 z13 (by rw [hz13]; decide)) hn31
          have hO42 := (g38.2 z1 (by rw [hl15]; decide)).trans hO35
          have hO43 := (g38.2 z13 (by rw [hz13]; decide)).trans hO39
          refine (?_ : R (_, _, [], w38, 0 + mc1 + mc13, 0 + ms1 + ms13))
          have aw44 := AWK_fr hw30 g38 aw36 (by decide)
          have hlx45 := LVp_eq (g38.2 0 (by rw [hT.2.1]; decide)) hlx37
          have sp46 := SPN_eq (g38.2 z13 (by rw [hz13]; decide)) (g38.2 (z13 + 1) (by rw [hk39_4]; decide)) hp33
          refine hR (?_ : R (_, _, _, _, _, _))
          refine hR (k_ne (by omega) (fun hc => by omega) (fun _ => ?_))
          iterate 3 refine hR (?_ : R (_, _, _, _, _, _))
          refine hR (j_ne (by omega) (by omega) (fun hc47 => ?_) (fun hc47 => ?_))
          · skip
            refine hR (?_ : R (_, _, _, _, _, _))
            refine hR (c_obj hO43 (zcall_i 0 0 (Nat.le_refl _) (Nat.le_refl _) (c_bestEnd _ z13 0 hw38 hz13 sp46 (by omega) _ fun v48 hp50 => ?_)))
            refine (?_ : R (_, _, (.int (Int32.ofInt v48)) :: [], w38, 0 + mc1 + mc13, 0 + ms1 + ms13))
            obtain ⟨hTf51, hIf51, hpf51, hKf51⟩ := top_fr2 hT hw38 fr40 (by decide) aw44
            exact hR (zret_i rfl (Nat.le_refl _) trivial ⟨⟨_, hTf51, fun l m h => hIf51 _ _ (hI13 _ _ (hIt13 _ _ (hI1 _ _ (hIt1 _ _ (h))))), (KEEP2_tr hKt1 (KEEP2_tr hK1 (KEEP2_tr hKt13 (KEEP2_tr hK13 hKf51)))), (EXT_tr hx1 hx13), by omega, by omega⟩, _, rfl⟩)
          iterate 2 refine hR (?_ : R (_, _, _, _, _, _))
          refine hR (c_obj hO43 (zcall_i 0 0 (Nat.le_refl _) (Nat.le_refl _) (c_bestEnd _ z13 1 hw38 hz13 sp46 (by omega) _ fun v52 hp54 => ?_)))
          refine (?_ : R (_, _, (.int (Int32.ofInt v52)) :: [], w38, 0 + mc1 + mc13, 0 + ms1 + ms13))
          obtain ⟨hTf55, hIf55, hpf55, hKf55⟩ := top_fr2 hT hw38 fr40 (by decide) aw44
          exact hR (zret_i rfl (Nat.le_refl _) trivial ⟨⟨_, hTf55, fun l m h => hIf55 _ _ (hI13 _ _ (hIt13 _ _ (hI1 _ _ (hIt1 _ _ (h))))), (KEEP2_tr hKt1 (KEEP2_tr hK1 (KEEP2_tr hKt13 (KEEP2_tr hK13 hKf55)))), (EXT_tr hx1 hx13), by omega, by omega⟩, _, rfl⟩)
        iterate 2 refine hR (?_ : R (_, _, _, _, _, _))
        refine hR (j_eq (by omega) (by omega) (fun hc56 => ?_) (fun hc56 => ?_))
        rotate_left
        · skip
          refine hR (?_ : R (_, _, _, _, _, _))
          refine hR (k_ne (by omega) (fun hc => by omega) (fun _ => ?_))
          refine hR (?_ : R (_, _, _, _, _, _))
          obtain ⟨hTf95, hIf95, hpf95, hKf95⟩ := top_fr2 hT hT.1 fr3 (by decide) hT.2.2.1
          exact hR (zret_i rfl (Nat.le_refl _) trivial ⟨⟨_, hTf95, fun l m h => hIf95 _ _ (hI1 _ _ (hIt1 _ _ (h))), (KEEP2_tr hKt1 (KEEP2_tr hK1 hKf95)), hx1, by omega, by omega⟩, _, rfl⟩)
        refine hR (?_ : R (_, _, _, _, _, _))
        obtain ⟨y6_58, y7_58, hO58, hk58_0, hk58_1, hk58_2, hk58_3, hk58_4, hk58_5, hk58_6, hk58_7⟩ := CI_o1 hT.1 hT.2.1
        obtain ⟨hTt57, hIt57, hpt57, hKt57⟩ := top_fr2 hT hT.1 fr3 (by decide) hT.2.2.1
        obtain ⟨mc57, ms57, re57, w, ⟨ρ, z57, hA57, hre57, hz57, hlv57⟩, hrun57⟩ := a_levelsThere hTt57 (d + 3)
        subst hre57
        refine hR0 (0 + mc1 + mc57) (0 + ms1 + ms57) (Nat.le_add_right _ _) (Nat.le_add_right _ _) (c_obj hO58 (zcall_i mc57 ms57 (Nat.le_refl _) (Nat.le_refl _) (hrun57 _ ?_)))
        obtain ⟨hT, hI57, hK57, hx57, hm57, hs57⟩ := hA57
        have hl59 : ρ z1 = 50 := (hx57 z1 (by rw [hz1]; decide)).trans hz1
        have fr60 := wfR_rf [51, 70, 71, 72, 73, 74, 75, 76] ρ w
        refine (?_ : R (_, _, (.ref z57) :: [], w, 0 + mc1 + mc57, 0 + ms1 + ms57))
        iterate 2 refine hR (?_ : R (_, _, _, _, _, _))
        obtain ⟨y0_62, x1_62, x2_62, x3_62, hO62, hk62_0, hk62_1, hk62_2, hk62_3, hk62_4, hk62_5, hk62_6, hk62_7, hk62_8, hk62_9⟩ := CI_o70 hT.1 hz57
        refine hR (c_obj hO62 (zcall_i 0 0 (Nat.le_refl _) (Nat.le_refl _) (c_wantNothing _ z57 hT.1 hz57 _ fun w61 hw61 g61 => ?_)))
        have fr63 := wfR_tr fr60 g61 (by decide)
        have hO64 := (g61.2 z57 (by rw [hz57]; decide)).trans hO62
        refine (?_ : R (_, _, [], w61, 0 + mc1 + mc57, 0 + ms1 + ms57))
        have aw65 := AWK_fr hT.1 g61 hT.2.2.1 (by decide)
        have hlx66 := LVp_eq (g61.2 0 (by rw [hT.2.1]; decide)) hlv57
        iterate 4 refine hR (?_ : R (_, _, _, _, _, _))
        obtain ⟨z0_70, z2_70, z3_70, hO70, hk70_0, hk70_1, hk70_2, hk70_3, hk70_4⟩ := CI_o50 hw61 hl59
        refine hR (c_obj hO70 (zcall_i 0 0 (Nat.le_refl _) (Nat.le_refl _) (c_all _ z1 hw61 hl59 _ fun v67 hp69 => ?_)))
        refine (?_ : R (_, _, (.int (Int32.ofInt v67)) :: (.int (Int32.ofInt a2)) :: (.ref z1) :: (.ref z57) :: [], w61, 0 + mc1 + mc57, 0 + ms1 + ms57))
        refine hR (?_ : R (_, _, _, _, _, _))
        refine hR (c_obj hO70 (zcall_i 0 0 (Nat.le_refl _) (Nat.le_refl _) (c_all _ z1 hw61 hl59 _ fun v71 hp73 => ?_)))
        refine (?_ : R (_, _, (.int (Int32.ofInt v71)) :: (.int (Int32.ofInt v67)) :: (.int (Int32.ofInt a2)) :: (.ref z1) :: (.ref z57) :: [], w61, 0 + mc1 + mc57, 0 + ms1 + ms57))
        refine hR (c_obj hO64 (zcall_i 0 0 (Nat.le_refl _) (Nat.le_refl _) (c_spread _ z57 z1 a2 v67 v71 hw61 hz57 hl59 (by omega) (by omega) (by omega) (aw65.2 hT.2.1 _ hlx66) _ fun w74 hw74 g74 hn75 hp76 hp77 => ?_)))
        have fr78 := wfR_tr fr63 g74 (by decide)
        have hO79 := (g74.2 z1 (by rw [hl59]; decide)).trans hO70
        refine (?_ : R (_, _, [], w74, 0 + mc1 + mc57, 0 + ms1 + ms57))
        have aw80 := AWK_lv hw61 g74 aw65 (by decide) hlx66 hp76
        have hlx81 := LVp_eq (g74.2 0 (by rw [hT.2.1]; decide)) hlx66
        refine hR (?_ : R (_, _, _, _, _, _))
        obtain ⟨y0_83, x1_83, x2_83, x3_83, hO83, hk83_0, hk83_1, hk83_2, hk83_3, hk83_4, hk83_5, hk83_6, hk83_7, hk83_8, hk83_9⟩ := CI_o70 hw74 hz57
        refine hR (c_obj hO83 (zcall_i 0 0 (Nat.le_refl _) (Nat.le_refl _) (c_endByDrift _ z57 hw74 hz57 hn75 _ fun w82 hw82 g82 => ?_)))
        have fr84 := wfR_tr fr78 g82 (by decide)
        have hn85 := nn_eq (g82.2 z57 (by rw [hz57]; decide)) hn75
        have hO86 := (g82.2 z1 (by rw [hl59]; decide)).trans hO79
        have hO87 := (g82.2 z57 (by rw [hz57]; decide)).trans hO83
        refine (?_ : R (_, _, [], w82, 0 + mc1 + mc57, 0 + ms1 + ms57))
        have aw88 := AWK_fr hw74 g82 aw80 (by decide)
        have hlx89 := LVp_eq (g82.2 0 (by rw [hT.2.1]; decide)) hlx81
        have sp90 := SPN_eq (g82.2 z57 (by rw [hz57]; decide)) (g82.2 (z57 + 1) (by rw [hk83_4]; decide)) hp77
        refine hR (?_ : R (_, _, _, _, _, _))
        refine hR (k_ne (by omega) (fun hc => by omega) (fun _ => ?_))
        iterate 3 refine hR (?_ : R (_, _, _, _, _, _))
        refine hR (j_ne (by omega) (by omega) (fun hc => by omega) (fun _ => ?_))
        iterate 2 refine hR (?_ : R (_, _, _, _, _, _))
        refine hR (c_obj hO87 (zcall_i 0 0 (Nat.le_refl _) (Nat.le_refl _) (c_bestEnd _ z57 1 hw82 hz57 sp90 (by omega) _ fun v91 hp93 => ?_)))
        refine (?_ : R (_, _, (.int (Int32.ofInt v91)) :: [], w82, 0 + mc1 + mc57, 0 + ms1 + ms57))
        obtain ⟨hTf94, hIf94, hpf94, hKf94⟩ := top_fr2 hT hw82 fr84 (by decide) aw88
        exact hR (zret_i rfl (Nat.le_refl _) trivial ⟨⟨_, hTf94, fun l m h => hIf94 _ _ (hI57 _ _ (hIt57 _ _ (hI1 _ _ (hIt1 _ _ (h))))), (KEEP2_tr hKt1 (KEEP2_tr hK1 (KEEP2_tr hKt57 (KEEP2_tr hK57 hKf94)))), (EXT_tr hx1 hx57), by omega, by omega⟩, _, rfl⟩)
      refine hR (?_ : R (_, _, _, _, _, _))
      refine hR (t_c 10 (by decide) ?_)
      refine hR (?_ : R (_, _, _, _, _, _))
      refine hR (t_add ?_)
      refine hR (j_ge (by omega) (by omega) (fun hc96 => ?_) (fun hc96 => ?_))
      · skip
        iterate 3 refine hR (?_ : R (_, _, _, _, _, _))
        refine hR (k_eq (by omega) (fun hc97 => ?_) (fun hc97 => ?_))
        · skip
          refine hR (?_ : R (_, _, _, _, _, _))
          obtain ⟨y6_99, y7_99, hO99, hk99_0, hk99_1, hk99_2, hk99_3, hk99_4, hk99_5, hk99_6, hk99_7⟩ := CI_o1 hT.1 hT.2.1
          obtain ⟨hTt98, hIt98, hpt98, hKt98⟩ := top_fr2 hT hT.1 fr3 (by decide) hT.2.2.1
          obtain ⟨mc98, ms98, re98, w, ⟨ρ, z98, hA98, hre98, hz98, hlv98⟩, hrun98⟩ := a_levelsThere hTt98 (d + 3)
          subst hre98
          refine hR0 (0 + mc1 + mc98) (0 + ms1 + ms98) (Nat.le_add_right _ _) (Nat.le_add_right _ _) (c_obj hO99 (zcall_i mc98 ms98 (Nat.le_refl _) (Nat.le_refl _) (hrun98 _ ?_)))
          obtain ⟨hT, hI98, hK98, hx98, hm98, hs98⟩ := hA98
          have hl100 : ρ z1 = 50 := (hx98 z1 (by rw [hz1]; decide)).trans hz1
          have fr101 := wfR_rf [51, 70, 71, 72, 73, 74, 75, 76] ρ w
          refine (?_ : R (_, _, (.ref z98) :: [], w, 0 + mc1 + mc98, 0 + ms1 + ms98))
          iterate 2 refine hR (?_ : R (_, _, _, _, _, _))
          obtain ⟨y0_103, x1_103, x2_103, x3_103, hO103, hk103_0, hk103_1, hk103_2, hk103_3, hk103_4, hk103_5, hk103_6, hk103_7, hk103_8, hk103_9⟩ := CI_o70 hT.1 hz98
          refine hR (c_obj hO103 (zcall_i 0 0 (Nat.le_refl _) (Nat.le_refl _) (c_wantNothing _ z98 hT.1 hz98 _ fun w102 hw102 g102 => ?_)))
          have fr104 := wfR_tr fr101 g102 (by decide)
          have hO105 := (g102.2 z98 (by rw [hz98]; decide)).trans hO103
          refine (?_ : R (_, _, [], w102, 0 + mc1 + mc98, 0 + ms1 + ms98))
          have aw106 := AWK_fr hT.1 g102 hT.2.2.1 (by decide)
          have hlx107 := LVp_eq (g102.2 0 (by rw [hT.2.1]; decide)) hlv98
          iterate 4 refine hR (?_ : R (_, _, _, _, _, _))
          obtain ⟨z0_111, z2_111, z3_111, hO111, hk111_0, hk111_1, hk111_2, hk111_3, hk111_4⟩ := CI_o50 hw102 hl100
          refine hR (c_obj hO111 (zcall_i 0 0 (Nat.le_refl _) (Nat.le_refl _) (c_all _ z1 hw102 hl100 _ fun v108 hp110 => ?_)))
          refine (?_ : R (_, _, (.int (Int32.ofInt v108)) :: (.int (Int32.ofInt a2)) :: (.ref z1) :: (.ref z98) :: [], w102, 0 + mc1 + mc98, 0 + ms1 + ms98))
          refine hR (?_ : R (_, _, _, _, _, _))
          refine hR (c_obj hO111 (zcall_i 0 0 (Nat.le_refl _) (Nat.le_refl _) (c_all _ z1 hw102 hl100 _ fun v112 hp114 => ?_)))
          refine (?_ : R (_, _, (.int (Int32.ofInt v112)) :: (.int (Int32.ofInt v108)) :: (.int (Int32.ofInt a2)) :: (.ref z1) :: (.ref z98) :: [], w102, 0 + mc1 + mc98, 0 + ms1 + ms98))
          refine hR (c_obj hO105 (zcall_i 0 0 (Nat.le_refl _) (Nat.le_refl _) (c_spread _ z98 z1 a2 v108 v112 hw102 hz98 hl100 (by omega) (by omega) (by omega) (aw106.2 hT.2.1 _ hlx107) _ fun w115 hw115 g115 hn116 hp117 hp118 => ?_)))
          have fr119 := wfR_tr fr104 g115 (by decide)
          have hO120 := (g115.2 z1 (by rw [hl100]; decide)).trans hO111
          refine (?_ : R (_, _, [], w115, 0 + mc1 + mc98, 0 + ms1 + ms98))
          have aw121 := AWK_lv hw102 g115 aw106 (by decide) hlx107 hp117
          have hlx122 := LVp_eq (g115.2 0 (by rw [hT.2.1]; decide)) hlx107
          refine hR (?_ : R (_, _, _, _, _, _))
          obtain ⟨y0_124, x1_124, x2_124, x3_124, hO124, hk124_0, hk124_1, hk124_2, hk124_3, hk124_4, hk124_5, hk124_6, hk124_7, hk124_8, hk124_9⟩ := CI_o70 hw115 hz98
          refine hR (c_obj hO124 (zcall_i 0 0 (Nat.le_refl _) (Nat.le_refl _) (c_endByDrift _ z98 hw115 hz98 hn116 _ fun w123 hw123 g123 => ?_)))
          have fr125 := wfR_tr fr119 g123 (by decide)
          have hn126 := nn_eq (g123.2 z98 (by rw [hz98]; decide)) hn116
          have hO127 := (g123.2 z1 (by rw [hl100]; decide)).trans hO120
          have hO128 := (g123.2 z98 (by rw [hz98]; decide)).trans hO124
          refine (?_ : R (_, _, [], w123, 0 + mc1 + mc98, 0 + ms1 + ms98))
          have aw129 := AWK_fr hw115 g123 aw121 (by decide)
          have hlx130 := LVp_eq (g123.2 0 (by rw [hT.2.1]; decide)) hlx122
          have sp131 := SPN_eq (g123.2 z98 (by rw [hz98]; decide)) (g123.2 (z98 + 1) (by rw [hk124_4]; decide)) hp118
          refine hR (?_ : R (_, _, _, _, _, _))
          refine hR (k_ne (by omega) (fun hc => by omega) (fun _ => ?_))
          iterate 3 refine hR (?_ : R (_, _, _, _, _, _))
          refine hR (j_ne (by omega) (by omega) (fun hc132 => ?_) (fun hc132 => ?_))
          · skip
            refine hR (?_ : R (_, _, _, _, _, _))
            refine hR (c_obj hO128 (zcall_i 0 0 (Nat.le_refl _) (Nat.le_refl _) (c_bestEnd _ z98 0 hw123 hz98 sp131 (by omega) _ fun v133 hp135 => ?_)))
            refine (?_ : R (_, _, (.int (Int32.ofInt v133)) :: [], w123, 0 + mc1 + mc98, 0 + ms1 + ms98))
            obtain ⟨hTf136, hIf136, hpf136, hKf136⟩ := top_fr2 hT hw123 fr125 (by decide) aw129
            exact hR (zret_i rfl (Nat.le_refl _) trivial ⟨⟨_, hTf136, fun l m h => hIf136 _ _ (hI98 _ _ (hIt98 _ _ (hI1 _ _ (hIt1 _ _ (h))))), (KEEP2_tr hKt1 (KEEP2_tr hK1 (KEEP2_tr hKt98 (KEEP2_tr hK98 hKf136)))), (EXT_tr hx1 hx98), by omega, by omega⟩, _, rfl⟩)
          iterate 2 refine hR (?_ : R (_, _, _, _, _, _))
          refine hR (c_obj hO128 (zcall_i 0 0 (Nat.le_refl _) (Nat.le_refl _) (c_bestEnd _ z98 1 hw123 hz98 sp131 (by omega) _ fun v137 hp139 => ?_)))
          refine (?_ : R (_, _, (.int (Int32.ofInt v137)) :: [], w123, 0 + mc1 + mc98, 0 + ms1 + ms98))
          obtain ⟨hTf140, hIf140, hpf140, hKf140⟩ := top_fr2 hT hw123 fr125 (by decide) aw129
          exact hR (zret_i rfl (Nat.le_refl _) trivial ⟨⟨_, hTf140, fun l m h => hIf140 _ _ (hI98 _ _ (hIt98 _ _ (hI1 _ _ (hIt1 _ _ (h))))), (KEEP2_tr hKt1 (KEEP2_tr hK1 (KEEP2_tr hKt98 (KEEP2_tr hK98 hKf140)))), (EXT_tr hx1 hx98), by omega, by omega⟩, _, rfl⟩)
        iterate 2 refine hR (?_ : R (_, _, _, _, _, _))
        refine hR (j_eq (by omega) (by omega) (fun hc141 => ?_) (fun hc141 => ?_))
        rotate_left
        · skip
          refine hR (?_ : R (_, _, _, _, _, _))
          refine hR (k_ne (by omega) (fun hc => by omega) (fun _ => ?_))
          refine hR (?_ : R (_, _, _, _, _, _))
          obtain ⟨hTf180, hIf180, hpf180, hKf180⟩ := top_fr2 hT hT.1 fr3 (by decide) hT.2.2.1
          exact hR (zret_i rfl (Nat.le_refl _) trivial ⟨⟨_, hTf180, fun l m h => hIf180 _ _ (hI1 _ _ (hIt1 _ _ (h))), (KEEP2_tr hKt1 (KEEP2_tr hK1 hKf180)), hx1, by omega, by omega⟩, _, rfl⟩)
        refine hR (?_ : R (_, _, _, _, _, _))
        obtain ⟨y6_143, y7_143, hO143, hk143_0, hk143_1, hk143_2, hk143_3, hk143_4, hk143_5, hk143_6, hk143_7⟩ := CI_o1 hT.1 hT.2.1
        obtain ⟨hTt142, hIt142, hpt142, hKt142⟩ := top_fr2 hT hT.1 fr3 (by decide) hT.2.2.1
        obtain ⟨mc142, ms142, re142, w, ⟨ρ, z142, hA142, hre142, hz142, hlv142⟩, hrun142⟩ := a_levelsThere hTt142 (d + 3)
        subst hre142
        refine hR0 (0 + mc1 + mc142) (0 + ms1 + ms142) (Nat.le_add_right _ _) (Nat.le_add_right _ _) (c_obj hO143 (zcall_i mc142 ms142 (Nat.le_refl _) (Nat.le_refl _) (hrun142 _ ?_)))
        obtain ⟨hT, hI142, hK142, hx142, hm142, hs142⟩ := hA142
        have hl144 : ρ z1 = 50 := (hx142 z1 (by rw [hz1]; decide)).trans hz1
        have fr145 := wfR_rf [51, 70, 71, 72, 73, 74, 75, 76] ρ w
        refine (?_ : R (_, _, (.ref z142) :: [], w, 0 + mc1 + mc142, 0 + ms1 + ms142))
        iterate 2 refine hR (?_ : R (_, _, _, _, _, _))
        obtain ⟨y0_147, x1_147, x2_147, x3_147, hO147, hk147_0, hk147_1, hk147_2, hk147_3, hk147_4, hk147_5, hk147_6, hk147_7, hk147_8, hk147_9⟩ := CI_o70 hT.1 hz142
        refine hR (c_obj hO147 (zcall_i 0 0 (Nat.le_refl _) (Nat.le_refl _) (c_wantNothing _ z142 hT.1 hz142 _ fun w146 hw146 g146 => ?_)))
        have fr148 := wfR_tr fr145 g146 (by decide)
        have hO149 := (g146.2 z142 (by rw [hz142]; decide)).trans hO147
        refine (?_ : R (_, _, [], w146, 0 + mc1 + mc142, 0 + ms1 + ms142))
        have aw150 := AWK_fr hT.1 g146 hT.2.2.1 (by decide)
        have hlx151 := LVp_eq (g146.2 0 (by rw [hT.2.1]; decide)) hlv142
        iterate 4 refine hR (?_ : R (_, _, _, _, _, _))
        obtain ⟨z0_155, z2_155, z3_155, hO155, hk155_0, hk155_1, hk155_2, hk155_3, hk155_4⟩ := CI_o50 hw146 hl144
        refine hR (c_obj hO155 (zcall_i 0 0 (Nat.le_refl _) (Nat.le_refl _) (c_all _ z1 hw146 hl144 _ fun v152 hp154 => ?_)))
        refine (?_ : R (_, _, (.int (Int32.ofInt v152)) :: (.int (Int32.ofInt a2)) :: (.ref z1) :: (.ref z142) :: [], w146, 0 + mc1 + mc142, 0 + ms1 + ms142))
        refine hR (?_ : R (_, _, _, _, _, _))
        refine hR (c_obj hO155 (zcall_i 0 0 (Nat.le_refl _) (Nat.le_refl _) (c_all _ z1 hw146 hl144 _ fun v156 hp158 => ?_)))
        refine (?_ : R (_, _, (.int (Int32.ofInt v156)) :: (.int (Int32.ofInt v152)) :: (.int (Int32.ofInt a2)) :: (.ref z1) :: (.ref z142) :: [], w146, 0 + mc1 + mc142, 0 + ms1 + ms142))
        refine hR (c_obj hO149 (zcall_i 0 0 (Nat.le_refl _) (Nat.le_refl _) (c_spread _ z142 z1 a2 v152 v156 hw146 hz142 hl144 (by omega) (by omega) (by omega) (aw150.2 hT.2.1 _ hlx151) _ fun w159 hw159 g159 hn160 hp161 hp162 => ?_)))
        have fr163 := wfR_tr fr148 g159 (by decide)
        have hO164 := (g159.2 z1 (by rw [hl144]; decide)).trans hO155
        refine (?_ : R (_, _, [], w159, 0 + mc1 + mc142, 0 + ms1 + ms142))
        have aw165 := AWK_lv hw146 g159 aw150 (by decide) hlx151 hp161
        have hlx166 := LVp_eq (g159.2 0 (by rw [hT.2.1]; decide)) hlx151
        refine hR (?_ : R (_, _, _, _, _, _))
        obtain ⟨y0_168, x1_168, x2_168, x3_168, hO168, hk168_0, hk168_1, hk168_2, hk168_3, hk168_4, hk168_5, hk168_6, hk168_7, hk168_8, hk168_9⟩ := CI_o70 hw159 hz142
        refine hR (c_obj hO168 (zcall_i 0 0 (Nat.le_refl _) (Nat.le_refl _) (c_endByDrift _ z142 hw159 hz142 hn160 _ fun w167 hw167 g167 => ?_)))
        have fr169 := wfR_tr fr163 g167 (by decide)
        have hn170 := nn_eq (g167.2 z142 (by rw [hz142]; decide)) hn160
        have hO171 := (g167.2 z1 (by rw [hl144]; decide)).trans hO164
        have hO172 := (g167.2 z142 (by rw [hz142]; decide)).trans hO168
        refine (?_ : R (_, _, [], w167, 0 + mc1 + mc142, 0 + ms1 + ms142))
        have aw173 := AWK_fr hw159 g167 aw165 (by decide)
        have hlx174 := LVp_eq (g167.2 0 (by rw [hT.2.1]; decide)) hlx166
        have sp175 := SPN_eq (g167.2 z142 (by rw [hz142]; decide)) (g167.2 (z142 + 1) (by rw [hk168_4]; decide)) hp162
        refine hR (?_ : R (_, _, _, _, _, _))
        refine hR (k_ne (by omega) (fun hc => by omega) (fun _ => ?_))
        iterate 3 refine hR (?_ : R (_, _, _, _, _, _))
        refine hR (j_ne (by omega) (by omega) (fun hc => by omega) (fun _ => ?_))
        iterate 2 refine hR (?_ : R (_, _, _, _, _, _))
        refine hR (c_obj hO172 (zcall_i 0 0 (Nat.le_refl _) (Nat.le_refl _) (c_bestEnd _ z142 1 hw167 hz142 sp175 (by omega) _ fun v176 hp178 => ?_)))
        refine (?_ : R (_, _, (.int (Int32.ofInt v176)) :: [], w167, 0 + mc1 + mc142, 0 + ms1 + ms142))
        obtain ⟨hTf179, hIf179, hpf179, hKf179⟩ := top_fr2 hT hw167 fr169 (by decide) aw173
        exact hR (zret_i rfl (Nat.le_refl _) trivial ⟨⟨_, hTf179, fun l m h => hIf179 _ _ (hI142 _ _ (hIt142 _ _ (hI1 _ _ (hIt1 _ _ (h))))), (KEEP2_tr hKt1 (KEEP2_tr hK1 (KEEP2_tr hKt142 (KEEP2_tr hK142 hKf179)))), (EXT_tr hx1 hx142), by omega, by omega⟩, _, rfl⟩)
      iterate 4 refine hR (?_ : R (_, _, _, _, _, _))
      refine hR (k_eq (by omega) (fun hc181 => ?_) (fun hc181 => ?_))
      · skip
        refine hR (?_ : R (_, _, _, _, _, _))
        obtain ⟨y6_183, y7_183, hO183, hk183_0, hk183_1, hk183_2, hk183_3, hk183_4, hk183_5, hk183_6, hk183_7⟩ := CI_o1 hT.1 hT.2.1
        obtain ⟨hTt182, hIt182, hpt182, hKt182⟩ := top_fr2 hT hT.1 fr3 (by decide) hT.2.2.1
        obtain ⟨mc182, ms182, re182, w, ⟨ρ, z182, hA182, hre182, hz182, hlv182⟩, hrun182⟩ := a_levelsThere hTt182 (d + 3)
        subst hre182
        refine hR0 (0 + mc1 + mc182) (0 + ms1 + ms182) (Nat.le_add_right _ _) (Nat.le_add_right _ _) (c_obj hO183 (zcall_i mc182 ms182 (Nat.le_refl _) (Nat.le_refl _) (hrun182 _ ?_)))
        obtain ⟨hT, hI182, hK182, hx182, hm182, hs182⟩ := hA182
        have hl184 : ρ z1 = 50 := (hx182 z1 (by rw [hz1]; decide)).trans hz1
        have fr185 := wfR_rf [51, 70, 71, 72, 73, 74, 75, 76] ρ w
        refine (?_ : R (_, _, (.ref z182) :: [], w, 0 + mc1 + mc182, 0 + ms1 + ms182))
        iterate 2 refine hR (?_ : R (_, _, _, _, _, _))
        obtain ⟨y0_187, x1_187, x2_187, x3_187, hO187, hk187_0, hk187_1, hk187_2, hk187_3, hk187_4, hk187_5, hk187_6, hk187_7, hk187_8, hk187_9⟩ := CI_o70 hT.1 hz182
        refine hR (c_obj hO187 (zcall_i 0 0 (Nat.le_refl _) (Nat.le_refl _) (c_wantNothing _ z182 hT.1 hz182 _ fun w186 hw186 g186 => ?_)))
        have fr188 := wfR_tr fr185 g186 (by decide)
        have hO189 := (g186.2 z182 (by rw [hz182]; decide)).trans hO187
        refine (?_ : R (_, _, [], w186, 0 + mc1 + mc182, 0 + ms1 + ms182))
        have aw190 := AWK_fr hT.1 g186 hT.2.2.1 (by decide)
        have hlx191 := LVp_eq (g186.2 0 (by rw [hT.2.1]; decide)) hlv182
        iterate 4 refine hR (?_ : R (_, _, _, _, _, _))
        obtain ⟨z0_195, z2_195, z3_195, hO195, hk195_0, hk195_1, hk195_2, hk195_3, hk195_4⟩ := CI_o50 hw186 hl184
        refine hR (c_obj hO195 (zcall_i 0 0 (Nat.le_refl _) (Nat.le_refl _) (c_all _ z1 hw186 hl184 _ fun v192 hp194 => ?_)))
        refine (?_ : R (_, _, (.int (Int32.ofInt v192)) :: (.int (Int32.ofInt a2)) :: (.ref z1) :: (.ref z182) :: [], w186, 0 + mc1 + mc182, 0 + ms1 + ms182))
        refine hR (?_ : R (_, _, _, _, _, _))
        refine hR (c_obj hO195 (zcall_i 0 0 (Nat.le_refl _) (Nat.le_refl _) (c_all _ z1 hw186 hl184 _ fun v196 hp198 => ?_)))
        refine (?_ : R (_, _, (.int (Int32.ofInt v196)) :: (.int (Int32.ofInt v192)) :: (.int (Int32.ofInt a2)) :: (.ref z1) :: (.ref z182) :: [], w186, 0 + mc1 + mc182, 0 + ms1 + ms182))
        refine hR (c_obj hO189 (zcall_i 0 0 (Nat.le_refl _) (Nat.le_refl _) (c_spread _ z182 z1 a2 v192 v196 hw186 hz182 hl184 (by omega) (by omega) (by omega) (aw190.2 hT.2.1 _ hlx191) _ fun w199 hw199 g199 hn200 hp201 hp202 => ?_)))
        have fr203 := wfR_tr fr188 g199 (by decide)
        have hO204 := (g199.2 z1 (by rw [hl184]; decide)).trans hO195
        refine (?_ : R (_, _, [], w199, 0 + mc1 + mc182, 0 + ms1 + ms182))
        have aw205 := AWK_lv hw186 g199 aw190 (by decide) hlx191 hp201
        have hlx206 := LVp_eq (g199.2 0 (by rw [hT.2.1]; decide)) hlx191
        refine hR (?_ : R (_, _, _, _, _, _))
        obtain ⟨y0_208, x1_208, x2_208, x3_208, hO208, hk208_0, hk208_1, hk208_2, hk208_3, hk208_4, hk208_5, hk208_6, hk208_7, hk208_8, hk208_9⟩ := CI_o70 hw199 hz182
        refine hR (c_obj hO208 (zcall_i 0 0 (Nat.le_refl _) (Nat.le_refl _) (c_endByDrift _ z182 hw199 hz182 hn200 _ fun w207 hw207 g207 => ?_)))
        have fr209 := wfR_tr fr203 g207 (by decide)
        have hn210 := nn_eq (g207.2 z182 (by rw [hz182]; decide)) hn200
        have hO211 := (g207.2 z1 (by rw [hl184]; decide)).trans hO204
        have hO212 := (g207.2 z182 (by rw [hz182]; decide)).trans hO208
        refine (?_ : R (_, _, [], w207, 0 + mc1 + mc182, 0 + ms1 + ms182))
        have aw213 := AWK_fr hw199 g207 aw205 (by decide)
        have hlx214 := LVp_eq (g207.2 0 (by rw [hT.2.1]; decide)) hlx206
        have sp215 := SPN_eq (g207.2 z182 (by rw [hz182]; decide)) (g207.2 (z182 + 1) (by rw [hk208_4]; decide)) hp202
        refine hR (?_ : R (_, _, _, _, _, _))
        refine hR (k_ne (by omega) (fun _ => ?_) (fun hc => by omega))
        iterate 3 refine hR (?_ : R (_, _, _, _, _, _))
        refine hR (c_obj hO212 (zcall_i 0 0 (Nat.le_refl _) (Nat.le_refl _) (c_foldBack _ z182 0 0 hw207 hz182 hn210 (by omega) (by omega) (aw213.2 hT.2.1 _ hlx214) _ fun w216 hw216 g216 hp217 => ?_)))
        have fr218 := wfR_tr fr209 g216 (by decide)
        have hn219 := nn_eq (g216.2 z182 (by rw [hz182]; decide)) hn210
        have hO220 := (g216.2 z1 (by rw [hl184]; decide)).trans hO211
        have hO221 := (g216.2 z182 (by rw [hz182]; decide)).trans hO212
        refine (?_ : R (_, _, [], w216, 0 + mc1 + mc182, 0 + ms1 + ms182))
        have aw222 := AWK_lv hw207 g216 aw213 (by decide) hlx214 hp217
        have hlx223 := LVp_eq (g216.2 0 (by rw [hT.2.1]; decide)) hlx214
        have sp224 := SPN_eq (g216.2 z182 (by rw [hz182]; decide)) (g216.2 (z182 + 1) (by rw [hk208_4]; decide)) sp215
        iterate 2 refine hR (?_ : R (_, _, _, _, _, _))
        refine hR (t_c 10 (by decide) ?_)
        refine hR (t_sub ?_)
        refine hR (c_obj hO221 (zcall_i 0 0 (Nat.le_refl _) (Nat.le_refl _) (c_chosenAt _ z182 (a3 - 10) hw216 hz182 hn219 (by omega) (aw222.2 hT.2.1 _ hlx223) _ fun v225 w226 hw226 g226 hp227 hp228 => ?_)))
        have fr229 := wfR_tr fr218 g226 (by decide)
        have hn230 := nn_eq (g226.2 z182 (by rw [hz182]; decide)) hn219
        have hO231 := (g226.2 z1 (by rw [hl184]; decide)).trans hO220
        have hO232 := (g226.2 z182 (by rw [hz182]; decide)).trans hO221
        refine (?_ : R (_, _, (.int (Int32.ofInt v225)) :: [], w226, 0 + mc1 + mc182, 0 + ms1 + ms182))
        have aw233 := AWK_lv hw216 g226 aw222 (by decide) hlx223 hp227
        have hlx234 := LVp_eq (g226.2 0 (by rw [hT.2.1]; decide)) hlx223
        have sp235 := SPN_eq (g226.2 z182 (by rw [hz182]; decide)) (g226.2 (z182 + 1) (by rw [hk208_4]; decide)) sp224
        obtain ⟨hTf236, hIf236, hpf236, hKf236⟩ := top_fr2 hT hw226 fr229 (by decide) aw233
        exact hR (zret_i rfl (Nat.le_refl _) trivial ⟨⟨_, hTf236, fun l m h => hIf236 _ _ (hI182 _ _ (hIt182 _ _ (hI1 _ _ (hIt1 _ _ (h))))), (KEEP2_tr hKt1 (KEEP2_tr hK1 (KEEP2_tr hKt182 (KEEP2_tr hK182 hKf236)))), (EXT_tr hx1 hx182), by omega, by omega⟩, _, rfl⟩)
      iterate 2 refine hR (?_ : R (_, _, _, _, _, _))
      refine hR (j_eq (by omega) (by omega) (fun hc237 => ?_) (fun hc237 => ?_))
      · skip
        refine hR (?_ : R (_, _, _, _, _, _))
        obtain ⟨y6_239, y7_239, hO239, hk239_0, hk239_1, hk239_2, hk239_3, hk239_4, hk239_5, hk239_6, hk239_7⟩ := CI_o1 hT.1 hT.2.1
        obtain ⟨hTt238, hIt238, hpt238, hKt238⟩ := top_fr2 hT hT.1 fr3 (by decide) hT.2.2.1
        obtain ⟨mc238, ms238, re238, w, ⟨ρ, z238, hA238, hre238, hz238, hlv238⟩, hrun238⟩ := a_levelsThere hTt238 (d + 3)
        subst hre238
        refine hR0 (0 + mc1 + mc238) (0 + ms1 + ms238) (Nat.le_add_right _ _) (Nat.le_add_right _ _) (c_obj hO239 (zcall_i mc238 ms238 (Nat.le_refl _) (Nat.le_refl _) (hrun238 _ ?_)))
        obtain ⟨hT, hI238, hK238, hx238, hm238, hs238⟩ := hA238
        have hl240 : ρ z1 = 50 := (hx238 z1 (by rw [hz1]; decide)).trans hz1
        have fr241 := wfR_rf [51, 70, 71, 72, 73, 74, 75, 76] ρ w
        refine (?_ : R (_, _, (.ref z238) :: [], w, 0 + mc1 + mc238, 0 + ms1 + ms238))
        iterate 2 refine hR (?_ : R (_, _, _, _, _, _))
        obtain ⟨y0_243, x1_243, x2_243, x3_243, hO243, hk243_0, hk243_1, hk243_2, hk243_3, hk243_4, hk243_5, hk243_6, hk243_7, hk243_8, hk243_9⟩ := CI_o70 hT.1 hz238
        refine hR (c_obj hO243 (zcall_i 0 0 (Nat.le_refl _) (Nat.le_refl _) (c_wantNothing _ z238 hT.1 hz238 _ fun w242 hw242 g242 => ?_)))
        have fr244 := wfR_tr fr241 g242 (by decide)
        have hO245 := (g242.2 z238 (by rw [hz238]; decide)).trans hO243
        refine (?_ : R (_, _, [], w242, 0 + mc1 + mc238, 0 + ms1 + ms238))
        have aw246 := AWK_fr hT.1 g242 hT.2.2.1 (by decide)
        have hlx247 := LVp_eq (g242.2 0 (by rw [hT.2.1]; decide)) hlv238
        iterate 4 refine hR (?_ : R (_, _, _, _, _, _))
        obtain ⟨z0_251, z2_251, z3_251, hO251, hk251_0, hk251_1, hk251_2, hk251_3, hk251_4⟩ := CI_o50 hw242 hl240
        refine hR (c_obj hO251 (zcall_i 0 0 (Nat.le_refl _) (Nat.le_refl _) (c_all _ z1 hw242 hl240 _ fun v248 hp250 => ?_)))
        refine (?_ : R (_, _, (.int (Int32.ofInt v248)) :: (.int (Int32.ofInt a2)) :: (.ref z1) :: (.ref z238) :: [], w242, 0 + mc1 + mc238, 0 + ms1 + ms238))
        refine hR (?_ : R (_, _, _, _, _, _))
        refine hR (c_obj hO251 (zcall_i 0 0 (Nat.le_refl _) (Nat.le_refl _) (c_all _ z1 hw242 hl240 _ fun v252 hp254 => ?_)))
        refine (?_ : R (_, _, (.int (Int32.ofInt v252)) :: (.int (Int32.ofInt v248)) :: (.int (Int32.ofInt a2)) :: (.ref z1) :: (.ref z238) :: [], w242, 0 + mc1 + mc238, 0 + ms1 + ms238))
        refine hR (c_obj hO245 (zcall_i 0 0 (Nat.le_refl _) (Nat.le_refl _) (c_spread _ z238 z1 a2 v248 v252 hw242 hz238 hl240 (by omega) (by omega) (by omega) (aw246.2 hT.2.1 _ hlx247) _ fun w255 hw255 g255 hn256 hp257 hp258 => ?_)))
        have fr259 := wfR_tr fr244 g255 (by decide)
        have hO260 := (g255.2 z1 (by rw [hl240]; decide)).trans hO251
        refine (?_ : R (_, _, [], w255, 0 + mc1 + mc238, 0 + ms1 + ms238))
        have aw261 := AWK_lv hw242 g255 aw246 (by decide) hlx247 hp257
        have hlx262 := LVp_eq (g255.2 0 (by rw [hT.2.1]; decide)) hlx247
        refine hR (?_ : R (_, _, _, _, _, _))
        obtain ⟨y0_264, x1_264, x2_264, x3_264, hO264, hk264_0, hk264_1, hk264_2, hk264_3, hk264_4, hk264_5, hk264_6, hk264_7, hk264_8, hk264_9⟩ := CI_o70 hw255 hz238
        refine hR (c_obj hO264 (zcall_i 0 0 (Nat.le_refl _) (Nat.le_refl _) (c_endByDrift _ z238 hw255 hz238 hn256 _ fun w263 hw263 g263 => ?_)))
        have fr265 := wfR_tr fr259 g263 (by decide)
        have hn266 := nn_eq (g263.2 z238 (by rw [hz238]; decide)) hn256
        have hO267 := (g263.2 z1 (by rw [hl240]; decide)).trans hO260
        have hO268 := (g263.2 z238 (by rw [hz238]; decide)).trans hO264
        refine (?_ : R (_, _, [], w263, 0 + mc1 + mc238, 0 + ms1 + ms238))
        have aw269 := AWK_fr hw255 g263 aw261 (by decide)
        have hlx270 := LVp_eq (g263.2 0 (by rw [hT.2.1]; decide)) hlx262
        have sp271 := SPN_eq (g263.2 z238 (by rw [hz238]; decide)) (g263.2 (z238 + 1) (by rw [hk264_4]; decide)) hp258
        refine hR (?_ : R (_, _, _, _, _, _))
        refine hR (k_ne (by omega) (fun _ => ?_) (fun hc => by omega))
        iterate 3 refine hR (?_ : R (_, _, _, _, _, _))
        refine hR (c_obj hO268 (zcall_i 0 0 (Nat.le_refl _) (Nat.le_refl _) (c_foldBack _ z238 0 0 hw263 hz238 hn266 (by omega) (by omega) (aw269.2 hT.2.1 _ hlx270) _ fun w272 hw272 g272 hp273 => ?_)))
        have fr274 := wfR_tr fr265 g272 (by decide)
        have hn275 := nn_eq (g272.2 z238 (by rw [hz238]; decide)) hn266
        have hO276 := (g272.2 z1 (by rw [hl240]; decide)).trans hO267
        have hO277 := (g272.2 z238 (by rw [hz238]; decide)).trans hO268
        refine (?_ : R (_, _, [], w272, 0 + mc1 + mc238, 0 + ms1 + ms238))
        have aw278 := AWK_lv hw263 g272 aw269 (by decide) hlx270 hp273
        have hlx279 := LVp_eq (g272.2 0 (by rw [hT.2.1]; decide)) hlx270
        have sp280 := SPN_eq (g272.2 z238 (by rw [hz238]; decide)) (g272.2 (z238 + 1) (by rw [hk264_4]; decide)) sp271
        iterate 2 refine hR (?_ : R (_, _, _, _, _, _))
        refine hR (t_c 10 (by decide) ?_)
        refine hR (t_sub ?_)
        refine hR (c_obj hO277 (zcall_i 0 0 (Nat.le_refl _) (Nat.le_refl _) (c_chosenAt _ z238 (a3 - 10) hw272 hz238 hn275 (by omega) (aw278.2 hT.2.1 _ hlx279) _ fun v281 w282 hw282 g282 hp283 hp284 => ?_)))
        have fr285 := wfR_tr fr274 g282 (by decide)
        have hn286 := nn_eq (g282.2 z238 (by rw [hz238]; decide)) hn275
        have hO287 := (g282.2 z1 (by rw [hl240]; decide)).trans hO276
        have hO288 := (g282.2 z238 (by rw [hz238]; decide)).trans hO277
        refine (?_ : R (_, _, (.int (Int32.ofInt v281)) :: [], w282, 0 + mc1 + mc238, 0 + ms1 + ms238))
        have aw289 := AWK_lv hw272 g282 aw278 (by decide) hlx279 hp283
        have hlx290 := LVp_eq (g282.2 0 (by rw [hT.2.1]; decide)) hlx279
        have sp291 := SPN_eq (g282.2 z238 (by rw [hz238]; decide)) (g282.2 (z238 + 1) (by rw [hk264_4]; decide)) sp280
        obtain ⟨hTf292, hIf292, hpf292, hKf292⟩ := top_fr2 hT hw282 fr285 (by decide) aw289
        exact hR (zret_i rfl (Nat.le_refl _) trivial ⟨⟨_, hTf292, fun l m h => hIf292 _ _ (hI238 _ _ (hIt238 _ _ (hI1 _ _ (hIt1 _ _ (h))))), (KEEP2_tr hKt1 (KEEP2_tr hK1 (KEEP2_tr hKt238 (KEEP2_tr hK238 hKf292)))), (EXT_tr hx1 hx238), by omega, by omega⟩, _, rfl⟩)
      refine hR (?_ : R (_, _, _, _, _, _))
      refine hR (k_ne (by omega) (fun _ => ?_) (fun hc => by omega))
      refine hR (?_ : R (_, _, _, _, _, _))
      obtain ⟨y6_294, y7_294, hO294, hk294_0, hk294_1, hk294_2, hk294_3, hk294_4, hk294_5, hk294_6, hk294_7⟩ := CI_o1 hT.1 hT.2.1
      obtain ⟨hTt293, hIt293, hpt293, hKt293⟩ := top_fr2 hT hT.1 fr3 (by decide) hT.2.2.1
      obtain ⟨mc293, ms293, re293, w, ⟨ρ, z293, hA293, hre293, hz293, hlv293⟩, hrun293⟩ := a_levelsThere hTt293 (d + 3)
      subst hre293
      refine hR0 (0 + mc1 + mc293) (0 + ms1 + ms293) (Nat.le_add_right _ _) (Nat.le_add_right _ _) (c_obj hO294 (zcall_i mc293 ms293 (Nat.le_refl _) (Nat.le_refl _) (hrun293 _ ?_)))
      obtain ⟨hT, hI293, hK293, hx293, hm293, hs293⟩ := hA293
      have hl295 : ρ z1 = 50 := (hx293 z1 (by rw [hz1]; decide)).trans hz1
      have fr296 := wfR_rf [51, 70, 71, 72, 73, 74, 75, 76] ρ w
      refine (?_ : R (_, _, (.ref z293) :: [], w, 0 + mc1 + mc293, 0 + ms1 + ms293))
      iterate 2 refine hR (?_ : R (_, _, _, _, _, _))
      obtain ⟨y0_298, x1_298, x2_298, x3_298, hO298, hk298_0, hk298_1, hk298_2, hk298_3, hk298_4, hk298_5, hk298_6, hk298_7, hk298_8, hk298_9⟩ := CI_o70 hT.1 hz293
      refine hR (c_obj hO298 (zcall_i 0 0 (Nat.le_refl _) (Nat.le_refl _) (c_wantNothing _ z293 hT.1 hz293 _ fun w297 hw297 g297 => ?_)))
      have fr299 := wfR_tr fr296 g297 (by decide)
      have hO300 := (g297.2 z293 (by rw [hz293]; decide)).trans hO298
      refine (?_ : R (_, _, [], w297, 0 + mc1 + mc293, 0 + ms1 + ms293))
      have aw301 := AWK_fr hT.1 g297 hT.2.2.1 (by decide)
      have hlx302 := LVp_eq (g297.2 0 (by rw [hT.2.1]; decide)) hlv293
      iterate 4 refine hR (?_ : R (_, _, _, _, _, _))
      obtain ⟨z0_306, z2_306, z3_306, hO306, hk306_0, hk306_1, hk306_2, hk306_3, hk306_4⟩ := CI_o50 hw297 hl295
      refine hR (c_obj hO306 (zcall_i 0 0 (Nat.le_refl _) (Nat.le_refl _) (c_all _ z1 hw297 hl295 _ fun v303 hp305 => ?_)))
      refine (?_ : R (_, _, (.int (Int32.ofInt v303)) :: (.int (Int32.ofInt a2)) :: (.ref z1) :: (.ref z293) :: [], w297, 0 + mc1 + mc293, 0 + ms1 + ms293))
      refine hR (?_ : R (_, _, _, _, _, _))
      refine hR (c_obj hO306 (zcall_i 0 0 (Nat.le_refl _) (Nat.le_refl _) (c_all _ z1 hw297 hl295 _ fun v307 hp309 => ?_)))
      refine (?_ : R (_, _, (.int (Int32.ofInt v307)) :: (.int (Int32.ofInt v303)) :: (.int (Int32.ofInt a2)) :: (.ref z1) :: (.ref z293) :: [], w297, 0 + mc1 + mc293, 0 + ms1 + ms293))
      refine hR (c_obj hO300 (zcall_i 0 0 (Nat.le_refl _) (Nat.le_refl _) (c_spread _ z293 z1 a2 v303 v307 hw297 hz293 hl295 (by omega) (by omega) (by omega) (aw301.2 hT.2.1 _ hlx302) _ fun w310 hw310 g310 hn311 hp312 hp313 => ?_)))
      have fr314 := wfR_tr fr299 g310 (by decide)
      have hO315 := (g310.2 z1 (by rw [hl295]; decide)).trans hO306
      refine (?_ : R (_, _, [], w310, 0 + mc1 + mc293, 0 + ms1 + ms293))
      have aw316 := AWK_lv hw297 g310 aw301 (by decide) hlx302 hp312
      have hlx317 := LVp_eq (g310.2 0 (by rw [hT.2.1]; decide)) hlx302
      refine hR (?_ : R (_, _, _, _, _, _))
      obtain ⟨y0_319, x1_319, x2_319, x3_319, hO319, hk319_0, hk319_1, hk319_2, hk319_3, hk319_4, hk319_5, hk319_6, hk319_7, hk319_8, hk319_9⟩ := CI_o70 hw310 hz293
      refine hR (c_obj hO319 (zcall_i 0 0 (Nat.le_refl _) (Nat.le_refl _) (c_endByDrift _ z293 hw310 hz293 hn311 _ fun w318 hw318 g318 => ?_)))
      have fr320 := wfR_tr fr314 g318 (by decide)
      have hn321 := nn_eq (g318.2 z293 (by rw [hz293]; decide)) hn311
      have hO322 := (g318.2 z1 (by rw [hl295]; decide)).trans hO315
      have hO323 := (g318.2 z293 (by rw [hz293]; decide)).trans hO319
      refine (?_ : R (_, _, [], w318, 0 + mc1 + mc293, 0 + ms1 + ms293))
      have aw324 := AWK_fr hw310 g318 aw316 (by decide)
      have hlx325 := LVp_eq (g318.2 0 (by rw [hT.2.1]; decide)) hlx317
      have sp326 := SPN_eq (g318.2 z293 (by rw [hz293]; decide)) (g318.2 (z293 + 1) (by rw [hk319_4]; decide)) hp313
      refine hR (?_ : R (_, _, _, _, _, _))
      refine hR (k_ne (by omega) (fun _ => ?_) (fun hc => by omega))
      iterate 3 refine hR (?_ : R (_, _, _, _, _, _))
      refine hR (c_obj hO323 (zcall_i 0 0 (Nat.le_refl _) (Nat.le_refl _) (c_foldBack _ z293 0 0 hw318 hz293 hn321 (by omega) (by omega) (aw324.2 hT.2.1 _ hlx325) _ fun w327 hw327 g327 hp328 => ?_)))
      have fr329 := wfR_tr fr320 g327 (by decide)
      have hn330 := nn_eq (g327.2 z293 (by rw [hz293]; decide)) hn321
      have hO331 := (g327.2 z1 (by rw [hl295]; decide)).trans hO322
      have hO332 := (g327.2 z293 (by rw [hz293]; decide)).trans hO323
      refine (?_ : R (_, _, [], w327, 0 + mc1 + mc293, 0 + ms1 + ms293))
      have aw333 := AWK_lv hw318 g327 aw324 (by decide) hlx325 hp328
      have hlx334 := LVp_eq (g327.2 0 (by rw [hT.2.1]; decide)) hlx325
      have sp335 := SPN_eq (g327.2 z293 (by rw [hz293]; decide)) (g327.2 (z293 + 1) (by rw [hk319_4]; decide)) sp326
      iterate 2 refine hR (?_ : R (_, _, _, _, _, _))
      refine hR (t_c 10 (by decide) ?_)
      refine hR (t_sub ?_)
      refine hR (c_obj hO332 (zcall_i 0 0 (Nat.le_refl _) (Nat.le_refl _) (c_chosenAt _ z293 (a3 - 10) hw327 hz293 hn330 (by omega) (aw333.2 hT.2.1 _ hlx334) _ fun v336 w337 hw337 g337 hp338 hp339 => ?_)))
      have fr340 := wfR_tr fr329 g337 (by decide)
      have hn341 := nn_eq (g337.2 z293 (by rw [hz293]; decide)) hn330
      have hO342 := (g337.2 z1 (by rw [hl295]; decide)).trans hO331
      have hO343 := (g337.2 z293 (by rw [hz293]; decide)).trans hO332
      refine (?_ : R (_, _, (.int (Int32.ofInt v336)) :: [], w337, 0 + mc1 + mc293, 0 + ms1 + ms293))
      have aw344 := AWK_lv hw327 g337 aw333 (by decide) hlx334 hp338
      have hlx345 := LVp_eq (g337.2 0 (by rw [hT.2.1]; decide)) hlx334
      have sp346 := SPN_eq (g337.2 z293 (by rw [hz293]; decide)) (g337.2 (z293 + 1) (by rw [hk319_4]; decide)) sp335
      obtain ⟨hTf347, hIf347, hpf347, hKf347⟩ := top_fr2 hT hw337 fr340 (by decide) aw344
      exact hR (zret_i rfl (Nat.le_refl _) trivial ⟨⟨_, hTf347, fun l m h => hIf347 _ _ (hI293 _ _ (hIt293 _ _ (hI1 _ _ (hIt1 _ _ (h))))), (KEEP2_tr hKt1 (KEEP2_tr hK1 (KEEP2_tr hKt293 (KEEP2_tr hK293 hKf347)))), (EXT_tr hx1 hx293), by omega, by omega⟩, _, rfl⟩)
    refine hR (?_ : R (_, _, _, _, _, _))
    obtain ⟨z0_351, z2_351, z3_351, hO351, hk351_0, hk351_1, hk351_2, hk351_3, hk351_4⟩ := CI_o50 hT.1 hz1
    refine hR (c_obj hO351 (zcall_i 0 0 (Nat.le_refl _) (Nat.le_refl _) (c_all _ z1 hT.1 hz1 _ fun v348 hp350 => ?_)))
    refine (?_ : R (_, _, (.int (Int32.ofInt v348)) :: [], w, 0 + mc1, 0 + ms1))
    refine hR (k_ne (by omega) (fun hc352 => ?_) (fun hc352 => ?_))
    rotate_left
    · skip
      refine hR (?_ : R (_, _, _, _, _, _))
      obtain ⟨hTf690, hIf690, hpf690, hKf690⟩ := top_fr2 hT hT.1 fr3 (by decide) hT.2.2.1
      exact hR (zret_i rfl (Nat.le_refl _) trivial ⟨⟨_, hTf690, fun l m h => hIf690 _ _ (hI1 _ _ (hIt1 _ _ (h))), (KEEP2_tr hKt1 (KEEP2_tr hK1 hKf690)), hx1, by omega, by omega⟩, _, rfl⟩)
    refine hR (?_ : R (_, _, _, _, _, _))
    refine hR (t_c 10 (by decide) ?_)
    refine hR (j_lt (by omega) (by omega) (fun hc353 => ?_) (fun hc353 => ?_))
    · skip
      iterate 3 refine hR (?_ : R (_, _, _, _, _, _))
      refine hR (k_eq (by omega) (fun hc354 => ?_) (fun hc354 => ?_))
      · skip
        refine hR (?_ : R (_, _, _, _, _, _))
        obtain ⟨y6_356, y7_356, hO356, hk356_0, hk356_1, hk356_2, hk356_3, hk356_4, hk356_5, hk356_6, hk356_7⟩ := CI_o1 hT.1 hT.2.1
        obtain ⟨hTt355, hIt355, hpt355, hKt355⟩ := top_fr2 hT hT.1 fr3 (by decide) hT.2.2.1
        obtain ⟨mc355, ms355, re355, w, ⟨ρ, z355, hA355, hre355, hz355, hlv355⟩, hrun355⟩ := a_levelsThere hTt355 (d + 3)
        subst hre355
        refine hR0 (0 + mc1 + mc355) (0 + ms1 + ms355) (Nat.le_add_right _ _) (Nat.le_add_right _ _) (c_obj hO356 (zcall_i mc355 ms355 (Nat.le_refl _) (Nat.le_refl _) (hrun355 _ ?_)))
        obtain ⟨hT, hI355, hK355, hx355, hm355, hs355⟩ := hA355
        have hl357 : ρ z1 = 50 := (hx355 z1 (by rw [hz1]; decide)).trans hz1
        have fr358 := wfR_rf [51, 70, 71, 72, 73, 74, 75, 76] ρ w
        refine (?_ : R (_, _, (.ref z355) :: [], w, 0 + mc1 + mc355, 0 + ms1 + ms355))
        iterate 2 refine hR (?_ : R (_, _, _, _, _, _))
        obtain ⟨y0_360, x1_360, x2_360, x3_360, hO360, hk360_0, hk360_1, hk360_2, hk360_3, hk360_4, hk360_5, hk360_6, hk360_7, hk360_8, hk360_9⟩ := CI_o70 hT.1 hz355
        refine hR (c_obj hO360 (zcall_i 0 0 (Nat.le_refl _) (Nat.le_refl _) (c_wantNothing _ z355 hT.1 hz355 _ fun w359 hw359 g359 => ?_)))
        have fr361 := wfR_tr fr358 g359 (by decide)
        have hO362 := (g359.2 z355 (by rw [hz355]; decide)).trans hO360
        refine (?_ : R (_, _, [], w359, 0 + mc1 + mc355, 0 + ms1 + ms355))
        have aw363 := AWK_fr hT.1 g359 hT.2.2.1 (by decide)
        have hlx364 := LVp_eq (g359.2 0 (by rw [hT.2.1]; decide)) hlv355
        iterate 4 refine hR (?_ : R (_, _, _, _, _, _))
        obtain ⟨z0_368, z2_368, z3_368, hO368, hk368_0, hk368_1, hk368_2, hk368_3, hk368_4⟩ := CI_o50 hw359 hl357
        refine hR (c_obj hO368 (zcall_i 0 0 (Nat.le_refl _) (Nat.le_refl _) (c_all _ z1 hw359 hl357 _ fun v365 hp367 => ?_)))
        refine (?_ : R (_, _, (.int (Int32.ofInt v365)) :: (.int (Int32.ofInt a2)) :: (.ref z1) :: (.ref z355) :: [], w359, 0 + mc1 + mc355, 0 + ms1 + ms355))
        refine hR (?_ : R (_, _, _, _, _, _))
        refine hR (c_obj hO368 (zcall_i 0 0 (Nat.le_refl _) (Nat.le_refl _) (c_all _ z1 hw359 hl357 _ fun v369 hp371 => ?_)))
        refine (?_ : R (_, _, (.int (Int32.ofInt v369)) :: (.int (Int32.ofInt v365)) :: (.int (Int32.ofInt a2)) :: (.ref z1) :: (.ref z355) :: [], w359, 0 + mc1 + mc355, 0 + ms1 + ms355))
        refine hR (c_obj hO362 (zcall_i 0 0 (Nat.le_refl _) (Nat.le_refl _) (c_spread _ z355 z1 a2 v365 v369 hw359 hz355 hl357 (by omega) (by omega) (by omega) (aw363.2 hT.2.1 _ hlx364) _ fun w372 hw372 g372 hn373 hp374 hp375 => ?_)))
        have fr376 := wfR_tr fr361 g372 (by decide)
        have hO377 := (g372.2 z1 (by rw [hl357]; decide)).trans hO368
        refine (?_ : R (_, _, [], w372, 0 + mc1 + mc355, 0 + ms1 + ms355))
        have aw378 := AWK_lv hw359 g372 aw363 (by decide) hlx364 hp374
        have hlx379 := LVp_eq (g372.2 0 (by rw [hT.2.1]; decide)) hlx364
        refine hR (?_ : R (_, _, _, _, _, _))
        obtain ⟨y0_381, x1_381, x2_381, x3_381, hO381, hk381_0, hk381_1, hk381_2, hk381_3, hk381_4, hk381_5, hk381_6, hk381_7, hk381_8, hk381_9⟩ := CI_o70 hw372 hz355
        refine hR (c_obj hO381 (zcall_i 0 0 (Nat.le_refl _) (Nat.le_refl _) (c_endByDrift _ z355 hw372 hz355 hn373 _ fun w380 hw380 g380 => ?_)))
        have fr382 := wfR_tr fr376 g380 (by decide)
        have hn383 := nn_eq (g380.2 z355 (by rw [hz355]; decide)) hn373
        have hO384 := (g380.2 z1 (by rw [hl357]; decide)).trans hO377
        have hO385 := (g380.2 z355 (by rw [hz355]; decide)).trans hO381
        refine (?_ : R (_, _, [], w380, 0 + mc1 + mc355, 0 + ms1 + ms355))
        have aw386 := AWK_fr hw372 g380 aw378 (by decide)
        have hlx387 := LVp_eq (g380.2 0 (by rw [hT.2.1]; decide)) hlx379
        have sp388 := SPN_eq (g380.2 z355 (by rw [hz355]; decide)) (g380.2 (z355 + 1) (by rw [hk381_4]; decide)) hp375
        refine hR (?_ : R (_, _, _, _, _, _))
        refine hR (k_ne (by omega) (fun hc => by omega) (fun _ => ?_))
        iterate 3 refine hR (?_ : R (_, _, _, _, _, _))
        refine hR (j_ne (by omega) (by omega) (fun hc389 => ?_) (fun hc389 => ?_))
        · skip
          refine hR (?_ : R (_, _, _, _, _, _))
          refine hR (c_obj hO385 (zcall_i 0 0 (Nat.le_refl _) (Nat.le_refl _) (c_bestEnd _ z355 0 hw380 hz355 sp388 (by omega) _ fun v390 hp392 => ?_)))
          refine (?_ : R (_, _, (.int (Int32.ofInt v390)) :: [], w380, 0 + mc1 + mc355, 0 + ms1 + ms355))
          obtain ⟨hTf393, hIf393, hpf393, hKf393⟩ := top_fr2 hT hw380 fr382 (by decide) aw386
          exact hR (zret_i rfl (Nat.le_refl _) trivial ⟨⟨_, hTf393, fun l m h => hIf393 _ _ (hI355 _ _ (hIt355 _ _ (hI1 _ _ (hIt1 _ _ (h))))), (KEEP2_tr hKt1 (KEEP2_tr hK1 (KEEP2_tr hKt355 (KEEP2_tr hK355 hKf393)))), (EXT_tr hx1 hx355), by omega, by omega⟩, _, rfl⟩)
        iterate 2 refine hR (?_ : R (_, _, _, _, _, _))
        refine hR (c_obj hO385 (zcall_i 0 0 (Nat.le_refl _) (Nat.le_refl _) (c_bestEnd _ z355 1 hw380 hz355 sp388 (by omega) _ fun v394 hp396 => ?_)))
        refine (?_ : R (_, _, (.int (Int32.ofInt v394)) :: [], w380, 0 + mc1 + mc355, 0 + ms1 + ms355))
        obtain ⟨hTf397, hIf397, hpf397, hKf397⟩ := top_fr2 hT hw380 fr382 (by decide) aw386
        exact hR (zret_i rfl (Nat.le_refl _) trivial ⟨⟨_, hTf397, fun l m h => hIf397 _ _ (hI355 _ _ (hIt355 _ _ (hI1 _ _ (hIt1 _ _ (h))))), (KEEP2_tr hKt1 (KEEP2_tr hK1 (KEEP2_tr hKt355 (KEEP2_tr hK355 hKf397)))), (EXT_tr hx1 hx355), by omega, by omega⟩, _, rfl⟩)
      iterate 2 refine hR (?_ : R (_, _, _, _, _, _))
      refine hR (j_eq (by omega) (by omega) (fun hc398 => ?_) (fun hc398 => ?_))
      rotate_left
      · skip
        refine hR (?_ : R (_, _, _, _, _, _))
        refine hR (k_ne (by omega) (fun hc => by omega) (fun _ => ?_))
        refine hR (?_ : R (_, _, _, _, _, _))
        obtain ⟨hTf437, hIf437, hpf437, hKf437⟩ := top_fr2 hT hT.1 fr3 (by decide) hT.2.2.1
        exact hR (zret_i rfl (Nat.le_refl _) trivial ⟨⟨_, hTf437, fun l m h => hIf437 _ _ (hI1 _ _ (hIt1 _ _ (h))), (KEEP2_tr hKt1 (KEEP2_tr hK1 hKf437)), hx1, by omega, by omega⟩, _, rfl⟩)
      refine hR (?_ : R (_, _, _, _, _, _))
      obtain ⟨y6_400, y7_400, hO400, hk400_0, hk400_1, hk400_2, hk400_3, hk400_4, hk400_5, hk400_6, hk400_7⟩ := CI_o1 hT.1 hT.2.1
      obtain ⟨hTt399, hIt399, hpt399, hKt399⟩ := top_fr2 hT hT.1 fr3 (by decide) hT.2.2.1
      obtain ⟨mc399, ms399, re399, w, ⟨ρ, z399, hA399, hre399, hz399, hlv399⟩, hrun399⟩ := a_levelsThere hTt399 (d + 3)
      subst hre399
      refine hR0 (0 + mc1 + mc399) (0 + ms1 + ms399) (Nat.le_add_right _ _) (Nat.le_add_right _ _) (c_obj hO400 (zcall_i mc399 ms399 (Nat.le_refl _) (Nat.le_refl _) (hrun399 _ ?_)))
      obtain ⟨hT, hI399, hK399, hx399, hm399, hs399⟩ := hA399
      have hl401 : ρ z1 = 50 := (hx399 z1 (by rw [hz1]; decide)).trans hz1
      have fr402 := wfR_rf [51, 70, 71, 72, 73, 74, 75, 76] ρ w
      refine (?_ : R (_, _, (.ref z399) :: [], w, 0 + mc1 + mc399, 0 + ms1 + ms399))
      iterate 2 refine hR (?_ : R (_, _, _, _, _, _))
      obtain ⟨y0_404, x1_404, x2_404, x3_404, hO404, hk404_0, hk404_1, hk404_2, hk404_3, hk404_4, hk404_5, hk404_6, hk404_7, hk404_8, hk404_9⟩ := CI_o70 hT.1 hz399
      refine hR (c_obj hO404 (zcall_i 0 0 (Nat.le_refl _) (Nat.le_refl _) (c_wantNothing _ z399 hT.1 hz399 _ fun w403 hw403 g403 => ?_)))
      have fr405 := wfR_tr fr402 g403 (by decide)
      have hO406 := (g403.2 z399 (by rw [hz399]; decide)).trans hO404
      refine (?_ : R (_, _, [], w403, 0 + mc1 + mc399, 0 + ms1 + ms399))
      have aw407 := AWK_fr hT.1 g403 hT.2.2.1 (by decide)
      have hlx408 := LVp_eq (g403.2 0 (by rw [hT.2.1]; decide)) hlv399
      iterate 4 refine hR (?_ : R (_, _, _, _, _, _))
      obtain ⟨z0_412, z2_412, z3_412, hO412, hk412_0, hk412_1, hk412_2, hk412_3, hk412_4⟩ := CI_o50 hw403 hl401
      refine hR (c_obj hO412 (zcall_i 0 0 (Nat.le_refl _) (Nat.le_refl _) (c_all _ z1 hw403 hl401 _ fun v409 hp411 => ?_)))
      refine (?_ : R (_, _, (.int (Int32.ofInt v409)) :: (.int (Int32.ofInt a2)) :: (.ref z1) :: (.ref z399) :: [], w403, 0 + mc1 + mc399, 0 + ms1 + ms399))
      refine hR (?_ : R (_, _, _, _, _, _))
      refine hR (c_obj hO412 (zcall_i 0 0 (Nat.le_refl _) (Nat.le_refl _) (c_all _ z1 hw403 hl401 _ fun v413 hp415 => ?_)))
      refine (?_ : R (_, _, (.int (Int32.ofInt v413)) :: (.int (Int32.ofInt v409)) :: (.int (Int32.ofInt a2)) :: (.ref z1) :: (.ref z399) :: [], w403, 0 + mc1 + mc399, 0 + ms1 + ms399))
      refine hR (c_obj hO406 (zcall_i 0 0 (Nat.le_refl _) (Nat.le_refl _) (c_spread _ z399 z1 a2 v409 v413 hw403 hz399 hl401 (by omega) (by omega) (by omega) (aw407.2 hT.2.1 _ hlx408) _ fun w416 hw416 g416 hn417 hp418 hp419 => ?_)))
      have fr420 := wfR_tr fr405 g416 (by decide)
      have hO421 := (g416.2 z1 (by rw [hl401]; decide)).trans hO412
      refine (?_ : R (_, _, [], w416, 0 + mc1 + mc399, 0 + ms1 + ms399))
      have aw422 := AWK_lv hw403 g416 aw407 (by decide) hlx408 hp418
      have hlx423 := LVp_eq (g416.2 0 (by rw [hT.2.1]; decide)) hlx408
      refine hR (?_ : R (_, _, _, _, _, _))
      obtain ⟨y0_425, x1_425, x2_425, x3_425, hO425, hk425_0, hk425_1, hk425_2, hk425_3, hk425_4, hk425_5, hk425_6, hk425_7, hk425_8, hk425_9⟩ := CI_o70 hw416 hz399
      refine hR (c_obj hO425 (zcall_i 0 0 (Nat.le_refl _) (Nat.le_refl _) (c_endByDrift _ z399 hw416 hz399 hn417 _ fun w424 hw424 g424 => ?_)))
      have fr426 := wfR_tr fr420 g424 (by decide)
      have hn427 := nn_eq (g424.2 z399 (by rw [hz399]; decide)) hn417
      have hO428 := (g424.2 z1 (by rw [hl401]; decide)).trans hO421
      have hO429 := (g424.2 z399 (by rw [hz399]; decide)).trans hO425
      refine (?_ : R (_, _, [], w424, 0 + mc1 + mc399, 0 + ms1 + ms399))
      have aw430 := AWK_fr hw416 g424 aw422 (by decide)
      have hlx431 := LVp_eq (g424.2 0 (by rw [hT.2.1]; decide)) hlx423
      have sp432 := SPN_eq (g424.2 z399 (by rw [hz399]; decide)) (g424.2 (z399 + 1) (by rw [hk425_4]; decide)) hp419
      refine hR (?_ : R (_, _, _, _, _, _))
      refine hR (k_ne (by omega) (fun hc => by omega) (fun _ => ?_))
      iterate 3 refine hR (?_ : R (_, _, _, _, _, _))
      refine hR (j_ne (by omega) (by omega) (fun hc => by omega) (fun _ => ?_))
      iterate 2 refine hR (?_ : R (_, _, _, _, _, _))
      refine hR (c_obj hO429 (zcall_i 0 0 (Nat.le_refl _) (Nat.le_refl _) (c_bestEnd _ z399 1 hw424 hz399 sp432 (by omega) _ fun v433 hp435 => ?_)))
      refine (?_ : R (_, _, (.int (Int32.ofInt v433)) :: [], w424, 0 + mc1 + mc399, 0 + ms1 + ms399))
      obtain ⟨hTf436, hIf436, hpf436, hKf436⟩ := top_fr2 hT hw424 fr426 (by decide) aw430
      exact hR (zret_i rfl (Nat.le_refl _) trivial ⟨⟨_, hTf436, fun l m h => hIf436 _ _ (hI399 _ _ (hIt399 _ _ (hI1 _ _ (hIt1 _ _ (h))))), (KEEP2_tr hKt1 (KEEP2_tr hK1 (KEEP2_tr hKt399 (KEEP2_tr hK399 hKf436)))), (EXT_tr hx1 hx399), by omega, by omega⟩, _, rfl⟩)
    refine hR (?_ : R (_, _, _, _, _, _))
    refine hR (t_c 10 (by decide) ?_)
    refine hR (?_ : R (_, _, _, _, _, _))
    refine hR (t_add ?_)
    refine hR (j_ge (by omega) (by omega) (fun hc438 => ?_) (fun hc438 => ?_))
    · skip
      iterate 3 refine hR (?_ : R (_, _, _, _, _, _))
      refine hR (k_eq (by omega) (fun hc439 => ?_) (fun hc439 => ?_))
      · skip
        refine hR (?_ : R (_, _, _, _, _, _))
        obtain ⟨y6_441, y7_441, hO441, hk441_0, hk441_1, hk441_2, hk441_3, hk441_4, hk441_5, hk441_6, hk441_7⟩ := CI_o1 hT.1 hT.2.1
        obtain ⟨hTt440, hIt440, hpt440, hKt440⟩ := top_fr2 hT hT.1 fr3 (by decide) hT.2.2.1
        obtain ⟨mc440, ms440, re440, w, ⟨ρ, z440, hA440, hre440, hz440, hlv440⟩, hrun440⟩ := a_levelsThere hTt440 (d + 3)
        subst hre440
        refine hR0 (0 + mc1 + mc440) (0 + ms1 + ms440) (Nat.le_add_right _ _) (Nat.le_add_right _ _) (c_obj hO441 (zcall_i mc440 ms440 (Nat.le_refl _) (Nat.le_refl _) (hrun440 _ ?_)))
        obtain ⟨hT, hI440, hK440, hx440, hm440, hs440⟩ := hA440
        have hl442 : ρ z1 = 50 := (hx440 z1 (by rw [hz1]; decide)).trans hz1
        have fr443 := wfR_rf [51, 70, 71, 72, 73, 74, 75, 76] ρ w
        refine (?_ : R (_, _, (.ref z440) :: [], w, 0 + mc1 + mc440, 0 + ms1 + ms440))
        iterate 2 refine hR (?_ : R (_, _, _, _, _, _))
        obtain ⟨y0_445, x1_445, x2_445, x3_445, hO445, hk445_0, hk445_1, hk445_2, hk445_3, hk445_4, hk445_5, hk445_6, hk445_7, hk445_8, hk445_9⟩ := CI_o70 hT.1 hz440
        refine hR (c_obj hO445 (zcall_i 0 0 (Nat.le_refl _) (Nat.le_refl _) (c_wantNothing _ z440 hT.1 hz440 _ fun w444 hw444 g444 => ?_)))
        have fr446 := wfR_tr fr443 g444 (by decide)
        have hO447 := (g444.2 z440 (by rw [hz440]; decide)).trans hO445
        refine (?_ : R (_, _, [], w444, 0 + mc1 + mc440, 0 + ms1 + ms440))
        have aw448 := AWK_fr hT.1 g444 hT.2.2.1 (by decide)
        have hlx449 := LVp_eq (g444.2 0 (by rw [hT.2.1]; decide)) hlv440
        iterate 4 refine hR (?_ : R (_, _, _, _, _, _))
        obtain ⟨z0_453, z2_453, z3_453, hO453, hk453_0, hk453_1, hk453_2, hk453_3, hk453_4⟩ := CI_o50 hw444 hl442
        refine hR (c_obj hO453 (zcall_i 0 0 (Nat.le_refl _) (Nat.le_refl _) (c_all _ z1 hw444 hl442 _ fun v450 hp452 => ?_)))
        refine (?_ : R (_, _, (.int (Int32.ofInt v450)) :: (.int (Int32.ofInt a2)) :: (.ref z1) :: (.ref z440) :: [], w444, 0 + mc1 + mc440, 0 + ms1 + ms440))
        refine hR (?_ : R (_, _, _, _, _, _))
        refine hR (c_obj hO453 (zcall_i 0 0 (Nat.le_refl _) (Nat.le_refl _) (c_all _ z1 hw444 hl442 _ fun v454 hp456 => ?_)))
        refine (?_ : R (_, _, (.int (Int32.ofInt v454)) :: (.int (Int32.ofInt v450)) :: (.int (Int32.ofInt a2)) :: (.ref z1) :: (.ref z440) :: [], w444, 0 + mc1 + mc440, 0 + ms1 + ms440))
        refine hR (c_obj hO447 (zcall_i 0 0 (Nat.le_refl _) (Nat.le_refl _) (c_spread _ z440 z1 a2 v450 v454 hw444 hz440 hl442 (by omega) (by omega) (by omega) (aw448.2 hT.2.1 _ hlx449) _ fun w457 hw457 g457 hn458 hp459 hp460 => ?_)))
        have fr461 := wfR_tr fr446 g457 (by decide)
        have hO462 := (g457.2 z1 (by rw [hl442]; decide)).trans hO453
        refine (?_ : R (_, _, [], w457, 0 + mc1 + mc440, 0 + ms1 + ms440))
        have aw463 := AWK_lv hw444 g457 aw448 (by decide) hlx449 hp459
        have hlx464 := LVp_eq (g457.2 0 (by rw [hT.2.1]; decide)) hlx449
        refine hR (?_ : R (_, _, _, _, _, _))
        obtain ⟨y0_466, x1_466, x2_466, x3_466, hO466, hk466_0, hk466_1, hk466_2, hk466_3, hk466_4, hk466_5, hk466_6, hk466_7, hk466_8, hk466_9⟩ := CI_o70 hw457 hz440
        refine hR (c_obj hO466 (zcall_i 0 0 (Nat.le_refl _) (Nat.le_refl _) (c_endByDrift _ z440 hw457 hz440 hn458 _ fun w465 hw465 g465 => ?_)))
        have fr467 := wfR_tr fr461 g465 (by decide)
        have hn468 := nn_eq (g465.2 z440 (by rw [hz440]; decide)) hn458
        have hO469 := (g465.2 z1 (by rw [hl442]; decide)).trans hO462
        have hO470 := (g465.2 z440 (by rw [hz440]; decide)).trans hO466
        refine (?_ : R (_, _, [], w465, 0 + mc1 + mc440, 0 + ms1 + ms440))
        have aw471 := AWK_fr hw457 g465 aw463 (by decide)
        have hlx472 := LVp_eq (g465.2 0 (by rw [hT.2.1]; decide)) hlx464
        have sp473 := SPN_eq (g465.2 z440 (by rw [hz440]; decide)) (g465.2 (z440 + 1) (by rw [hk466_4]; decide)) hp460
        refine hR (?_ : R (_, _, _, _, _, _))
        refine hR (k_ne (by omega) (fun hc => by omega) (fun _ => ?_))
        iterate 3 refine hR (?_ : R (_, _, _, _, _, _))
        refine hR (j_ne (by omega) (by omega) (fun hc474 => ?_) (fun hc474 => ?_))
        · skip
          refine hR (?_ : R (_, _, _, _, _, _))
          refine hR (c_obj hO470 (zcall_i 0 0 (Nat.le_refl _) (Nat.le_refl _) (c_bestEnd _ z440 0 hw465 hz440 sp473 (by omega) _ fun v475 hp477 => ?_)))
          refine (?_ : R (_, _, (.int (Int32.ofInt v475)) :: [], w465, 0 + mc1 + mc440, 0 + ms1 + ms440))
          obtain ⟨hTf478, hIf478, hpf478, hKf478⟩ := top_fr2 hT hw465 fr467 (by decide) aw471
          exact hR (zret_i rfl (Nat.le_refl _) trivial ⟨⟨_, hTf478, fun l m h => hIf478 _ _ (hI440 _ _ (hIt440 _ _ (hI1 _ _ (hIt1 _ _ (h))))), (KEEP2_tr hKt1 (KEEP2_tr hK1 (KEEP2_tr hKt440 (KEEP2_tr hK440 hKf478)))), (EXT_tr hx1 hx440), by omega, by omega⟩, _, rfl⟩)
        iterate 2 refine hR (?_ : R (_, _, _, _, _, _))
        refine hR (c_obj hO470 (zcall_i 0 0 (Nat.le_refl _) (Nat.le_refl _) (c_bestEnd _ z440 1 hw465 hz440 sp473 (by omega) _ fun v479 hp481 => ?_)))
        refine (?_ : R (_, _, (.int (Int32.ofInt v479)) :: [], w465, 0 + mc1 + mc440, 0 + ms1 + ms440))
        obtain ⟨hTf482, hIf482, hpf482, hKf482⟩ := top_fr2 hT hw465 fr467 (by decide) aw471
        exact hR (zret_i rfl (Nat.le_refl _) trivial ⟨⟨_, hTf482, fun l m h => hIf482 _ _ (hI440 _ _ (hIt440 _ _ (hI1 _ _ (hIt1 _ _ (h))))), (KEEP2_tr hKt1 (KEEP2_tr hK1 (KEEP2_tr hKt440 (KEEP2_tr hK440 hKf482)))), (EXT_tr hx1 hx440), by omega, by omega⟩, _, rfl⟩)
      iterate 2 refine hR (?_ : R (_, _, _, _, _, _))
      refine hR (j_eq (by omega) (by omega) (fun hc483 => ?_) (fun hc483 => ?_))
      rotate_left
      · skip
        refine hR (?_ : R (_, _, _, _, _, _))
        refine hR (k_ne (by omega) (fun hc => by omega) (fun _ => ?_))
        refine hR (?_ : R (_, _, _, _, _, _))
        obtain ⟨hTf522, hIf522, hpf522, hKf522⟩ := top_fr2 hT hT.1 fr3 (by decide) hT.2.2.1
        exact hR (zret_i rfl (Nat.le_refl _) trivial ⟨⟨_, hTf522, fun l m h => hIf522 _ _ (hI1 _ _ (hIt1 _ _ (h))), (KEEP2_tr hKt1 (KEEP2_tr hK1 hKf522)), hx1, by omega, by omega⟩, _, rfl⟩)
      refine hR (?_ : R (_, _, _, _, _, _))
      obtain ⟨y6_485, y7_485, hO485, hk485_0, hk485_1, hk485_2, hk485_3, hk485_4, hk485_5, hk485_6, hk485_7⟩ := CI_o1 hT.1 hT.2.1
      obtain ⟨hTt484, hIt484, hpt484, hKt484⟩ := top_fr2 hT hT.1 fr3 (by decide) hT.2.2.1
      obtain ⟨mc484, ms484, re484, w, ⟨ρ, z484, hA484, hre484, hz484, hlv484⟩, hrun484⟩ := a_levelsThere hTt484 (d + 3)
      subst hre484
      refine hR0 (0 + mc1 + mc484) (0 + ms1 + ms484) (Nat.le_add_right _ _) (Nat.le_add_right _ _) (c_obj hO485 (zcall_i mc484 ms484 (Nat.le_refl _) (Nat.le_refl _) (hrun484 _ ?_)))
      obtain ⟨hT, hI484, hK484, hx484, hm484, hs484⟩ := hA484
      have hl486 : ρ z1 = 50 := (hx484 z1 (by rw [hz1]; decide)).trans hz1
      have fr487 := wfR_rf [51, 70, 71, 72, 73, 74, 75, 76] ρ w
      refine (?_ : R (_, _, (.ref z484) :: [], w, 0 + mc1 + mc484, 0 + ms1 + ms484))
      iterate 2 refine hR (?_ : R (_, _, _, _, _, _))
      obtain ⟨y0_489, x1_489, x2_489, x3_489, hO489, hk489_0, hk489_1, hk489_2, hk489_3, hk489_4, hk489_5, hk489_6, hk489_7, hk489_8, hk489_9⟩ := CI_o70 hT.1 hz484
      refine hR (c_obj hO489 (zcall_i 0 0 (Nat.le_refl _) (Nat.le_refl _) (c_wantNothing _ z484 hT.1 hz484 _ fun w488 hw488 g488 => ?_)))
      have fr490 := wfR_tr fr487 g488 (by decide)
      have hO491 := (g488.2 z484 (by rw [hz484]; decide)).trans hO489
      refine (?_ : R (_, _, [], w488, 0 + mc1 + mc484, 0 + ms1 + ms484))
      have aw492 := AWK_fr hT.1 g488 hT.2.2.1 (by decide)
      have hlx493 := LVp_eq (g488.2 0 (by rw [hT.2.1]; decide)) hlv484
      iterate 4 refine hR (?_ : R (_, _, _, _, _, _))
      obtain ⟨z0_497, z2_497, z3_497, hO497, hk497_0, hk497_1, hk497_2, hk497_3, hk497_4⟩ := CI_o50 hw488 hl486
      refine hR (c_obj hO497 (zcall_i 0 0 (Nat.le_refl _) (Nat.le_refl _) (c_all _ z1 hw488 hl486 _ fun v494 hp496 => ?_)))
      refine (?_ : R (_, _, (.int (Int32.ofInt v494)) :: (.int (Int32.ofInt a2)) :: (.ref z1) :: (.ref z484) :: [], w488, 0 + mc1 + mc484, 0 + ms1 + ms484))
      refine hR (?_ : R (_, _, _, _, _, _))
      refine hR (c_obj hO497 (zcall_i 0 0 (Nat.le_refl _) (Nat.le_refl _) (c_all _ z1 hw488 hl486 _ fun v498 hp500 => ?_)))
      refine (?_ : R (_, _, (.int (Int32.ofInt v498)) :: (.int (Int32.ofInt v494)) :: (.int (Int32.ofInt a2)) :: (.ref z1) :: (.ref z484) :: [], w488, 0 + mc1 + mc484, 0 + ms1 + ms484))
      refine hR (c_obj hO491 (zcall_i 0 0 (Nat.le_refl _) (Nat.le_refl _) (c_spread _ z484 z1 a2 v494 v498 hw488 hz484 hl486 (by omega) (by omega) (by omega) (aw492.2 hT.2.1 _ hlx493) _ fun w501 hw501 g501 hn502 hp503 hp504 => ?_)))
      have fr505 := wfR_tr fr490 g501 (by decide)
      have hO506 := (g501.2 z1 (by rw [hl486]; decide)).trans hO497
      refine (?_ : R (_, _, [], w501, 0 + mc1 + mc484, 0 + ms1 + ms484))
      have aw507 := AWK_lv hw488 g501 aw492 (by decide) hlx493 hp503
      have hlx508 := LVp_eq (g501.2 0 (by rw [hT.2.1]; decide)) hlx493
      refine hR (?_ : R (_, _, _, _, _, _))
      obtain ⟨y0_510, x1_510, x2_510, x3_510, hO510, hk510_0, hk510_1, hk510_2, hk510_3, hk510_4, hk510_5, hk510_6, hk510_7, hk510_8, hk510_9⟩ := CI_o70 hw501 hz484
      refine hR (c_obj hO510 (zcall_i 0 0 (Nat.le_refl _) (Nat.le_refl _) (c_endByDrift _ z484 hw501 hz484 hn502 _ fun w509 hw509 g509 => ?_)))
      have fr511 := wfR_tr fr505 g509 (by decide)
      have hn512 := nn_eq (g509.2 z484 (by rw [hz484]; decide)) hn502
      have hO513 := (g509.2 z1 (by rw [hl486]; decide)).trans hO506
      have hO514 := (g509.2 z484 (by rw [hz484]; decide)).trans hO510
      refine (?_ : R (_, _, [], w509, 0 + mc1 + mc484, 0 + ms1 + ms484))
      have aw515 := AWK_fr hw501 g509 aw507 (by decide)
      have hlx516 := LVp_eq (g509.2 0 (by rw [hT.2.1]; decide)) hlx508
      have sp517 := SPN_eq (g509.2 z484 (by rw [hz484]; decide)) (g509.2 (z484 + 1) (by rw [hk510_4]; decide)) hp504
      refine hR (?_ : R (_, _, _, _, _, _))
      refine hR (k_ne (by omega) (fun hc => by omega) (fun _ => ?_))
      iterate 3 refine hR (?_ : R (_, _, _, _, _, _))
      refine hR (j_ne (by omega) (by omega) (fun hc => by omega) (fun _ => ?_))
      iterate 2 refine hR (?_ : R (_, _, _, _, _, _))
      refine hR (c_obj hO514 (zcall_i 0 0 (Nat.le_refl _) (Nat.le_refl _) (c_bestEnd _ z484 1 hw509 hz484 sp517 (by omega) _ fun v518 hp520 => ?_)))
      refine (?_ : R (_, _, (.int (Int32.ofInt v518)) :: [], w509, 0 + mc1 + mc484, 0 + ms1 + ms484))
      obtain ⟨hTf521, hIf521, hpf521, hKf521⟩ := top_fr2 hT hw509 fr511 (by decide) aw515
      exact hR (zret_i rfl (Nat.le_refl _) trivial ⟨⟨_, hTf521, fun l m h => hIf521 _ _ (hI484 _ _ (hIt484 _ _ (hI1 _ _ (hIt1 _ _ (h))))), (KEEP2_tr hKt1 (KEEP2_tr hK1 (KEEP2_tr hKt484 (KEEP2_tr hK484 hKf521)))), (EXT_tr hx1 hx484), by omega, by omega⟩, _, rfl⟩)
    iterate 4 refine hR (?_ : R (_, _, _, _, _, _))
    refine hR (k_eq (by omega) (fun hc523 => ?_) (fun hc523 => ?_))
    · skip
      refine hR (?_ : R (_, _, _, _, _, _))
      obtain ⟨y6_525, y7_525, hO525, hk525_0, hk525_1, hk525_2, hk525_3, hk525_4, hk525_5, hk525_6, hk525_7⟩ := CI_o1 hT.1 hT.2.1
      obtain ⟨hTt524, hIt524, hpt524, hKt524⟩ := top_fr2 hT hT.1 fr3 (by decide) hT.2.2.1
      obtain ⟨mc524, ms524, re524, w, ⟨ρ, z524, hA524, hre524, hz524, hlv524⟩, hrun524⟩ := a_levelsThere hTt524 (d + 3)
      subst hre524
      refine hR0 (0 + mc1 + mc524) (0 + ms1 + ms524) (Nat.le_add_right _ _) (Nat.le_add_right _ _) (c_obj hO525 (zcall_i mc524 ms524 (Nat.le_refl _) (Nat.le_refl _) (hrun524 _ ?_)))
      obtain ⟨hT, hI524, hK524, hx524, hm524, hs524⟩ := hA524
      have hl526 : ρ z1 = 50 := (hx524 z1 (by rw [hz1]; decide)).trans hz1
      have fr527 := wfR_rf [51, 70, 71, 72, 73, 74, 75, 76] ρ w
      refine (?_ : R (_, _, (.ref z524) :: [], w, 0 + mc1 + mc524, 0 + ms1 + ms524))
      iterate 2 refine hR (?_ : R (_, _, _, _, _, _))
      obtain ⟨y0_529, x1_529, x2_529, x3_529, hO529, hk529_0, hk529_1, hk529_2, hk529_3, hk529_4, hk529_5, hk529_6, hk529_7, hk529_8, hk529_9⟩ := CI_o70 hT.1 hz524
      refine hR (c_obj hO529 (zcall_i 0 0 (Nat.le_refl _) (Nat.le_refl _) (c_wantNothing _ z524 hT.1 hz524 _ fun w528 hw528 g528 => ?_)))
      have fr530 := wfR_tr fr527 g528 (by decide)
      have hO531 := (g528.2 z524 (by rw [hz524]; decide)).trans hO529
      refine (?_ : R (_, _, [], w528, 0 + mc1 + mc524, 0 + ms1 + ms524))
      have aw532 := AWK_fr hT.1 g528 hT.2.2.1 (by decide)
      have hlx533 := LVp_eq (g528.2 0 (by rw [hT.2.1]; decide)) hlv524
      iterate 4 refine hR (?_ : R (_, _, _, _, _, _))
      obtain ⟨z0_537, z2_537, z3_537, hO537, hk537_0, hk537_1, hk537_2, hk537_3, hk537_4⟩ := CI_o50 hw528 hl526
      refine hR (c_obj hO537 (zcall_i 0 0 (Nat.le_refl _) (Nat.le_refl _) (c_all _ z1 hw528 hl526 _ fun v534 hp536 => ?_)))
      refine (?_ : R (_, _, (.int (Int32.ofInt v534)) :: (.int (Int32.ofInt a2)) :: (.ref z1) :: (.ref z524) :: [], w528, 0 + mc1 + mc524, 0 + ms1 + ms524))
      refine hR (?_ : R (_, _, _, _, _, _))
      refine hR (c_obj hO537 (zcall_i 0 0 (Nat.le_refl _) (Nat.le_refl _) (c_all _ z1 hw528 hl526 _ fun v538 hp540 => ?_)))
      refine (?_ : R (_, _, (.int (Int32.ofInt v538)) :: (.int (Int32.ofInt v534)) :: (.int (Int32.ofInt a2)) :: (.ref z1) :: (.ref z524) :: [], w528, 0 + mc1 + mc524, 0 + ms1 + ms524))
      refine hR (c_obj hO531 (zcall_i 0 0 (Nat.le_refl _) (Nat.le_refl _) (c_spread _ z524 z1 a2 v534 v538 hw528 hz524 hl526 (by omega) (by omega) (by omega) (aw532.2 hT.2.1 _ hlx533) _ fun w541 hw541 g541 hn542 hp543 hp544 => ?_)))
      have fr545 := wfR_tr fr530 g541 (by decide)
      have hO546 := (g541.2 z1 (by rw [hl526]; decide)).trans hO537
      refine (?_ : R (_, _, [], w541, 0 + mc1 + mc524, 0 + ms1 + ms524))
      have aw547 := AWK_lv hw528 g541 aw532 (by decide) hlx533 hp543
      have hlx548 := LVp_eq (g541.2 0 (by rw [hT.2.1]; decide)) hlx533
      refine hR (?_ : R (_, _, _, _, _, _))
      obtain ⟨y0_550, x1_550, x2_550, x3_550, hO550, hk550_0, hk550_1, hk550_2, hk550_3, hk550_4, hk550_5, hk550_6, hk550_7, hk550_8, hk550_9⟩ := CI_o70 hw541 hz524
      refine hR (c_obj hO550 (zcall_i 0 0 (Nat.le_refl _) (Nat.le_refl _) (c_endByDrift _ z524 hw541 hz524 hn542 _ fun w549 hw549 g549 => ?_)))
      have fr551 := wfR_tr fr545 g549 (by decide)
      have hn552 := nn_eq (g549.2 z524 (by rw [hz524]; decide)) hn542
      have hO553 := (g549.2 z1 (by rw [hl526]; decide)).trans hO546
      have hO554 := (g549.2 z524 (by rw [hz524]; decide)).trans hO550
      refine (?_ : R (_, _, [], w549, 0 + mc1 + mc524, 0 + ms1 + ms524))
      have aw555 := AWK_fr hw541 g549 aw547 (by decide)
      have hlx556 := LVp_eq (g549.2 0 (by rw [hT.2.1]; decide)) hlx548
      have sp557 := SPN_eq (g549.2 z524 (by rw [hz524]; decide)) (g549.2 (z524 + 1) (by rw [hk550_4]; decide)) hp544
      refine hR (?_ : R (_, _, _, _, _, _))
      refine hR (k_ne (by omega) (fun _ => ?_) (fun hc => by omega))
      iterate 3 refine hR (?_ : R (_, _, _, _, _, _))
      refine hR (c_obj hO554 (zcall_i 0 0 (Nat.le_refl _) (Nat.le_refl _) (c_foldBack _ z524 0 0 hw549 hz524 hn552 (by omega) (by omega) (aw555.2 hT.2.1 _ hlx556) _ fun w558 hw558 g558 hp559 => ?_)))
      have fr560 := wfR_tr fr551 g558 (by decide)
      have hn561 := nn_eq (g558.2 z524 (by rw [hz524]; decide)) hn552
      have hO562 := (g558.2 z1 (by rw [hl526]; decide)).trans hO553
      have hO563 := (g558.2 z524 (by rw [hz524]; decide)).trans hO554
      refine (?_ : R (_, _, [], w558, 0 + mc1 + mc524, 0 + ms1 + ms524))
      have aw564 := AWK_lv hw549 g558 aw555 (by decide) hlx556 hp559
      have hlx565 := LVp_eq (g558.2 0 (by rw [hT.2.1]; decide)) hlx556
      have sp566 := SPN_eq (g558.2 z524 (by rw [hz524]; decide)) (g558.2 (z524 + 1) (by rw [hk550_4]; decide)) sp557
      iterate 2 refine hR (?_ : R (_, _, _, _, _, _))
      refine hR (t_c 10 (by decide) ?_)
      refine hR (t_sub ?_)
      refine hR (c_obj hO563 (zcall_i 0 0 (Nat.le_refl _) (Nat.le_refl _) (c_chosenAt _ z524 (a3 - 10) hw558 hz524 hn561 (by omega) (aw564.2 hT.2.1 _ hlx565) _ fun v567 w568 hw568 g568 hp569 hp570 => ?_)))
      have fr571 := wfR_tr fr560 g568 (by decide)
      have hn572 := nn_eq (g568.2 z524 (by rw [hz524]; decide)) hn561
      have hO573 := (g568.2 z1 (by rw [hl526]; decide)).trans hO562
      have hO574 := (g568.2 z524 (by rw [hz524]; decide)).trans hO563
      refine (?_ : R (_, _, (.int (Int32.ofInt v567)) :: [], w568, 0 + mc1 + mc524, 0 + ms1 + ms524))
      have aw575 := AWK_lv hw558 g568 aw564 (by decide) hlx565 hp569
      have hlx576 := LVp_eq (g568.2 0 (by rw [hT.2.1]; decide)) hlx565
      have sp577 := SPN_eq (g568.2 z524 (by rw [hz524]; decide)) (g568.2 (z524 + 1) (by rw [hk550_4]; decide)) sp566
      obtain ⟨hTf578, hIf578, hpf578, hKf578⟩ := top_fr2 hT hw568 fr571 (by decide) aw575
      exact hR (zret_i rfl (Nat.le_refl _) trivial ⟨⟨_, hTf578, fun l m h => hIf578 _ _ (hI524 _ _ (hIt524 _ _ (hI1 _ _ (hIt1 _ _ (h))))), (KEEP2_tr hKt1 (KEEP2_tr hK1 (KEEP2_tr hKt524 (KEEP2_tr hK524 hKf578)))), (EXT_tr hx1 hx524), by omega, by omega⟩, _, rfl⟩)
    iterate 2 refine hR (?_ : R (_, _, _, _, _, _))
    refine hR (j_eq (by omega) (by omega) (fun hc579 => ?_) (fun hc579 => ?_))
    · skip
      refine hR (?_ : R (_, _, _, _, _, _))
      obtain ⟨y6_581, y7_581, hO581, hk581_0, hk581_1, hk581_2, hk581_3, hk581_4, hk581_5, hk581_6, hk581_7⟩ := CI_o1 hT.1 hT.2.1
      obtain ⟨hTt580, hIt580, hpt580, hKt580⟩ := top_fr2 hT hT.1 fr3 (by decide) hT.2.2.1
      obtain ⟨mc580, ms580, re580, w, ⟨ρ, z580, hA580, hre580, hz580, hlv580⟩, hrun580⟩ := a_levelsThere hTt580 (d + 3)
      subst hre580
      refine hR0 (0 + mc1 + mc580) (0 + ms1 + ms580) (Nat.le_add_right _ _) (Nat.le_add_right _ _) (c_obj hO581 (zcall_i mc580 ms580 (Nat.le_refl _) (Nat.le_refl _) (hrun580 _ ?_)))
      obtain ⟨hT, hI580, hK580, hx580, hm580, hs580⟩ := hA580
      have hl582 : ρ z1 = 50 := (hx580 z1 (by rw [hz1]; decide)).trans hz1
      have fr583 := wfR_rf [51, 70, 71, 72, 73, 74, 75, 76] ρ w
      refine (?_ : R (_, _, (.ref z580) :: [], w, 0 + mc1 + mc580, 0 + ms1 + ms580))
      iterate 2 refine hR (?_ : R (_, _, _, _, _, _))
      obtain ⟨y0_585, x1_585, x2_585, x3_585, hO585, hk585_0, hk585_1, hk585_2, hk585_3, hk585_4, hk585_5, hk585_6, hk585_7, hk585_8, hk585_9⟩ := CI_o70 hT.1 hz580
      refine hR (c_obj hO585 (zcall_i 0 0 (Nat.le_refl _) (Nat.le_refl _) (c_wantNothing _ z580 hT.1 hz580 _ fun w584 hw584 g584 => ?_)))
      have fr586 := wfR_tr fr583 g584 (by decide)
      have hO587 := (g584.2 z580 (by rw [hz580]; decide)).trans hO585
      refine (?_ : R (_, _, [], w584, 0 + mc1 + mc580, 0 + ms1 + ms580))
      have aw588 := AWK_fr hT.1 g584 hT.2.2.1 (by decide)
      have hlx589 := LVp_eq (g584.2 0 (by rw [hT.2.1]; decide)) hlv580
      iterate 4 refine hR (?_ : R (_, _, _, _, _, _))
      obtain ⟨z0_593, z2_593, z3_593, hO593, hk593_0, hk593_1, hk593_2, hk593_3, hk593_4⟩ := CI_o50 hw584 hl582
      refine hR (c_obj hO593 (zcall_i 0 0 (Nat.le_refl _) (Nat.le_refl _) (c_all _ z1 hw584 hl582 _ fun v590 hp592 => ?_)))
      refine (?_ : R (_, _, (.int (Int32.ofInt v590)) :: (.int (Int32.ofInt a2)) :: (.ref z1) :: (.ref z580) :: [], w584, 0 + mc1 + mc580, 0 + ms1 + ms580))
      refine hR (?_ : R (_, _, _, _, _, _))
      refine hR (c_obj hO593 (zcall_i 0 0 (Nat.le_refl _) (Nat.le_refl _) (c_all _ z1 hw584 hl582 _ fun v594 hp596 => ?_)))
      refine (?_ : R (_, _, (.int (Int32.ofInt v594)) :: (.int (Int32.ofInt v590)) :: (.int (Int32.ofInt a2)) :: (.ref z1) :: (.ref z580) :: [], w584, 0 + mc1 + mc580, 0 + ms1 + ms580))
      refine hR (c_obj hO587 (zcall_i 0 0 (Nat.le_refl _) (Nat.le_refl _) (c_spread _ z580 z1 a2 v590 v594 hw584 hz580 hl582 (by omega) (by omega) (by omega) (aw588.2 hT.2.1 _ hlx589) _ fun w597 hw597 g597 hn598 hp599 hp600 => ?_)))
      have fr601 := wfR_tr fr586 g597 (by decide)
      have hO602 := (g597.2 z1 (by rw [hl582]; decide)).trans hO593
      refine (?_ : R (_, _, [], w597, 0 + mc1 + mc580, 0 + ms1 + ms580))
      have aw603 := AWK_lv hw584 g597 aw588 (by decide) hlx589 hp599
      have hlx604 := LVp_eq (g597.2 0 (by rw [hT.2.1]; decide)) hlx589
      refine hR (?_ : R (_, _, _, _, _, _))
      obtain ⟨y0_606, x1_606, x2_606, x3_606, hO606, hk606_0, hk606_1, hk606_2, hk606_3, hk606_4, hk606_5, hk606_6, hk606_7, hk606_8, hk606_9⟩ := CI_o70 hw597 hz580
      refine hR (c_obj hO606 (zcall_i 0 0 (Nat.le_refl _) (Nat.le_refl _) (c_endByDrift _ z580 hw597 hz580 hn598 _ fun w605 hw605 g605 => ?_)))
      have fr607 := wfR_tr fr601 g605 (by decide)
      have hn608 := nn_eq (g605.2 z580 (by rw [hz580]; decide)) hn598
      have hO609 := (g605.2 z1 (by rw [hl582]; decide)).trans hO602
      have hO610 := (g605.2 z580 (by rw [hz580]; decide)).trans hO606
      refine (?_ : R (_, _, [], w605, 0 + mc1 + mc580, 0 + ms1 + ms580))
      have aw611 := AWK_fr hw597 g605 aw603 (by decide)
      have hlx612 := LVp_eq (g605.2 0 (by rw [hT.2.1]; decide)) hlx604
      have sp613 := SPN_eq (g605.2 z580 (by rw [hz580]; decide)) (g605.2 (z580 + 1) (by rw [hk606_4]; decide)) hp600
      refine hR (?_ : R (_, _, _, _, _, _))
      refine hR (k_ne (by omega) (fun _ => ?_) (fun hc => by omega))
      iterate 3 refine hR (?_ : R (_, _, _, _, _, _))
      refine hR (c_obj hO610 (zcall_i 0 0 (Nat.le_refl _) (Nat.le_refl _) (c_foldBack _ z580 0 0 hw605 hz580 hn608 (by omega) (by omega) (aw611.2 hT.2.1 _ hlx612) _ fun w614 hw614 g614 hp615 => ?_)))
      have fr616 := wfR_tr fr607 g614 (by decide)
      have hn617 := nn_eq (g614.2 z580 (by rw [hz580]; decide)) hn608
      have hO618 := (g614.2 z1 (by rw [hl582]; decide)).trans hO609
      have hO619 := (g614.2 z580 (by rw [hz580]; decide)).trans hO610
      refine (?_ : R (_, _, [], w614, 0 + mc1 + mc580, 0 + ms1 + ms580))
      have aw620 := AWK_lv hw605 g614 aw611 (by decide) hlx612 hp615
      have hlx621 := LVp_eq (g614.2 0 (by rw [hT.2.1]; decide)) hlx612
      have sp622 := SPN_eq (g614.2 z580 (by rw [hz580]; decide)) (g614.2 (z580 + 1) (by rw [hk606_4]; decide)) sp613
      iterate 2 refine hR (?_ : R (_, _, _, _, _, _))
      refine hR (t_c 10 (by decide) ?_)
      refine hR (t_sub ?_)
      refine hR (c_obj hO619 (zcall_i 0 0 (Nat.le_refl _) (Nat.le_refl _) (c_chosenAt _ z580 (a3 - 10) hw614 hz580 hn617 (by omega) (aw620.2 hT.2.1 _ hlx621) _ fun v623 w624 hw624 g624 hp625 hp626 => ?_)))
      have fr627 := wfR_tr fr616 g624 (by decide)
      have hn628 := nn_eq (g624.2 z580 (by rw [hz580]; decide)) hn617
      have hO629 := (g624.2 z1 (by rw [hl582]; decide)).trans hO618
      have hO630 := (g624.2 z580 (by rw [hz580]; decide)).trans hO619
      refine (?_ : R (_, _, (.int (Int32.ofInt v623)) :: [], w624, 0 + mc1 + mc580, 0 + ms1 + ms580))
      have aw631 := AWK_lv hw614 g624 aw620 (by decide) hlx621 hp625
      have hlx632 := LVp_eq (g624.2 0 (by rw [hT.2.1]; decide)) hlx621
      have sp633 := SPN_eq (g624.2 z580 (by rw [hz580]; decide)) (g624.2 (z580 + 1) (by rw [hk606_4]; decide)) sp622
      obtain ⟨hTf634, hIf634, hpf634, hKf634⟩ := top_fr2 hT hw624 fr627 (by decide) aw631
      exact hR (zret_i rfl (Nat.le_refl _) trivial ⟨⟨_, hTf634, fun l m h => hIf634 _ _ (hI580 _ _ (hIt580 _ _ (hI1 _ _ (hIt1 _ _ (h))))), (KEEP2_tr hKt1 (KEEP2_tr hK1 (KEEP2_tr hKt580 (KEEP2_tr hK580 hKf634)))), (EXT_tr hx1 hx580), by omega, by omega⟩, _, rfl⟩)
    refine hR (?_ : R (_, _, _, _, _, _))
    refine hR (k_ne (by omega) (fun _ => ?_) (fun hc => by omega))
    refine hR (?_ : R (_, _, _, _, _, _))
    obtain ⟨y6_636, y7_636, hO636, hk636_0, hk636_1, hk636_2, hk636_3, hk636_4, hk636_5, hk636_6, hk636_7⟩ := CI_o1 hT.1 hT.2.1
    obtain ⟨hTt635, hIt635, hpt635, hKt635⟩ := top_fr2 hT hT.1 fr3 (by decide) hT.2.2.1
    obtain ⟨mc635, ms635, re635, w, ⟨ρ, z635, hA635, hre635, hz635, hlv635⟩, hrun635⟩ := a_levelsThere hTt635 (d + 3)
    subst hre635
    refine hR0 (0 + mc1 + mc635) (0 + ms1 + ms635) (Nat.le_add_right _ _) (Nat.le_add_right _ _) (c_obj hO636 (zcall_i mc635 ms635 (Nat.le_refl _) (Nat.le_refl _) (hrun635 _ ?_)))
    obtain ⟨hT, hI635, hK635, hx635, hm635, hs635⟩ := hA635
    have hl637 : ρ z1 = 50 := (hx635 z1 (by rw [hz1]; decide)).trans hz1
    have fr638 := wfR_rf [51, 70, 71, 72, 73, 74, 75, 76] ρ w
    refine (?_ : R (_, _, (.ref z635) :: [], w, 0 + mc1 + mc635, 0 + ms1 + ms635))
    iterate 2 refine hR (?_ : R (_, _, _, _, _, _))
    obtain ⟨y0_640, x1_640, x2_640, x3_640, hO640, hk640_0, hk640_1, hk640_2, hk640_3, hk640_4, hk640_5, hk640_6, hk640_7, hk640_8, hk640_9⟩ := CI_o70 hT.1 hz635
    refine hR (c_obj hO640 (zcall_i 0 0 (Nat.le_refl _) (Nat.le_refl _) (c_wantNothing _ z635 hT.1 hz635 _ fun w639 hw639 g639 => ?_)))
    have fr641 := wfR_tr fr638 g639 (by decide)
    have hO642 := (g639.2 z635 (by rw [hz635]; decide)).trans hO640
    refine (?_ : R (_, _, [], w639, 0 + mc1 + mc635, 0 + ms1 + ms635))
    have aw643 := AWK_fr hT.1 g639 hT.2.2.1 (by decide)
    have hlx644 := LVp_eq (g639.2 0 (by rw [hT.2.1]; decide)) hlv635
    iterate 4 refine hR (?_ : R (_, _, _, _, _, _))
    obtain ⟨z0_648, z2_648, z3_648, hO648, hk648_0, hk648_1, hk648_2, hk648_3, hk648_4⟩ := CI_o50 hw639 hl637
    refine hR (c_obj hO648 (zcall_i 0 0 (Nat.le_refl _) (Nat.le_refl _) (c_all _ z1 hw639 hl637 _ fun v645 hp647 => ?_)))
    refine (?_ : R (_, _, (.int (Int32.ofInt v645)) :: (.int (Int32.ofInt a2)) :: (.ref z1) :: (.ref z635) :: [], w639, 0 + mc1 + mc635, 0 + ms1 + ms635))
    refine hR (?_ : R (_, _, _, _, _, _))
    refine hR (c_obj hO648 (zcall_i 0 0 (Nat.le_refl _) (Nat.le_refl _) (c_all _ z1 hw639 hl637 _ fun v649 hp651 => ?_)))
    refine (?_ : R (_, _, (.int (Int32.ofInt v649)) :: (.int (Int32.ofInt v645)) :: (.int (Int32.ofInt a2)) :: (.ref z1) :: (.ref z635) :: [], w639, 0 + mc1 + mc635, 0 + ms1 + ms635))
    refine hR (c_obj hO642 (zcall_i 0 0 (Nat.le_refl _) (Nat.le_refl _) (c_spread _ z635 z1 a2 v645 v649 hw639 hz635 hl637 (by omega) (by omega) (by omega) (aw643.2 hT.2.1 _ hlx644) _ fun w652 hw652 g652 hn653 hp654 hp655 => ?_)))
    have fr656 := wfR_tr fr641 g652 (by decide)
    have hO657 := (g652.2 z1 (by rw [hl637]; decide)).trans hO648
    refine (?_ : R (_, _, [], w652, 0 + mc1 + mc635, 0 + ms1 + ms635))
    have aw658 := AWK_lv hw639 g652 aw643 (by decide) hlx644 hp654
    have hlx659 := LVp_eq (g652.2 0 (by rw [hT.2.1]; decide)) hlx644
    refine hR (?_ : R (_, _, _, _, _, _))
    obtain ⟨y0_661, x1_661, x2_661, x3_661, hO661, hk661_0, hk661_1, hk661_2, hk661_3, hk661_4, hk661_5, hk661_6, hk661_7, hk661_8, hk661_9⟩ := CI_o70 hw652 hz635
    refine hR (c_obj hO661 (zcall_i 0 0 (Nat.le_refl _) (Nat.le_refl _) (c_endByDrift _ z635 hw652 hz635 hn653 _ fun w660 hw660 g660 => ?_)))
    have fr662 := wfR_tr fr656 g660 (by decide)
    have hn663 := nn_eq (g660.2 z635 (by rw [hz635]; decide)) hn653
    have hO664 := (g660.2 z1 (by rw [hl637]; decide)).trans hO657
    have hO665 := (g660.2 z635 (by rw [hz635]; decide)).trans hO661
    refine (?_ : R (_, _, [], w660, 0 + mc1 + mc635, 0 + ms1 + ms635))
    have aw666 := AWK_fr hw652 g660 aw658 (by decide)
    have hlx667 := LVp_eq (g660.2 0 (by rw [hT.2.1]; decide)) hlx659
    have sp668 := SPN_eq (g660.2 z635 (by rw [hz635]; decide)) (g660.2 (z635 + 1) (by rw [hk661_4]; decide)) hp655
    refine hR (?_ : R (_, _, _, _, _, _))
    refine hR (k_ne (by omega) (fun _ => ?_) (fun hc => by omega))
    iterate 3 refine hR (?_ : R (_, _, _, _, _, _))
    refine hR (c_obj hO665 (zcall_i 0 0 (Nat.le_refl _) (Nat.le_refl _) (c_foldBack _ z635 0 0 hw660 hz635 hn663 (by omega) (by omega) (aw666.2 hT.2.1 _ hlx667) _ fun w669 hw669 g669 hp670 => ?_)))
    have fr671 := wfR_tr fr662 g669 (by decide)
    have hn672 := nn_eq (g669.2 z635 (by rw [hz635]; decide)) hn663
    have hO673 := (g669.2 z1 (by rw [hl637]; decide)).trans hO664
    have hO674 := (g669.2 z635 (by rw [hz635]; decide)).trans hO665
    refine (?_ : R (_, _, [], w669, 0 + mc1 + mc635, 0 + ms1 + ms635))
    have aw675 := AWK_lv hw660 g669 aw666 (by decide) hlx667 hp670
    have hlx676 := LVp_eq (g669.2 0 (by rw [hT.2.1]; decide)) hlx667
    have sp677 := SPN_eq (g669.2 z635 (by rw [hz635]; decide)) (g669.2 (z635 + 1) (by rw [hk661_4]; decide)) sp668
    iterate 2 refine hR (?_ : R (_, _, _, _, _, _))
    refine hR (t_c 10 (by decide) ?_)
    refine hR (t_sub ?_)
    refine hR (c_obj hO674 (zcall_i 0 0 (Nat.le_refl _) (Nat.le_refl _) (c_chosenAt _ z635 (a3 - 10) hw669 hz635 hn672 (by omega) (aw675.2 hT.2.1 _ hlx676) _ fun v678 w679 hw679 g679 hp680 hp681 => ?_)))
    have fr682 := wfR_tr fr671 g679 (by decide)
    have hn683 := nn_eq (g679.2 z635 (by rw [hz635]; decide)) hn672
    have hO684 := (g679.2 z1 (by rw [hl637]; decide)).trans hO673
    have hO685 := (g679.2 z635 (by rw [hz635]; decide)).trans hO674
    refine (?_ : R (_, _, (.int (Int32.ofInt v678)) :: [], w679, 0 + mc1 + mc635, 0 + ms1 + ms635))
    have aw686 := AWK_lv hw669 g679 aw675 (by decide) hlx676 hp680
    have hlx687 := LVp_eq (g679.2 0 (by rw [hT.2.1]; decide)) hlx676
    have sp688 := SPN_eq (g679.2 z635 (by rw [hz635]; decide)) (g679.2 (z635 + 1) (by rw [hk661_4]; decide)) sp677
    obtain ⟨hTf689, hIf689, hpf689, hKf689⟩ := top_fr2 hT hw679 fr682 (by decide) aw686
    exact hR (zret_i rfl (Nat.le_refl _) trivial ⟨⟨_, hTf689, fun l m h => hIf689 _ _ (hI635 _ _ (hIt635 _ _ (hI1 _ _ (hIt1 _ _ (h))))), (KEEP2_tr hKt1 (KEEP2_tr hK1 (KEEP2_tr hKt635 (KEEP2_tr hK635 hKf689)))), (EXT_tr hx1 hx635), by omega, by omega⟩, _, rfl⟩)
theorem k_mean {ρ : Nat → Nat} {w : zW} (hT : TOP ρ w) (d : Nat) (a1 a2 a3 : Int) (hr0 : -2147483648 ≤ a1 ∧ a1 ≤ 2147483647) (hr1 : -2147483648 ≤ a2 ∧ a2 ≤ 2147483647) (hr2 : -2147483648 ≤ a3 ∧ a3 ≤ 2147483647) : DET zTab (d + 7) iX11_mean [.ref 0, .int (Int32.ofInt a1), .int (Int32.ofInt a2), .int (Int32.ofInt a3)] w (PBl ρ w) := by
  refine z_rel (M := kX11_mean) _ rfl (Nat.le_of_ble_eq_true rfl) fun R hR0 => ?_
  have hR : ∀ {pc : Nat} {L : zL} {S : List Value} {w1 : zW} {k n : Nat}, zsc (zCl zTab (d + 6)) (d + 6) kX11_mean none zTab k n (PBl ρ w k n) pc L S w1 k n R → R (pc, L, S, w1, k, n) := fun h => hR0 _ _ (Nat.le_refl _) (Nat.le_refl _) h
  have fr0 := wfR_rf [51, 70, 71, 72, 73, 74, 75, 76] ρ w
  iterate 2 refine hR (?_ : R (_, _, _, _, _, _))
  obtain ⟨y6_2, y7_2, hO2, hk2_0, hk2_1, hk2_2, hk2_3, hk2_4, hk2_5, hk2_6, hk2_7⟩ := CI_o1 hT.1 hT.2.1
  obtain ⟨hTt1, hIt1, hpt1, hKt1⟩ := top_fr2 hT hT.1 fr0 (by decide) hT.2.2.1
  obtain ⟨mc1, ms1, re1, w, ⟨ρ, hA1, hr_1⟩, hrun1⟩ := a_readingsAt hTt1 (d + 3) a1 (by omega)
  refine hR0 (0 + mc1) (0 + ms1) (Nat.le_add_right _ _) (Nat.le_add_right _ _) (c_obj hO2 (zcall_i mc1 ms1 (Nat.le_refl _) (Nat.le_refl _) (hrun1 _ ?_)))
  obtain ⟨hT, hI1, hK1, hx1, hm1, hs1⟩ := hA1
  have fr3 := wfR_rf [51, 70, 71, 72, 73, 74, 75, 76] ρ w
  rcases hr_1 with rfl | ⟨z1, rfl, hz1⟩
  · skip
    refine (?_ : R (_, _, .null :: [], w, 0 + mc1, 0 + ms1))
    iterate 4 refine hR (?_ : R (_, _, _, _, _, _))
    obtain ⟨hTf4, hIf4, hpf4, hKf4⟩ := top_fr2 hT hT.1 fr3 (by decide) hT.2.2.1
    exact hR (zret_i rfl (Nat.le_refl _) trivial ⟨⟨_, hTf4, fun l m h => hIf4 _ _ (hI1 _ _ (hIt1 _ _ (h))), (KEEP2_tr hKt1 (KEEP2_tr hK1 hKf4)), hx1, by omega, by omega⟩, _, rfl⟩)
  · skip
    refine (?_ : R (_, _, (.ref z1) :: [], w, 0 + mc1, 0 + ms1))
    iterate 4 refine hR (?_ : R (_, _, _, _, _, _))
    refine hR (zcall_i 0 0 (Nat.le_refl _) (Nat.le_refl _) (c_isSpan _ _ a2 (by omega) _ fun v5 hp7 => ?_))
    refine (?_ : R (_, _, (.int (Int32.ofInt v5)) :: [], w, 0 + mc1, 0 + ms1))
    refine hR (k_eq (by omega) (fun hc8 => ?_) (fun hc8 => ?_))
    · skip
      refine hR (?_ : R (_, _, _, _, _, _))
      obtain ⟨hTf9, hIf9, hpf9, hKf9⟩ := top_fr2 hT hT.1 fr3 (by decide) hT.2.2.1
      exact hR (zret_i rfl (Nat.le_refl _) trivial ⟨⟨_, hTf9, fun l m h => hIf9 _ _ (hI1 _ _ (hIt1 _ _ (h))), (KEEP2_tr hKt1 (KEEP2_tr hK1 hKf9)), hx1, by omega, by omega⟩, _, rfl⟩)
    refine hR (?_ : R (_, _, _, _, _, _))
    refine hR (k_le (by omega) (fun hc10 => ?_) (fun hc10 => ?_))
    · skip
      refine hR (?_ : R (_, _, _, _, _, _))
      obtain ⟨y6_12, y7_12, hO12, hk12_0, hk12_1, hk12_2, hk12_3, hk12_4, hk12_5, hk12_6, hk12_7⟩ := CI_o1 hT.1 hT.2.1
      obtain ⟨hTt11, hIt11, hpt11, hKt11⟩ := top_fr2 hT hT.1 fr3 (by decide) hT.2.2.1
      obtain ⟨mc11, ms11, re11, w, ⟨ρ, z11, hA11, hre11, hz11, hlv11⟩, hrun11⟩ := a_levelsThere hTt11 (d + 3)
      subst hre11
      refine hR0 (0 + mc1 + mc11) (0 + ms1 + ms11) (Nat.le_add_right _ _) (Nat.le_add_right _ _) (c_obj hO12 (zcall_i mc11 ms11 (Nat.le_refl _) (Nat.le_refl _) (hrun11 _ ?_)))
      obtain ⟨hT, hI11, hK11, hx11, hm11, hs11⟩ := hA11
      have hl13 : ρ z1 = 50 := (hx11 z1 (by rw [hz1]; decide)).trans hz1
      have fr14 := wfR_rf [51, 70, 71, 72, 73, 74, 75, 76] ρ w
      refine (?_ : R (_, _, (.ref z11) :: [], w, 0 + mc1 + mc11, 0 + ms1 + ms11))
      iterate 2 refine hR (?_ : R (_, _, _, _, _, _))
      obtain ⟨y0_16, x1_16, x2_16, x3_16, hO16, hk16_0, hk16_1, hk16_2, hk16_3, hk16_4, hk16_5, hk16_6, hk16_7, hk16_8, hk16_9⟩ := CI_o70 hT.1 hz11
      refine hR (c_obj hO16 (zcall_i 0 0 (Nat.le_refl _) (Nat.le_refl _) (c_wantNothing _ z11 hT.1 hz11 _ fun w15 hw15 g15 => ?_)))
      have fr17 := wfR_tr fr14 g15 (by decide)
      have hO18 := (g15.2 z11 (by rw [hz11]; decide)).trans hO16
      refine (?_ : R (_, _, [], w15, 0 + mc1 + mc11, 0 + ms1 + ms11))
      have aw19 := AWK_fr hT.1 g15 hT.2.2.1 (by decide)
      have hlx20 := LVp_eq (g15.2 0 (by rw [hT.2.1]; decide)) hlv11
      iterate 4 refine hR (?_ : R (_, _, _, _, _, _))
      obtain ⟨z0_24, z2_24, z3_24, hO24, hk24_0, hk24_1, hk24_2, hk24_3, hk24_4⟩ := CI_o50 hw15 hl13
      refine hR (c_obj hO24 (zcall_i 0 0 (Nat.le_refl _) (Nat.le_refl _) (c_all _ z1 hw15 hl13 _ fun v21 hp23 => ?_)))
      refine (?_ : R (_, _, (.int (Int32.ofInt v21)) :: (.int (Int32.ofInt a2)) :: (.ref z1) :: (.ref z11) :: [], w15, 0 + mc1 + mc11, 0 + ms1 + ms11))
      refine hR (?_ : R (_, _, _, _, _, _))
      refine hR (c_obj hO24 (zcall_i 0 0 (Nat.le_refl _) (Nat.le_refl _) (c_all _ z1 hw15 hl13 _ fun v25 hp27 => ?_)))
      refine (?_ : R (_, _, (.int (Int32.ofInt v25)) :: (.int (Int32.ofInt v21)) :: (.int (Int32.ofInt a2)) :: (.ref z1) :: (.ref z11) :: [], w15, 0 + mc1 + mc11, 0 + ms1 + ms11))
      refine hR (c_obj hO18 (zcall_i 0 0 (Nat.le_refl _) (Nat.le_refl _) (c_spread _ z11 z1 a2 v21 v25 hw15 hz11 hl13 (by omega) (by omega) (by omega) (aw19.2 hT.2.1 _ hlx20) _ fun w28 hw28 g28 hn29 hp30 hp31 => ?_)))
      have fr32 := wfR_tr fr17 g28 (by decide)
      have hO33 := (g28.2 z1 (by rw [hl13]; decide)).trans hO24
      refine (?_ : R (_, _, [], w28, 0 + mc1 + mc11, 0 + ms1 + ms11))
      have aw34 := AWK_lv hw15 g28 aw19 (by decide) hlx20 hp30
      have hlx35 := LVp_eq (g28.2 0 (by rw [hT.2.1]; decide)) hlx20
      refine hR (?_ : R (_, _, _, _, _, _))
      obtain ⟨y0_37, x1_37, x2_37, x3_37, hO37, hk37_0, hk37_1, hk37_2, hk37_3, hk37_4, hk37_5, hk37_6, hk37_7, hk37_8, hk37_9⟩ := CI_o70 hw28 hz11
      refine hR (c_obj hO37 (zcall_i 0 0 (Nat.le_refl _) (Nat.le_refl _) (c_endByDrift _ z11 hw28 hz11 hn29 _ fun w36 hw36 g36 => ?_)))
      have fr38 := wfR_tr fr32 g36 (by decide)
      have hn39 := nn_eq (g36.2 z11 (by rw [hz11]; decide)) hn29
      have hO40 := (g36.2 z1 (by rw [hl13]; decide)).trans hO33
      have hO41 := (g36.2 z11 (by rw [hz11]; decide)).trans hO37
      refine (?_ : R (_, _, [], w36, 0 + mc1 + mc11, 0 + ms1 + ms11))
      have aw42 := AWK_fr hw28 g36 aw34 (by decide)
      have hlx43 := LVp_eq (g36.2 0 (by rw [hT.2.1]; decide)) hlx35
      have sp44 := SPN_eq (g36.2 z11 (by rw [hz11]; decide)) (g36.2 (z11 + 1) (by rw [hk37_4]; decide)) hp31
      refine hR (?_ : R (_, _, _, _, _, _))
      refine hR (c_obj hO41 (zcall_i 0 0 (Nat.le_refl _) (Nat.le_refl _) (c_sumOfEnds _ z11 hw36 hz11 _ fun v45 => ?_)))
      refine (?_ : R (_, _, (.long v45) :: [], w36, 0 + mc1 + mc11, 0 + ms1 + ms11))
      iterate 2 refine hR (?_ : R (_, _, _, _, _, _))
      refine hR (c_obj hO41 (zcall_i 0 0 (Nat.le_refl _) (Nat.le_refl _) (c_rows _ z11 hw36 hz11 _ fun v47 hp49 => ?_)))
      refine (?_ : R (_, _, (.int (Int32.ofInt v47)) :: [], w36, 0 + mc1 + mc11, 0 + ms1 + ms11))
      refine hR (t_xl fun w_50 => ?_)
      iterate 3 refine hR (?_ : R (_, _, _, _, _, _))
      refine hR (zcall_i 0 0 (Nat.le_refl _) (Nat.le_refl _) (c_common _ _ v45 w_50 _ fun v51 => ?_))
      refine (?_ : R (_, _, (.long v51) :: [], w36, 0 + mc1 + mc11, 0 + ms1 + ms11))
      iterate 3 refine hR (?_ : R (_, _, _, _, _, _))
      refine hR (?_ : R (_, _, .int (lg_cmp v51 0) :: [], w36, 0 + mc1 + mc11, 0 + ms1 + ms11))
      refine hR (And.intro (fun hcz => ?_) (fun hcz => ?_))
      rotate_left
      · skip
        refine hR (?_ : R (_, _, _, _, _, _))
        obtain ⟨hTf56, hIf56, hpf56, hKf56⟩ := top_fr2 hT hw36 fr38 (by decide) aw42
        exact hR (zret_i rfl (Nat.le_refl _) trivial ⟨⟨_, hTf56, fun l m h => hIf56 _ _ (hI11 _ _ (hIt11 _ _ (hI1 _ _ (hIt1 _ _ (h))))), (KEEP2_tr hKt1 (KEEP2_tr hK1 (KEEP2_tr hKt11 (KEEP2_tr hK11 hKf56)))), (EXT_tr hx1 hx11), by omega, by omega⟩, _, rfl⟩)
      have hne : v51 ≠ 0 := fun e => hcz (by rw [e]; decide)
      refine hR (?_ : R (_, _, _, _, _, _))
      refine hR (k_eq (by omega) (fun hc53 => ?_) (fun hc53 => ?_))
      · skip
        iterate 2 refine hR (?_ : R (_, _, _, _, _, _))
        refine hR (And.intro hne ?_)
        obtain ⟨hTf54, hIf54, hpf54, hKf54⟩ := top_fr2 hT hw36 fr38 (by decide) aw42
        exact hR (zret_i rfl (Nat.le_refl _) trivial ⟨⟨_, hTf54, fun l m h => hIf54 _ _ (hI11 _ _ (hIt11 _ _ (hI1 _ _ (hIt1 _ _ (h))))), (KEEP2_tr hKt1 (KEEP2_tr hK1 (KEEP2_tr hKt11 (KEEP2_tr hK11 hKf54)))), (EXT_tr hx1 hx11), by omega, by omega⟩, _, rfl⟩)
      iterate 2 refine hR (?_ : R (_, _, _, _, _, _))
      refine hR (And.intro hne ?_)
      refine hR (?_ : R (_, _, _, _, _, _))
      obtain ⟨hTf55, hIf55, hpf55, hKf55⟩ := top_fr2 hT hw36 fr38 (by decide) aw42
      exact hR (zret_i rfl (Nat.le_refl _) trivial ⟨⟨_, hTf55, fun l m h => hIf55 _ _ (hI11 _ _ (hIt11 _ _ (hI1 _ _ (hIt1 _ _ (h))))), (KEEP2_tr hKt1 (KEEP2_tr hK1 (KEEP2_tr hKt11 (KEEP2_tr hK11 hKf55)))), (EXT_tr hx1 hx11), by omega, by omega⟩, _, rfl⟩)
    refine hR (?_ : R (_, _, _, _, _, _))
    obtain ⟨z0_60, z2_60, z3_60, hO60, hk60_0, hk60_1, hk60_2, hk60_3, hk60_4⟩ := CI_o50 hT.1 hz1
    refine hR (c_obj hO60 (zcall_i 0 0 (Nat.le_refl _) (Nat.le_refl _) (c_all _ z1 hT.1 hz1 _ fun v57 hp59 => ?_)))
    refine (?_ : R (_, _, (.int (Int32.ofInt v57)) :: [], w, 0 + mc1, 0 + ms1))
    refine hR (k_ne (by omega) (fun hc61 => ?_) (fun hc61 => ?_))
    rotate_left
    · skip
      refine hR (?_ : R (_, _, _, _, _, _))
      obtain ⟨hTf108, hIf108, hpf108, hKf108⟩ := top_fr2 hT hT.1 fr3 (by decide) hT.2.2.1
      exact hR (zret_i rfl (Nat.le_refl _) trivial ⟨⟨_, hTf108, fun l m h => hIf108 _ _ (hI1 _ _ (hIt1 _ _ (h))), (KEEP2_tr hKt1 (KEEP2_tr hK1 hKf108)), hx1, by omega, by omega⟩, _, rfl⟩)
    refine hR (?_ : R (_, _, _, _, _, _))
    obtain ⟨y6_63, y7_63, hO63, hk63_0, hk63_1, hk63_2, hk63_3, hk63_4, hk63_5, hk63_6, hk63_7⟩ := CI_o1 hT.1 hT.2.1
    obtain ⟨hTt62, hIt62, hpt62, hKt62⟩ := top_fr2 hT hT.1 fr3 (by decide) hT.2.2.1
    obtain ⟨mc62, ms62, re62, w, ⟨ρ, z62, hA62, hre62, hz62, hlv62⟩, hrun62⟩ := a_levelsThere hTt62 (d + 3)
    subst hre62
    refine hR0 (0 + mc1 + mc62) (0 + ms1 + ms62) (Nat.le_add_right _ _) (Nat.le_add_right _ _) (c_obj hO63 (zcall_i mc62 ms62 (Nat.le_refl _) (Nat.le_refl _) (hrun62 _ ?_)))
    obtain ⟨hT, hI62, hK62, hx62, hm62, hs62⟩ := hA62
    have hl64 : ρ z1 = 50 := (hx62 z1 (by rw [hz1]; decide)).trans hz1
    have fr65 := wfR_rf [51, 70, 71, 72, 73, 74, 75, 76] ρ w
    refine (?_ : R (_, _, (.ref z62) :: [], w, 0 + mc1 + mc62, 0 + ms1 + ms62))
    iterate 2 refine hR (?_ : R (_, _, _, _, _, _))
    obtain ⟨y0_67, x1_67, x2_67, x3_67, hO67, hk67_0, hk67_1, hk67_2, hk67_3, hk67_4, hk67_5, hk67_6, hk67_7, hk67_8, hk67_9⟩ := CI_o70 hT.1 hz62
    refine hR (c_obj hO67 (zcall_i 0 0 (Nat.le_refl _) (Nat.le_refl _) (c_wantNothing _ z62 hT.1 hz62 _ fun w66 hw66 g66 => ?_)))
    have fr68 := wfR_tr fr65 g66 (by decide)
    have hO69 := (g66.2 z62 (by rw [hz62]; decide)).trans hO67
    refine (?_ : R (_, _, [], w66, 0 + mc1 + mc62, 0 + ms1 + ms62))
    have aw70 := AWK_fr hT.1 g66 hT.2.2.1 (by decide)
    have hlx71 := LVp_eq (g66.2 0 (by rw [hT.2.1]; decide)) hlv62
    iterate 4 refine hR (?_ : R (_, _, _, _, _, _))
    obtain ⟨z0_75, z2_75, z3_75, hO75, hk75_0, hk75_1, hk75_2, hk75_3, hk75_4⟩ := CI_o50 hw66 hl64
    refine hR (c_obj hO75 (zcall_i 0 0 (Nat.le_refl _) (Nat.le_refl _) (c_all _ z1 hw66 hl64 _ fun v72 hp74 => ?_)))
    refine (?_ : R (_, _, (.int (Int32.ofInt v72)) :: (.int (Int32.ofInt a2)) :: (.ref z1) :: (.ref z62) :: [], w66, 0 + mc1 + mc62, 0 + ms1 + ms62))
    refine hR (?_ : R (_, _, _, _, _, _))
    refine hR (c_obj hO75 (zcall_i 0 0 (Nat.le_refl _) (Nat.le_refl _) (c_all _ z1 hw66 hl64 _ fun v76 hp78 => ?_)))
    refine (?_ : R (_, _, (.int (Int32.ofInt v76)) :: (.int (Int32.ofInt v72)) :: (.int (Int32.ofInt a2)) :: (.ref z1) :: (.ref z62) :: [], w66, 0 + mc1 + mc62, 0 + ms1 + ms62))
    refine hR (c_obj hO69 (zcall_i 0 0 (Nat.le_refl _) (Nat.le_refl _) (c_spread _ z62 z1 a2 v72 v76 hw66 hz62 hl64 (by omega) (by omega) (by omega) (aw70.2 hT.2.1 _ hlx71) _ fun w79 hw79 g79 hn80 hp81 hp82 => ?_)))
    have fr83 := wfR_tr fr68 g79 (by decide)
    have hO84 := (g79.2 z1 (by rw [hl64]; decide)).trans hO75
    refine (?_ : R (_, _, [], w79, 0 + mc1 + mc62, 0 + ms1 + ms62))
    have aw85 := AWK_lv hw66 g79 aw70 (by decide) hlx71 hp81
    have hlx86 := LVp_eq (g79.2 0 (by rw [hT.2.1]; decide)) hlx71
    refine hR (?_ : R (_, _, _, _, _, _))
    obtain ⟨y0_88, x1_88, x2_88, x3_88, hO88, hk88_0, hk88_1, hk88_2, hk88_3, hk88_4, hk88_5, hk88_6, hk88_7, hk88_8, hk88_9⟩ := CI_o70 hw79 hz62
    refine hR (c_obj hO88 (zcall_i 0 0 (Nat.le_refl _) (Nat.le_refl _) (c_endByDrift _ z62 hw79 hz62 hn80 _ fun w87 hw87 g87 => ?_)))
    have fr89 := wfR_tr fr83 g87 (by decide)
    have hn90 := nn_eq (g87.2 z62 (by rw [hz62]; decide)) hn80
    have hO91 := (g87.2 z1 (by rw [hl64]; decide)).trans hO84
    have hO92 := (g87.2 z62 (by rw [hz62]; decide)).trans hO88
    refine (?_ : R (_, _, [], w87, 0 + mc1 + mc62, 0 + ms1 + ms62))
    have aw93 := AWK_fr hw79 g87 aw85 (by decide)
    have hlx94 := LVp_eq (g87.2 0 (by rw [hT.2.1]; decide)) hlx86
    have sp95 := SPN_eq (g87.2 z62 (by rw [hz62]; decide)) (g87.2 (z62 + 1) (by rw [hk88_4]; decide)) hp82
    refine hR (?_ : R (_, _, _, _, _, _))
    refine hR (c_obj hO92 (zcall_i 0 0 (Nat.le_refl _) (Nat.le_refl _) (c_sumOfEnds _ z62 hw87 hz62 _ fun v96 => ?_)))
    refine (?_ : R (_, _, (.long v96) :: [], w87, 0 + mc1 + mc62, 0 + ms1 + ms62))
    iterate 2 refine hR (?_ : R (_, _, _, _, _, _))
    refine hR (c_obj hO92 (zcall_i 0 0 (Nat.le_refl _) (Nat.le_refl _) (c_rows _ z62 hw87 hz62 _ fun v98 hp100 => ?_)))
    refine (?_ : R (_, _, (.int (Int32.ofInt v98)) :: [], w87, 0 + mc1 + mc62, 0 + ms1 + ms62))
    refine hR (t_xl fun w_101 => ?_)
    iterate 3 refine hR (?_ : R (_, _, _, _, _, _))
    refine hR (zcall_i 0 0 (Nat.le_refl _) (Nat.le_refl _) (c_common _ _ v96 w_101 _ fun v102 => ?_))
    refine (?_ : R (_, _, (.long v102) :: [], w87, 0 + mc1 + mc62, 0 + ms1 + ms62))
    iterate 3 refine hR (?_ : R (_, _, _, _, _, _))
    refine hR (?_ : R (_, _, .int (lg_cmp v102 0) :: [], w87, 0 + mc1 + mc62, 0 + ms1 + ms62))
    refine hR (And.intro (fun hcz => ?_) (fun hcz => ?_))
    rotate_left
    · skip
      refine hR (?_ : R (_, _, _, _, _, _))
      obtain ⟨hTf107, hIf107, hpf107, hKf107⟩ := top_fr2 hT hw87 fr89 (by decide) aw93
      exact hR (zret_i rfl (Nat.le_refl _) trivial ⟨⟨_, hTf107, fun l m h => hIf107 _ _ (hI62 _ _ (hIt62 _ _ (hI1 _ _ (hIt1 _ _ (h))))), (KEEP2_tr hKt1 (KEEP2_tr hK1 (KEEP2_tr hKt62 (KEEP2_tr hK62 hKf107)))), (EXT_tr hx1 hx62), by omega, by omega⟩, _, rfl⟩)
    have hne : v102 ≠ 0 := fun e => hcz (by rw [e]; decide)
    refine hR (?_ : R (_, _, _, _, _, _))
    refine hR (k_eq (by omega) (fun hc104 => ?_) (fun hc104 => ?_))
    · skip
      iterate 2 refine hR (?_ : R (_, _, _, _, _, _))
      refine hR (And.intro hne ?_)
      obtain ⟨hTf105, hIf105, hpf105, hKf105⟩ := top_fr2 hT hw87 fr89 (by decide) aw93
      exact hR (zret_i rfl (Nat.le_refl _) trivial ⟨⟨_, hTf105, fun l m h => hIf105 _ _ (hI62 _ _ (hIt62 _ _ (hI1 _ _ (hIt1 _ _ (h))))), (KEEP2_tr hKt1 (KEEP2_tr hK1 (KEEP2_tr hKt62 (KEEP2_tr hK62 hKf105)))), (EXT_tr hx1 hx62), by omega, by omega⟩, _, rfl⟩)
    iterate 2 refine hR (?_ : R (_, _, _, _, _, _))
    refine hR (And.intro hne ?_)
    refine hR (?_ : R (_, _, _, _, _, _))
    obtain ⟨hTf106, hIf106, hpf106, hKf106⟩ := top_fr2 hT hw87 fr89 (by decide) aw93
    exact hR (zret_i rfl (Nat.le_refl _) trivial ⟨⟨_, hTf106, fun l m h => hIf106 _ _ (hI62 _ _ (hIt62 _ _ (hI1 _ _ (hIt1 _ _ (h))))), (KEEP2_tr hKt1 (KEEP2_tr hK1 (KEEP2_tr hKt62 (KEEP2_tr hK62 hKf106)))), (EXT_tr hx1 hx62), by omega, by omega⟩, _, rfl⟩)
theorem k_play {ρ : Nat → Nat} {w : zW} (hT : TOP ρ w) (d : Nat) (a1 a2 a3 a4 a5 a6 : Int) (hr0 : -2147483648 ≤ a1 ∧ a1 ≤ 2147483647) (hr1 : -2147483648 ≤ a2 ∧ a2 ≤ 2147483647) (hr2 : -2147483648 ≤ a3 ∧ a3 ≤ 2147483647) (hr3 : -2147483648 ≤ a4 ∧ a4 ≤ 2147483647) (hr4 : -2147483648 ≤ a5 ∧ a5 ≤ 2147483647) (hr5 : -2147483648 ≤ a6 ∧ a6 ≤ 2147483647) : DET zTab (d + 7) iX11_play [.ref 0, .int (Int32.ofInt a1), .int (Int32.ofInt a2), .int (Int32.ofInt a3), .int (Int32.ofInt a4), .int (Int32.ofInt a5), .int (Int32.ofInt a6)] w (PB ρ w) := by
  refine z_rel (M := kX11_play) _ rfl (Nat.le_of_ble_eq_true rfl) fun R hR0 => ?_
  have hR : ∀ {pc : Nat} {L : zL} {S : List Value} {w1 : zW} {k n : Nat}, zsc (zCl zTab (d + 6)) (d + 6) kX11_play none zTab k n (PB ρ w k n) pc L S w1 k n R → R (pc, L, S, w1, k, n) := fun h => hR0 _ _ (Nat.le_refl _) (Nat.le_refl _) h
  have fr0 := wfR_rf [51, 70, 71, 72, 73, 74, 75, 76] ρ w
  iterate 2 refine hR (?_ : R (_, _, _, _, _, _))
  obtain ⟨y6_2, y7_2, hO2, hk2_0, hk2_1, hk2_2, hk2_3, hk2_4, hk2_5, hk2_6, hk2_7⟩ := CI_o1 hT.1 hT.2.1
  obtain ⟨hTt1, hIt1, hpt1, hKt1⟩ := top_fr2 hT hT.1 fr0 (by decide) hT.2.2.1
  obtain ⟨mc1, ms1, re1, w, ⟨ρ, hA1, hr_1⟩, hrun1⟩ := a_readingsAt hTt1 (d + 3) a1 (by omega)
  refine hR0 (0 + mc1) (0 + ms1) (Nat.le_add_right _ _) (Nat.le_add_right _ _) (c_obj hO2 (zcall_i mc1 ms1 (Nat.le_refl _) (Nat.le_refl _) (hrun1 _ ?_)))
  obtain ⟨hT, hI1, hK1, hx1, hm1, hs1⟩ := hA1
  have fr3 := wfR_rf [51, 70, 71, 72, 73, 74, 75, 76] ρ w
  rcases hr_1 with rfl | ⟨z1, rfl, hz1⟩
  · skip
    refine (?_ : R (_, _, .null :: [], w, 0 + mc1, 0 + ms1))
    iterate 4 refine hR (?_ : R (_, _, _, _, _, _))
    obtain ⟨hTf4, hIf4, hpf4, hKf4⟩ := top_fr2 hT hT.1 fr3 (by decide) hT.2.2.1
    exact hR (zret_i rfl (Nat.le_refl _) trivial ⟨⟨_, hTf4, fun l m h => hIf4 _ _ (hI1 _ _ (hIt1 _ _ (h))), (KEEP2_tr hKt1 (KEEP2_tr hK1 hKf4)), hx1, by omega, by omega⟩, _, rfl⟩)
  · skip
    refine (?_ : R (_, _, (.ref z1) :: [], w, 0 + mc1, 0 + ms1))
    iterate 4 refine hR (?_ : R (_, _, _, _, _, _))
    refine hR (zcall_i 0 0 (Nat.le_refl _) (Nat.le_refl _) (c_isSpan _ _ a2 (by omega) _ fun v5 hp7 => ?_))
    refine (?_ : R (_, _, (.int (Int32.ofInt v5)) :: [], w, 0 + mc1, 0 + ms1))
    refine hR (k_eq (by omega) (fun hc8 => ?_) (fun hc8 => ?_))
    · skip
      refine hR (?_ : R (_, _, _, _, _, _))
      obtain ⟨hTf9, hIf9, hpf9, hKf9⟩ := top_fr2 hT hT.1 fr3 (by decide) hT.2.2.1
      exact hR (zret_i rfl (Nat.le_refl _) trivial ⟨⟨_, hTf9, fun l m h => hIf9 _ _ (hI1 _ _ (hIt1 _ _ (h))), (KEEP2_tr hKt1 (KEEP2_tr hK1 hKf9)), hx1, by omega, by omega⟩, _, rfl⟩)
    refine hR (?_ : R (_, _, _, _, _, _))
    refine hR (zcall_i 0 0 (Nat.le_refl _) (Nat.le_refl _) (c_isWord _ _ a3 (by omega) _ fun v10 hp12 => ?_))
    refine (?_ : R (_, _, (.int (Int32.ofInt v10)) :: [], w, 0 + mc1, 0 + ms1))
    refine hR (k_ne (by omega) (fun hc13 => ?_) (fun hc13 => ?_))
    rotate_left
    · skip
      refine hR (?_ : R (_, _, _, _, _, _))
      obtain ⟨hTf199, hIf199, hpf199, hKf199⟩ := top_fr2 hT hT.1 fr3 (by decide) hT.2.2.1
      exact hR (zret_i rfl (Nat.le_refl _) trivial ⟨⟨_, hTf199, fun l m h => hIf199 _ _ (hI1 _ _ (hIt1 _ _ (h))), (KEEP2_tr hKt1 (KEEP2_tr hK1 hKf199)), hx1, by omega, by omega⟩, _, rfl⟩)
    refine hR (?_ : R (_, _, _, _, _, _))
    obtain ⟨z0_14, z2_14, z3_14, hO14, hk14_0, hk14_1, hk14_2, hk14_3, hk14_4⟩ := CI_o50 hT.1 hz1
    refine hR (c_get hO14 rfl ?_)
    refine hR (?_ : R (_, _, _, _, _, _))
    obtain ⟨x0_18, x1_18, x2_18, hO18, hk18_0, hk18_1, hk18_2, hk18_3, hk18_4, hk18_5, hk18_6⟩ := CI_o20 hT.1 hk14_0
    refine hR (c_obj hO18 (zcall_i 0 0 (Nat.le_refl _) (Nat.le_refl _) (c_hasReaders _ z0_14 a4 hT.1 hk14_0 (by omega) _ fun v15 hp17 => ?_)))
    refine (?_ : R (_, _, (.int (Int32.ofInt v15)) :: [], w, 0 + mc1, 0 + ms1))
    refine hR (k_eq (by omega) (fun hc19 => ?_) (fun hc19 => ?_))
    · skip
      refine hR (?_ : R (_, _, _, _, _, _))
      obtain ⟨hTf20, hIf20, hpf20, hKf20⟩ := top_fr2 hT hT.1 fr3 (by decide) hT.2.2.1
      exact hR (zret_i rfl (Nat.le_refl _) trivial ⟨⟨_, hTf20, fun l m h => hIf20 _ _ (hI1 _ _ (hIt1 _ _ (h))), (KEEP2_tr hKt1 (KEEP2_tr hK1 hKf20)), hx1, by omega, by omega⟩, _, rfl⟩)
    refine hR (?_ : R (_, _, _, _, _, _))
    refine hR (c_get hO14 rfl ?_)
    refine hR (?_ : R (_, _, _, _, _, _))
    refine hR (c_obj hO18 (zcall_i 0 0 (Nat.le_refl _) (Nat.le_refl _) (c_hasReaders _ z0_14 a5 hT.1 hk14_0 (by omega) _ fun v21 hp23 => ?_)))
    refine (?_ : R (_, _, (.int (Int32.ofInt v21)) :: [], w, 0 + mc1, 0 + ms1))
    refine hR (k_ne (by omega) (fun hc24 => ?_) (fun hc24 => ?_))
    rotate_left
    · skip
      refine hR (?_ : R (_, _, _, _, _, _))
      obtain ⟨hTf198, hIf198, hpf198, hKf198⟩ := top_fr2 hT hT.1 fr3 (by decide) hT.2.2.1
      exact hR (zret_i rfl (Nat.le_refl _) trivial ⟨⟨_, hTf198, fun l m h => hIf198 _ _ (hI1 _ _ (hIt1 _ _ (h))), (KEEP2_tr hKt1 (KEEP2_tr hK1 hKf198)), hx1, by omega, by omega⟩, _, rfl⟩)
    refine hR (?_ : R (_, _, _, _, _, _))
    refine hR (k_eq (by omega) (fun hc25 => ?_) (fun hc25 => ?_))
    · skip
      refine hR (?_ : R (_, _, _, _, _, _))
      obtain ⟨hTf26, hIf26, hpf26, hKf26⟩ := top_fr2 hT hT.1 fr3 (by decide) hT.2.2.1
      exact hR (zret_i rfl (Nat.le_refl _) trivial ⟨⟨_, hTf26, fun l m h => hIf26 _ _ (hI1 _ _ (hIt1 _ _ (h))), (KEEP2_tr hKt1 (KEEP2_tr hK1 hKf26)), hx1, by omega, by omega⟩, _, rfl⟩)
    refine hR (?_ : R (_, _, _, _, _, _))
    refine hR (k_ne (by omega) (fun hc27 => ?_) (fun hc27 => ?_))
    · skip
      refine hR (?_ : R (_, _, _, _, _, _))
      refine hR (k_eq (by omega) (fun hc28 => ?_) (fun hc28 => ?_))
      · skip
        refine hR (?_ : R (_, _, _, _, _, _))
        obtain ⟨y6_30, y7_30, hO30, hk30_0, hk30_1, hk30_2, hk30_3, hk30_4, hk30_5, hk30_6, hk30_7⟩ := CI_o1 hT.1 hT.2.1
        obtain ⟨hTt29, hIt29, hpt29, hKt29⟩ := top_fr2 hT hT.1 fr3 (by decide) hT.2.2.1
        obtain ⟨mc29, ms29, re29, w, ⟨ρ, z29, hA29, hre29, hz29, hlv29⟩, hrun29⟩ := a_levelsThere hTt29 (d + 3)
        subst hre29
        refine hR0 (0 + mc1 + mc29) (0 + ms1 + ms29) (Nat.le_add_right _ _) (Nat.le_add_right _ _) (c_obj hO30 (zcall_i mc29 ms29 (Nat.le_refl _) (Nat.le_refl _) (hrun29 _ ?_)))
        obtain ⟨hT, hI29, hK29, hx29, hm29, hs29⟩ := hA29
        have hl31 : ρ z1 = 50 := (hx29 z1 (by rw [hz1]; decide)).trans hz1
        have fr32 := wfR_rf [51, 70, 71, 72, 73, 74, 75, 76] ρ w
        refine (?_ : R (_, _, (.ref z29) :: [], w, 0 + mc1 + mc29, 0 + ms1 + ms29))
        iterate 2 refine hR (?_ : R (_, _, _, _, _, _))
        obtain ⟨y0_34, x1_34, x2_34, x3_34, hO34, hk34_0, hk34_1, hk34_2, hk34_3, hk34_4, hk34_5, hk34_6, hk34_7, hk34_8, hk34_9⟩ := CI_o70 hT.1 hz29
        refine hR (c_obj hO34 (zcall_i 0 0 (Nat.le_refl _) (Nat.le_refl _) (c_wantNothing _ z29 hT.1 hz29 _ fun w33 hw33 g33 => ?_)))
        have fr35 := wfR_tr fr32 g33 (by decide)
        have hO36 := (g33.2 z29 (by rw [hz29]; decide)).trans hO34
        refine (?_ : R (_, _, [], w33, 0 + mc1 + mc29, 0 + ms1 + ms29))
        have aw37 := AWK_fr hT.1 g33 hT.2.2.1 (by decide)
        have hlx38 := LVp_eq (g33.2 0 (by rw [hT.2.1]; decide)) hlv29
        iterate 5 refine hR (?_ : R (_, _, _, _, _, _))
        refine hR (c_obj hO36 (zcall_i 0 0 (Nat.le_refl _) (Nat.le_refl _) (c_spread _ z29 z1 a2 a4 a5 hw33 hz29 hl31 (by omega) (by omega) (by omega) (aw37.2 hT.2.1 _ hlx38) _ fun w39 hw39 g39 hn40 hp41 hp42 => ?_)))
        have fr43 := wfR_tr fr35 g39 (by decide)
        refine (?_ : R (_, _, [], w39, 0 + mc1 + mc29, 0 + ms1 + ms29))
        have aw44 := AWK_lv hw33 g39 aw37 (by decide) hlx38 hp41
        have hlx45 := LVp_eq (g39.2 0 (by rw [hT.2.1]; decide)) hlx38
        iterate 2 refine hR (?_ : R (_, _, _, _, _, _))
        obtain ⟨y0_47, x1_47, x2_47, x3_47, hO47, hk47_0, hk47_1, hk47_2, hk47_3, hk47_4, hk47_5, hk47_6, hk47_7, hk47_8, hk47_9⟩ := CI_o70 hw39 hz29
        refine hR (c_obj hO47 (zcall_i 0 0 (Nat.le_refl _) (Nat.le_refl _) (c_endByWord _ z29 a3 hw39 hz29 hn40 (by omega) _ fun w46 hw46 g46 => ?_)))
        have fr48 := wfR_tr fr43 g46 (by decide)
        have hn49 := nn_eq (g46.2 z29 (by rw [hz29]; decide)) hn40
        have hO50 := (g46.2 z29 (by rw [hz29]; decide)).trans hO47
        refine (?_ : R (_, _, [], w46, 0 + mc1 + mc29, 0 + ms1 + ms29))
        have aw51 := AWK_fr hw39 g46 aw44 (by decide)
        have hlx52 := LVp_eq (g46.2 0 (by rw [hT.2.1]; decide)) hlx45
        have sp53 := SPN_eq (g46.2 z29 (by rw [hz29]; decide)) (g46.2 (z29 + 1) (by rw [hk47_4]; decide)) hp42
        iterate 3 refine hR (?_ : R (_, _, _, _, _, _))
        refine hR (c_obj hO50 (zcall_i 0 0 (Nat.le_refl _) (Nat.le_refl _) (c_foldBack _ z29 1 0 hw46 hz29 hn49 (by omega) (by omega) (aw51.2 hT.2.1 _ hlx52) _ fun w54 hw54 g54 hp55 => ?_)))
        have fr56 := wfR_tr fr48 g54 (by decide)
        have hn57 := nn_eq (g54.2 z29 (by rw [hz29]; decide)) hn49
        have hO58 := (g54.2 z29 (by rw [hz29]; decide)).trans hO50
        refine (?_ : R (_, _, [], w54, 0 + mc1 + mc29, 0 + ms1 + ms29))
        have aw59 := AWK_lv hw46 g54 aw51 (by decide) hlx52 hp55
        have hlx60 := LVp_eq (g54.2 0 (by rw [hT.2.1]; decide)) hlx52
        have sp61 := SPN_eq (g54.2 z29 (by rw [hz29]; decide)) (g54.2 (z29 + 1) (by rw [hk47_4]; decide)) sp53
        refine hR (?_ : R (_, _, _, _, _, _))
        refine hR (k_eq (by omega) (fun _ => ?_) (fun hc => by omega))
        refine hR (?_ : R (_, _, _, _, _, _))
        refine hR (c_obj hO58 (zcall_i 0 0 (Nat.le_refl _) (Nat.le_refl _) (c_bestStart _ z29 hw54 hz29 _ fun v62 hp64 => ?_)))
        refine (?_ : R (_, _, (.int (Int32.ofInt v62)) :: [], w54, 0 + mc1 + mc29, 0 + ms1 + ms29))
        obtain ⟨hTf65, hIf65, hpf65, hKf65⟩ := top_fr2 hT hw54 fr56 (by decide) aw59
        exact hR (zret_i rfl (Nat.le_refl _) trivial ⟨⟨_, hTf65, fun l m h => hIf65 _ _ (hI29 _ _ (hIt29 _ _ (hI1 _ _ (hIt1 _ _ (h))))), (KEEP2_tr hKt1 (KEEP2_tr hK1 (KEEP2_tr hKt29 (KEEP2_tr hK29 hKf65)))), (EXT_tr hx1 hx29), by omega, by omega⟩, _, rfl⟩)
      refine hR (?_ : R (_, _, _, _, _, _))
      refine hR (k_ne (by omega) (fun hc66 => ?_) (fun hc66 => ?_))
      rotate_left
      · skip
        refine hR (?_ : R (_, _, _, _, _, _))
        obtain ⟨hTf111, hIf111, hpf111, hKf111⟩ := top_fr2 hT hT.1 fr3 (by decide) hT.2.2.1
        exact hR (zret_i rfl (Nat.le_refl _) trivial ⟨⟨_, hTf111, fun l m h => hIf111 _ _ (hI1 _ _ (hIt1 _ _ (h))), (KEEP2_tr hKt1 (KEEP2_tr hK1 hKf111)), hx1, by omega, by omega⟩, _, rfl⟩)
      refine hR (?_ : R (_, _, _, _, _, _))
      obtain ⟨y6_68, y7_68, hO68, hk68_0, hk68_1, hk68_2, hk68_3, hk68_4, hk68_5, hk68_6, hk68_7⟩ := CI_o1 hT.1 hT.2.1
      obtain ⟨hTt67, hIt67, hpt67, hKt67⟩ := top_fr2 hT hT.1 fr3 (by decide) hT.2.2.1
      obtain ⟨mc67, ms67, re67, w, ⟨ρ, z67, hA67, hre67, hz67, hlv67⟩, hrun67⟩ := a_levelsThere hTt67 (d + 3)
      subst hre67
      refine hR0 (0 + mc1 + mc67) (0 + ms1 + ms67) (Nat.le_add_right _ _) (Nat.le_add_right _ _) (c_obj hO68 (zcall_i mc67 ms67 (Nat.le_refl _) (Nat.le_refl _) (hrun67 _ ?_)))
      obtain ⟨hT, hI67, hK67, hx67, hm67, hs67⟩ := hA67
      have hl69 : ρ z1 = 50 := (hx67 z1 (by rw [hz1]; decide)).trans hz1
      have fr70 := wfR_rf [51, 70, 71, 72, 73, 74, 75, 76] ρ w
      refine (?_ : R (_, _, (.ref z67) :: [], w, 0 + mc1 + mc67, 0 + ms1 + ms67))
      iterate 2 refine hR (?_ : R (_, _, _, _, _, _))
      obtain ⟨y0_72, x1_72, x2_72, x3_72, hO72, hk72_0, hk72_1, hk72_2, hk72_3, hk72_4, hk72_5, hk72_6, hk72_7, hk72_8, hk72_9⟩ := CI_o70 hT.1 hz67
      refine hR (c_obj hO72 (zcall_i 0 0 (Nat.le_refl _) (Nat.le_refl _) (c_wantNothing _ z67 hT.1 hz67 _ fun w71 hw71 g71 => ?_)))
      have fr73 := wfR_tr fr70 g71 (by decide)
      have hO74 := (g71.2 z67 (by rw [hz67]; decide)).trans hO72
      refine (?_ : R (_, _, [], w71, 0 + mc1 + mc67, 0 + ms1 + ms67))
      have aw75 := AWK_fr hT.1 g71 hT.2.2.1 (by decide)
      have hlx76 := LVp_eq (g71.2 0 (by rw [hT.2.1]; decide)) hlv67
      iterate 5 refine hR (?_ : R (_, _, _, _, _, _))
      refine hR (c_obj hO74 (zcall_i 0 0 (Nat.le_refl _) (Nat.le_refl _) (c_spread _ z67 z1 a2 a4 a5 hw71 hz67 hl69 (by omega) (by omega) (by omega) (aw75.2 hT.2.1 _ hlx76) _ fun w77 hw77 g77 hn78 hp79 hp80 => ?_)))
      have fr81 := wfR_tr fr73 g77 (by decide)
      refine (?_ : R (_, _, [], w77, 0 + mc1 + mc67, 0 + ms1 + ms67))
      have aw82 := AWK_lv hw71 g77 aw75 (by decide) hlx76 hp79
      have hlx83 := LVp_eq (g77.2 0 (by rw [hT.2.1]; decide)) hlx76
      iterate 2 refine hR (?_ : R (_, _, _, _, _, _))
      obtain ⟨y0_85, x1_85, x2_85, x3_85, hO85, hk85_0, hk85_1, hk85_2, hk85_3, hk85_4, hk85_5, hk85_6, hk85_7, hk85_8, hk85_9⟩ := CI_o70 hw77 hz67
      refine hR (c_obj hO85 (zcall_i 0 0 (Nat.le_refl _) (Nat.le_refl _) (c_endByWord _ z67 a3 hw77 hz67 hn78 (by omega) _ fun w84 hw84 g84 => ?_)))
      have fr86 := wfR_tr fr81 g84 (by decide)
      have hn87 := nn_eq (g84.2 z67 (by rw [hz67]; decide)) hn78
      have hO88 := (g84.2 z67 (by rw [hz67]; decide)).trans hO85
      refine (?_ : R (_, _, [], w84, 0 + mc1 + mc67, 0 + ms1 + ms67))
      have aw89 := AWK_fr hw77 g84 aw82 (by decide)
      have hlx90 := LVp_eq (g84.2 0 (by rw [hT.2.1]; decide)) hlx83
      have sp91 := SPN_eq (g84.2 z67 (by rw [hz67]; decide)) (g84.2 (z67 + 1) (by rw [hk85_4]; decide)) hp80
      iterate 3 refine hR (?_ : R (_, _, _, _, _, _))
      refine hR (c_obj hO88 (zcall_i 0 0 (Nat.le_refl _) (Nat.le_refl _) (c_foldBack _ z67 1 0 hw84 hz67 hn87 (by omega) (by omega) (aw89.2 hT.2.1 _ hlx90) _ fun w92 hw92 g92 hp93 => ?_)))
      have fr94 := wfR_tr fr86 g92 (by decide)
      have hn95 := nn_eq (g92.2 z67 (by rw [hz67]; decide)) hn87
      have hO96 := (g92.2 z67 (by rw [hz67]; decide)).trans hO88
      refine (?_ : R (_, _, [], w92, 0 + mc1 + mc67, 0 + ms1 + ms67))
      have aw97 := AWK_lv hw84 g92 aw89 (by decide) hlx90 hp93
      have hlx98 := LVp_eq (g92.2 0 (by rw [hT.2.1]; decide)) hlx90
      have sp99 := SPN_eq (g92.2 z67 (by rw [hz67]; decide)) (g92.2 (z67 + 1) (by rw [hk85_4]; decide)) sp91
      refine hR (?_ : R (_, _, _, _, _, _))
      refine hR (k_eq (by omega) (fun hc => by omega) (fun _ => ?_))
      iterate 2 refine hR (?_ : R (_, _, _, _, _, _))
      refine hR (c_obj hO96 (zcall_i 0 0 (Nat.le_refl _) (Nat.le_refl _) (c_chosenAt _ z67 0 hw92 hz67 hn95 (by omega) (aw97.2 hT.2.1 _ hlx98) _ fun v100 w101 hw101 g101 hp102 hp103 => ?_)))
      have fr104 := wfR_tr fr94 g101 (by decide)
      have hn105 := nn_eq (g101.2 z67 (by rw [hz67]; decide)) hn95
      have hO106 := (g101.2 z67 (by rw [hz67]; decide)).trans hO96
      refine (?_ : R (_, _, (.int (Int32.ofInt v100)) :: [], w101, 0 + mc1 + mc67, 0 + ms1 + ms67))
      have aw107 := AWK_lv hw92 g101 aw97 (by decide) hlx98 hp102
      have hlx108 := LVp_eq (g101.2 0 (by rw [hT.2.1]; decide)) hlx98
      have sp109 := SPN_eq (g101.2 z67 (by rw [hz67]; decide)) (g101.2 (z67 + 1) (by rw [hk85_4]; decide)) sp99
      refine hR (?_ : R (_, _, _, _, _, _))
      obtain ⟨hTf110, hIf110, hpf110, hKf110⟩ := top_fr2 hT hw101 fr104 (by decide) aw107
      exact hR (zret_i rfl (Nat.le_refl _) trivial ⟨⟨_, hTf110, fun l m h => hIf110 _ _ (hI67 _ _ (hIt67 _ _ (hI1 _ _ (hIt1 _ _ (h))))), (KEEP2_tr hKt1 (KEEP2_tr hK1 (KEEP2_tr hKt67 (KEEP2_tr hK67 hKf110)))), (EXT_tr hx1 hx67), by omega, by omega⟩, _, rfl⟩)
    iterate 2 refine hR (?_ : R (_, _, _, _, _, _))
    refine hR (j_ne (by omega) (by omega) (fun hc112 => ?_) (fun hc112 => ?_))
    · skip
      refine hR (?_ : R (_, _, _, _, _, _))
      obtain ⟨hTf113, hIf113, hpf113, hKf113⟩ := top_fr2 hT hT.1 fr3 (by decide) hT.2.2.1
      exact hR (zret_i rfl (Nat.le_refl _) trivial ⟨⟨_, hTf113, fun l m h => hIf113 _ _ (hI1 _ _ (hIt1 _ _ (h))), (KEEP2_tr hKt1 (KEEP2_tr hK1 hKf113)), hx1, by omega, by omega⟩, _, rfl⟩)
    refine hR (?_ : R (_, _, _, _, _, _))
    refine hR (k_eq (by omega) (fun hc114 => ?_) (fun hc114 => ?_))
    · skip
      refine hR (?_ : R (_, _, _, _, _, _))
      obtain ⟨y6_116, y7_116, hO116, hk116_0, hk116_1, hk116_2, hk116_3, hk116_4, hk116_5, hk116_6, hk116_7⟩ := CI_o1 hT.1 hT.2.1
      obtain ⟨hTt115, hIt115, hpt115, hKt115⟩ := top_fr2 hT hT.1 fr3 (by decide) hT.2.2.1
      obtain ⟨mc115, ms115, re115, w, ⟨ρ, z115, hA115, hre115, hz115, hlv115⟩, hrun115⟩ := a_levelsThere hTt115 (d + 3)
      subst hre115
      refine hR0 (0 + mc1 + mc115) (0 + ms1 + ms115) (Nat.le_add_right _ _) (Nat.le_add_right _ _) (c_obj hO116 (zcall_i mc115 ms115 (Nat.le_refl _) (Nat.le_refl _) (hrun115 _ ?_)))
      obtain ⟨hT, hI115, hK115, hx115, hm115, hs115⟩ := hA115
      have hl117 : ρ z1 = 50 := (hx115 z1 (by rw [hz1]; decide)).trans hz1
      have fr118 := wfR_rf [51, 70, 71, 72, 73, 74, 75, 76] ρ w
      refine (?_ : R (_, _, (.ref z115) :: [], w, 0 + mc1 + mc115, 0 + ms1 + ms115))
      iterate 2 refine hR (?_ : R (_, _, _, _, _, _))
      obtain ⟨y0_120, x1_120, x2_120, x3_120, hO120, hk120_0, hk120_1, hk120_2, hk120_3, hk120_4, hk120_5, hk120_6, hk120_7, hk120_8, hk120_9⟩ := CI_o70 hT.1 hz115
      refine hR (c_obj hO120 (zcall_i 0 0 (Nat.le_refl _) (Nat.le_refl _) (c_wantNothing _ z115 hT.1 hz115 _ fun w119 hw119 g119 => ?_)))
      have fr121 := wfR_tr fr118 g119 (by decide)
      have hO122 := (g119.2 z115 (by rw [hz115]; decide)).trans hO120
      refine (?_ : R (_, _, [], w119, 0 + mc1 + mc115, 0 + ms1 + ms115))
      have aw123 := AWK_fr hT.1 g119 hT.2.2.1 (by decide)
      have hlx124 := LVp_eq (g119.2 0 (by rw [hT.2.1]; decide)) hlv115
      iterate 5 refine hR (?_ : R (_, _, _, _, _, _))
      refine hR (c_obj hO122 (zcall_i 0 0 (Nat.le_refl _) (Nat.le_refl _) (c_spread _ z115 z1 a2 a4 a5 hw119 hz115 hl117 (by omega) (by omega) (by omega) (aw123.2 hT.2.1 _ hlx124) _ fun w125 hw125 g125 hn126 hp127 hp128 => ?_)))
      have fr129 := wfR_tr fr121 g125 (by decide)
      refine (?_ : R (_, _, [], w125, 0 + mc1 + mc115, 0 + ms1 + ms115))
      have aw130 := AWK_lv hw119 g125 aw123 (by decide) hlx124 hp127
      have hlx131 := LVp_eq (g125.2 0 (by rw [hT.2.1]; decide)) hlx124
      iterate 2 refine hR (?_ : R (_, _, _, _, _, _))
      obtain ⟨y0_133, x1_133, x2_133, x3_133, hO133, hk133_0, hk133_1, hk133_2, hk133_3, hk133_4, hk133_5, hk133_6, hk133_7, hk133_8, hk133_9⟩ := CI_o70 hw125 hz115
      refine hR (c_obj hO133 (zcall_i 0 0 (Nat.le_refl _) (Nat.le_refl _) (c_endByWord _ z115 a3 hw125 hz115 hn126 (by omega) _ fun w132 hw132 g132 => ?_)))
      have fr134 := wfR_tr fr129 g132 (by decide)
      have hn135 := nn_eq (g132.2 z115 (by rw [hz115]; decide)) hn126
      have hO136 := (g132.2 z115 (by rw [hz115]; decide)).trans hO133
      refine (?_ : R (_, _, [], w132, 0 + mc1 + mc115, 0 + ms1 + ms115))
      have aw137 := AWK_fr hw125 g132 aw130 (by decide)
      have hlx138 := LVp_eq (g132.2 0 (by rw [hT.2.1]; decide)) hlx131
      have sp139 := SPN_eq (g132.2 z115 (by rw [hz115]; decide)) (g132.2 (z115 + 1) (by rw [hk133_4]; decide)) hp128
      iterate 3 refine hR (?_ : R (_, _, _, _, _, _))
      refine hR (c_obj hO136 (zcall_i 0 0 (Nat.le_refl _) (Nat.le_refl _) (c_foldBack _ z115 1 0 hw132 hz115 hn135 (by omega) (by omega) (aw137.2 hT.2.1 _ hlx138) _ fun w140 hw140 g140 hp141 => ?_)))
      have fr142 := wfR_tr fr134 g140 (by decide)
      have hn143 := nn_eq (g140.2 z115 (by rw [hz115]; decide)) hn135
      have hO144 := (g140.2 z115 (by rw [hz115]; decide)).trans hO136
      refine (?_ : R (_, _, [], w140, 0 + mc1 + mc115, 0 + ms1 + ms115))
      have aw145 := AWK_lv hw132 g140 aw137 (by decide) hlx138 hp141
      have hlx146 := LVp_eq (g140.2 0 (by rw [hT.2.1]; decide)) hlx138
      have sp147 := SPN_eq (g140.2 z115 (by rw [hz115]; decide)) (g140.2 (z115 + 1) (by rw [hk133_4]; decide)) sp139
      refine hR (?_ : R (_, _, _, _, _, _))
      refine hR (k_eq (by omega) (fun _ => ?_) (fun hc => by omega))
      refine hR (?_ : R (_, _, _, _, _, _))
      refine hR (c_obj hO144 (zcall_i 0 0 (Nat.le_refl _) (Nat.le_refl _) (c_bestStart _ z115 hw140 hz115 _ fun v148 hp150 => ?_)))
      refine (?_ : R (_, _, (.int (Int32.ofInt v148)) :: [], w140, 0 + mc1 + mc115, 0 + ms1 + ms115))
      obtain ⟨hTf151, hIf151, hpf151, hKf151⟩ := top_fr2 hT hw140 fr142 (by decide) aw145
      exact hR (zret_i rfl (Nat.le_refl _) trivial ⟨⟨_, hTf151, fun l m h => hIf151 _ _ (hI115 _ _ (hIt115 _ _ (hI1 _ _ (hIt1 _ _ (h))))), (KEEP2_tr hKt1 (KEEP2_tr hK1 (KEEP2_tr hKt115 (KEEP2_tr hK115 hKf151)))), (EXT_tr hx1 hx115), by omega, by omega⟩, _, rfl⟩)
    refine hR (?_ : R (_, _, _, _, _, _))
    refine hR (k_ne (by omega) (fun hc152 => ?_) (fun hc152 => ?_))
    rotate_left
    · skip
      refine hR (?_ : R (_, _, _, _, _, _))
      obtain ⟨hTf197, hIf197, hpf197, hKf197⟩ := top_fr2 hT hT.1 fr3 (by decide) hT.2.2.1
      exact hR (zret_i rfl (Nat.le_refl _) trivial ⟨⟨_, hTf197, fun l m h => hIf197 _ _ (hI1 _ _ (hIt1 _ _ (h))), (KEEP2_tr hKt1 (KEEP2_tr hK1 hKf197)), hx1, by omega, by omega⟩, _, rfl⟩)
    refine hR (?_ : R (_, _, _, _, _, _))
    obtain ⟨y6_154, y7_154, hO154, hk154_0, hk154_1, hk154_2, hk154_3, hk154_4, hk154_5, hk154_6, hk154_7⟩ := CI_o1 hT.1 hT.2.1
    obtain ⟨hTt153, hIt153, hpt153, hKt153⟩ := top_fr2 hT hT.1 fr3 (by decide) hT.2.2.1
    obtain ⟨mc153, ms153, re153, w, ⟨ρ, z153, hA153, hre153, hz153, hlv153⟩, hrun153⟩ := a_levelsThere hTt153 (d + 3)
    subst hre153
    refine hR0 (0 + mc1 + mc153) (0 + ms1 + ms153) (Nat.le_add_right _ _) (Nat.le_add_right _ _) (c_obj hO154 (zcall_i mc153 ms153 (Nat.le_refl _) (Nat.le_refl _) (hrun153 _ ?_)))
    obtain ⟨hT, hI153, hK153, hx153, hm153, hs153⟩ := hA153
    have hl155 : ρ z1 = 50 := (hx153 z1 (by rw [hz1]; decide)).trans hz1
    have fr156 := wfR_rf [51, 70, 71, 72, 73, 74, 75, 76] ρ w
    refine (?_ : R (_, _, (.ref z153) :: [], w, 0 + mc1 + mc153, 0 + ms1 + ms153))
    iterate 2 refine hR (?_ : R (_, _, _, _, _, _))
    obtain ⟨y0_158, x1_158, x2_158, x3_158, hO158, hk158_0, hk158_1, hk158_2, hk158_3, hk158_4, hk158_5, hk158_6, hk158_7, hk158_8, hk158_9⟩ := CI_o70 hT.1 hz153
    refine hR (c_obj hO158 (zcall_i 0 0 (Nat.le_refl _) (Nat.le_refl _) (c_wantNothing _ z153 hT.1 hz153 _ fun w157 hw157 g157 => ?_)))
    have fr159 := wfR_tr fr156 g157 (by decide)
    have hO160 := (g157.2 z153 (by rw [hz153]; decide)).trans hO158
    refine (?_ : R (_, _, [], w157, 0 + mc1 + mc153, 0 + ms1 + ms153))
    have aw161 := AWK_fr hT.1 g157 hT.2.2.1 (by decide)
    have hlx162 := LVp_eq (g157.2 0 (by rw [hT.2.1]; decide)) hlv153
    iterate 5 refine hR (?_ : R (_, _, _, _, _, _))
    refine hR (c_obj hO160 (zcall_i 0 0 (Nat.le_refl _) (Nat.le_refl _) (c_spread _ z153 z1 a2 a4 a5 hw157 hz153 hl155 (by omega) (by omega) (by omega) (aw161.2 hT.2.1 _ hlx162) _ fun w163 hw163 g163 hn164 hp165 hp166 => ?_)))
    have fr167 := wfR_tr fr159 g163 (by decide)
    refine (?_ : R (_, _, [], w163, 0 + mc1 + mc153, 0 + ms1 + ms153))
    have aw168 := AWK_lv hw157 g163 aw161 (by decide) hlx162 hp165
    have hlx169 := LVp_eq (g163.2 0 (by rw [hT.2.1]; decide)) hlx162
    iterate 2 refine hR (?_ : R (_, _, _, _, _, _))
    obtain ⟨y0_171, x1_171, x2_171, x3_171, hO171, hk171_0, hk171_1, hk171_2, hk171_3, hk171_4, hk171_5, hk171_6, hk171_7, hk171_8, hk171_9⟩ := CI_o70 hw163 hz153
    refine hR (c_obj hO171 (zcall_i 0 0 (Nat.le_refl _) (Nat.le_refl _) (c_endByWord _ z153 a3 hw163 hz153 hn164 (by omega) _ fun w170 hw170 g170 => ?_)))
    have fr172 := wfR_tr fr167 g170 (by decide)
    have hn173 := nn_eq (g170.2 z153 (by rw [hz153]; decide)) hn164
    have hO174 := (g170.2 z153 (by rw [hz153]; decide)).trans hO171
    refine (?_ : R (_, _, [], w170, 0 + mc1 + mc153, 0 + ms1 + ms153))
    have aw175 := AWK_fr hw163 g170 aw168 (by decide)
    have hlx176 := LVp_eq (g170.2 0 (by rw [hT.2.1]; decide)) hlx169
    have sp177 := SPN_eq (g170.2 z153 (by rw [hz153]; decide)) (g170.2 (z153 + 1) (by rw [hk171_4]; decide)) hp166
    iterate 3 refine hR (?_ : R (_, _, _, _, _, _))
    refine hR (c_obj hO174 (zcall_i 0 0 (Nat.le_refl _) (Nat.le_refl _) (c_foldBack _ z153 1 0 hw170 hz153 hn173 (by omega) (by omega) (aw175.2 hT.2.1 _ hlx176) _ fun w178 hw178 g178 hp179 => ?_)))
    have fr180 := wfR_tr fr172 g178 (by decide)
    have hn181 := nn_eq (g178.2 z153 (by rw [hz153]; decide)) hn173
    have hO182 := (g178.2 z153 (by rw [hz153]; decide)).trans hO174
    refine (?_ : R (_, _, [], w178, 0 + mc1 + mc153, 0 + ms1 + ms153))
    have aw183 := AWK_lv hw170 g178 aw175 (by decide) hlx176 hp179
    have hlx184 := LVp_eq (g178.2 0 (by rw [hT.2.1]; decide)) hlx176
    have sp185 := SPN_eq (g178.2 z153 (by rw [hz153]; decide)) (g178.2 (z153 + 1) (by rw [hk171_4]; decide)) sp177
    refine hR (?_ : R (_, _, _, _, _, _))
    refine hR (k_eq (by omega) (fun hc => by omega) (fun _ => ?_))
    iterate 2 refine hR (?_ : R (_, _, _, _, _, _))
    refine hR (c_obj hO182 (zcall_i 0 0 (Nat.le_refl _) (Nat.le_refl _) (c_chosenAt _ z153 0 hw178 hz153 hn181 (by omega) (aw183.2 hT.2.1 _ hlx184) _ fun v186 w187 hw187 g187 hp188 hp189 => ?_)))
    have fr190 := wfR_tr fr180 g187 (by decide)
    have hn191 := nn_eq (g187.2 z153 (by rw [hz153]; decide)) hn181
    have hO192 := (g187.2 z153 (by rw [hz153]; decide)).trans hO182
    refine (?_ : R (_, _, (.int (Int32.ofInt v186)) :: [], w187, 0 + mc1 + mc153, 0 + ms1 + ms153))
    have aw193 := AWK_lv hw178 g187 aw183 (by decide) hlx184 hp188
    have hlx194 := LVp_eq (g187.2 0 (by rw [hT.2.1]; decide)) hlx184
    have sp195 := SPN_eq (g187.2 z153 (by rw [hz153]; decide)) (g187.2 (z153 + 1) (by rw [hk171_4]; decide)) sp185
    refine hR (?_ : R (_, _, _, _, _, _))
    obtain ⟨hTf196, hIf196, hpf196, hKf196⟩ := top_fr2 hT hw187 fr190 (by decide) aw193
    exact hR (zret_i rfl (Nat.le_refl _) trivial ⟨⟨_, hTf196, fun l m h => hIf196 _ _ (hI153 _ _ (hIt153 _ _ (hI1 _ _ (hIt1 _ _ (h))))), (KEEP2_tr hKt1 (KEEP2_tr hK1 (KEEP2_tr hKt153 (KEEP2_tr hK153 hKf196)))), (EXT_tr hx1 hx153), by omega, by omega⟩, _, rfl⟩)
theorem k_fits {ρ : Nat → Nat} {w : zW} (hT : TOP ρ w) (d : Nat) (a1 a2 a3 a4 : Int) (hr0 : -2147483648 ≤ a1 ∧ a1 ≤ 2147483647) (hr1 : -2147483648 ≤ a2 ∧ a2 ≤ 2147483647) (hr2 : -2147483648 ≤ a3 ∧ a3 ≤ 2147483647) (hr3 : -2147483648 ≤ a4 ∧ a4 ≤ 2147483647) : DET zTab (d + 7) iX11_fits [.ref 0, .int (Int32.ofInt a1), .int (Int32.ofInt a2), .int (Int32.ofInt a3), .int (Int32.ofInt a4)] w (PB ρ w) := by
  refine z_rel (M := kX11_fits) _ rfl (Nat.le_of_ble_eq_true rfl) fun R hR0 => ?_
  have hR : ∀ {pc : Nat} {L : zL} {S : List Value} {w1 : zW} {k n : Nat}, zsc (zCl zTab (d + 6)) (d + 6) kX11_fits none zTab k n (PB ρ w k n) pc L S w1 k n R → R (pc, L, S, w1, k, n) := fun h => hR0 _ _ (Nat.le_refl _) (Nat.le_refl _) h
  have fr0 := wfR_rf [51, 70, 71, 72, 73, 74, 75, 76] ρ w
  iterate 2 refine hR (?_ : R (_, _, _, _, _, _))
  obtain ⟨y6_2, y7_2, hO2, hk2_0, hk2_1, hk2_2, hk2_3, hk2_4, hk2_5, hk2_6, hk2_7⟩ := CI_o1 hT.1 hT.2.1
  obtain ⟨hTt1, hIt1, hpt1, hKt1⟩ := top_fr2 hT hT.1 fr0 (by decide) hT.2.2.1
  obtain ⟨mc1, ms1, re1, w, ⟨ρ, hA1, hr_1⟩, hrun1⟩ := a_readingsAt hTt1 (d + 3) a1 (by omega)
  refine hR0 (0 + mc1) (0 + ms1) (Nat.le_add_right _ _) (Nat.le_add_right _ _) (c_obj hO2 (zcall_i mc1 ms1 (Nat.le_refl _) (Nat.le_refl _) (hrun1 _ ?_)))
  obtain ⟨hT, hI1, hK1, hx1, hm1, hs1⟩ := hA1
  have fr3 := wfR_rf [51, 70, 71, 72, 73, 74, 75, 76] ρ w
  rcases hr_1 with rfl | ⟨z1, rfl, hz1⟩
  · skip
    refine (?_ : R (_, _, .null :: [], w, 0 + mc1, 0 + ms1))
    iterate 3 refine hR (?_ : R (_, _, _, _, _, _))
    obtain ⟨y6_7, y7_7, hO7, hk7_0, hk7_1, hk7_2, hk7_3, hk7_4, hk7_5, hk7_6, hk7_7⟩ := CI_o1 hT.1 hT.2.1
    refine hR (c_obj hO7 (zcall_i 0 0 (Nat.le_refl _) (Nat.le_refl _) (c_sightAt _ a2 hT.1 hT.2.1 (by omega) _ fun v4 hv4 hp6 => ?_)))
    cases v4 with
    | none =>
      refine (?_ : R (_, _, .null :: [], w, 0 + mc1, 0 + ms1))
      iterate 4 refine hR (?_ : R (_, _, _, _, _, _))
      obtain ⟨hTf9, hIf9, hpf9, hKf9⟩ := top_fr2 hT hT.1 fr3 (by decide) hT.2.2.1
      exact hR (zret_i rfl (Nat.le_refl _) trivial ⟨⟨_, hTf9, fun l m h => hIf9 _ _ (hI1 _ _ (hIt1 _ _ (h))), (KEEP2_tr hKt1 (KEEP2_tr hK1 hKf9)), hx1, by omega, by omega⟩, _, rfl⟩)
    | some z8 =>
      have hz8 : ρ z8 = 40 := hv4 z8 rfl
      refine (?_ : R (_, _, (.ref z8) :: [], w, 0 + mc1, 0 + ms1))
      iterate 4 refine hR (?_ : R (_, _, _, _, _, _))
      obtain ⟨hTf10, hIf10, hpf10, hKf10⟩ := top_fr2 hT hT.1 fr3 (by decide) hT.2.2.1
      exact hR (zret_i rfl (Nat.le_refl _) trivial ⟨⟨_, hTf10, fun l m h => hIf10 _ _ (hI1 _ _ (hIt1 _ _ (h))), (KEEP2_tr hKt1 (KEEP2_tr hK1 hKf10)), hx1, by omega, by omega⟩, _, rfl⟩)
  · skip
    refine (?_ : R (_, _, (.ref z1) :: [], w, 0 + mc1, 0 + ms1))
    iterate 3 refine hR (?_ : R (_, _, _, _, _, _))
    obtain ⟨y6_14, y7_14, hO14, hk14_0, hk14_1, hk14_2, hk14_3, hk14_4, hk14_5, hk14_6, hk14_7⟩ := CI_o1 hT.1 hT.2.1
    refine hR (c_obj hO14 (zcall_i 0 0 (Nat.le_refl _) (Nat.le_refl _) (c_sightAt _ a2 hT.1 hT.2.1 (by omega) _ fun v11 hv11 hp13 => ?_)))
    cases v11 with
    | none =>
      refine (?_ : R (_, _, .null :: [], w, 0 + mc1, 0 + ms1))
      iterate 6 refine hR (?_ : R (_, _, _, _, _, _))
      obtain ⟨hTf16, hIf16, hpf16, hKf16⟩ := top_fr2 hT hT.1 fr3 (by decide) hT.2.2.1
      exact hR (zret_i rfl (Nat.le_refl _) trivial ⟨⟨_, hTf16, fun l m h => hIf16 _ _ (hI1 _ _ (hIt1 _ _ (h))), (KEEP2_tr hKt1 (KEEP2_tr hK1 hKf16)), hx1, by omega, by omega⟩, _, rfl⟩)
    | some z15 =>
      have hz15 : ρ z15 = 40 := hv11 z15 rfl
      refine (?_ : R (_, _, (.ref z15) :: [], w, 0 + mc1, 0 + ms1))
      iterate 6 refine hR (?_ : R (_, _, _, _, _, _))
      refine hR (zcall_i 0 0 (Nat.le_refl _) (Nat.le_refl _) (c_isSpan _ _ a3 (by omega) _ fun v17 hp19 => ?_))
      refine (?_ : R (_, _, (.int (Int32.ofInt v17)) :: [], w, 0 + mc1, 0 + ms1))
      refine hR (k_eq (by omega) (fun hc20 => ?_) (fun hc20 => ?_))
      · skip
        refine hR (?_ : R (_, _, _, _, _, _))
        obtain ⟨hTf21, hIf21, hpf21, hKf21⟩ := top_fr2 hT hT.1 fr3 (by decide) hT.2.2.1
        exact hR (zret_i rfl (Nat.le_refl _) trivial ⟨⟨_, hTf21, fun l m h => hIf21 _ _ (hI1 _ _ (hIt1 _ _ (h))), (KEEP2_tr hKt1 (KEEP2_tr hK1 hKf21)), hx1, by omega, by omega⟩, _, rfl⟩)
      iterate 2 refine hR (?_ : R (_, _, _, _, _, _))
      refine hR (j_eq (by omega) (by omega) (fun hc22 => ?_) (fun hc22 => ?_))
      · skip
        refine hR (?_ : R (_, _, _, _, _, _))
        obtain ⟨hTt23, hIt23, hpt23, hKt23⟩ := top_fr2 hT hT.1 fr3 (by decide) hT.2.2.1
        obtain ⟨mc23, ms23, re23, w, ⟨ρ, z23, hA23, hre23, hz23, hlv23⟩, hrun23⟩ := a_levelsThere hTt23 (d + 3)
        subst hre23
        refine hR0 (0 + mc1 + mc23) (0 + ms1 + ms23) (Nat.le_add_right _ _) (Nat.le_add_right _ _) (c_obj hO14 (zcall_i mc23 ms23 (Nat.le_refl _) (Nat.le_refl _) (hrun23 _ ?_)))
        obtain ⟨hT, hI23, hK23, hx23, hm23, hs23⟩ := hA23
        have hl24 : ρ z1 = 50 := (hx23 z1 (by rw [hz1]; decide)).trans hz1
        have hl25 : ρ z15 = 40 := (hx23 z15 (by rw [hz15]; decide)).trans hz15
        have fr26 := wfR_rf [51, 70, 71, 72, 73, 74, 75, 76] ρ w
        refine (?_ : R (_, _, (.ref z23) :: [], w, 0 + mc1 + mc23, 0 + ms1 + ms23))
        iterate 3 refine hR (?_ : R (_, _, _, _, _, _))
        obtain ⟨y0_28, x1_28, x2_28, x3_28, hO28, hk28_0, hk28_1, hk28_2, hk28_3, hk28_4, hk28_5, hk28_6, hk28_7, hk28_8, hk28_9⟩ := CI_o70 hT.1 hz23
        refine hR (c_obj hO28 (zcall_i 0 0 (Nat.le_refl _) (Nat.le_refl _) (c_want _ z23 z15 hT.1 hz23 hl25 _ fun w27 hw27 g27 => ?_)))
        have fr29 := wfR_tr fr26 g27 (by decide)
        have hO30 := (g27.2 z23 (by rw [hz23]; decide)).trans hO28
        refine (?_ : R (_, _, [], w27, 0 + mc1 + mc23, 0 + ms1 + ms23))
        have aw31 := AWK_fr hT.1 g27 hT.2.2.1 (by decide)
        have hlx32 := LVp_eq (g27.2 0 (by rw [hT.2.1]; decide)) hlv23
        iterate 4 refine hR (?_ : R (_, _, _, _, _, _))
        obtain ⟨z0_36, z2_36, z3_36, hO36, hk36_0, hk36_1, hk36_2, hk36_3, hk36_4⟩ := CI_o50 hw27 hl24
        refine hR (c_obj hO36 (zcall_i 0 0 (Nat.le_refl _) (Nat.le_refl _) (c_all _ z1 hw27 hl24 _ fun v33 hp35 => ?_)))
        refine (?_ : R (_, _, (.int (Int32.ofInt v33)) :: (.int (Int32.ofInt a3)) :: (.ref z1) :: (.ref z23) :: [], w27, 0 + mc1 + mc23, 0 + ms1 + ms23))
        refine hR (?_ : R (_, _, _, _, _, _))
        refine hR (c_obj hO36 (zcall_i 0 0 (Nat.le_refl _) (Nat.le_refl _) (c_all _ z1 hw27 hl24 _ fun v37 hp39 => ?_)))
        refine (?_ : R (_, _, (.int (Int32.ofInt v37)) :: (.int (Int32.ofInt v33)) :: (.int (Int32.ofInt a3)) :: (.ref z1) :: (.ref z23) :: [], w27, 0 + mc1 + mc23, 0 + ms1 + ms23))
        refine hR (c_obj hO30 (zcall_i 0 0 (Nat.le_refl _) (Nat.le_refl _) (c_spread _ z23 z1 a3 v33 v37 hw27 hz23 hl24 (by omega) (by omega) (by omega) (aw31.2 hT.2.1 _ hlx32) _ fun w40 hw40 g40 hn41 hp42 hp43 => ?_)))
        have fr44 := wfR_tr fr29 g40 (by decide)
        have hO45 := (g40.2 z1 (by rw [hl24]; decide)).trans hO36
        refine (?_ : R (_, _, [], w40, 0 + mc1 + mc23, 0 + ms1 + ms23))
        have aw46 := AWK_lv hw27 g40 aw31 (by decide) hlx32 hp42
        have hlx47 := LVp_eq (g40.2 0 (by rw [hT.2.1]; decide)) hlx32
        iterate 2 refine hR (?_ : R (_, _, _, _, _, _))
        refine hR (j_ne (by omega) (by omega) (fun hc => by omega) (fun _ => ?_))
        refine hR (?_ : R (_, _, _, _, _, _))
        obtain ⟨y0_51, x1_51, x2_51, x3_51, hO51, hk51_0, hk51_1, hk51_2, hk51_3, hk51_4, hk51_5, hk51_6, hk51_7, hk51_8, hk51_9⟩ := CI_o70 hw40 hz23
        refine hR (c_obj hO51 (zcall_i 0 0 (Nat.le_refl _) (Nat.le_refl _) (c_rows _ z23 hw40 hz23 _ fun v48 hp50 => ?_)))
        refine (?_ : R (_, _, (.int (Int32.ofInt v48)) :: [], w40, 0 + mc1 + mc23, 0 + ms1 + ms23))
        refine hR (?_ : R (_, _, _, _, _, _))
        obtain ⟨hTf52, hIf52, hpf52, hKf52⟩ := top_fr2 hT hw40 fr44 (by decide) aw46
        exact hR (zret_i rfl (Nat.le_refl _) trivial ⟨⟨_, hTf52, fun l m h => hIf52 _ _ (hI23 _ _ (hIt23 _ _ (hI1 _ _ (hIt1 _ _ (h))))), (KEEP2_tr hKt1 (KEEP2_tr hK1 (KEEP2_tr hKt23 (KEEP2_tr hK23 hKf52)))), (EXT_tr hx1 hx23), by omega, by omega⟩, _, rfl⟩)
      refine hR (?_ : R (_, _, _, _, _, _))
      refine hR (zcall_i 0 0 (Nat.le_refl _) (Nat.le_refl _) (c_isText _ _ a4 (by omega) _ fun v53 hp55 => ?_))
      refine (?_ : R (_, _, (.int (Int32.ofInt v53)) :: [], w, 0 + mc1, 0 + ms1))
      refine hR (k_ne (by omega) (fun hc56 => ?_) (fun hc56 => ?_))
      rotate_left
      · skip
        refine hR (?_ : R (_, _, _, _, _, _))
        obtain ⟨hTf87, hIf87, hpf87, hKf87⟩ := top_fr2 hT hT.1 fr3 (by decide) hT.2.2.1
        exact hR (zret_i rfl (Nat.le_refl _) trivial ⟨⟨_, hTf87, fun l m h => hIf87 _ _ (hI1 _ _ (hIt1 _ _ (h))), (KEEP2_tr hKt1 (KEEP2_tr hK1 hKf87)), hx1, by omega, by omega⟩, _, rfl⟩)
      refine hR (?_ : R (_, _, _, _, _, _))
      obtain ⟨hTt57, hIt57, hpt57, hKt57⟩ := top_fr2 hT hT.1 fr3 (by decide) hT.2.2.1
      obtain ⟨mc57, ms57, re57, w, ⟨ρ, z57, hA57, hre57, hz57, hlv57⟩, hrun57⟩ := a_levelsThere hTt57 (d + 3)
      subst hre57
      refine hR0 (0 + mc1 + mc57) (0 + ms1 + ms57) (Nat.le_add_right _ _) (Nat.le_add_right _ _) (c_obj hO14 (zcall_i mc57 ms57 (Nat.le_refl _) (Nat.le_refl _) (hrun57 _ ?_)))
      obtain ⟨hT, hI57, hK57, hx57, hm57, hs57⟩ := hA57
      have hl58 : ρ z1 = 50 := (hx57 z1 (by rw [hz1]; decide)).trans hz1
      have hl59 : ρ z15 = 40 := (hx57 z15 (by rw [hz15]; decide)).trans hz15
      have fr60 := wfR_rf [51, 70, 71, 72, 73, 74, 75, 76] ρ w
      refine (?_ : R (_, _, (.ref z57) :: [], w, 0 + mc1 + mc57, 0 + ms1 + ms57))
      iterate 3 refine hR (?_ : R (_, _, _, _, _, _))
      obtain ⟨y0_62, x1_62, x2_62, x3_62, hO62, hk62_0, hk62_1, hk62_2, hk62_3, hk62_4, hk62_5, hk62_6, hk62_7, hk62_8, hk62_9⟩ := CI_o70 hT.1 hz57
      refine hR (c_obj hO62 (zcall_i 0 0 (Nat.le_refl _) (Nat.le_refl _) (c_want _ z57 z15 hT.1 hz57 hl59 _ fun w61 hw61 g61 => ?_)))
      have fr63 := wfR_tr fr60 g61 (by decide)
      have hO64 := (g61.2 z57 (by rw [hz57]; decide)).trans hO62
      refine (?_ : R (_, _, [], w61, 0 + mc1 + mc57, 0 + ms1 + ms57))
      have aw65 := AWK_fr hT.1 g61 hT.2.2.1 (by decide)
      have hlx66 := LVp_eq (g61.2 0 (by rw [hT.2.1]; decide)) hlv57
      iterate 4 refine hR (?_ : R (_, _, _, _, _, _))
      obtain ⟨z0_70, z2_70, z3_70, hO70, hk70_0, hk70_1, hk70_2, hk70_3, hk70_4⟩ := CI_o50 hw61 hl58
      refine hR (c_obj hO70 (zcall_i 0 0 (Nat.le_refl _) (Nat.le_refl _) (c_all _ z1 hw61 hl58 _ fun v67 hp69 => ?_)))
      refine (?_ : R (_, _, (.int (Int32.ofInt v67)) :: (.int (Int32.ofInt a3)) :: (.ref z1) :: (.ref z57) :: [], w61, 0 + mc1 + mc57, 0 + ms1 + ms57))
      refine hR (?_ : R (_, _, _, _, _, _))
      refine hR (c_obj hO70 (zcall_i 0 0 (Nat.le_refl _) (Nat.le_refl _) (c_all _ z1 hw61 hl58 _ fun v71 hp73 => ?_)))
      refine (?_ : R (_, _, (.int (Int32.ofInt v71)) :: (.int (Int32.ofInt v67)) :: (.int (Int32.ofInt a3)) :: (.ref z1) :: (.ref z57) :: [], w61, 0 + mc1 + mc57, 0 + ms1 + ms57))
      refine hR (c_obj hO64 (zcall_i 0 0 (Nat.le_refl _) (Nat.le_refl _) (c_spread _ z57 z1 a3 v67 v71 hw61 hz57 hl58 (by omega) (by omega) (by omega) (aw65.2 hT.2.1 _ hlx66) _ fun w74 hw74 g74 hn75 hp76 hp77 => ?_)))
      have fr78 := wfR_tr fr63 g74 (by decide)
      have hO79 := (g74.2 z1 (by rw [hl58]; decide)).trans hO70
      refine (?_ : R (_, _, [], w74, 0 + mc1 + mc57, 0 + ms1 + ms57))
      have aw80 := AWK_lv hw61 g74 aw65 (by decide) hlx66 hp76
      have hlx81 := LVp_eq (g74.2 0 (by rw [hT.2.1]; decide)) hlx66
      iterate 2 refine hR (?_ : R (_, _, _, _, _, _))
      refine hR (j_ne (by omega) (by omega) (fun _ => ?_) (fun hc => by omega))
      iterate 2 refine hR (?_ : R (_, _, _, _, _, _))
      obtain ⟨y0_85, x1_85, x2_85, x3_85, hO85, hk85_0, hk85_1, hk85_2, hk85_3, hk85_4, hk85_5, hk85_6, hk85_7, hk85_8, hk85_9⟩ := CI_o70 hw74 hz57
      refine hR (c_obj hO85 (zcall_i 0 0 (Nat.le_refl _) (Nat.le_refl _) (c_rowsTo _ z57 a4 hw74 hz57 (by omega) _ fun v82 hp84 => ?_)))
      refine (?_ : R (_, _, (.int (Int32.ofInt v82)) :: [], w74, 0 + mc1 + mc57, 0 + ms1 + ms57))
      obtain ⟨hTf86, hIf86, hpf86, hKf86⟩ := top_fr2 hT hw74 fr78 (by decide) aw80
      exact hR (zret_i rfl (Nat.le_refl _) trivial ⟨⟨_, hTf86, fun l m h => hIf86 _ _ (hI57 _ _ (hIt57 _ _ (hI1 _ _ (hIt1 _ _ (h))))), (KEEP2_tr hKt1 (KEEP2_tr hK1 (KEEP2_tr hKt57 (KEEP2_tr hK57 hKf86)))), (EXT_tr hx1 hx57), by omega, by omega⟩, _, rfl⟩)
theorem k_sure {ρ : Nat → Nat} {w : zW} (hT : TOP ρ w) (d : Nat) (a1 a2 a3 a4 : Int) (hr0 : -2147483648 ≤ a1 ∧ a1 ≤ 2147483647) (hr1 : -2147483648 ≤ a2 ∧ a2 ≤ 2147483647) (hr2 : -2147483648 ≤ a3 ∧ a3 ≤ 2147483647) (hr3 : -2147483648 ≤ a4 ∧ a4 ≤ 2147483647) : DET zTab (d + 7) iX11_sure [.ref 0, .int (Int32.ofInt a1), .int (Int32.ofInt a2), .int (Int32.ofInt a3), .int (Int32.ofInt a4)] w (PB ρ w) := by
  refine z_rel (M := kX11_sure) _ rfl (Nat.le_of_ble_eq_true rfl) fun R hR0 => ?_
  have hR : ∀ {pc : Nat} {L : zL} {S : List Value} {w1 : zW} {k n : Nat}, zsc (zCl zTab (d + 6)) (d + 6) kX11_sure none zTab k n (PB ρ w k n) pc L S w1 k n R → R (pc, L, S, w1, k, n) := fun h => hR0 _ _ (Nat.le_refl _) (Nat.le_refl _) h
  have fr0 := wfR_rf [51, 70, 71, 72, 73, 74, 75, 76] ρ w
  iterate 2 refine hR (?_ : R (_, _, _, _, _, _))
  obtain ⟨y6_2, y7_2, hO2, hk2_0, hk2_1, hk2_2, hk2_3, hk2_4, hk2_5, hk2_6, hk2_7⟩ := CI_o1 hT.1 hT.2.1
  obtain ⟨hTt1, hIt1, hpt1, hKt1⟩ := top_fr2 hT hT.1 fr0 (by decide) hT.2.2.1
  obtain ⟨mc1, ms1, re1, w, ⟨ρ, hA1, hr_1⟩, hrun1⟩ := a_readingsAt hTt1 (d + 3) a1 (by omega)
  refine hR0 (0 + mc1) (0 + ms1) (Nat.le_add_right _ _) (Nat.le_add_right _ _) (c_obj hO2 (zcall_i mc1 ms1 (Nat.le_refl _) (Nat.le_refl _) (hrun1 _ ?_)))
  obtain ⟨hT, hI1, hK1, hx1, hm1, hs1⟩ := hA1
  have fr3 := wfR_rf [51, 70, 71, 72, 73, 74, 75, 76] ρ w
  rcases hr_1 with rfl | ⟨z1, rfl, hz1⟩
  · skip
    refine (?_ : R (_, _, .null :: [], w, 0 + mc1, 0 + ms1))
    iterate 3 refine hR (?_ : R (_, _, _, _, _, _))
    obtain ⟨y6_7, y7_7, hO7, hk7_0, hk7_1, hk7_2, hk7_3, hk7_4, hk7_5, hk7_6, hk7_7⟩ := CI_o1 hT.1 hT.2.1
    refine hR (c_obj hO7 (zcall_i 0 0 (Nat.le_refl _) (Nat.le_refl _) (c_sightAt _ a2 hT.1 hT.2.1 (by omega) _ fun v4 hv4 hp6 => ?_)))
    cases v4 with
    | none =>
      refine (?_ : R (_, _, .null :: [], w, 0 + mc1, 0 + ms1))
      iterate 4 refine hR (?_ : R (_, _, _, _, _, _))
      obtain ⟨hTf9, hIf9, hpf9, hKf9⟩ := top_fr2 hT hT.1 fr3 (by decide) hT.2.2.1
      exact hR (zret_i rfl (Nat.le_refl _) trivial ⟨⟨_, hTf9, fun l m h => hIf9 _ _ (hI1 _ _ (hIt1 _ _ (h))), (KEEP2_tr hKt1 (KEEP2_tr hK1 hKf9)), hx1, by omega, by omega⟩, _, rfl⟩)
    | some z8 =>
      have hz8 : ρ z8 = 40 := hv4 z8 rfl
      refine (?_ : R (_, _, (.ref z8) :: [], w, 0 + mc1, 0 + ms1))
      iterate 4 refine hR (?_ : R (_, _, _, _, _, _))
      obtain ⟨hTf10, hIf10, hpf10, hKf10⟩ := top_fr2 hT hT.1 fr3 (by decide) hT.2.2.1
      exact hR (zret_i rfl (Nat.le_refl _) trivial ⟨⟨_, hTf10, fun l m h => hIf10 _ _ (hI1 _ _ (hIt1 _ _ (h))), (KEEP2_tr hKt1 (KEEP2_tr hK1 hKf10)), hx1, by omega, by omega⟩, _, rfl⟩)
  · skip
    refine (?_ : R (_, _, (.ref z1) :: [], w, 0 + mc1, 0 + ms1))
    iterate 3 refine hR (?_ : R (_, _, _, _, _, _))
    obtain ⟨y6_14, y7_14, hO14, hk14_0, hk14_1, hk14_2, hk14_3, hk14_4, hk14_5, hk14_6, hk14_7⟩ := CI_o1 hT.1 hT.2.1
    refine hR (c_obj hO14 (zcall_i 0 0 (Nat.le_refl _) (Nat.le_refl _) (c_sightAt _ a2 hT.1 hT.2.1 (by omega) _ fun v11 hv11 hp13 => ?_)))
    cases v11 with
    | none =>
      refine (?_ : R (_, _, .null :: [], w, 0 + mc1, 0 + ms1))
      iterate 6 refine hR (?_ : R (_, _, _, _, _, _))
      obtain ⟨hTf16, hIf16, hpf16, hKf16⟩ := top_fr2 hT hT.1 fr3 (by decide) hT.2.2.1
      exact hR (zret_i rfl (Nat.le_refl _) trivial ⟨⟨_, hTf16, fun l m h => hIf16 _ _ (hI1 _ _ (hIt1 _ _ (h))), (KEEP2_tr hKt1 (KEEP2_tr hK1 hKf16)), hx1, by omega, by omega⟩, _, rfl⟩)
    | some z15 =>
      have hz15 : ρ z15 = 40 := hv11 z15 rfl
      refine (?_ : R (_, _, (.ref z15) :: [], w, 0 + mc1, 0 + ms1))
      iterate 6 refine hR (?_ : R (_, _, _, _, _, _))
      refine hR (zcall_i 0 0 (Nat.le_refl _) (Nat.le_refl _) (c_isSpan _ _ a3 (by omega) _ fun v17 hp19 => ?_))
      refine (?_ : R (_, _, (.int (Int32.ofInt v17)) :: [], w, 0 + mc1, 0 + ms1))
      refine hR (k_eq (by omega) (fun hc20 => ?_) (fun hc20 => ?_))
      · skip
        refine hR (?_ : R (_, _, _, _, _, _))
        obtain ⟨hTf21, hIf21, hpf21, hKf21⟩ := top_fr2 hT hT.1 fr3 (by decide) hT.2.2.1
        exact hR (zret_i rfl (Nat.le_refl _) trivial ⟨⟨_, hTf21, fun l m h => hIf21 _ _ (hI1 _ _ (hIt1 _ _ (h))), (KEEP2_tr hKt1 (KEEP2_tr hK1 hKf21)), hx1, by omega, by omega⟩, _, rfl⟩)
      iterate 2 refine hR (?_ : R (_, _, _, _, _, _))
      refine hR (j_lt (by omega) (by omega) (fun hc22 => ?_) (fun hc22 => ?_))
      · skip
        refine hR (?_ : R (_, _, _, _, _, _))
        obtain ⟨hTf23, hIf23, hpf23, hKf23⟩ := top_fr2 hT hT.1 fr3 (by decide) hT.2.2.1
        exact hR (zret_i rfl (Nat.le_refl _) trivial ⟨⟨_, hTf23, fun l m h => hIf23 _ _ (hI1 _ _ (hIt1 _ _ (h))), (KEEP2_tr hKt1 (KEEP2_tr hK1 hKf23)), hx1, by omega, by omega⟩, _, rfl⟩)
      iterate 2 refine hR (?_ : R (_, _, _, _, _, _))
      refine hR (j_lt (by omega) (by omega) (fun hc24 => ?_) (fun hc24 => ?_))
      rotate_left
      · skip
        iterate 2 refine hR (?_ : R (_, _, _, _, _, _))
        refine hR (j_eq (by omega) (by omega) (fun hc90 => ?_) (fun hc90 => ?_))
        rotate_left
        · skip
          refine hR (?_ : R (_, _, _, _, _, _))
          obtain ⟨hTf143, hIf143, hpf143, hKf143⟩ := top_fr2 hT hT.1 fr3 (by decide) hT.2.2.1
          exact hR (zret_i rfl (Nat.le_refl _) trivial ⟨⟨_, hTf143, fun l m h => hIf143 _ _ (hI1 _ _ (hIt1 _ _ (h))), (KEEP2_tr hKt1 (KEEP2_tr hK1 hKf143)), hx1, by omega, by omega⟩, _, rfl⟩)
        refine hR (?_ : R (_, _, _, _, _, _))
        obtain ⟨hTt91, hIt91, hpt91, hKt91⟩ := top_fr2 hT hT.1 fr3 (by decide) hT.2.2.1
        obtain ⟨mc91, ms91, re91, w, ⟨ρ, z91, hA91, hre91, hz91, hlv91⟩, hrun91⟩ := a_levelsThere hTt91 (d + 3)
        subst hre91
        refine hR0 (0 + mc1 + mc91) (0 + ms1 + ms91) (Nat.le_add_right _ _) (Nat.le_add_right _ _) (c_obj hO14 (zcall_i mc91 ms91 (Nat.le_refl _) (Nat.le_refl _) (hrun91 _ ?_)))
        obtain ⟨hT, hI91, hK91, hx91, hm91, hs91⟩ := hA91
        have hl92 : ρ z1 = 50 := (hx91 z1 (by rw [hz1]; decide)).trans hz1
        have hl93 : ρ z15 = 40 := (hx91 z15 (by rw [hz15]; decide)).trans hz15
        have fr94 := wfR_rf [51, 70, 71, 72, 73, 74, 75, 76] ρ w
        refine (?_ : R (_, _, (.ref z91) :: [], w, 0 + mc1 + mc91, 0 + ms1 + ms91))
        iterate 3 refine hR (?_ : R (_, _, _, _, _, _))
        obtain ⟨y0_96, x1_96, x2_96, x3_96, hO96, hk96_0, hk96_1, hk96_2, hk96_3, hk96_4, hk96_5, hk96_6, hk96_7, hk96_8, hk96_9⟩ := CI_o70 hT.1 hz91
        refine hR (c_obj hO96 (zcall_i 0 0 (Nat.le_refl _) (Nat.le_refl _) (c_want _ z91 z15 hT.1 hz91 hl93 _ fun w95 hw95 g95 => ?_)))
        have fr97 := wfR_tr fr94 g95 (by decide)
        have hO98 := (g95.2 z91 (by rw [hz91]; decide)).trans hO96
        refine (?_ : R (_, _, [], w95, 0 + mc1 + mc91, 0 + ms1 + ms91))
        have aw99 := AWK_fr hT.1 g95 hT.2.2.1 (by decide)
        have hlx100 := LVp_eq (g95.2 0 (by rw [hT.2.1]; decide)) hlv91
        iterate 4 refine hR (?_ : R (_, _, _, _, _, _))
        obtain ⟨z0_104, z2_104, z3_104, hO104, hk104_0, hk104_1, hk104_2, hk104_3, hk104_4⟩ := CI_o50 hw95 hl92
        refine hR (c_obj hO104 (zcall_i 0 0 (Nat.le_refl _) (Nat.le_refl _) (c_all _ z1 hw95 hl92 _ fun v101 hp103 => ?_)))
        refine (?_ : R (_, _, (.int (Int32.ofInt v101)) :: (.int (Int32.ofInt a3)) :: (.ref z1) :: (.ref z91) :: [], w95, 0 + mc1 + mc91, 0 + ms1 + ms91))
        refine hR (?_ : R (_, _, _, _, _, _))
        refine hR (c_obj hO104 (zcall_i 0 0 (Nat.le_refl _) (Nat.le_refl _) (c_all _ z1 hw95 hl92 _ fun v105 hp107 => ?_)))
        refine (?_ : R (_, _, (.int (Int32.ofInt v105)) :: (.int (Int32.ofInt v101)) :: (.int (Int32.ofInt a3)) :: (.ref z1) :: (.ref z91) :: [], w95, 0 + mc1 + mc91, 0 + ms1 + ms91))
        refine hR (c_obj hO98 (zcall_i 0 0 (Nat.le_refl _) (Nat.le_refl _) (c_spread _ z91 z1 a3 v101 v105 hw95 hz91 hl92 (by omega) (by omega) (by omega) (aw99.2 hT.2.1 _ hlx100) _ fun w108 hw108 g108 hn109 hp110 hp111 => ?_)))
        have fr112 := wfR_tr fr97 g108 (by decide)
        have hO113 := (g108.2 z1 (by rw [hl92]; decide)).trans hO104
        refine (?_ : R (_, _, [], w108, 0 + mc1 + mc91, 0 + ms1 + ms91))
        have aw114 := AWK_lv hw95 g108 aw99 (by decide) hlx100 hp110
        have hlx115 := LVp_eq (g108.2 0 (by rw [hT.2.1]; decide)) hlx100
        refine hR (?_ : R (_, _, _, _, _, _))
        obtain ⟨y0_119, x1_119, x2_119, x3_119, hO119, hk119_0, hk119_1, hk119_2, hk119_3, hk119_4, hk119_5, hk119_6, hk119_7, hk119_8, hk119_9⟩ := CI_o70 hw108 hz91
        refine hR (c_obj hO119 (zcall_i 0 0 (Nat.le_refl _) (Nat.le_refl _) (c_rows _ z91 hw108 hz91 _ fun v116 hp118 => ?_)))
        refine (?_ : R (_, _, (.int (Int32.ofInt v116)) :: [], w108, 0 + mc1 + mc91, 0 + ms1 + ms91))
        refine hR (k_ne (by omega) (fun hc120 => ?_) (fun hc120 => ?_))
        rotate_left
        · skip
          refine hR (?_ : R (_, _, _, _, _, _))
          obtain ⟨hTf142, hIf142, hpf142, hKf142⟩ := top_fr2 hT hw108 fr112 (by decide) aw114
          exact hR (zret_i rfl (Nat.le_refl _) trivial ⟨⟨_, hTf142, fun l m h => hIf142 _ _ (hI91 _ _ (hIt91 _ _ (hI1 _ _ (hIt1 _ _ (h))))), (KEEP2_tr hKt1 (KEEP2_tr hK1 (KEEP2_tr hKt91 (KEEP2_tr hK91 hKf142)))), (EXT_tr hx1 hx91), by omega, by omega⟩, _, rfl⟩)
        refine hR (?_ : R (_, _, _, _, _, _))
        refine hR (c_obj hO119 (zcall_i 0 0 (Nat.le_refl _) (Nat.le_refl _) (c_endByOne _ z91 hw108 hz91 hn109 _ fun w121 hw121 g121 => ?_)))
        have fr122 := wfR_tr fr112 g121 (by decide)
        have hn123 := nn_eq (g121.2 z91 (by rw [hz91]; decide)) hn109
        have hO124 := (g121.2 z1 (by rw [hl92]; decide)).trans hO113
        have hO125 := (g121.2 z91 (by rw [hz91]; decide)).trans hO119
        refine (?_ : R (_, _, [], w121, 0 + mc1 + mc91, 0 + ms1 + ms91))
        have aw126 := AWK_fr hw108 g121 aw114 (by decide)
        have hlx127 := LVp_eq (g121.2 0 (by rw [hT.2.1]; decide)) hlx115
        have sp128 := SPN_eq (g121.2 z91 (by rw [hz91]; decide)) (g121.2 (z91 + 1) (by rw [hk119_4]; decide)) hp111
        iterate 3 refine hR (?_ : R (_, _, _, _, _, _))
        refine hR (c_obj hO125 (zcall_i 0 0 (Nat.le_refl _) (Nat.le_refl _) (c_foldBack _ z91 2 2 hw121 hz91 hn123 (by omega) (by omega) (aw126.2 hT.2.1 _ hlx127) _ fun w129 hw129 g129 hp130 => ?_)))
        have fr131 := wfR_tr fr122 g129 (by decide)
        have hn132 := nn_eq (g129.2 z91 (by rw [hz91]; decide)) hn123
        have hO133 := (g129.2 z1 (by rw [hl92]; decide)).trans hO124
        have hO134 := (g129.2 z91 (by rw [hz91]; decide)).trans hO125
        refine (?_ : R (_, _, [], w129, 0 + mc1 + mc91, 0 + ms1 + ms91))
        have aw135 := AWK_lv hw121 g129 aw126 (by decide) hlx127 hp130
        have hlx136 := LVp_eq (g129.2 0 (by rw [hT.2.1]; decide)) hlx127
        have sp137 := SPN_eq (g129.2 z91 (by rw [hz91]; decide)) (g129.2 (z91 + 1) (by rw [hk119_4]; decide)) sp128
        iterate 2 refine hR (?_ : R (_, _, _, _, _, _))
        refine hR (j_ne (by omega) (by omega) (fun hc => by omega) (fun _ => ?_))
        refine hR (?_ : R (_, _, _, _, _, _))
        refine hR (c_obj hO134 (zcall_i 0 0 (Nat.le_refl _) (Nat.le_refl _) (c_look _ z91 hw129 hz91 _ fun v138 hp140 => ?_)))
        refine (?_ : R (_, _, (.int (Int32.ofInt v138)) :: [], w129, 0 + mc1 + mc91, 0 + ms1 + ms91))
        refine hR (?_ : R (_, _, _, _, _, _))
        obtain ⟨hTf141, hIf141, hpf141, hKf141⟩ := top_fr2 hT hw129 fr131 (by decide) aw135
        exact hR (zret_i rfl (Nat.le_refl _) trivial ⟨⟨_, hTf141, fun l m h => hIf141 _ _ (hI91 _ _ (hIt91 _ _ (hI1 _ _ (hIt1 _ _ (h))))), (KEEP2_tr hKt1 (KEEP2_tr hK1 (KEEP2_tr hKt91 (KEEP2_tr hK91 hKf141)))), (EXT_tr hx1 hx91), by omega, by omega⟩, _, rfl⟩)
      refine hR (?_ : R (_, _, _, _, _, _))
      obtain ⟨hTt25, hIt25, hpt25, hKt25⟩ := top_fr2 hT hT.1 fr3 (by decide) hT.2.2.1
      obtain ⟨mc25, ms25, re25, w, ⟨ρ, z25, hA25, hre25, hz25, hlv25⟩, hrun25⟩ := a_levelsThere hTt25 (d + 3)
      subst hre25
      refine hR0 (0 + mc1 + mc25) (0 + ms1 + ms25) (Nat.le_add_right _ _) (Nat.le_add_right _ _) (c_obj hO14 (zcall_i mc25 ms25 (Nat.le_refl _) (Nat.le_refl _) (hrun25 _ ?_)))
      obtain ⟨hT, hI25, hK25, hx25, hm25, hs25⟩ := hA25
      have hl26 : ρ z1 = 50 := (hx25 z1 (by rw [hz1]; decide)).trans hz1
      have hl27 : ρ z15 = 40 := (hx25 z15 (by rw [hz15]; decide)).trans hz15
      have fr28 := wfR_rf [51, 70, 71, 72, 73, 74, 75, 76] ρ w
      refine (?_ : R (_, _, (.ref z25) :: [], w, 0 + mc1 + mc25, 0 + ms1 + ms25))
      iterate 3 refine hR (?_ : R (_, _, _, _, _, _))
      obtain ⟨y0_30, x1_30, x2_30, x3_30, hO30, hk30_0, hk30_1, hk30_2, hk30_3, hk30_4, hk30_5, hk30_6, hk30_7, hk30_8, hk30_9⟩ := CI_o70 hT.1 hz25
      refine hR (c_obj hO30 (zcall_i 0 0 (Nat.le_refl _) (Nat.le_refl _) (c_want _ z25 z15 hT.1 hz25 hl27 _ fun w29 hw29 g29 => ?_)))
      have fr31 := wfR_tr fr28 g29 (by decide)
      have hO32 := (g29.2 z25 (by rw [hz25]; decide)).trans hO30
      refine (?_ : R (_, _, [], w29, 0 + mc1 + mc25, 0 + ms1 + ms25))
      have aw33 := AWK_fr hT.1 g29 hT.2.2.1 (by decide)
      have hlx34 := LVp_eq (g29.2 0 (by rw [hT.2.1]; decide)) hlv25
      iterate 4 refine hR (?_ : R (_, _, _, _, _, _))
      obtain ⟨z0_38, z2_38, z3_38, hO38, hk38_0, hk38_1, hk38_2, hk38_3, hk38_4⟩ := CI_o50 hw29 hl26
      refine hR (c_obj hO38 (zcall_i 0 0 (Nat.le_refl _) (Nat.le_refl _) (c_all _ z1 hw29 hl26 _ fun v35 hp37 => ?_)))
      refine (?_ : R (_, _, (.int (Int32.ofInt v35)) :: (.int (Int32.ofInt a3)) :: (.ref z1) :: (.ref z25) :: [], w29, 0 + mc1 + mc25, 0 + ms1 + ms25))
      refine hR (?_ : R (_, _, _, _, _, _))
      refine hR (c_obj hO38 (zcall_i 0 0 (Nat.le_refl _) (Nat.le_refl _) (c_all _ z1 hw29 hl26 _ fun v39 hp41 => ?_)))
      refine (?_ : R (_, _, (.int (Int32.ofInt v39)) :: (.int (Int32.ofInt v35)) :: (.int (Int32.ofInt a3)) :: (.ref z1) :: (.ref z25) :: [], w29, 0 + mc1 + mc25, 0 + ms1 + ms25))
      refine hR (c_obj hO32 (zcall_i 0 0 (Nat.le_refl _) (Nat.le_refl _) (c_spread _ z25 z1 a3 v35 v39 hw29 hz25 hl26 (by omega) (by omega) (by omega) (aw33.2 hT.2.1 _ hlx34) _ fun w42 hw42 g42 hn43 hp44 hp45 => ?_)))
      have fr46 := wfR_tr fr31 g42 (by decide)
      have hO47 := (g42.2 z1 (by rw [hl26]; decide)).trans hO38
      refine (?_ : R (_, _, [], w42, 0 + mc1 + mc25, 0 + ms1 + ms25))
      have aw48 := AWK_lv hw29 g42 aw33 (by decide) hlx34 hp44
      have hlx49 := LVp_eq (g42.2 0 (by rw [hT.2.1]; decide)) hlx34
      refine hR (?_ : R (_, _, _, _, _, _))
      obtain ⟨y0_53, x1_53, x2_53, x3_53, hO53, hk53_0, hk53_1, hk53_2, hk53_3, hk53_4, hk53_5, hk53_6, hk53_7, hk53_8, hk53_9⟩ := CI_o70 hw42 hz25
      refine hR (c_obj hO53 (zcall_i 0 0 (Nat.le_refl _) (Nat.le_refl _) (c_rows _ z25 hw42 hz25 _ fun v50 hp52 => ?_)))
      refine (?_ : R (_, _, (.int (Int32.ofInt v50)) :: [], w42, 0 + mc1 + mc25, 0 + ms1 + ms25))
      refine hR (k_ne (by omega) (fun hc54 => ?_) (fun hc54 => ?_))
      rotate_left
      · skip
        refine hR (?_ : R (_, _, _, _, _, _))
        obtain ⟨hTf89, hIf89, hpf89, hKf89⟩ := top_fr2 hT hw42 fr46 (by decide) aw48
        exact hR (zret_i rfl (Nat.le_refl _) trivial ⟨⟨_, hTf89, fun l m h => hIf89 _ _ (hI25 _ _ (hIt25 _ _ (hI1 _ _ (hIt1 _ _ (h))))), (KEEP2_tr hKt1 (KEEP2_tr hK1 (KEEP2_tr hKt25 (KEEP2_tr hK25 hKf89)))), (EXT_tr hx1 hx25), by omega, by omega⟩, _, rfl⟩)
      refine hR (?_ : R (_, _, _, _, _, _))
      refine hR (c_obj hO53 (zcall_i 0 0 (Nat.le_refl _) (Nat.le_refl _) (c_endByOne _ z25 hw42 hz25 hn43 _ fun w55 hw55 g55 => ?_)))
      have fr56 := wfR_tr fr46 g55 (by decide)
      have hn57 := nn_eq (g55.2 z25 (by rw [hz25]; decide)) hn43
      have hO58 := (g55.2 z1 (by rw [hl26]; decide)).trans hO47
      have hO59 := (g55.2 z25 (by rw [hz25]; decide)).trans hO53
      refine (?_ : R (_, _, [], w55, 0 + mc1 + mc25, 0 + ms1 + ms25))
      have aw60 := AWK_fr hw42 g55 aw48 (by decide)
      have hlx61 := LVp_eq (g55.2 0 (by rw [hT.2.1]; decide)) hlx49
      have sp62 := SPN_eq (g55.2 z25 (by rw [hz25]; decide)) (g55.2 (z25 + 1) (by rw [hk53_4]; decide)) hp45
      iterate 3 refine hR (?_ : R (_, _, _, _, _, _))
      refine hR (c_obj hO59 (zcall_i 0 0 (Nat.le_refl _) (Nat.le_refl _) (c_foldBack _ z25 2 2 hw55 hz25 hn57 (by omega) (by omega) (aw60.2 hT.2.1 _ hlx61) _ fun w63 hw63 g63 hp64 => ?_)))
      have fr65 := wfR_tr fr56 g63 (by decide)
      have hn66 := nn_eq (g63.2 z25 (by rw [hz25]; decide)) hn57
      have hO67 := (g63.2 z1 (by rw [hl26]; decide)).trans hO58
      have hO68 := (g63.2 z25 (by rw [hz25]; decide)).trans hO59
      refine (?_ : R (_, _, [], w63, 0 + mc1 + mc25, 0 + ms1 + ms25))
      have aw69 := AWK_lv hw55 g63 aw60 (by decide) hlx61 hp64
      have hlx70 := LVp_eq (g63.2 0 (by rw [hT.2.1]; decide)) hlx61
      have sp71 := SPN_eq (g63.2 z25 (by rw [hz25]; decide)) (g63.2 (z25 + 1) (by rw [hk53_4]; decide)) sp62
      iterate 2 refine hR (?_ : R (_, _, _, _, _, _))
      refine hR (j_ne (by omega) (by omega) (fun hc72 => ?_) (fun hc72 => ?_))
      rotate_left
      · skip
        refine hR (?_ : R (_, _, _, _, _, _))
        refine hR (c_obj hO68 (zcall_i 0 0 (Nat.le_refl _) (Nat.le_refl _) (c_look _ z25 hw63 hz25 _ fun v85 hp87 => ?_)))
        refine (?_ : R (_, _, (.int (Int32.ofInt v85)) :: [], w63, 0 + mc1 + mc25, 0 + ms1 + ms25))
        refine hR (?_ : R (_, _, _, _, _, _))
        obtain ⟨hTf88, hIf88, hpf88, hKf88⟩ := top_fr2 hT hw63 fr65 (by decide) aw69
        exact hR (zret_i rfl (Nat.le_refl _) trivial ⟨⟨_, hTf88, fun l m h => hIf88 _ _ (hI25 _ _ (hIt25 _ _ (hI1 _ _ (hIt1 _ _ (h))))), (KEEP2_tr hKt1 (KEEP2_tr hK1 (KEEP2_tr hKt25 (KEEP2_tr hK25 hKf88)))), (EXT_tr hx1 hx25), by omega, by omega⟩, _, rfl⟩)
      iterate 2 refine hR (?_ : R (_, _, _, _, _, _))
      refine hR (c_obj hO68 (zcall_i 0 0 (Nat.le_refl _) (Nat.le_refl _) (c_onlyReaderAt _ z25 a4 hw63 hz25 hn66 (by omega) (aw69.2 hT.2.1 _ hlx70) _ fun v73 w74 hw74 g74 hp75 hp76 => ?_)))
      have fr77 := wfR_tr fr65 g74 (by decide)
      have hn78 := nn_eq (g74.2 z25 (by rw [hz25]; decide)) hn66
      have hO79 := (g74.2 z1 (by rw [hl26]; decide)).trans hO67
      have hO80 := (g74.2 z25 (by rw [hz25]; decide)).trans hO68
      refine (?_ : R (_, _, (.int (Int32.ofInt v73)) :: [], w74, 0 + mc1 + mc25, 0 + ms1 + ms25))
      have aw81 := AWK_lv hw63 g74 aw69 (by decide) hlx70 hp75
      have hlx82 := LVp_eq (g74.2 0 (by rw [hT.2.1]; decide)) hlx70
      have sp83 := SPN_eq (g74.2 z25 (by rw [hz25]; decide)) (g74.2 (z25 + 1) (by rw [hk53_4]; decide)) sp71
      obtain ⟨hTf84, hIf84, hpf84, hKf84⟩ := top_fr2 hT hw74 fr77 (by decide) aw81
      exact hR (zret_i rfl (Nat.le_refl _) trivial ⟨⟨_, hTf84, fun l m h => hIf84 _ _ (hI25 _ _ (hIt25 _ _ (hI1 _ _ (hIt1 _ _ (h))))), (KEEP2_tr hKt1 (KEEP2_tr hK1 (KEEP2_tr hKt25 (KEEP2_tr hK25 hKf84)))), (EXT_tr hx1 hx25), by omega, by omega⟩, _, rfl⟩)
theorem k_silenced {ρ : Nat → Nat} {w : zW} (hT : TOP ρ w) (d : Nat) (a1 a2 a3 : Int) (hr0 : -2147483648 ≤ a1 ∧ a1 ≤ 2147483647) (hr1 : -2147483648 ≤ a2 ∧ a2 ≤ 2147483647) (hr2 : -2147483648 ≤ a3 ∧ a3 ≤ 2147483647) : DET zTab (d + 6) iX11_silenced [.ref 0, .int (Int32.ofInt a1), .int (Int32.ofInt a2), .int (Int32.ofInt a3)] w (PB ρ w) := by
  refine z_rel (M := kX11_silenced) _ rfl (Nat.le_of_ble_eq_true rfl) fun R hR0 => ?_
  have hR : ∀ {pc : Nat} {L : zL} {S : List Value} {w1 : zW} {k n : Nat}, zsc (zCl zTab (d + 5)) (d + 5) kX11_silenced none zTab k n (PB ρ w k n) pc L S w1 k n R → R (pc, L, S, w1, k, n) := fun h => hR0 _ _ (Nat.le_refl _) (Nat.le_refl _) h
  have fr0 := wfR_rf [51, 60, 61, 62, 63, 64] ρ w
  iterate 2 refine hR (?_ : R (_, _, _, _, _, _))
  obtain ⟨y6_2, y7_2, hO2, hk2_0, hk2_1, hk2_2, hk2_3, hk2_4, hk2_5, hk2_6, hk2_7⟩ := CI_o1 hT.1 hT.2.1
  obtain ⟨hTt1, hIt1, hpt1, hKt1⟩ := top_fr2 hT hT.1 fr0 (by decide) hT.2.2.1
  obtain ⟨mc1, ms1, re1, w, ⟨ρ, hA1, hr_1⟩, hrun1⟩ := a_readingsAt hTt1 (d + 2) a1 (by omega)
  refine hR0 (0 + mc1) (0 + ms1) (Nat.le_add_right _ _) (Nat.le_add_right _ _) (c_obj hO2 (zcall_i mc1 ms1 (Nat.le_refl _) (Nat.le_refl _) (hrun1 _ ?_)))
  obtain ⟨hT, hI1, hK1, hx1, hm1, hs1⟩ := hA1
  have fr3 := wfR_rf [51, 60, 61, 62, 63, 64] ρ w
  rcases hr_1 with rfl | ⟨z1, rfl, hz1⟩
  · skip
    refine (?_ : R (_, _, .null :: [], w, 0 + mc1, 0 + ms1))
    iterate 4 refine hR (?_ : R (_, _, _, _, _, _))
    obtain ⟨hTf4, hIf4, hpf4, hKf4⟩ := top_fr2 hT hT.1 fr3 (by decide) hT.2.2.1
    exact hR (zret_i rfl (Nat.le_refl _) trivial ⟨⟨_, hTf4, fun l m h => hIf4 _ _ (hI1 _ _ (hIt1 _ _ (h))), (KEEP2_tr hKt1 (KEEP2_tr hK1 hKf4)), hx1, by omega, by omega⟩, _, rfl⟩)
  · skip
    refine (?_ : R (_, _, (.ref z1) :: [], w, 0 + mc1, 0 + ms1))
    iterate 4 refine hR (?_ : R (_, _, _, _, _, _))
    refine hR (zcall_i 0 0 (Nat.le_refl _) (Nat.le_refl _) (c_isText _ _ a2 (by omega) _ fun v5 hp7 => ?_))
    refine (?_ : R (_, _, (.int (Int32.ofInt v5)) :: [], w, 0 + mc1, 0 + ms1))
    refine hR (k_eq (by omega) (fun hc8 => ?_) (fun hc8 => ?_))
    · skip
      refine hR (?_ : R (_, _, _, _, _, _))
      obtain ⟨hTf9, hIf9, hpf9, hKf9⟩ := top_fr2 hT hT.1 fr3 (by decide) hT.2.2.1
      exact hR (zret_i rfl (Nat.le_refl _) trivial ⟨⟨_, hTf9, fun l m h => hIf9 _ _ (hI1 _ _ (hIt1 _ _ (h))), (KEEP2_tr hKt1 (KEEP2_tr hK1 hKf9)), hx1, by omega, by omega⟩, _, rfl⟩)
    refine hR (?_ : R (_, _, _, _, _, _))
    refine hR (zcall_i 0 0 (Nat.le_refl _) (Nat.le_refl _) (c_isText _ _ a3 (by omega) _ fun v10 hp12 => ?_))
    refine (?_ : R (_, _, (.int (Int32.ofInt v10)) :: [], w, 0 + mc1, 0 + ms1))
    refine hR (k_eq (by omega) (fun hc13 => ?_) (fun hc13 => ?_))
    · skip
      refine hR (?_ : R (_, _, _, _, _, _))
      obtain ⟨hTf14, hIf14, hpf14, hKf14⟩ := top_fr2 hT hT.1 fr3 (by decide) hT.2.2.1
      exact hR (zret_i rfl (Nat.le_refl _) trivial ⟨⟨_, hTf14, fun l m h => hIf14 _ _ (hI1 _ _ (hIt1 _ _ (h))), (KEEP2_tr hKt1 (KEEP2_tr hK1 hKf14)), hx1, by omega, by omega⟩, _, rfl⟩)
    iterate 2 refine hR (?_ : R (_, _, _, _, _, _))
    refine hR (j_ne (by omega) (by omega) (fun hc15 => ?_) (fun hc15 => ?_))
    rotate_left
    · skip
      refine hR (?_ : R (_, _, _, _, _, _))
      obtain ⟨hTf46, hIf46, hpf46, hKf46⟩ := top_fr2 hT hT.1 fr3 (by decide) hT.2.2.1
      exact hR (zret_i rfl (Nat.le_refl _) trivial ⟨⟨_, hTf46, fun l m h => hIf46 _ _ (hI1 _ _ (hIt1 _ _ (h))), (KEEP2_tr hKt1 (KEEP2_tr hK1 hKf46)), hx1, by omega, by omega⟩, _, rfl⟩)
    iterate 2 refine hR (?_ : R (_, _, _, _, _, _))
    obtain ⟨y6_17, y7_17, hO17, hk17_0, hk17_1, hk17_2, hk17_3, hk17_4, hk17_5, hk17_6, hk17_7⟩ := CI_o1 hT.1 hT.2.1
    obtain ⟨hTt16, hIt16, hpt16, hKt16⟩ := top_fr2 hT hT.1 fr3 (by decide) hT.2.2.1
    obtain ⟨mc16, ms16, re16, w, ⟨ρ, z16, hA16, hre16, hz16⟩, hrun16⟩ := a_walkAt hTt16 (d + 2) 0 (by omega)
    subst hre16
    refine hR0 (0 + mc1 + mc16) (0 + ms1 + ms16) (Nat.le_add_right _ _) (Nat.le_add_right _ _) (c_obj hO17 (zcall_i mc16 ms16 (Nat.le_refl _) (Nat.le_refl _) (hrun16 _ ?_)))
    obtain ⟨hT, hI16, hK16, hx16, hm16, hs16⟩ := hA16
    have hl18 : ρ z1 = 50 := (hx16 z1 (by rw [hz1]; decide)).trans hz1
    have fr19 := wfR_rf [51, 60, 61, 62, 63, 64] ρ w
    refine (?_ : R (_, _, (.ref z16) :: [], w, 0 + mc1 + mc16, 0 + ms1 + ms16))
    iterate 2 refine hR (?_ : R (_, _, _, _, _, _))
    obtain ⟨z0_20, z2_20, z3_20, hO20, hk20_0, hk20_1, hk20_2, hk20_3, hk20_4⟩ := CI_o50 hT.1 hl18
    refine hR (c_get hO20 rfl ?_)
    obtain ⟨x0_21, x1_21, x2_21, hO21, hk21_0, hk21_1, hk21_2, hk21_3, hk21_4, hk21_5, hk21_6⟩ := CI_o20 hT.1 hk20_0
    refine hR (c_get hO21 rfl ?_)
    iterate 3 refine hR (?_ : R (_, _, _, _, _, _))
    have lp53 : ∀ (N : Nat) (mn : Int) (o8_53 : Option Value) (w_53 : zW), (zc2 o8_53 = false) → (CI ρ w_53) → (wfR [51, 60, 61, 62, 63, 64] ρ w w_53) → (zix w_53 z1 = some (.inr (3, [.ref z0_20, .ref (z1 + 1), .ref z2_20, .ref z3_20]))) → (zix w_53 z0_20 = some (.inr (0, [.int (Int32.ofInt x0_21), .int (Int32.ofInt x1_21), .int (Int32.ofInt x2_21), .ref (z0_20 + 1), .ref (z0_20 + 2), .ref (z0_20 + 3), .ref (z0_20 + 4)]))) → (0 ≤ mn ∧ mn ≤ 6) → (AWK ρ w_53) → (7 - mn < N) → R (53, [some (.ref 0), some (.int (Int32.ofInt a1)), some (.int (Int32.ofInt a2)), some (.int (Int32.ofInt a3)), some (.ref z1), some (.ref z16), some (.int (Int32.ofInt x1_21)), some (.int (Int32.ofInt mn)), o8_53], [], w_53, 0 + mc1 + mc16, 0 + ms1 + ms16) := by
      intro N
      induction N with
      | zero => intros; omega
      | succ N ih53 =>
        intro mn o8_53 w_53 hzo8_53 hw_53 fr_53 hOz1_53 hOz0_20_53 hf0_53 hp0_53 hN53
        iterate 2 refine hR (?_ : R (_, _, _, _, _, _))
        refine hR (j_gt (by omega) (by omega) (fun hc22 => ?_) (fun hc22 => ?_))
        · skip
          refine hR (?_ : R (_, _, _, _, _, _))
          obtain ⟨hTf23, hIf23, hpf23, hKf23⟩ := top_fr2 hT hw_53 fr_53 (by decide) hp0_53
          exact hR (zret_i rfl (Nat.le_refl _) trivial ⟨⟨_, hTf23, fun l m h => hIf23 _ _ (hI16 _ _ (hIt16 _ _ (hI1 _ _ (hIt1 _ _ (h))))), (KEEP2_tr hKt1 (KEEP2_tr hK1 (KEEP2_tr hKt16 (KEEP2_tr hK16 hKf23)))), (EXT_tr hx1 hx16), by omega, by omega⟩, _, rfl⟩)
        iterate 2 refine hR (?_ : R (_, _, _, _, _, _))
        have lp63 : ∀ (N : Nat) (wo : Int) (w_63 : zW), (CI ρ w_63) → (wfR [51, 60, 61, 62, 63, 64] ρ w w_63) → (zix w_63 z1 = some (.inr (3, [.ref z0_20, .ref (z1 + 1), .ref z2_20, .ref z3_20]))) → (zix w_63 z0_20 = some (.inr (0, [.int (Int32.ofInt x0_21), .int (Int32.ofInt x1_21), .int (Int32.ofInt x2_21), .ref (z0_20 + 1), .ref (z0_20 + 2), .ref (z0_20 + 3), .ref (z0_20 + 4)]))) → (0 ≤ wo ∧ wo ≤ 32) → (AWK ρ w_63) → (33 - wo < N) → R (63, [some (.ref 0), some (.int (Int32.ofInt a1)), some (.int (Int32.ofInt a2)), some (.int (Int32.ofInt a3)), some (.ref z1), some (.ref z16), some (.int (Int32.ofInt x1_21)), some (.int (Int32.ofInt mn)), some (.int (Int32.ofInt wo))], [], w_63, 0 + mc1 + mc16, 0 + ms1 + ms16) := by
          intro N
          induction N with
          | zero => intros; omega
          | succ N ih63 =>
            intro wo w_63 hw_63 fr_63 hOz1_63 hOz0_20_63 hf0_63 hp0_63 hN63
            iterate 2 refine hR (?_ : R (_, _, _, _, _, _))
            refine hR (c_obj hOz1_63 (zcall_i 0 0 (Nat.le_refl _) (Nat.le_refl _) (c_all _ z1 hw_63 hl18 _ fun v24 hp26 => ?_)))
            refine (?_ : R (_, _, (.int (Int32.ofInt v24)) :: (.int (Int32.ofInt wo)) :: [], w_63, 0 + mc1 + mc16, 0 + ms1 + ms16))
            refine hR (j_gt (by omega) (by omega) (fun hc27 => ?_) (fun hc27 => ?_))
            · skip
              refine hR (t_inc ?_)
              refine hR (?_ : R (_, _, _, _, _, _))
              exact ih53 _ _ _ (by rfl) hw_63 fr_63 hOz1_63 hOz0_20_63 (by omega) hp0_63 (by omega)
            refine hR (?_ : R (_, _, _, _, _, _))
            refine hR (zcall_i 0 0 (Nat.le_refl _) (Nat.le_refl _) (c_bitCount _ _ wo _ fun v28 hp30 => ?_))
            refine (?_ : R (_, _, (.int (Int32.ofInt v28)) :: [], w_63, 0 + mc1 + mc16, 0 + ms1 + ms16))
            refine hR (?_ : R (_, _, _, _, _, _))
            refine hR (j_ne (by omega) (by omega) (fun hc31 => ?_) (fun hc31 => ?_))
            · skip
              refine hR (t_inc ?_)
              refine hR (?_ : R (_, _, _, _, _, _))
              exact ih63 _ _ hw_63 fr_63 hOz1_63 hOz0_20_63 (by omega) hp0_63 (by omega)
            iterate 4 refine hR (?_ : R (_, _, _, _, _, _))
            refine hR (c_obj hOz1_63 (zcall_i 0 0 (Nat.le_refl _) (Nat.le_refl _) (c_all _ z1 hw_63 hl18 _ fun v32 hp34 => ?_)))
            refine (?_ : R (_, _, (.int (Int32.ofInt v32)) :: (.int (Int32.ofInt a2)) :: (.ref z1) :: (.ref z16) :: [], w_63, 0 + mc1 + mc16, 0 + ms1 + ms16))
            iterate 2 refine hR (?_ : R (_, _, _, _, _, _))
            refine hR (t_o fun v35 rv35 => ?_)
            refine hR (t_o fun v36 rv36 => ?_)
            refine hR (?_ : R (_, _, _, _, _, _))
            obtain ⟨x0_39, hO39, hk39_0, hk39_1, hk39_2, hk39_3, hk39_4⟩ := CI_o60 hw_63 hz16
            refine hR (c_obj hO39 (zcall_i 0 0 (Nat.le_refl _) (Nat.le_refl _) (c_goA _ z16 z1 a2 v36 a3 hw_63 hz16 hl18 hp0_63 (by omega) (by omega) (by omega) _ fun w37 hw37 g37 hp38 => ?_)))
            have fr40 := wfR_tr fr_63 g37 (by decide)
            have hO41 := (g37.2 z1 (by rw [hl18]; decide)).trans hOz1_63
            have hO42 := (g37.2 z0_20 (by rw [hk20_0]; decide)).trans hOz0_20_63
            refine (?_ : R (_, _, [], w37, 0 + mc1 + mc16, 0 + ms1 + ms16))
            refine hR (?_ : R (_, _, _, _, _, _))
            obtain ⟨x0_43, hO43, hk43_0, hk43_1, hk43_2, hk43_3, hk43_4⟩ := CI_o60 hw37 hz16
            refine hR (c_get hO43 rfl ?_)
            refine hR (?_ : R (_, _, _, _, _, _))
            refine hR (c_ald hw37 (by rw [hk43_2]; rfl) (by omega) (by omega) (Nat.le_of_ble_eq_true rfl) fun v44 lv44 uv44 => ?_)
            refine hR (?_ : R (_, _, _, _, _, _))
            refine hR (j_any ?_ ?_)
            · skip
              refine hR (t_inc ?_)
              refine hR (?_ : R (_, _, _, _, _, _))
              exact ih63 _ _ hw37 fr40 hO41 hO42 (by omega) hp38 (by omega)
            refine hR (?_ : R (_, _, _, _, _, _))
            obtain ⟨hTf45, hIf45, hpf45, hKf45⟩ := top_fr2 hT hw37 fr40 (by decide) hp38
            exact hR (zret_i rfl (Nat.le_refl _) trivial ⟨⟨_, hTf45, fun l m h => hIf45 _ _ (hI16 _ _ (hIt16 _ _ (hI1 _ _ (hIt1 _ _ (h))))), (KEEP2_tr hKt1 (KEEP2_tr hK1 (KEEP2_tr hKt16 (KEEP2_tr hK16 hKf45)))), (EXT_tr hx1 hx16), by omega, by omega⟩, _, rfl⟩)
        exact lp63 400000000 _ _ hw_53 fr_53 hOz1_53 hOz0_20_53 (by omega) hp0_53 (by omega)
    exact lp53 400000000 _ _ _ (by rfl) hT.1 fr19 hO20 hO21 (by omega) hT.2.2.1 (by omega)
theorem k_fault {ρ : Nat → Nat} {w : zW} (hT : TOP ρ w) (d : Nat) (a1 : Int) (hr0 : -2147483648 ≤ a1 ∧ a1 ≤ 2147483647) : DET zTab (d + 4) iX11_fault [.ref 0, .int (Int32.ofInt a1)] w (PB ρ w) := by
  refine z_rel (M := kX11_fault) _ rfl (Nat.le_of_ble_eq_true rfl) fun R hR0 => ?_
  have hR : ∀ {pc : Nat} {L : zL} {S : List Value} {w1 : zW} {k n : Nat}, zsc (zCl zTab (d + 3)) (d + 3) kX11_fault none zTab k n (PB ρ w k n) pc L S w1 k n R → R (pc, L, S, w1, k, n) := fun h => hR0 _ _ (Nat.le_refl _) (Nat.le_refl _) h
  have fr0 := wfR_rf [] ρ w
  refine hR (?_ : R (_, _, _, _, _, _))
  have hl1 : a1 = 0 ∨ a1 = 1 ∨ (a1 ≠ 0 ∧ a1 ≠ 1) := by omega
  rcases hl1 with hl1 | hl1 | hl1
  · refine hR (t_pc (pc2 := 28) (by rw [zti (e := a1) (by omega) (by omega)]; show (((1 : Nat) : Int) + Op.lookupswitch.offset [(0, 27), (1, 35)] 43 a1).toNat = 28; simp only [Op.lookupswitch.offset_cons]; (repeat' split) <;> first | omega | rfl) ?_)
    refine hR (?_ : R (_, _, _, _, _, _))
    obtain ⟨y6_2, y7_2, hO2, hk2_0, hk2_1, hk2_2, hk2_3, hk2_4, hk2_5, hk2_6, hk2_7⟩ := CI_o1 hT.1 hT.2.1
    refine hR (c_get hO2 rfl ?_)
    obtain ⟨x1_3, x2_3, x3_3, hO3, hk3_0, hk3_1, hk3_2, hk3_3, hk3_4, hk3_5, hk3_6, hk3_7⟩ := CI_o2 hT.1 hk2_0
    refine hR (c_get hO3 rfl ?_)
    obtain ⟨hTf4, hIf4, hpf4, hKf4⟩ := top_fr2 hT hT.1 fr0 (by decide) hT.2.2.1
    exact hR (zret_i rfl (Nat.le_refl _) trivial ⟨⟨_, hTf4, fun l m h => hIf4 _ _ (h), hKf4, (EXT_rf _), by omega, by omega⟩, _, rfl⟩)
  · refine hR (t_pc (pc2 := 36) (by rw [zti (e := a1) (by omega) (by omega)]; show (((1 : Nat) : Int) + Op.lookupswitch.offset [(0, 27), (1, 35)] 43 a1).toNat = 36; simp only [Op.lookupswitch.offset_cons]; (repeat' split) <;> first | omega | rfl) ?_)
    refine hR (?_ : R (_, _, _, _, _, _))
    obtain ⟨y6_5, y7_5, hO5, hk5_0, hk5_1, hk5_2, hk5_3, hk5_4, hk5_5, hk5_6, hk5_7⟩ := CI_o1 hT.1 hT.2.1
    refine hR (c_get hO5 rfl ?_)
    obtain ⟨x1_6, x2_6, x3_6, hO6, hk6_0, hk6_1, hk6_2, hk6_3, hk6_4, hk6_5, hk6_6, hk6_7⟩ := CI_o2 hT.1 hk5_0
    refine hR (c_get hO6 rfl ?_)
    obtain ⟨hTf7, hIf7, hpf7, hKf7⟩ := top_fr2 hT hT.1 fr0 (by decide) hT.2.2.1
    exact hR (zret_i rfl (Nat.le_refl _) trivial ⟨⟨_, hTf7, fun l m h => hIf7 _ _ (h), hKf7, (EXT_rf _), by omega, by omega⟩, _, rfl⟩)
  · refine hR (t_pc (pc2 := 44) (by rw [zti (e := a1) (by omega) (by omega)]; show (((1 : Nat) : Int) + Op.lookupswitch.offset [(0, 27), (1, 35)] 43 a1).toNat = 44; simp only [Op.lookupswitch.offset_cons]; (repeat' split) <;> first | omega | rfl) ?_)
    refine hR (?_ : R (_, _, _, _, _, _))
    obtain ⟨hTf8, hIf8, hpf8, hKf8⟩ := top_fr2 hT hT.1 fr0 (by decide) hT.2.2.1
    exact hR (zret_i rfl (Nat.le_refl _) trivial ⟨⟨_, hTf8, fun l m h => hIf8 _ _ (h), hKf8, (EXT_rf _), by omega, by omega⟩, _, rfl⟩)
theorem k_book {ρ : Nat → Nat} {w : zW} (hT : TOP ρ w) (d : Nat) (a1 a2 : Int) (hr0 : -2147483648 ≤ a1 ∧ a1 ≤ 2147483647) (hr1 : -2147483648 ≤ a2 ∧ a2 ≤ 2147483647) : DET zTab (d + 4) iX11_book [.ref 0, .int (Int32.ofInt a1), .int (Int32.ofInt a2)] w (PB ρ w) := by
  refine z_rel (M := kX11_book) _ rfl (Nat.le_of_ble_eq_true rfl) fun R hR0 => ?_
  have hR : ∀ {pc : Nat} {L : zL} {S : List Value} {w1 : zW} {k n : Nat}, zsc (zCl zTab (d + 3)) (d + 3) kX11_book none zTab k n (PB ρ w k n) pc L S w1 k n R → R (pc, L, S, w1, k, n) := fun h => hR0 _ _ (Nat.le_refl _) (Nat.le_refl _) h
  have fr0 := wfR_rf [] ρ w
  iterate 2 refine hR (?_ : R (_, _, _, _, _, _))
  obtain ⟨y6_4, y7_4, hO4, hk4_0, hk4_1, hk4_2, hk4_3, hk4_4, hk4_5, hk4_6, hk4_7⟩ := CI_o1 hT.1 hT.2.1
  refine hR (c_obj hO4 (zcall_i 0 0 (Nat.le_refl _) (Nat.le_refl _) (c_bookAt _ a1 hT.1 hT.2.1 (by omega) _ fun v1 hv1 hp3 => ?_)))
  cases v1 with
  | none =>
    refine (?_ : R (_, _, .null :: [], w, 0, 0))
    iterate 5 refine hR (?_ : R (_, _, _, _, _, _))
    obtain ⟨hTf6, hIf6, hpf6, hKf6⟩ := top_fr2 hT hT.1 fr0 (by decide) hT.2.2.1
    exact hR (zret_i rfl (Nat.le_refl _) trivial ⟨⟨_, hTf6, fun l m h => hIf6 _ _ (h), hKf6, (EXT_rf _), by omega, by omega⟩, _, rfl⟩)
  | some z5 =>
    have hz5 : ρ z5 = 20 := hv1 z5 rfl
    refine (?_ : R (_, _, (.ref z5) :: [], w, 0, 0))
    iterate 5 refine hR (?_ : R (_, _, _, _, _, _))
    obtain ⟨x0_9, x1_9, x2_9, hO9, hk9_0, hk9_1, hk9_2, hk9_3, hk9_4, hk9_5, hk9_6⟩ := CI_o20 hT.1 hz5
    refine hR (c_obj hO9 (zcall_i 0 0 (Nat.le_refl _) (Nat.le_refl _) (c_bookTells _ z5 a2 hT.1 hz5 (by omega) _ fun v7 => ?_)))
    refine (?_ : R (_, _, (.int (Int32.ofInt v7)) :: [], w, 0, 0))
    obtain ⟨hTf10, hIf10, hpf10, hKf10⟩ := top_fr2 hT hT.1 fr0 (by decide) hT.2.2.1
    exact hR (zret_i rfl (Nat.le_refl _) trivial ⟨⟨_, hTf10, fun l m h => hIf10 _ _ (h), hKf10, (EXT_rf _), by omega, by omega⟩, _, rfl⟩)
theorem k_word {ρ : Nat → Nat} {w : zW} (hT : TOP ρ w) (d : Nat) (a1 a2 : Int) (hr0 : -2147483648 ≤ a1 ∧ a1 ≤ 2147483647) (hr1 : -2147483648 ≤ a2 ∧ a2 ≤ 2147483647) : DET zTab (d + 4) iX11_word [.ref 0, .int (Int32.ofInt a1), .int (Int32.ofInt a2)] w (PB ρ w) := by
  refine z_rel (M := kX11_word) _ rfl (Nat.le_of_ble_eq_true rfl) fun R hR0 => ?_
  have hR : ∀ {pc : Nat} {L : zL} {S : List Value} {w1 : zW} {k n : Nat}, zsc (zCl zTab (d + 3)) (d + 3) kX11_word none zTab k n (PB ρ w k n) pc L S w1 k n R → R (pc, L, S, w1, k, n) := fun h => hR0 _ _ (Nat.le_refl _) (Nat.le_refl _) h
  have fr0 := wfR_rf [] ρ w
  refine hR (?_ : R (_, _, _, _, _, _))
  refine hR (zcall_i 0 0 (Nat.le_refl _) (Nat.le_refl _) (c_isText _ _ a1 (by omega) _ fun v1 hp3 => ?_))
  refine (?_ : R (_, _, (.int (Int32.ofInt v1)) :: [], w, 0, 0))
  refine hR (k_ne (by omega) (fun hc4 => ?_) (fun hc4 => ?_))
  rotate_left
  · skip
    refine hR (?_ : R (_, _, _, _, _, _))
    obtain ⟨hTf18, hIf18, hpf18, hKf18⟩ := top_fr2 hT hT.1 fr0 (by decide) hT.2.2.1
    exact hR (zret_i rfl (Nat.le_refl _) trivial ⟨⟨_, hTf18, fun l m h => hIf18 _ _ (h), hKf18, (EXT_rf _), by omega, by omega⟩, _, rfl⟩)
  refine hR (?_ : R (_, _, _, _, _, _))
  refine hR (zcall_i 0 0 (Nat.le_refl _) (Nat.le_refl _) (c_lengthOf _ _ a1 (by omega) _ fun v5 hp7 => ?_))
  refine (?_ : R (_, _, (.int (Int32.ofInt v5)) :: [], w, 0, 0))
  iterate 3 refine hR (?_ : R (_, _, _, _, _, _))
  refine hR (j_ne (by omega) (by omega) (fun hc8 => ?_) (fun hc8 => ?_))
  rotate_left
  · skip
    refine hR (?_ : R (_, _, _, _, _, _))
    obtain ⟨hTf17, hIf17, hpf17, hKf17⟩ := top_fr2 hT hT.1 fr0 (by decide) hT.2.2.1
    exact hR (zret_i rfl (Nat.le_refl _) trivial ⟨⟨_, hTf17, fun l m h => hIf17 _ _ (h), hKf17, (EXT_rf _), by omega, by omega⟩, _, rfl⟩)
  refine hR (?_ : R (_, _, _, _, _, _))
  refine hR (k_lt (by omega) (fun hc9 => ?_) (fun hc9 => ?_))
  · skip
    iterate 2 refine hR (?_ : R (_, _, _, _, _, _))
    obtain ⟨hTf10, hIf10, hpf10, hKf10⟩ := top_fr2 hT hT.1 fr0 (by decide) hT.2.2.1
    exact hR (zret_i rfl (Nat.le_refl _) trivial ⟨⟨_, hTf10, fun l m h => hIf10 _ _ (h), hKf10, (EXT_rf _), by omega, by omega⟩, _, rfl⟩)
  iterate 2 refine hR (?_ : R (_, _, _, _, _, _))
  refine hR (j_lt (by omega) (by omega) (fun hc11 => ?_) (fun hc11 => ?_))
  rotate_left
  · skip
    iterate 2 refine hR (?_ : R (_, _, _, _, _, _))
    obtain ⟨hTf16, hIf16, hpf16, hKf16⟩ := top_fr2 hT hT.1 fr0 (by decide) hT.2.2.1
    exact hR (zret_i rfl (Nat.le_refl _) trivial ⟨⟨_, hTf16, fun l m h => hIf16 _ _ (h), hKf16, (EXT_rf _), by omega, by omega⟩, _, rfl⟩)
  iterate 2 refine hR (?_ : R (_, _, _, _, _, _))
  refine hR (zcall_i 0 0 (Nat.le_refl _) (Nat.le_refl _) (c_wordAt _ _ a1 a2 (by omega) (by omega) _ fun v12 hp14 => ?_))
  refine (?_ : R (_, _, (.int (Int32.ofInt v12)) :: [], w, 0, 0))
  obtain ⟨hTf15, hIf15, hpf15, hKf15⟩ := top_fr2 hT hT.1 fr0 (by decide) hT.2.2.1
  exact hR (zret_i rfl (Nat.le_refl _) trivial ⟨⟨_, hTf15, fun l m h => hIf15 _ _ (h), hKf15, (EXT_rf _), by omega, by omega⟩, _, rfl⟩)
theorem k_drift {ρ : Nat → Nat} {w : zW} (hT : TOP ρ w) (d : Nat) (a1 a2 : Int) (hr0 : -2147483648 ≤ a1 ∧ a1 ≤ 2147483647) (hr1 : -2147483648 ≤ a2 ∧ a2 ≤ 2147483647) : DET zTab (d + 4) iX11_drift [.ref 0, .int (Int32.ofInt a1), .int (Int32.ofInt a2)] w (PB ρ w) := by
  refine z_rel (M := kX11_drift) _ rfl (Nat.le_of_ble_eq_true rfl) fun R hR0 => ?_
  have hR : ∀ {pc : Nat} {L : zL} {S : List Value} {w1 : zW} {k n : Nat}, zsc (zCl zTab (d + 3)) (d + 3) kX11_drift none zTab k n (PB ρ w k n) pc L S w1 k n R → R (pc, L, S, w1, k, n) := fun h => hR0 _ _ (Nat.le_refl _) (Nat.le_refl _) h
  have fr0 := wfR_rf [] ρ w
  refine hR (?_ : R (_, _, _, _, _, _))
  refine hR (zcall_i 0 0 (Nat.le_refl _) (Nat.le_refl _) (c_isText _ _ a1 (by omega) _ fun v1 hp3 => ?_))
  refine (?_ : R (_, _, (.int (Int32.ofInt v1)) :: [], w, 0, 0))
  refine hR (k_eq (by omega) (fun hc4 => ?_) (fun hc4 => ?_))
  · skip
    refine hR (?_ : R (_, _, _, _, _, _))
    obtain ⟨hTf5, hIf5, hpf5, hKf5⟩ := top_fr2 hT hT.1 fr0 (by decide) hT.2.2.1
    exact hR (zret_i rfl (Nat.le_refl _) trivial ⟨⟨_, hTf5, fun l m h => hIf5 _ _ (h), hKf5, (EXT_rf _), by omega, by omega⟩, _, rfl⟩)
  refine hR (?_ : R (_, _, _, _, _, _))
  refine hR (zcall_i 0 0 (Nat.le_refl _) (Nat.le_refl _) (c_isText _ _ a2 (by omega) _ fun v6 hp8 => ?_))
  refine (?_ : R (_, _, (.int (Int32.ofInt v6)) :: [], w, 0, 0))
  refine hR (k_eq (by omega) (fun hc9 => ?_) (fun hc9 => ?_))
  · skip
    refine hR (?_ : R (_, _, _, _, _, _))
    obtain ⟨hTf10, hIf10, hpf10, hKf10⟩ := top_fr2 hT hT.1 fr0 (by decide) hT.2.2.1
    exact hR (zret_i rfl (Nat.le_refl _) trivial ⟨⟨_, hTf10, fun l m h => hIf10 _ _ (h), hKf10, (EXT_rf _), by omega, by omega⟩, _, rfl⟩)
  iterate 2 refine hR (?_ : R (_, _, _, _, _, _))
  refine hR (zcall_i 0 0 (Nat.le_refl _) (Nat.le_refl _) (c_driftOf _ _ a1 a2 (by omega) (by omega) _ fun v11 hp13 => ?_))
  refine (?_ : R (_, _, (.int (Int32.ofInt v11)) :: [], w, 0, 0))
  refine hR (?_ : R (_, _, _, _, _, _))
  obtain ⟨hTf14, hIf14, hpf14, hKf14⟩ := top_fr2 hT hT.1 fr0 (by decide) hT.2.2.1
  exact hR (zret_i rfl (Nat.le_refl _) trivial ⟨⟨_, hTf14, fun l m h => hIf14 _ _ (h), hKf14, (EXT_rf _), by omega, by omega⟩, _, rfl⟩)
theorem k_read {ρ : Nat → Nat} {w : zW} (hT : TOP ρ w) (d : Nat) (a1 a2 a3 : Int) (hr0 : -2147483648 ≤ a1 ∧ a1 ≤ 2147483647) (hr1 : -2147483648 ≤ a2 ∧ a2 ≤ 2147483647) (hr2 : -2147483648 ≤ a3 ∧ a3 ≤ 2147483647) : DET zTab (d + 4) iX11_read [.ref 0, .int (Int32.ofInt a1), .int (Int32.ofInt a2), .int (Int32.ofInt a3)] w (PB ρ w) := by
  refine z_rel (M := kX11_read) _ rfl (Nat.le_of_ble_eq_true rfl) fun R hR0 => ?_
  have hR : ∀ {pc : Nat} {L : zL} {S : List Value} {w1 : zW} {k n : Nat}, zsc (zCl zTab (d + 3)) (d + 3) kX11_read none zTab k n (PB ρ w k n) pc L S w1 k n R → R (pc, L, S, w1, k, n) := fun h => hR0 _ _ (Nat.le_refl _) (Nat.le_refl _) h
  have fr0 := wfR_rf [] ρ w
  iterate 2 refine hR (?_ : R (_, _, _, _, _, _))
  obtain ⟨y6_4, y7_4, hO4, hk4_0, hk4_1, hk4_2, hk4_3, hk4_4, hk4_5, hk4_6, hk4_7⟩ := CI_o1 hT.1 hT.2.1
  refine hR (c_obj hO4 (zcall_i 0 0 (Nat.le_refl _) (Nat.le_refl _) (c_bookAt _ a1 hT.1 hT.2.1 (by omega) _ fun v1 hv1 hp3 => ?_)))
  cases v1 with
  | none =>
    refine (?_ : R (_, _, .null :: [], w, 0, 0))
    iterate 4 refine hR (?_ : R (_, _, _, _, _, _))
    obtain ⟨hTf6, hIf6, hpf6, hKf6⟩ := top_fr2 hT hT.1 fr0 (by decide) hT.2.2.1
    exact hR (zret_i rfl (Nat.le_refl _) trivial ⟨⟨_, hTf6, fun l m h => hIf6 _ _ (h), hKf6, (EXT_rf _), by omega, by omega⟩, _, rfl⟩)
  | some z5 =>
    have hz5 : ρ z5 = 20 := hv1 z5 rfl
    refine (?_ : R (_, _, (.ref z5) :: [], w, 0, 0))
    iterate 4 refine hR (?_ : R (_, _, _, _, _, _))
    refine hR (zcall_i 0 0 (Nat.le_refl _) (Nat.le_refl _) (c_isText _ _ a2 (by omega) _ fun v7 hp9 => ?_))
    refine (?_ : R (_, _, (.int (Int32.ofInt v7)) :: [], w, 0, 0))
    refine hR (k_eq (by omega) (fun hc10 => ?_) (fun hc10 => ?_))
    · skip
      refine hR (?_ : R (_, _, _, _, _, _))
      obtain ⟨hTf11, hIf11, hpf11, hKf11⟩ := top_fr2 hT hT.1 fr0 (by decide) hT.2.2.1
      exact hR (zret_i rfl (Nat.le_refl _) trivial ⟨⟨_, hTf11, fun l m h => hIf11 _ _ (h), hKf11, (EXT_rf _), by omega, by omega⟩, _, rfl⟩)
    iterate 2 refine hR (?_ : R (_, _, _, _, _, _))
    obtain ⟨x0_15, x1_15, x2_15, hO15, hk15_0, hk15_1, hk15_2, hk15_3, hk15_4, hk15_5, hk15_6⟩ := CI_o20 hT.1 hz5
    refine hR (c_obj hO15 (zcall_i 0 0 (Nat.le_refl _) (Nat.le_refl _) (c_hasReader _ z5 a3 hT.1 hz5 (by omega) _ fun v12 hp14 => ?_)))
    refine (?_ : R (_, _, (.int (Int32.ofInt v12)) :: [], w, 0, 0))
    refine hR (k_ne (by omega) (fun hc16 => ?_) (fun hc16 => ?_))
    rotate_left
    · skip
      refine hR (?_ : R (_, _, _, _, _, _))
      obtain ⟨hTf21, hIf21, hpf21, hKf21⟩ := top_fr2 hT hT.1 fr0 (by decide) hT.2.2.1
      exact hR (zret_i rfl (Nat.le_refl _) trivial ⟨⟨_, hTf21, fun l m h => hIf21 _ _ (h), hKf21, (EXT_rf _), by omega, by omega⟩, _, rfl⟩)
    iterate 3 refine hR (?_ : R (_, _, _, _, _, _))
    refine hR (c_obj hO15 (zcall_i 0 0 (Nat.le_refl _) (Nat.le_refl _) (c_readBy _ z5 a3 a2 hT.1 hz5 (by omega) (by omega) _ fun v17 hp19 => ?_)))
    refine (?_ : R (_, _, (.int (Int32.ofInt v17)) :: [], w, 0, 0))
    obtain ⟨hTf20, hIf20, hpf20, hKf20⟩ := top_fr2 hT hT.1 fr0 (by decide) hT.2.2.1
    exact hR (zret_i rfl (Nat.le_refl _) trivial ⟨⟨_, hTf20, fun l m h => hIf20 _ _ (h), hKf20, (EXT_rf _), by omega, by omega⟩, _, rfl⟩)
theorem k_deed {ρ : Nat → Nat} {w : zW} (hT : TOP ρ w) (d : Nat) (a1 a2 a3 : Int) (hr0 : -2147483648 ≤ a1 ∧ a1 ≤ 2147483647) (hr1 : -2147483648 ≤ a2 ∧ a2 ≤ 2147483647) (hr2 : -2147483648 ≤ a3 ∧ a3 ≤ 2147483647) : DET zTab (d + 4) iX11_deed [.ref 0, .int (Int32.ofInt a1), .int (Int32.ofInt a2), .int (Int32.ofInt a3)] w (PB ρ w) := by
  refine z_rel (M := kX11_deed) _ rfl (Nat.le_of_ble_eq_true rfl) fun R hR0 => ?_
  have hR : ∀ {pc : Nat} {L : zL} {S : List Value} {w1 : zW} {k n : Nat}, zsc (zCl zTab (d + 3)) (d + 3) kX11_deed none zTab k n (PB ρ w k n) pc L S w1 k n R → R (pc, L, S, w1, k, n) := fun h => hR0 _ _ (Nat.le_refl _) (Nat.le_refl _) h
  have fr0 := wfR_rf [] ρ w
  iterate 2 refine hR (?_ : R (_, _, _, _, _, _))
  obtain ⟨y6_4, y7_4, hO4, hk4_0, hk4_1, hk4_2, hk4_3, hk4_4, hk4_5, hk4_6, hk4_7⟩ := CI_o1 hT.1 hT.2.1
  refine hR (c_obj hO4 (zcall_i 0 0 (Nat.le_refl _) (Nat.le_refl _) (c_yearAt _ a1 hT.1 hT.2.1 (by omega) _ fun v1 hv1 hp3 => ?_)))
  cases v1 with
  | none =>
    refine (?_ : R (_, _, .null :: [], w, 0, 0))
    iterate 3 refine hR (?_ : R (_, _, _, _, _, _))
    refine hR (t_c (-2) (by decide) ?_)
    refine hR (?_ : R (_, _, _, _, _, _))
    obtain ⟨hTf6, hIf6, hpf6, hKf6⟩ := top_fr2 hT hT.1 fr0 (by decide) hT.2.2.1
    exact hR (zret_i rfl (Nat.le_refl _) trivial ⟨⟨_, hTf6, fun l m h => hIf6 _ _ (h), hKf6, (EXT_rf _), by omega, by omega⟩, _, rfl⟩)
  | some z5 =>
    have hz5 : ρ z5 = 30 := hv1 z5 rfl
    refine (?_ : R (_, _, (.ref z5) :: [], w, 0, 0))
    iterate 6 refine hR (?_ : R (_, _, _, _, _, _))
    obtain ⟨x0_9, hO9, hk9_0, hk9_1, hk9_2, hk9_3⟩ := CI_o30 hT.1 hz5
    refine hR (c_obj hO9 (zcall_i 0 0 (Nat.le_refl _) (Nat.le_refl _) (c_yearTells _ z5 a2 a3 hT.1 hz5 (by omega) (by omega) _ fun v7 => ?_)))
    refine (?_ : R (_, _, (.int (Int32.ofInt v7)) :: [], w, 0, 0))
    obtain ⟨hTf10, hIf10, hpf10, hKf10⟩ := top_fr2 hT hT.1 fr0 (by decide) hT.2.2.1
    exact hR (zret_i rfl (Nat.le_refl _) trivial ⟨⟨_, hTf10, fun l m h => hIf10 _ _ (h), hKf10, (EXT_rf _), by omega, by omega⟩, _, rfl⟩)
theorem k_stop {ρ : Nat → Nat} {w : zW} (hT : TOP ρ w) (d : Nat) (a1 a2 : Int) (hr0 : -2147483648 ≤ a1 ∧ a1 ≤ 2147483647) (hr1 : -2147483648 ≤ a2 ∧ a2 ≤ 2147483647) : DET zTab (d + 7) iX11_stop [.ref 0, .int (Int32.ofInt a1), .int (Int32.ofInt a2)] w (PB ρ w) := by
  refine z_rel (M := kX11_stop) _ rfl (Nat.le_of_ble_eq_true rfl) fun R hR0 => ?_
  have hR : ∀ {pc : Nat} {L : zL} {S : List Value} {w1 : zW} {k n : Nat}, zsc (zCl zTab (d + 6)) (d + 6) kX11_stop none zTab k n (PB ρ w k n) pc L S w1 k n R → R (pc, L, S, w1, k, n) := fun h => hR0 _ _ (Nat.le_refl _) (Nat.le_refl _) h
  have fr0 := wfR_rf [10, 11, 12] ρ w
  iterate 2 refine hR (?_ : R (_, _, _, _, _, _))
  obtain ⟨y6_4, y7_4, hO4, hk4_0, hk4_1, hk4_2, hk4_3, hk4_4, hk4_5, hk4_6, hk4_7⟩ := CI_o1 hT.1 hT.2.1
  refine hR (c_obj hO4 (zcall_i 0 0 (Nat.le_refl _) (Nat.le_refl _) (c_bookAt _ a1 hT.1 hT.2.1 (by omega) _ fun v1 hv1 hp3 => ?_)))
  cases v1 with
  | none =>
    refine (?_ : R (_, _, .null :: [], w, 0, 0))
    iterate 3 refine hR (?_ : R (_, _, _, _, _, _))
    refine hR (c_obj hO4 (zcall_i 0 0 (Nat.le_refl _) (Nat.le_refl _) (c_yearAt _ a2 hT.1 hT.2.1 (by omega) _ fun v6 hv6 hp8 => ?_)))
    cases v6 with
    | none =>
      refine (?_ : R (_, _, .null :: [], w, 0, 0))
      iterate 4 refine hR (?_ : R (_, _, _, _, _, _))
      obtain ⟨hTf10, hIf10, hpf10, hKf10⟩ := top_fr2 hT hT.1 fr0 (by decide) hT.2.2.1
      exact hR (zret_i rfl (Nat.le_refl _) trivial ⟨⟨_, hTf10, fun l m h => hIf10 _ _ (h), hKf10, (EXT_rf _), by omega, by omega⟩, _, rfl⟩)
    | some z9 =>
      have hz9 : ρ z9 = 30 := hv6 z9 rfl
      refine (?_ : R (_, _, (.ref z9) :: [], w, 0, 0))
      iterate 4 refine hR (?_ : R (_, _, _, _, _, _))
      obtain ⟨hTf11, hIf11, hpf11, hKf11⟩ := top_fr2 hT hT.1 fr0 (by decide) hT.2.2.1
      exact hR (zret_i rfl (Nat.le_refl _) trivial ⟨⟨_, hTf11, fun l m h => hIf11 _ _ (h), hKf11, (EXT_rf _), by omega, by omega⟩, _, rfl⟩)
  | some z5 =>
    have hz5 : ρ z5 = 20 := hv1 z5 rfl
    refine (?_ : R (_, _, (.ref z5) :: [], w, 0, 0))
    iterate 3 refine hR (?_ : R (_, _, _, _, _, _))
    refine hR (c_obj hO4 (zcall_i 0 0 (Nat.le_refl _) (Nat.le_refl _) (c_yearAt _ a2 hT.1 hT.2.1 (by omega) _ fun v12 hv12 hp14 => ?_)))
    cases v12 with
    | none =>
      refine (?_ : R (_, _, .null :: [], w, 0, 0))
      iterate 6 refine hR (?_ : R (_, _, _, _, _, _))
      obtain ⟨hTf16, hIf16, hpf16, hKf16⟩ := top_fr2 hT hT.1 fr0 (by decide) hT.2.2.1
      exact hR (zret_i rfl (Nat.le_refl _) trivial ⟨⟨_, hTf16, fun l m h => hIf16 _ _ (h), hKf16, (EXT_rf _), by omega, by omega⟩, _, rfl⟩)
    | some z15 =>
      have hz15 : ρ z15 = 30 := hv12 z15 rfl
      refine (?_ : R (_, _, (.ref z15) :: [], w, 0, 0))
      iterate 6 refine hR (?_ : R (_, _, _, _, _, _))
      refine hR (c_get hO4 rfl ?_)
      refine hR (?_ : R (_, _, _, _, _, _))
      obtain ⟨y0_19, x1_19, x2_19, x3_19, x4_19, hO19, hk19_0, hk19_1, hk19_2, hk19_3, hk19_4, hk19_5, hk19_6⟩ := CI_o10 hT.1 hk4_3
      refine hR (c_obj hO19 (zcall_i 0 0 (Nat.le_refl _) (Nat.le_refl _) (c_begin _ 9 z5 hT.1 hk4_3 hz5 _ fun w17 hw17 g17 hn18 => ?_)))
      have fr20 := wfR_tr fr0 g17 (by decide)
      have hO21 := (g17.2 0 (by rw [hT.2.1]; decide)).trans hO4
      refine (?_ : R (_, _, [], w17, 0, 0))
      have aw22 := AWK_fr hT.1 g17 hT.2.2.1 (by decide)
      refine hR (?_ : R (_, _, _, _, _, _))
      refine hR (c_get hO21 rfl ?_)
      iterate 2 refine hR (?_ : R (_, _, _, _, _, _))
      obtain ⟨x0_23, hO23, hk23_0, hk23_1, hk23_2, hk23_3⟩ := CI_o30 hw17 hz15
      refine hR (c_get hO23 rfl ?_)
      obtain ⟨y0_28, x1_28, x2_28, x3_28, x4_28, hO28, hk28_0, hk28_1, hk28_2, hk28_3, hk28_4, hk28_5, hk28_6⟩ := CI_o10 hw17 hk4_3
      refine hR (c_obj hO28 (zcall_i 0 0 (Nat.le_refl _) (Nat.le_refl _) (c_doFirst _ 9 z15 x0_23 hw17 hk4_3 hz15 hn18 (by omega) _ fun v24 w25 hw25 g25 hn26 hp27 => ?_)))
      have fr29 := wfR_tr fr20 g25 (by decide)
      have hO30 := (g25.2 0 (by rw [hT.2.1]; decide)).trans hO21
      have hO31 := (g25.2 z15 (by rw [hz15]; decide)).trans hO23
      refine (?_ : R (_, _, (.int (Int32.ofInt v24)) :: [], w25, 0, 0))
      have aw32 := AWK_fr hw17 g25 aw22 (by decide)
      obtain ⟨hTf33, hIf33, hpf33, hKf33⟩ := top_fr2 hT hw25 fr29 (by decide) aw32
      exact hR (zret_i rfl (Nat.le_refl _) trivial ⟨⟨_, hTf33, fun l m h => hIf33 _ _ (h), hKf33, (EXT_rf _), by omega, by omega⟩, _, rfl⟩)
theorem k_state {ρ : Nat → Nat} {w : zW} (hT : TOP ρ w) (d : Nat) (a1 a2 a3 a4 : Int) (hr0 : -2147483648 ≤ a1 ∧ a1 ≤ 2147483647) (hr1 : -2147483648 ≤ a2 ∧ a2 ≤ 2147483647) (hr2 : -2147483648 ≤ a3 ∧ a3 ≤ 2147483647) (hr3 : -2147483648 ≤ a4 ∧ a4 ≤ 2147483647) : DET zTab (d + 7) iX11_state [.ref 0, .int (Int32.ofInt a1), .int (Int32.ofInt a2), .int (Int32.ofInt a3), .int (Int32.ofInt a4)] w (PB ρ w) := by
  refine z_rel (M := kX11_state) _ rfl (Nat.le_of_ble_eq_true rfl) fun R hR0 => ?_
  have hR : ∀ {pc : Nat} {L : zL} {S : List Value} {w1 : zW} {k n : Nat}, zsc (zCl zTab (d + 6)) (d + 6) kX11_state none zTab k n (PB ρ w k n) pc L S w1 k n R → R (pc, L, S, w1, k, n) := fun h => hR0 _ _ (Nat.le_refl _) (Nat.le_refl _) h
  have fr0 := wfR_rf [10, 11, 12] ρ w
  iterate 2 refine hR (?_ : R (_, _, _, _, _, _))
  obtain ⟨y6_4, y7_4, hO4, hk4_0, hk4_1, hk4_2, hk4_3, hk4_4, hk4_5, hk4_6, hk4_7⟩ := CI_o1 hT.1 hT.2.1
  refine hR (c_obj hO4 (zcall_i 0 0 (Nat.le_refl _) (Nat.le_refl _) (c_bookAt _ a1 hT.1 hT.2.1 (by omega) _ fun v1 hv1 hp3 => ?_)))
  cases v1 with
  | none =>
    refine (?_ : R (_, _, .null :: [], w, 0, 0))
    iterate 3 refine hR (?_ : R (_, _, _, _, _, _))
    refine hR (c_obj hO4 (zcall_i 0 0 (Nat.le_refl _) (Nat.le_refl _) (c_yearAt _ a2 hT.1 hT.2.1 (by omega) _ fun v6 hv6 hp8 => ?_)))
    cases v6 with
    | none =>
      refine (?_ : R (_, _, .null :: [], w, 0, 0))
      iterate 3 refine hR (?_ : R (_, _, _, _, _, _))
      refine hR (t_c (-2) (by decide) ?_)
      obtain ⟨hTf10, hIf10, hpf10, hKf10⟩ := top_fr2 hT hT.1 fr0 (by decide) hT.2.2.1
      exact hR (zret_i rfl (Nat.le_refl _) trivial ⟨⟨_, hTf10, fun l m h => hIf10 _ _ (h), hKf10, (EXT_rf _), by omega, by omega⟩, _, rfl⟩)
    | some z9 =>
      have hz9 : ρ z9 = 30 := hv6 z9 rfl
      refine (?_ : R (_, _, (.ref z9) :: [], w, 0, 0))
      iterate 3 refine hR (?_ : R (_, _, _, _, _, _))
      refine hR (t_c (-2) (by decide) ?_)
      obtain ⟨hTf11, hIf11, hpf11, hKf11⟩ := top_fr2 hT hT.1 fr0 (by decide) hT.2.2.1
      exact hR (zret_i rfl (Nat.le_refl _) trivial ⟨⟨_, hTf11, fun l m h => hIf11 _ _ (h), hKf11, (EXT_rf _), by omega, by omega⟩, _, rfl⟩)
  | some z5 =>
    have hz5 : ρ z5 = 20 := hv1 z5 rfl
    refine (?_ : R (_, _, (.ref z5) :: [], w, 0, 0))
    iterate 3 refine hR (?_ : R (_, _, _, _, _, _))
    refine hR (c_obj hO4 (zcall_i 0 0 (Nat.le_refl _) (Nat.le_refl _) (c_yearAt _ a2 hT.1 hT.2.1 (by omega) _ fun v12 hv12 hp14 => ?_)))
    cases v12 with
    | none =>
      refine (?_ : R (_, _, .null :: [], w, 0, 0))
      iterate 5 refine hR (?_ : R (_, _, _, _, _, _))
      refine hR (t_c (-2) (by decide) ?_)
      obtain ⟨hTf16, hIf16, hpf16, hKf16⟩ := top_fr2 hT hT.1 fr0 (by decide) hT.2.2.1
      exact hR (zret_i rfl (Nat.le_refl _) trivial ⟨⟨_, hTf16, fun l m h => hIf16 _ _ (h), hKf16, (EXT_rf _), by omega, by omega⟩, _, rfl⟩)
    | some z15 =>
      have hz15 : ρ z15 = 30 := hv12 z15 rfl
      refine (?_ : R (_, _, (.ref z15) :: [], w, 0, 0))
      iterate 6 refine hR (?_ : R (_, _, _, _, _, _))
      refine hR (k_lt (by omega) (fun hc17 => ?_) (fun hc17 => ?_))
      · skip
        refine hR (t_c (-2) (by decide) ?_)
        obtain ⟨hTf18, hIf18, hpf18, hKf18⟩ := top_fr2 hT hT.1 fr0 (by decide) hT.2.2.1
        exact hR (zret_i rfl (Nat.le_refl _) trivial ⟨⟨_, hTf18, fun l m h => hIf18 _ _ (h), hKf18, (EXT_rf _), by omega, by omega⟩, _, rfl⟩)
      iterate 2 refine hR (?_ : R (_, _, _, _, _, _))
      obtain ⟨x0_19, hO19, hk19_0, hk19_1, hk19_2, hk19_3⟩ := CI_o30 hT.1 hz15
      refine hR (c_get hO19 rfl ?_)
      refine hR (j_le (by omega) (by omega) (fun hc20 => ?_) (fun hc20 => ?_))
      rotate_left
      · skip
        refine hR (t_c (-2) (by decide) ?_)
        obtain ⟨hTf43, hIf43, hpf43, hKf43⟩ := top_fr2 hT hT.1 fr0 (by decide) hT.2.2.1
        exact hR (zret_i rfl (Nat.le_refl _) trivial ⟨⟨_, hTf43, fun l m h => hIf43 _ _ (h), hKf43, (EXT_rf _), by omega, by omega⟩, _, rfl⟩)
      refine hR (?_ : R (_, _, _, _, _, _))
      refine hR (c_get hO4 rfl ?_)
      refine hR (?_ : R (_, _, _, _, _, _))
      obtain ⟨y0_23, x1_23, x2_23, x3_23, x4_23, hO23, hk23_0, hk23_1, hk23_2, hk23_3, hk23_4, hk23_5, hk23_6⟩ := CI_o10 hT.1 hk4_3
      refine hR (c_obj hO23 (zcall_i 0 0 (Nat.le_refl _) (Nat.le_refl _) (c_begin _ 9 z5 hT.1 hk4_3 hz5 _ fun w21 hw21 g21 hn22 => ?_)))
      have fr24 := wfR_tr fr0 g21 (by decide)
      have hO25 := (g21.2 0 (by rw [hT.2.1]; decide)).trans hO4
      have hO26 := (g21.2 z15 (by rw [hz15]; decide)).trans hO19
      refine (?_ : R (_, _, [], w21, 0, 0))
      have aw27 := AWK_fr hT.1 g21 hT.2.2.1 (by decide)
      refine hR (?_ : R (_, _, _, _, _, _))
      refine hR (c_get hO25 rfl ?_)
      iterate 2 refine hR (?_ : R (_, _, _, _, _, _))
      obtain ⟨y0_32, x1_32, x2_32, x3_32, x4_32, hO32, hk32_0, hk32_1, hk32_2, hk32_3, hk32_4, hk32_5, hk32_6⟩ := CI_o10 hw21 hk4_3
      refine hR (c_obj hO32 (zcall_i 0 0 (Nat.le_refl _) (Nat.le_refl _) (c_doFirst _ 9 z15 a3 hw21 hk4_3 hz15 hn22 (by omega) _ fun v28 w29 hw29 g29 hn30 hp31 => ?_)))
      have fr33 := wfR_tr fr24 g29 (by decide)
      have hO34 := (g29.2 0 (by rw [hT.2.1]; decide)).trans hO25
      have hO35 := (g29.2 z15 (by rw [hz15]; decide)).trans hO26
      refine (?_ : R (_, _, (.int (Int32.ofInt v28)) :: [], w29, 0, 0))
      have aw36 := AWK_fr hw21 g29 aw27 (by decide)
      refine hR (?_ : R (_, _, _, _, _, _))
      refine hR (j_ge (by omega) (by omega) (fun hc37 => ?_) (fun hc37 => ?_))
      rotate_left
      · skip
        refine hR (t_c (-2) (by decide) ?_)
        refine hR (?_ : R (_, _, _, _, _, _))
        obtain ⟨hTf42, hIf42, hpf42, hKf42⟩ := top_fr2 hT hw29 fr33 (by decide) aw36
        exact hR (zret_i rfl (Nat.le_refl _) trivial ⟨⟨_, hTf42, fun l m h => hIf42 _ _ (h), hKf42, (EXT_rf _), by omega, by omega⟩, _, rfl⟩)
      refine hR (?_ : R (_, _, _, _, _, _))
      refine hR (c_get hO34 rfl ?_)
      refine hR (?_ : R (_, _, _, _, _, _))
      obtain ⟨y0_40, x1_40, x2_40, x3_40, x4_40, hO40, hk40_0, hk40_1, hk40_2, hk40_3, hk40_4, hk40_5, hk40_6⟩ := CI_o10 hw29 hk4_3
      refine hR (c_obj hO40 (zcall_i 0 0 (Nat.le_refl _) (Nat.le_refl _) (c_courseTells _ 9 a4 hw29 hk4_3 hn30 (by omega) _ fun v38 => ?_)))
      refine (?_ : R (_, _, (.int (Int32.ofInt v38)) :: [], w29, 0, 0))
      obtain ⟨hTf41, hIf41, hpf41, hKf41⟩ := top_fr2 hT hw29 fr33 (by decide) aw36
      exact hR (zret_i rfl (Nat.le_refl _) trivial ⟨⟨_, hTf41, fun l m h => hIf41 _ _ (h), hKf41, (EXT_rf _), by omega, by omega⟩, _, rfl⟩)
theorem k_fact {ρ : Nat → Nat} {w : zW} (hT : TOP ρ w) (d : Nat) (a1 a2 a3 : Int) (hr0 : -2147483648 ≤ a1 ∧ a1 ≤ 2147483647) (hr1 : -2147483648 ≤ a2 ∧ a2 ≤ 2147483647) (hr2 : -2147483648 ≤ a3 ∧ a3 ≤ 2147483647) : DET zTab (d + 4) iX11_fact [.ref 0, .int (Int32.ofInt a1), .int (Int32.ofInt a2), .int (Int32.ofInt a3)] w (PB ρ w) := by
  refine z_rel (M := kX11_fact) _ rfl (Nat.le_of_ble_eq_true rfl) fun R hR0 => ?_
  have hR : ∀ {pc : Nat} {L : zL} {S : List Value} {w1 : zW} {k n : Nat}, zsc (zCl zTab (d + 3)) (d + 3) kX11_fact none zTab k n (PB ρ w k n) pc L S w1 k n R → R (pc, L, S, w1, k, n) := fun h => hR0 _ _ (Nat.le_refl _) (Nat.le_refl _) h
  have fr0 := wfR_rf [] ρ w
  iterate 2 refine hR (?_ : R (_, _, _, _, _, _))
  obtain ⟨y6_4, y7_4, hO4, hk4_0, hk4_1, hk4_2, hk4_3, hk4_4, hk4_5, hk4_6, hk4_7⟩ := CI_o1 hT.1 hT.2.1
  refine hR (c_obj hO4 (zcall_i 0 0 (Nat.le_refl _) (Nat.le_refl _) (c_sightAt _ a1 hT.1 hT.2.1 (by omega) _ fun v1 hv1 hp3 => ?_)))
  cases v1 with
  | none =>
    refine (?_ : R (_, _, .null :: [], w, 0, 0))
    iterate 3 refine hR (?_ : R (_, _, _, _, _, _))
    refine hR (t_c (-2) (by decide) ?_)
    refine hR (?_ : R (_, _, _, _, _, _))
    obtain ⟨hTf6, hIf6, hpf6, hKf6⟩ := top_fr2 hT hT.1 fr0 (by decide) hT.2.2.1
    exact hR (zret_i rfl (Nat.le_refl _) trivial ⟨⟨_, hTf6, fun l m h => hIf6 _ _ (h), hKf6, (EXT_rf _), by omega, by omega⟩, _, rfl⟩)
  | some z5 =>
    have hz5 : ρ z5 = 40 := hv1 z5 rfl
    refine (?_ : R (_, _, (.ref z5) :: [], w, 0, 0))
    iterate 6 refine hR (?_ : R (_, _, _, _, _, _))
    obtain ⟨x0_9, hO9, hk9_0, hk9_1, hk9_2⟩ := CI_o40 hT.1 hz5
    refine hR (c_obj hO9 (zcall_i 0 0 (Nat.le_refl _) (Nat.le_refl _) (c_sightTells _ z5 a2 a3 hT.1 hz5 (by omega) (by omega) _ fun v7 => ?_)))
    refine (?_ : R (_, _, (.int (Int32.ofInt v7)) :: [], w, 0, 0))
    obtain ⟨hTf10, hIf10, hpf10, hKf10⟩ := top_fr2 hT hT.1 fr0 (by decide) hT.2.2.1
    exact hR (zret_i rfl (Nat.le_refl _) trivial ⟨⟨_, hTf10, fun l m h => hIf10 _ _ (h), hKf10, (EXT_rf _), by omega, by omega⟩, _, rfl⟩)
theorem k_drawn {ρ : Nat → Nat} {w : zW} (hT : TOP ρ w) (d : Nat) (a1 a2 a3 a4 : Int) (hr0 : -2147483648 ≤ a1 ∧ a1 ≤ 2147483647) (hr1 : -2147483648 ≤ a2 ∧ a2 ≤ 2147483647) (hr2 : -2147483648 ≤ a3 ∧ a3 ≤ 2147483647) (hr3 : -2147483648 ≤ a4 ∧ a4 ≤ 2147483647) : DET zTab (d + 7) iX11_drawn [.ref 0, .int (Int32.ofInt a1), .int (Int32.ofInt a2), .int (Int32.ofInt a3), .int (Int32.ofInt a4)] w (PB ρ w) := by
  refine z_rel (M := kX11_drawn) _ rfl (Nat.le_of_ble_eq_true rfl) fun R hR0 => ?_
  have hR : ∀ {pc : Nat} {L : zL} {S : List Value} {w1 : zW} {k n : Nat}, zsc (zCl zTab (d + 6)) (d + 6) kX11_drawn none zTab k n (PB ρ w k n) pc L S w1 k n R → R (pc, L, S, w1, k, n) := fun h => hR0 _ _ (Nat.le_refl _) (Nat.le_refl _) h
  have fr0 := wfR_rf [10, 11, 12] ρ w
  iterate 2 refine hR (?_ : R (_, _, _, _, _, _))
  obtain ⟨y6_4, y7_4, hO4, hk4_0, hk4_1, hk4_2, hk4_3, hk4_4, hk4_5, hk4_6, hk4_7⟩ := CI_o1 hT.1 hT.2.1
  refine hR (c_obj hO4 (zcall_i 0 0 (Nat.le_refl _) (Nat.le_refl _) (c_bookAt _ a1 hT.1 hT.2.1 (by omega) _ fun v1 hv1 hp3 => ?_)))
  cases v1 with
  | none =>
    refine (?_ : R (_, _, .null :: [], w, 0, 0))
    iterate 3 refine hR (?_ : R (_, _, _, _, _, _))
    refine hR (t_c (-2) (by decide) ?_)
    obtain ⟨hTf6, hIf6, hpf6, hKf6⟩ := top_fr2 hT hT.1 fr0 (by decide) hT.2.2.1
    exact hR (zret_i rfl (Nat.le_refl _) trivial ⟨⟨_, hTf6, fun l m h => hIf6 _ _ (h), hKf6, (EXT_rf _), by omega, by omega⟩, _, rfl⟩)
  | some z5 =>
    have hz5 : ρ z5 = 20 := hv1 z5 rfl
    refine (?_ : R (_, _, (.ref z5) :: [], w, 0, 0))
    iterate 4 refine hR (?_ : R (_, _, _, _, _, _))
    refine hR (k_lt (by omega) (fun hc7 => ?_) (fun hc7 => ?_))
    · skip
      refine hR (t_c (-2) (by decide) ?_)
      obtain ⟨hTf8, hIf8, hpf8, hKf8⟩ := top_fr2 hT hT.1 fr0 (by decide) hT.2.2.1
      exact hR (zret_i rfl (Nat.le_refl _) trivial ⟨⟨_, hTf8, fun l m h => hIf8 _ _ (h), hKf8, (EXT_rf _), by omega, by omega⟩, _, rfl⟩)
    refine hR (?_ : R (_, _, _, _, _, _))
    refine hR (t_c 60 (by decide) ?_)
    refine hR (j_le (by omega) (by omega) (fun hc9 => ?_) (fun hc9 => ?_))
    rotate_left
    · skip
      refine hR (t_c (-2) (by decide) ?_)
      obtain ⟨hTf26, hIf26, hpf26, hKf26⟩ := top_fr2 hT hT.1 fr0 (by decide) hT.2.2.1
      exact hR (zret_i rfl (Nat.le_refl _) trivial ⟨⟨_, hTf26, fun l m h => hIf26 _ _ (h), hKf26, (EXT_rf _), by omega, by omega⟩, _, rfl⟩)
    refine hR (?_ : R (_, _, _, _, _, _))
    refine hR (c_get hO4 rfl ?_)
    refine hR (?_ : R (_, _, _, _, _, _))
    obtain ⟨y0_12, x1_12, x2_12, x3_12, x4_12, hO12, hk12_0, hk12_1, hk12_2, hk12_3, hk12_4, hk12_5, hk12_6⟩ := CI_o10 hT.1 hk4_3
    refine hR (c_obj hO12 (zcall_i 0 0 (Nat.le_refl _) (Nat.le_refl _) (c_begin _ 9 z5 hT.1 hk4_3 hz5 _ fun w10 hw10 g10 hn11 => ?_)))
    have fr13 := wfR_tr fr0 g10 (by decide)
    have hO14 := (g10.2 0 (by rw [hT.2.1]; decide)).trans hO4
    refine (?_ : R (_, _, [], w10, 0, 0))
    have aw15 := AWK_fr hT.1 g10 hT.2.2.1 (by decide)
    refine hR (?_ : R (_, _, _, _, _, _))
    refine hR (c_get hO14 rfl ?_)
    iterate 2 refine hR (?_ : R (_, _, _, _, _, _))
    obtain ⟨y0_18, x1_18, x2_18, x3_18, x4_18, hO18, hk18_0, hk18_1, hk18_2, hk18_3, hk18_4, hk18_5, hk18_6⟩ := CI_o10 hw10 hk4_3
    refine hR (c_obj hO18 (zcall_i 0 0 (Nat.le_refl _) (Nat.le_refl _) (c_draw _ 9 a2 a3 hw10 hk4_3 hn11 (by omega) (by omega) _ fun w16 hw16 g16 hn17 => ?_)))
    have fr19 := wfR_tr fr13 g16 (by decide)
    have hO20 := (g16.2 0 (by rw [hT.2.1]; decide)).trans hO14
    refine (?_ : R (_, _, [], w16, 0, 0))
    have aw21 := AWK_fr hw10 g16 aw15 (by decide)
    refine hR (?_ : R (_, _, _, _, _, _))
    refine hR (c_get hO20 rfl ?_)
    refine hR (?_ : R (_, _, _, _, _, _))
    obtain ⟨y0_24, x1_24, x2_24, x3_24, x4_24, hO24, hk24_0, hk24_1, hk24_2, hk24_3, hk24_4, hk24_5, hk24_6⟩ := CI_o10 hw16 hk4_3
    refine hR (c_obj hO24 (zcall_i 0 0 (Nat.le_refl _) (Nat.le_refl _) (c_courseTells _ 9 a4 hw16 hk4_3 hn17 (by omega) _ fun v22 => ?_)))
    refine (?_ : R (_, _, (.int (Int32.ofInt v22)) :: [], w16, 0, 0))
    obtain ⟨hTf25, hIf25, hpf25, hKf25⟩ := top_fr2 hT hw16 fr19 (by decide) aw21
    exact hR (zret_i rfl (Nat.le_refl _) trivial ⟨⟨_, hTf25, fun l m h => hIf25 _ _ (h), hKf25, (EXT_rf _), by omega, by omega⟩, _, rfl⟩)
theorem k_kinship {ρ : Nat → Nat} {w : zW} (hT : TOP ρ w) (d : Nat) (a1 a2 a3 : Int) (hr0 : -2147483648 ≤ a1 ∧ a1 ≤ 2147483647) (hr1 : -2147483648 ≤ a2 ∧ a2 ≤ 2147483647) (hr2 : -2147483648 ≤ a3 ∧ a3 ≤ 2147483647) : DET zTab (d + 4) iX11_kinship [.ref 0, .int (Int32.ofInt a1), .int (Int32.ofInt a2), .int (Int32.ofInt a3)] w (PB ρ w) := by
  refine z_rel (M := kX11_kinship) _ rfl (Nat.le_of_ble_eq_true rfl) fun R hR0 => ?_
  have hR : ∀ {pc : Nat} {L : zL} {S : List Value} {w1 : zW} {k n : Nat}, zsc (zCl zTab (d + 3)) (d + 3) kX11_kinship none zTab k n (PB ρ w k n) pc L S w1 k n R → R (pc, L, S, w1, k, n) := fun h => hR0 _ _ (Nat.le_refl _) (Nat.le_refl _) h
  have fr0 := wfR_rf [] ρ w
  iterate 2 refine hR (?_ : R (_, _, _, _, _, _))
  obtain ⟨y6_4, y7_4, hO4, hk4_0, hk4_1, hk4_2, hk4_3, hk4_4, hk4_5, hk4_6, hk4_7⟩ := CI_o1 hT.1 hT.2.1
  refine hR (c_obj hO4 (zcall_i 0 0 (Nat.le_refl _) (Nat.le_refl _) (c_bookAt _ a1 hT.1 hT.2.1 (by omega) _ fun v1 hv1 hp3 => ?_)))
  cases v1 with
  | none =>
    refine (?_ : R (_, _, .null :: [], w, 0, 0))
    iterate 4 refine hR (?_ : R (_, _, _, _, _, _))
    obtain ⟨hTf6, hIf6, hpf6, hKf6⟩ := top_fr2 hT hT.1 fr0 (by decide) hT.2.2.1
    exact hR (zret_i rfl (Nat.le_refl _) trivial ⟨⟨_, hTf6, fun l m h => hIf6 _ _ (h), hKf6, (EXT_rf _), by omega, by omega⟩, _, rfl⟩)
  | some z5 =>
    have hz5 : ρ z5 = 20 := hv1 z5 rfl
    refine (?_ : R (_, _, (.ref z5) :: [], w, 0, 0))
    iterate 4 refine hR (?_ : R (_, _, _, _, _, _))
    refine hR (zcall_i 0 0 (Nat.le_refl _) (Nat.le_refl _) (c_isWord _ _ a2 (by omega) _ fun v7 hp9 => ?_))
    refine (?_ : R (_, _, (.int (Int32.ofInt v7)) :: [], w, 0, 0))
    refine hR (k_ne (by omega) (fun hc10 => ?_) (fun hc10 => ?_))
    rotate_left
    · skip
      refine hR (?_ : R (_, _, _, _, _, _))
      obtain ⟨hTf20, hIf20, hpf20, hKf20⟩ := top_fr2 hT hT.1 fr0 (by decide) hT.2.2.1
      exact hR (zret_i rfl (Nat.le_refl _) trivial ⟨⟨_, hTf20, fun l m h => hIf20 _ _ (h), hKf20, (EXT_rf _), by omega, by omega⟩, _, rfl⟩)
    refine hR (?_ : R (_, _, _, _, _, _))
    refine hR (k_eq (by omega) (fun hc11 => ?_) (fun hc11 => ?_))
    · skip
      iterate 2 refine hR (?_ : R (_, _, _, _, _, _))
      obtain ⟨x0_14, x1_14, x2_14, hO14, hk14_0, hk14_1, hk14_2, hk14_3, hk14_4, hk14_5, hk14_6⟩ := CI_o20 hT.1 hz5
      refine hR (c_obj hO14 (zcall_i 0 0 (Nat.le_refl _) (Nat.le_refl _) (c_kinUntilRing _ z5 a2 hT.1 hz5 (by omega) _ fun v12 => ?_)))
      refine (?_ : R (_, _, (.int (Int32.ofInt v12)) :: [], w, 0, 0))
      obtain ⟨hTf15, hIf15, hpf15, hKf15⟩ := top_fr2 hT hT.1 fr0 (by decide) hT.2.2.1
      exact hR (zret_i rfl (Nat.le_refl _) trivial ⟨⟨_, hTf15, fun l m h => hIf15 _ _ (h), hKf15, (EXT_rf _), by omega, by omega⟩, _, rfl⟩)
    iterate 2 refine hR (?_ : R (_, _, _, _, _, _))
    obtain ⟨x0_18, x1_18, x2_18, hO18, hk18_0, hk18_1, hk18_2, hk18_3, hk18_4, hk18_5, hk18_6⟩ := CI_o20 hT.1 hz5
    refine hR (c_obj hO18 (zcall_i 0 0 (Nat.le_refl _) (Nat.le_refl _) (c_kinRing _ z5 a2 hT.1 hz5 (by omega) _ fun v16 => ?_)))
    refine (?_ : R (_, _, (.int (Int32.ofInt v16)) :: [], w, 0, 0))
    refine hR (?_ : R (_, _, _, _, _, _))
    obtain ⟨hTf19, hIf19, hpf19, hKf19⟩ := top_fr2 hT hT.1 fr0 (by decide) hT.2.2.1
    exact hR (zret_i rfl (Nat.le_refl _) trivial ⟨⟨_, hTf19, fun l m h => hIf19 _ _ (h), hKf19, (EXT_rf _), by omega, by omega⟩, _, rfl⟩)
theorem k_shared {ρ : Nat → Nat} {w : zW} (hT : TOP ρ w) (d : Nat) (a1 a2 a3 : Int) (hr0 : -2147483648 ≤ a1 ∧ a1 ≤ 2147483647) (hr1 : -2147483648 ≤ a2 ∧ a2 ≤ 2147483647) (hr2 : -2147483648 ≤ a3 ∧ a3 ≤ 2147483647) : DET zTab (d + 6) iX11_shared [.ref 0, .int (Int32.ofInt a1), .int (Int32.ofInt a2), .int (Int32.ofInt a3)] w (PB ρ w) := by
  refine z_rel (M := kX11_shared) _ rfl (Nat.le_of_ble_eq_true rfl) fun R hR0 => ?_
  have hR : ∀ {pc : Nat} {L : zL} {S : List Value} {w1 : zW} {k n : Nat}, zsc (zCl zTab (d + 5)) (d + 5) kX11_shared none zTab k n (PB ρ w k n) pc L S w1 k n R → R (pc, L, S, w1, k, n) := fun h => hR0 _ _ (Nat.le_refl _) (Nat.le_refl _) h
  have fr0 := wfR_rf [] ρ w
  refine hR (?_ : R (_, _, _, _, _, _))
  refine hR (zcall_i 0 0 (Nat.le_refl _) (Nat.le_refl _) (c_isText _ _ a1 (by omega) _ fun v1 hp3 => ?_))
  refine (?_ : R (_, _, (.int (Int32.ofInt v1)) :: [], w, 0, 0))
  refine hR (k_eq (by omega) (fun hc4 => ?_) (fun hc4 => ?_))
  · skip
    refine hR (?_ : R (_, _, _, _, _, _))
    obtain ⟨hTf5, hIf5, hpf5, hKf5⟩ := top_fr2 hT hT.1 fr0 (by decide) hT.2.2.1
    exact hR (zret_i rfl (Nat.le_refl _) trivial ⟨⟨_, hTf5, fun l m h => hIf5 _ _ (h), hKf5, (EXT_rf _), by omega, by omega⟩, _, rfl⟩)
  refine hR (?_ : R (_, _, _, _, _, _))
  refine hR (zcall_i 0 0 (Nat.le_refl _) (Nat.le_refl _) (c_isText _ _ a2 (by omega) _ fun v6 hp8 => ?_))
  refine (?_ : R (_, _, (.int (Int32.ofInt v6)) :: [], w, 0, 0))
  refine hR (k_ne (by omega) (fun hc9 => ?_) (fun hc9 => ?_))
  rotate_left
  · skip
    refine hR (?_ : R (_, _, _, _, _, _))
    obtain ⟨hTf19, hIf19, hpf19, hKf19⟩ := top_fr2 hT hT.1 fr0 (by decide) hT.2.2.1
    exact hR (zret_i rfl (Nat.le_refl _) trivial ⟨⟨_, hTf19, fun l m h => hIf19 _ _ (h), hKf19, (EXT_rf _), by omega, by omega⟩, _, rfl⟩)
  iterate 2 refine hR (?_ : R (_, _, _, _, _, _))
  refine hR (zcall_i 0 0 (Nat.le_refl _) (Nat.le_refl _) (c_mostShared _ _ a1 a2 (by omega) (by omega) _ fun v10 hp12 => ?_))
  refine (?_ : R (_, _, (.int (Int32.ofInt v10)) :: [], w, 0, 0))
  iterate 2 refine hR (?_ : R (_, _, _, _, _, _))
  refine hR (k_eq (by omega) (fun hc13 => ?_) (fun hc13 => ?_))
  rotate_left
  · skip
    iterate 2 refine hR (?_ : R (_, _, _, _, _, _))
    obtain ⟨hTf18, hIf18, hpf18, hKf18⟩ := top_fr2 hT hT.1 fr0 (by decide) hT.2.2.1
    exact hR (zret_i rfl (Nat.le_refl _) trivial ⟨⟨_, hTf18, fun l m h => hIf18 _ _ (h), hKf18, (EXT_rf _), by omega, by omega⟩, _, rfl⟩)
  refine hR (?_ : R (_, _, _, _, _, _))
  refine hR (zcall_i 0 0 (Nat.le_refl _) (Nat.le_refl _) (c_lengthOf _ _ v10 (by omega) _ fun v14 hp16 => ?_))
  refine (?_ : R (_, _, (.int (Int32.ofInt v14)) :: [], w, 0, 0))
  obtain ⟨hTf17, hIf17, hpf17, hKf17⟩ := top_fr2 hT hT.1 fr0 (by decide) hT.2.2.1
  exact hR (zret_i rfl (Nat.le_refl _) trivial ⟨⟨_, hTf17, fun l m h => hIf17 _ _ (h), hKf17, (EXT_rf _), by omega, by omega⟩, _, rfl⟩)
theorem k_count {ρ : Nat → Nat} {w : zW} (hT : TOP ρ w) (d : Nat) (a1 : Int) (hr0 : -2147483648 ≤ a1 ∧ a1 ≤ 2147483647) : DET zTab (d + 4) iX11_count [.ref 0, .int (Int32.ofInt a1)] w (PB ρ w) := by
  refine z_rel (M := kX11_count) _ rfl (Nat.le_of_ble_eq_true rfl) fun R hR0 => ?_
  have hR : ∀ {pc : Nat} {L : zL} {S : List Value} {w1 : zW} {k n : Nat}, zsc (zCl zTab (d + 3)) (d + 3) kX11_count none zTab k n (PB ρ w k n) pc L S w1 k n R → R (pc, L, S, w1, k, n) := fun h => hR0 _ _ (Nat.le_refl _) (Nat.le_refl _) h
  have fr0 := wfR_rf [] ρ w
  refine hR (?_ : R (_, _, _, _, _, _))
  refine hR (k_lt (by omega) (fun hc1 => ?_) (fun hc1 => ?_))
  · skip
    refine hR (t_c (-2) (by decide) ?_)
    refine hR (?_ : R (_, _, _, _, _, _))
    obtain ⟨hTf2, hIf2, hpf2, hKf2⟩ := top_fr2 hT hT.1 fr0 (by decide) hT.2.2.1
    exact hR (zret_i rfl (Nat.le_refl _) trivial ⟨⟨_, hTf2, fun l m h => hIf2 _ _ (h), hKf2, (EXT_rf _), by omega, by omega⟩, _, rfl⟩)
  iterate 2 refine hR (?_ : R (_, _, _, _, _, _))
  refine hR (j_lt (by omega) (by omega) (fun hc3 => ?_) (fun hc3 => ?_))
  rotate_left
  · skip
    refine hR (t_c (-2) (by decide) ?_)
    refine hR (?_ : R (_, _, _, _, _, _))
    obtain ⟨hTf8, hIf8, hpf8, hKf8⟩ := top_fr2 hT hT.1 fr0 (by decide) hT.2.2.1
    exact hR (zret_i rfl (Nat.le_refl _) trivial ⟨⟨_, hTf8, fun l m h => hIf8 _ _ (h), hKf8, (EXT_rf _), by omega, by omega⟩, _, rfl⟩)
  refine hR (?_ : R (_, _, _, _, _, _))
  obtain ⟨y6_4, y7_4, hO4, hk4_0, hk4_1, hk4_2, hk4_3, hk4_4, hk4_5, hk4_6, hk4_7⟩ := CI_o1 hT.1 hT.2.1
  refine hR (c_get hO4 rfl ?_)
  obtain ⟨x1_5, x2_5, x3_5, hO5, hk5_0, hk5_1, hk5_2, hk5_3, hk5_4, hk5_5, hk5_6, hk5_7⟩ := CI_o2 hT.1 hk4_0
  refine hR (c_get hO5 rfl ?_)
  refine hR (?_ : R (_, _, _, _, _, _))
  refine hR (c_ald hT.1 (by rw [hk5_4]; rfl) (by omega) (by omega) (Nat.le_of_ble_eq_true rfl) fun v6 lv6 uv6 => ?_)
  obtain ⟨hTf7, hIf7, hpf7, hKf7⟩ := top_fr2 hT hT.1 fr0 (by decide) hT.2.2.1
  exact hR (zret_i rfl (Nat.le_refl _) trivial ⟨⟨_, hTf7, fun l m h => hIf7 _ _ (h), hKf7, (EXT_rf _), by omega, by omega⟩, _, rfl⟩)
/-! WHAT IS TOLD: copies of it, bytes for the tape. -/
section CP
variable {R : zS → Prop} {np : Nat} {L : zL} {S : List Value} {w : zW} {k n : Nat} {ρ : Nat → Nat}
theorem c_cpy {q0 q1 ti len : Nat} {lo hi mi : Int} (hw : CI ρ w) (h0 : rAr (ρ q0) = some (ti, len, lo, hi)) (h1 : rAr (ρ q1) = some (ti, len, lo, hi)) (hm : ρ q1 ≠ 23 ∧ ρ q1 ≠ 24 ∧ ρ q1 ≠ 20 ∧ ρ q1 ≠ 21 ∧ ρ q1 ≠ 22 ∧ ρ q1 ≠ 50 ∧ ρ q1 ≠ 51) (hti : Nat.ble ti 1 = true) (hmi : mi = len) (hn : len ≤ 60000) (hfit : ∀ v : Int32, lo ≤ v.toInt → v.toInt ≤ hi → fits (zaty ti) (.int v) = true) (hk : ∀ w1, CI ρ w1 → wfr q1 w w1 → R (np, L, S, w1, k, n)) : zai w q0 fun t0 n0 f => zai w q1 fun t1 n1 g => zif (Nat.beq t0 t1 && Nat.ble t0 1) (((¬ Int32.ofInt 0 < 0 ∧ ¬ Int32.ofInt 0 < 0 ∧ ¬ Int32.ofInt mi < 0) ∧ ((Int32.ofInt 0).toNatClampNeg + (Int32.ofInt mi).toNatClampNeg ≤ n0 ∧ (Int32.ofInt 0).toNatClampNeg + (Int32.ofInt mi).toNatClampNeg ≤ n1) ∧ ∀ j, j < (Int32.ofInt mi).toNatClampNeg → fits (zaty t0) (.int (f ((Int32.ofInt 0).toNatClampNeg + j))) = true) ∧ R (np, L, S, zst w q1 (.inl (t1, n1, .inl (va_cpy f g (Int32.ofInt 0).toNatClampNeg (Int32.ofInt 0).toNatClampNeg (Int32.ofInt mi).toNatClampNeg))), k, n)) := by
  subst hmi
  obtain ⟨f, f1, f2⟩ := CI_ar hw h0
  obtain ⟨g, g1, g2⟩ := CI_ar hw h1
  unfold zai
  rw [f1, g1]
  dsimp only
  rw [show Nat.beq ti ti = true from Nat.beq_refl ti, hti]
  have e0 : (Int32.ofInt 0).toNatClampNeg = 0 := by decide
  have em : (Int32.ofInt (len : Int)).toNatClampNeg = len := by rw [zcl (by omega) (by omega)]; omega
  have hlt : ¬ Int32.ofInt (len : Int) < 0 := by
    rw [Int32.lt_iff_toInt_lt, zti (by omega) (by omega)]
    show ¬ (len : Int) < 0
    omega
  show _ ∧ _
  rw [e0, em]
  refine ⟨⟨⟨by decide, by decide, hlt⟩, ⟨by omega, by omega⟩, fun j _ => hfit _ (f2 _).1 (f2 _).2⟩, ?_⟩
  obtain ⟨a, b⟩ := wfr_st (c' := .inl (ti, len, .inl (va_cpy f g 0 0 len))) g1
  refine hk _ (CI_st hw a b ?_ hm) a
  unfold rOK
  rw [h1]
  refine ⟨_, rfl, fun j => ?_⟩
  by_cases e : j < len
  · rw [pk_cpy_in (by omega) (by omega)]
    exact f2 _
  · rw [pk_cpy_out (by omega)]
    exact g2 _
theorem c_rso {q ti len re : Nat} {i : Int} {o : Option Nat} (hw : CI ρ w) (ha : rAr (ρ q) = none) (hr : rRf (ρ q) = some (ti, len, re)) (ht : (Nat.ble 3 ti && Nat.ble ti 8) = true) (hm : ρ q ≠ 23 ∧ ρ q ≠ 24 ∧ ρ q ≠ 20 ∧ ρ q ≠ 21 ∧ ρ q ≠ 22 ∧ ρ q ≠ 50 ∧ ρ q ≠ 51) (ho : ∀ x, o = some x → ρ x = re ∧ ∃ fs, zix w x = some (.inr (zec ti, fs))) (h0 : 0 ≤ i) (h1 : i < len) (hl : len ≤ 60000) (hk : ∀ w1, CI ρ w1 → wfr q w w1 → R (np, L, S, w1, k, n)) : zaq w q (fun ti len g => zif (Nat.ble 3 ti && Nat.ble ti 8) (zrn2 (va_rf o) (fun q2 => zob w q2 (zec ti) fun _ => vp_in (Int32.ofInt i) len ∧ R (np, L, S, zst w q (.inl (ti, len, .inr (.inr (.inr (.inr (va_up g (Int32.ofInt i).toNatClampNeg (some q2))))))), k, n)) (vp_in (Int32.ofInt i) len ∧ R (np, L, S, zst w q (.inl (ti, len, .inr (.inr (.inr (.inr (va_up g (Int32.ofInt i).toNatClampNeg none)))))), k, n)))) := by
  obtain ⟨g, hg, -⟩ := CI_rf hw ha hr
  cases o with
  | none => exact c_rsn hw ha hr ht hm hg h0 h1 hl fun w1 a b _ => hk w1 a b
  | some x =>
    obtain ⟨hx, fs, hO⟩ := ho x rfl
    exact c_rst hw ha hr ht hm hg hx hO h0 h1 hl fun w1 a b _ => hk w1 a b
theorem c_bst3 {q len : Nat} {i : Int} {x : Int32} (hw : CI ρ w) (hr : rAr (ρ q) = some (0, len, -128, 127)) (hm : ρ q ≠ 23 ∧ ρ q ≠ 24 ∧ ρ q ≠ 20 ∧ ρ q ≠ 21 ∧ ρ q ≠ 22 ∧ ρ q ≠ 50 ∧ ρ q ≠ 51) (h0 : 0 ≤ i) (h1 : i < len) (hl : len ≤ 60000) (hk : ∀ w1, CI ρ w1 → wfr q w w1 → R (np, L, S, w1, k, n)) : zai w q (fun ti len g => zor (Nat.beq ti 0) (vp_in (Int32.ofInt i) len ∧ R (np, L, S, zst w q (.inl (ti, len, .inl (upd g (Int32.ofInt i).toNatClampNeg (vp_nar .byte x)))), k, n)) (zif (Nat.beq ti 2) (vp_in (Int32.ofInt i) len ∧ R (np, L, S, zst w q (.inl (ti, len, .inl (upd g (Int32.ofInt i).toNatClampNeg (vp_nar .boolean x)))), k, n)))) := by
  obtain ⟨g, h2, h3⟩ := CI_ar hw hr
  unfold zai
  rw [h2]
  refine ⟨zvin h0 h1 hl, ?_⟩
  obtain ⟨f1, f2⟩ := wfr_st (c' := .inl (0, len, .inl (upd g (Int32.ofInt i).toNatClampNeg (vp_nar .byte x)))) h2
  refine hk _ (CI_st hw f1 f2 ?_ hm) f1
  unfold rOK
  rw [hr]
  refine ⟨_, rfl, fun j => ?_⟩
  by_cases e : j = (Int32.ofInt i).toNatClampNeg
  · subst e
    rw [pk_us, vp_nar_byte, Int8.toInt_toInt32]
    have a := Int8.le_toInt x.toInt8
    have b := Int8.toInt_lt x.toInt8
    omega
  · rw [pk_un e]
    exact h3 j
end CP
theorem fit_b (v : Int32) (h1 : -128 ≤ v.toInt) (h2 : v.toInt ≤ 127) : fits (zaty 0) (.int v) = true := by
  show (decide (-128 ≤ v) && decide (v ≤ 127)) = true
  rw [Bool.and_eq_true, decide_eq_true_eq, decide_eq_true_eq, Int32.le_iff_toInt_le, Int32.le_iff_toInt_le]
  exact ⟨h1, h2⟩
theorem blk {ρ : Nat → Nat} {w : zW} {p o : Nat} (hw : CI ρ w) (hp : ρ p = 2) (ho : ρ o = 2) (hne : p ≠ o) : ∀ j, j ≤ 5 → (o + j < p ∨ p + 5 < o + j) := by
  intro j hj
  obtain ⟨a1, a2, a3, -, b1, -, -, -, b2, b3, b4, b5⟩ := CI_o2 hw hp
  obtain ⟨c1, c2, c3, -, d1, -, -, -, d2, d3, d4, d5⟩ := CI_o2 hw ho
  rcases Nat.lt_or_ge (o + j) p with h | h
  · exact Or.inl h
  · rcases Nat.lt_or_ge (p + 5) (o + j) with h2 | h2
    · exact Or.inr h2
    · exfalso
      obtain ⟨i, hi⟩ : ∃ i, o + j = p + i := ⟨o + j - p, by omega⟩
      have e1 : ρ (p + i) = 2 + i := by
        have : i = 0 ∨ i = 1 ∨ i = 2 ∨ i = 3 ∨ i = 4 ∨ i = 5 := by omega
        rcases this with rfl | rfl | rfl | rfl | rfl | rfl <;> assumption
      have e2 : ρ (o + j) = 2 + j := by
        have : j = 0 ∨ j = 1 ∨ j = 2 ∨ j = 3 ∨ j = 4 ∨ j = 5 := by omega
        rcases this with rfl | rfl | rfl | rfl | rfl | rfl <;> assumption
      rw [hi, e1] at e2
      omega
noncomputable def FRP (p : Nat) (w w' : zW) : Prop := w'.length = w.length ∧ ∀ q, (q < p ∨ p + 5 < q) → zix w' q = zix w q
theorem FRP_st {p q0 : Nat} {w w1 w2 : zW} (h : FRP p w w1) (f : wfr q0 w1 w2) (hq : p ≤ q0 ∧ q0 ≤ p + 5) : FRP p w w2 := ⟨f.1.trans h.1, fun q hh => (f.2 q (by omega)).trans (h.2 q hh)⟩
