theorem c_bitCount (w : zW) (d : Nat) (a1 : Int)  (Q : zQ) (h : ∀ (v : Int), (-2147483648 ≤ v ∧ v ≤ 2147483647) → Q (some (.int (Int32.ofInt v))) w) : zCl zTab (d + 1) iJ6_bitCount_0f7a4 [.int (Int32.ofInt a1)] w 0 0 Q := by
  refine zCl_i (M := kJ6_bitCount_0f7a4) rfl (Nat.le_of_ble_eq_true rfl) fun R hR => ?_
  iterate 3 refine hR (?_ : R (_, _, _, _, _, _))
  refine hR (t_o fun v1 rv1 => ?_)
  refine hR (t_c 1431655765 (by decide) ?_)
  refine hR (t_o fun v2 rv2 => ?_)
  refine hR (t_sub ?_)
  iterate 2 refine hR (?_ : R (_, _, _, _, _, _))
  refine hR (t_c 858993459 (by decide) ?_)
  refine hR (t_o fun v3 rv3 => ?_)
  iterate 2 refine hR (?_ : R (_, _, _, _, _, _))
  refine hR (t_o fun v4 rv4 => ?_)
  refine hR (t_c 858993459 (by decide) ?_)
  refine hR (t_o fun v5 rv5 => ?_)
  refine hR (t_add ?_)
  iterate 4 refine hR (?_ : R (_, _, _, _, _, _))
  refine hR (t_o fun v6 rv6 => ?_)
  refine hR (t_add ?_)
  refine hR (t_c 252645135 (by decide) ?_)
  refine hR (t_o fun v7 rv7 => ?_)
  iterate 3 refine hR (?_ : R (_, _, _, _, _, _))
  refine hR (t_c 8 (by decide) ?_)
  refine hR (t_o fun v8 rv8 => ?_)
  refine hR (t_add ?_)
  iterate 3 refine hR (?_ : R (_, _, _, _, _, _))
  refine hR (t_c 16 (by decide) ?_)
  obtain ⟨v9, lv9, uv9, qv9⟩ := zushr_r (Int32.ofInt (v7 + v8))
  refine hR (t_c v9 qv9 ?_)
  refine hR (t_add ?_)
  iterate 2 refine hR (?_ : R (_, _, _, _, _, _))
  refine hR (t_c 63 (by decide) ?_)
  obtain ⟨v10, lv10, uv10, qv10⟩ := zand_r (Int32.ofInt ((v7 + v8) + v9)) (m := Int32.ofInt 63) 6 (by decide) (by decide)
  refine hR (t_c v10 qv10 ?_)
  exact hR (zret_i rfl (Nat.le_refl _) trivial (h _ (by omega)))
theorem k_rota {ρ : Nat → Nat} {w : zW} (hT : TOP ρ w) (d : Nat) (a1 a2 a3 : Int) (hr0 : -2147483648 ≤ a1 ∧ a1 ≤ 2147483647) (hr1 : -2147483648 ≤ a2 ∧ a2 ≤ 2147483647) (hr2 : -2147483648 ≤ a3 ∧ a3 ≤ 2147483647) : DET zTab (d + 7) iX11_rota [.ref 0, .int (Int32.ofInt a1), .int (Int32.ofInt a2), .int (Int32.ofInt a3)] w (PB ρ w) := by
  refine z_rel (M := kX11_rota) _ rfl (Nat.le_of_ble_eq_true rfl) fun R hR0 => ?_
  have hR : ∀ {pc : Nat} {L : zL} {S : List Value} {w1 : zW} {k n : Nat}, zsc (zCl zTab (d + 6)) (d + 6) kX11_rota none zTab k n (PB ρ w k n) pc L S w1 k n R → R (pc, L, S, w1, k, n) := fun h => hR0 _ _ (Nat.le_refl _) (Nat.le_refl _) h
  have fr0 := wfR_rf [51, 70, 71, 72, 73, 74, 75, 76] ρ w
  iterate 2 refine hR (?_ : R (_, _, _, _, _, _))
  obtain ⟨y6_2, y7_2, hO2, hk2_0, hk2_1, hk2_2, hk2_3, hk2_4, hk2_5, hk2_6, hk2_7⟩ := CI_o1 hT.1 hT.2.1
  obtain ⟨hTt1, hIt1, hpt1, hKt1⟩ := top_fr2 hT hT.1 fr0 (by decide) hT.2.2.1
  obtain ⟨mc1, ms1, re1, w, ⟨ρ, hA1, hr_1⟩, hrun1⟩ := a_readingsAt hTt1 (d + 3) a1 (by omega)
  refine hR0 (0 + mc1) (0 + ms1) (Nat.le_add_right _ _) (Nat.le_add_right _ _) (c_obj hO2 (zcall_i mc1 ms1 (Nat.le_refl _) (Nat.le_refl _) (hrun1 _ ?_)))
  obtain ⟨hT, hI1, hK1, hx1, hm1, hs1⟩ := hA1
  have fr3 := wfR_rf [51, 70, 71, 72, 73, 74, 75, 76] ρ w
  rcases hr_1 with rfl | ⟨z1, rfl, hz1⟩
  · skip
    refine (?_ : R (_, _, .null :: [], w, 0 + mc1, 0 + ms1))
    iterate 4 refine hR (?_ : R (_, _, _, _, _, _))
    obtain ⟨hTf4, hIf4, hpf4, hKf4⟩ := top_fr2 hT hT.1 fr3 (by decide) hT.2.2.1
    exact hR (zret_i rfl (Nat.le_refl _) trivial ⟨⟨_, hTf4, fun l m h => hIf4 _ _ (hI1 _ _ (hIt1 _ _ (h))), (KEEP2_tr hKt1 (KEEP2_tr hK1 hKf4)), hx1, by omega, by omega⟩, _, rfl⟩)
  · skip
    refine (?_ : R (_, _, (.ref z1) :: [], w, 0 + mc1, 0 + ms1))
    iterate 4 refine hR (?_ : R (_, _, _, _, _, _))
    refine hR (zcall_i 0 0 (Nat.le_refl _) (Nat.le_refl _) (c_isSpan _ _ a2 (by omega) _ fun v5 hp7 => ?_))
    refine (?_ : R (_, _, (.int (Int32.ofInt v5)) :: [], w, 0 + mc1, 0 + ms1))
    refine hR (k_eq (by omega) (fun hc8 => ?_) (fun hc8 => ?_))
    · skip
      refine hR (?_ : R (_, _, _, _, _, _))
      obtain ⟨hTf9, hIf9, hpf9, hKf9⟩ := top_fr2 hT hT.1 fr3 (by decide) hT.2.2.1
      exact hR (zret_i rfl (Nat.le_refl _) trivial ⟨⟨_, hTf9, fun l m h => hIf9 _ _ (hI1 _ _ (hIt1 _ _ (h))), (KEEP2_tr hKt1 (KEEP2_tr hK1 hKf9)), hx1, by omega, by omega⟩, _, rfl⟩)
    refine hR (?_ : R (_, _, _, _, _, _))
    refine hR (k_le (by omega) (fun hc10 => ?_) (fun hc10 => ?_))
    · skip
      refine hR (?_ : R (_, _, _, _, _, _))
      refine hR (t_c 10 (by decide) ?_)
      refine hR (j_lt (by omega) (by omega) (fun hc11 => ?_) (fun hc11 => ?_))
      · skip
        iterate 3 refine hR (?_ : R (_, _, _, _, _, _))
        refine hR (k_eq (by omega) (fun hc12 => ?_) (fun hc12 => ?_))
        · skip
          refine hR (?_ : R (_, _, _, _, _, _))
          obtain ⟨y6_14, y7_14, hO14, hk14_0, hk14_1, hk14_2, hk14_3, hk14_4, hk14_5, hk14_6, hk14_7⟩ := CI_o1 hT.1 hT.2.1
          obtain ⟨hTt13, hIt13, hpt13, hKt13⟩ := top_fr2 hT hT.1 fr3 (by decide) hT.2.2.1
          obtain ⟨mc13, ms13, re13, w, ⟨ρ, z13, hA13, hre13, hz13⟩, hrun13⟩ := a_levelsThere hTt13 (d + 3)
          subst hre13
          refine hR0 (0 + mc1 + mc13) (0 + ms1 + ms13) (Nat.le_add_right _ _) (Nat.le_add_right _ _) (c_obj hO14 (zcall_i mc13 ms13 (Nat.le_refl _) (Nat.le_refl _) (hrun13 _ ?_)))
          obtain ⟨hT, hI13, hK13, hx13, hm13, hs13⟩ := hA13
          have hl15 : ρ z1 = 50 := (hx13 z1 (by rw [hz1]; decide)).trans hz1
          have fr16 := wfR_rf [51, 70, 71, 72, 73, 74, 75, 76] ρ w
          refine (?_ : R (_, _, (.ref z13) :: [], w, 0 + mc1 + mc13, 0 + ms1 + ms13))
          iterate 2 refine hR (?_ : R (_, _, _, _, _, _))
          obtain ⟨y0_18, x1_18, x2_18, x3_18, hO18, hk18_0, hk18_1, hk18_2, hk18_3, hk18_4, hk18_5, hk18_6, hk18_7, hk18_8, hk18_9⟩ := CI_o70 hT.1 hz13
          refine hR (c_obj hO18 (zcall_i 0 0 (Nat.le_refl _) (Nat.le_refl _) (c_wantNothing _ z13 hT.1 hz13 _ fun w17 hw17 g17 => ?_)))
          have fr19 := wfR_tr fr16 g17 (by decide)
          have hO20 := (g17.2 z13 (by rw [hz13]; decide)).trans hO18
          refine (?_ : R (_, _, [], w17, 0 + mc1 + mc13, 0 + ms1 + ms13))
          have aw21 := AWK_fr hT.1 g17 hT.2.2.1 (by decide)
          iterate 4 refine hR (?_ : R (_, _, _, _, _, _))
          obtain ⟨z0_25, z2_25, z3_25, hO25, hk25_0, hk25_1, hk25_2, hk25_3, hk25_4⟩ := CI_o50 hw17 hl15
          refine hR (c_obj hO25 (zcall_i 0 0 (Nat.le_refl _) (Nat.le_refl _) (c_all _ z1 hw17 hl15 _ fun v22 hp24 => ?_)))
          refine (?_ : R (_, _, (.int (Int32.ofInt v22)) :: (.int (Int32.ofInt a2)) :: (.ref z1) :: (.ref z13) :: [], w17, 0 + mc1 + mc13, 0 + ms1 + ms13))
          refine hR (?_ : R (_, _, _, _, _, _))
          refine hR (c_obj hO25 (zcall_i 0 0 (Nat.le_refl _) (Nat.le_refl _) (c_all _ z1 hw17 hl15 _ fun v26 hp28 => ?_)))
          refine (?_ : R (_, _, (.int (Int32.ofInt v26)) :: (.int (Int32.ofInt v22)) :: (.int (Int32.ofInt a2)) :: (.ref z1) :: (.ref z13) :: [], w17, 0 + mc1 + mc13, 0 + ms1 + ms13))
          refine hR (c_obj hO20 (zcall_i 0 0 (Nat.le_refl _) (Nat.le_refl _) (c_spread _ z13 z1 a2 v22 v26 hw17 hz13 hl15 (by omega) (by omega) (by omega) _ fun w29 hw29 g29 hn30 hp31 => ?_)))
          have fr32 := wfR_tr fr19 g29 (by decide)
          have hO33 := (g29.2 z1 (by rw [hl15]; decide)).trans hO25
          refine (?_ : R (_, _, [], w29, 0 + mc1 + mc13, 0 + ms1 + ms13))
          have aw34 := AWK_fr hw17 g29 aw21 (by decide)
          refine hR (?_ : R (_, _, _, _, _, _))
          obtain ⟨y0_36, x1_36, x2_36, x3_36, hO36, hk36_0, hk36_1, hk36_2, hk36_3, hk36_4, hk36_5, hk36_6, hk36_7, hk36_8, hk36_9⟩ := CI_o70 hw29 hz13
          refine hR (c_obj hO36 (zcall_i 0 0 (Nat.le_refl _) (Nat.le_refl _) (c_endByDrift _ z13 hw29 hz13 hn30 _ fun w35 hw35 g35 => ?_)))
          have fr37 := wfR_tr fr32 g35 (by decide)
          have hn38 := nn_eq (g35.2 z13 (by rw [hz13]; decide)) hn30
          have hO39 := (g35.2 z1 (by rw [hl15]; decide)).trans hO33
          have hO40 := (g35.2 z13 (by rw [hz13]; decide)).trans hO36
          refine (?_ : R (_, _, [], w35, 0 + mc1 + mc13, 0 + ms1 + ms13))
          have aw41 := AWK_fr hw29 g35 aw34 (by decide)
          have sp42 := SPN_eq (g35.2 z13 (by rw [hz13]; decide)) (g35.2 (z13 + 1) (by rw [hk36_4]; decide)) hp31
          refine hR (?_ : R (_, _, _, _, _, _))
          refine hR (k_ne (by omega) (fun hc => by omega) (fun _ => ?_))
          iterate 3 refine hR (?_ : R (_, _, _, _, _, _))
          refine hR (j_ne (by omega) (by omega) (fun hc43 => ?_) (fun hc43 => ?_))
          · skip
            refine hR (?_ : R (_, _, _, _, _, _))
            refine hR (c_obj hO40 (zcall_i 0 0 (Nat.le_refl _) (Nat.le_refl _) (c_bestEnd _ z13 0 hw35 hz13 sp42 (by omega) _ fun v44 hp46 => ?_)))
            refine (?_ : R (_, _, (.int (Int32.ofInt v44)) :: [], w35, 0 + mc1 + mc13, 0 + ms1 + ms13))
            obtain ⟨hTf47, hIf47, hpf47, hKf47⟩ := top_fr2 hT hw35 fr37 (by decide) aw41
            exact hR (zret_i rfl (Nat.le_refl _) trivial ⟨⟨_, hTf47, fun l m h => hIf47 _ _ (hI13 _ _ (hIt13 _ _ (hI1 _ _ (hIt1 _ _ (h))))), (KEEP2_tr hKt1 (KEEP2_tr hK1 (KEEP2_tr hKt13 (KEEP2_tr hK13 hKf47)))), (EXT_tr hx1 hx13), by omega, by omega⟩, _, rfl⟩)
          iterate 2 refine hR (?_ : R (_, _, _, _, _, _))
          refine hR (c_obj hO40 (zcall_i 0 0 (Nat.le_refl _) (Nat.le_refl _) (c_bestEnd _ z13 1 hw35 hz13 sp42 (by omega) _ fun v48 hp50 => ?_)))
          refine (?_ : R (_, _, (.int (Int32.ofInt v48)) :: [], w35, 0 + mc1 + mc13, 0 + ms1 + ms13))
          obtain ⟨hTf51, hIf51, hpf51, hKf51⟩ := top_fr2 hT hw35 fr37 (by decide) aw41
          exact hR (zret_i rfl (Nat.le_refl _) trivial ⟨⟨_, hTf51, fun l m h => hIf51 _ _ (hI13 _ _ (hIt13 _ _ (hI1 _ _ (hIt1 _ _ (h))))), (KEEP2_tr hKt1 (KEEP2_tr hK1 (KEEP2_tr hKt13 (KEEP2_tr hK13 hKf51)))), (EXT_tr hx1 hx13), by omega, by omega⟩, _, rfl⟩)
        iterate 2 refine hR (?_ : R (_, _, _, _, _, _))
        refine hR (j_eq (by omega) (by omega) (fun hc52 => ?_) (fun hc52 => ?_))
        rotate_left
        · skip
          refine hR (?_ : R (_, _, _, _, _, _))
          refine hR (k_ne (by omega) (fun hc => by omega) (fun _ => ?_))
          refine hR (?_ : R (_, _, _, _, _, _))
          obtain ⟨hTf87, hIf87, hpf87, hKf87⟩ := top_fr2 hT hT.1 fr3 (by decide) hT.2.2.1
          exact hR (zret_i rfl (Nat.le_refl _) trivial ⟨⟨_, hTf87, fun l m h => hIf87 _ _ (hI1 _ _ (hIt1 _ _ (h))), (KEEP2_tr hKt1 (KEEP2_tr hK1 hKf87)), hx1, by omega, by omega⟩, _, rfl⟩)
        refine hR (?_ : R (_, _, _, _, _, _))
        obtain ⟨y6_54, y7_54, hO54, hk54_0, hk54_1, hk54_2, hk54_3, hk54_4, hk54_5, hk54_6, hk54_7⟩ := CI_o1 hT.1 hT.2.1
        obtain ⟨hTt53, hIt53, hpt53, hKt53⟩ := top_fr2 hT hT.1 fr3 (by decide) hT.2.2.1
        obtain ⟨mc53, ms53, re53, w, ⟨ρ, z53, hA53, hre53, hz53⟩, hrun53⟩ := a_levelsThere hTt53 (d + 3)
        subst hre53
        refine hR0 (0 + mc1 + mc53) (0 + ms1 + ms53) (Nat.le_add_right _ _) (Nat.le_add_right _ _) (c_obj hO54 (zcall_i mc53 ms53 (Nat.le_refl _) (Nat.le_refl _) (hrun53 _ ?_)))
        obtain ⟨hT, hI53, hK53, hx53, hm53, hs53⟩ := hA53
        have hl55 : ρ z1 = 50 := (hx53 z1 (by rw [hz1]; decide)).trans hz1
        have fr56 := wfR_rf [51, 70, 71, 72, 73, 74, 75, 76] ρ w
        refine (?_ : R (_, _, (.ref z53) :: [], w, 0 + mc1 + mc53, 0 + ms1 + ms53))
        iterate 2 refine hR (?_ : R (_, _, _, _, _, _))
        obtain ⟨y0_58, x1_58, x2_58, x3_58, hO58, hk58_0, hk58_1, hk58_2, hk58_3, hk58_4, hk58_5, hk58_6, hk58_7, hk58_8, hk58_9⟩ := CI_o70 hT.1 hz53
        refine hR (c_obj hO58 (zcall_i 0 0 (Nat.le_refl _) (Nat.le_refl _) (c_wantNothing _ z53 hT.1 hz53 _ fun w57 hw57 g57 => ?_)))
        have fr59 := wfR_tr fr56 g57 (by decide)
        have hO60 := (g57.2 z53 (by rw [hz53]; decide)).trans hO58
        refine (?_ : R (_, _, [], w57, 0 + mc1 + mc53, 0 + ms1 + ms53))
        have aw61 := AWK_fr hT.1 g57 hT.2.2.1 (by decide)
        iterate 4 refine hR (?_ : R (_, _, _, _, _, _))
        obtain ⟨z0_65, z2_65, z3_65, hO65, hk65_0, hk65_1, hk65_2, hk65_3, hk65_4⟩ := CI_o50 hw57 hl55
        refine hR (c_obj hO65 (zcall_i 0 0 (Nat.le_refl _) (Nat.le_refl _) (c_all _ z1 hw57 hl55 _ fun v62 hp64 => ?_)))
        refine (?_ : R (_, _, (.int (Int32.ofInt v62)) :: (.int (Int32.ofInt a2)) :: (.ref z1) :: (.ref z53) :: [], w57, 0 + mc1 + mc53, 0 + ms1 + ms53))
        refine hR (?_ : R (_, _, _, _, _, _))
        refine hR (c_obj hO65 (zcall_i 0 0 (Nat.le_refl _) (Nat.le_refl _) (c_all _ z1 hw57 hl55 _ fun v66 hp68 => ?_)))
        refine (?_ : R (_, _, (.int (Int32.ofInt v66)) :: (.int (Int32.ofInt v62)) :: (.int (Int32.ofInt a2)) :: (.ref z1) :: (.ref z53) :: [], w57, 0 + mc1 + mc53, 0 + ms1 + ms53))
        refine hR (c_obj hO60 (zcall_i 0 0 (Nat.le_refl _) (Nat.le_refl _) (c_spread _ z53 z1 a2 v62 v66 hw57 hz53 hl55 (by omega) (by omega) (by omega) _ fun w69 hw69 g69 hn70 hp71 => ?_)))
        have fr72 := wfR_tr fr59 g69 (by decide)
        have hO73 := (g69.2 z1 (by rw [hl55]; decide)).trans hO65
        refine (?_ : R (_, _, [], w69, 0 + mc1 + mc53, 0 + ms1 + ms53))
        have aw74 := AWK_fr hw57 g69 aw61 (by decide)
        refine hR (?_ : R (_, _, _, _, _, _))
        obtain ⟨y0_76, x1_76, x2_76, x3_76, hO76, hk76_0, hk76_1, hk76_2, hk76_3, hk76_4, hk76_5, hk76_6, hk76_7, hk76_8, hk76_9⟩ := CI_o70 hw69 hz53
        refine hR (c_obj hO76 (zcall_i 0 0 (Nat.le_refl _) (Nat.le_refl _) (c_endByDrift _ z53 hw69 hz53 hn70 _ fun w75 hw75 g75 => ?_)))
        have fr77 := wfR_tr fr72 g75 (by decide)
        have hn78 := nn_eq (g75.2 z53 (by rw [hz53]; decide)) hn70
        have hO79 := (g75.2 z1 (by rw [hl55]; decide)).trans hO73
        have hO80 := (g75.2 z53 (by rw [hz53]; decide)).trans hO76
        refine (?_ : R (_, _, [], w75, 0 + mc1 + mc53, 0 + ms1 + ms53))
        have aw81 := AWK_fr hw69 g75 aw74 (by decide)
        have sp82 := SPN_eq (g75.2 z53 (by rw [hz53]; decide)) (g75.2 (z53 + 1) (by rw [hk76_4]; decide)) hp71
        refine hR (?_ : R (_, _, _, _, _, _))
        refine hR (k_ne (by omega) (fun hc => by omega) (fun _ => ?_))
        iterate 3 refine hR (?_ : R (_, _, _, _, _, _))
        refine hR (j_ne (by omega) (by omega) (fun hc => by omega) (fun _ => ?_))
        iterate 2 refine hR (?_ : R (_, _, _, _, _, _))
        refine hR (c_obj hO80 (zcall_i 0 0 (Nat.le_refl _) (Nat.le_refl _) (c_bestEnd _ z53 1 hw75 hz53 sp82 (by omega) _ fun v83 hp85 => ?_)))
        refine (?_ : R (_, _, (.int (Int32.ofInt v83)) :: [], w75, 0 + mc1 + mc53, 0 + ms1 + ms53))
        obtain ⟨hTf86, hIf86, hpf86, hKf86⟩ := top_fr2 hT hw75 fr77 (by decide) aw81
        exact hR (zret_i rfl (Nat.le_refl _) trivial ⟨⟨_, hTf86, fun l m h => hIf86 _ _ (hI53 _ _ (hIt53 _ _ (hI1 _ _ (hIt1 _ _ (h))))), (KEEP2_tr hKt1 (KEEP2_tr hK1 (KEEP2_tr hKt53 (KEEP2_tr hK53 hKf86)))), (EXT_tr hx1 hx53), by omega, by omega⟩, _, rfl⟩)
      refine hR (?_ : R (_, _, _, _, _, _))
      refine hR (t_c 10 (by decide) ?_)
      refine hR (?_ : R (_, _, _, _, _, _))
      refine hR (t_add ?_)
      refine hR (j_ge (by omega) (by omega) (fun hc88 => ?_) (fun hc88 => ?_))
      · skip
        iterate 3 refine hR (?_ : R (_, _, _, _, _, _))
        refine hR (k_eq (by omega) (fun hc89 => ?_) (fun hc89 => ?_))
        · skip
          refine hR (?_ : R (_, _, _, _, _, _))
          obtain ⟨y6_91, y7_91, hO91, hk91_0, hk91_1, hk91_2, hk91_3, hk91_4, hk91_5, hk91_6, hk91_7⟩ := CI_o1 hT.1 hT.2.1
          obtain ⟨hTt90, hIt90, hpt90, hKt90⟩ := top_fr2 hT hT.1 fr3 (by decide) hT.2.2.1
          obtain ⟨mc90, ms90, re90, w, ⟨ρ, z90, hA90, hre90, hz90⟩, hrun90⟩ := a_levelsThere hTt90 (d + 3)
          subst hre90
          refine hR0 (0 + mc1 + mc90) (0 + ms1 + ms90) (Nat.le_add_right _ _) (Nat.le_add_right _ _) (c_obj hO91 (zcall_i mc90 ms90 (Nat.le_refl _) (Nat.le_refl _) (hrun90 _ ?_)))
          obtain ⟨hT, hI90, hK90, hx90, hm90, hs90⟩ := hA90
          have hl92 : ρ z1 = 50 := (hx90 z1 (by rw [hz1]; decide)).trans hz1
          have fr93 := wfR_rf [51, 70, 71, 72, 73, 74, 75, 76] ρ w
          refine (?_ : R (_, _, (.ref z90) :: [], w, 0 + mc1 + mc90, 0 + ms1 + ms90))
          iterate 2 refine hR (?_ : R (_, _, _, _, _, _))
          obtain ⟨y0_95, x1_95, x2_95, x3_95, hO95, hk95_0, hk95_1, hk95_2, hk95_3, hk95_4, hk95_5, hk95_6, hk95_7, hk95_8, hk95_9⟩ := CI_o70 hT.1 hz90
          refine hR (c_obj hO95 (zcall_i 0 0 (Nat.le_refl _) (Nat.le_refl _) (c_wantNothing _ z90 hT.1 hz90 _ fun w94 hw94 g94 => ?_)))
          have fr96 := wfR_tr fr93 g94 (by decide)
          have hO97 := (g94.2 z90 (by rw [hz90]; decide)).trans hO95
          refine (?_ : R (_, _, [], w94, 0 + mc1 + mc90, 0 + ms1 + ms90))
          have aw98 := AWK_fr hT.1 g94 hT.2.2.1 (by decide)
          iterate 4 refine hR (?_ : R (_, _, _, _, _, _))
          obtain ⟨z0_102, z2_102, z3_102, hO102, hk102_0, hk102_1, hk102_2, hk102_3, hk102_4⟩ := CI_o50 hw94 hl92
          refine hR (c_obj hO102 (zcall_i 0 0 (Nat.le_refl _) (Nat.le_refl _) (c_all _ z1 hw94 hl92 _ fun v99 hp101 => ?_)))
          refine (?_ : R (_, _, (.int (Int32.ofInt v99)) :: (.int (Int32.ofInt a2)) :: (.ref z1) :: (.ref z90) :: [], w94, 0 + mc1 + mc90, 0 + ms1 + ms90))
          refine hR (?_ : R (_, _, _, _, _, _))
          refine hR (c_obj hO102 (zcall_i 0 0 (Nat.le_refl _) (Nat.le_refl _) (c_all _ z1 hw94 hl92 _ fun v103 hp105 => ?_)))
          refine (?_ : R (_, _, (.int (Int32.ofInt v103)) :: (.int (Int32.ofInt v99)) :: (.int (Int32.ofInt a2)) :: (.ref z1) :: (.ref z90) :: [], w94, 0 + mc1 + mc90, 0 + ms1 + ms90))
          refine hR (c_obj hO97 (zcall_i 0 0 (Nat.le_refl _) (Nat.le_refl _) (c_spread _ z90 z1 a2 v99 v103 hw94 hz90 hl92 (by omega) (by omega) (by omega) _ fun w106 hw106 g106 hn107 hp108 => ?_)))
          have fr109 := wfR_tr fr96 g106 (by decide)
          have hO110 := (g106.2 z1 (by rw [hl92]; decide)).trans hO102
          refine (?_ : R (_, _, [], w106, 0 + mc1 + mc90, 0 + ms1 + ms90))
          have aw111 := AWK_fr hw94 g106 aw98 (by decide)
          refine hR (?_ : R (_, _, _, _, _, _))
          obtain ⟨y0_113, x1_113, x2_113, x3_113, hO113, hk113_0, hk113_1, hk113_2, hk113_3, hk113_4, hk113_5, hk113_6, hk113_7, hk113_8, hk113_9⟩ := CI_o70 hw106 hz90
          refine hR (c_obj hO113 (zcall_i 0 0 (Nat.le_refl _) (Nat.le_refl _) (c_endByDrift _ z90 hw106 hz90 hn107 _ fun w112 hw112 g112 => ?_)))
          have fr114 := wfR_tr fr109 g112 (by decide)
          have hn115 := nn_eq (g112.2 z90 (by rw [hz90]; decide)) hn107
          have hO116 := (g112.2 z1 (by rw [hl92]; decide)).trans hO110
          have hO117 := (g112.2 z90 (by rw [hz90]; decide)).trans hO113
          refine (?_ : R (_, _, [], w112, 0 + mc1 + mc90, 0 + ms1 + ms90))
          have aw118 := AWK_fr hw106 g112 aw111 (by decide)
          have sp119 := SPN_eq (g112.2 z90 (by rw [hz90]; decide)) (g112.2 (z90 + 1) (by rw [hk113_4]; decide)) hp108
          refine hR (?_ : R (_, _, _, _, _, _))
          refine hR (k_ne (by omega) (fun hc => by omega) (fun _ => ?_))
          iterate 3 refine hR (?_ : R (_, _, _, _, _, _))
          refine hR (j_ne (by omega) (by omega) (fun hc120 => ?_) (fun hc120 => ?_))
          · skip
            refine hR (?_ : R (_, _, _, _, _, _))
            refine hR (c_obj hO117 (zcall_i 0 0 (Nat.le_refl _) (Nat.le_refl _) (c_bestEnd _ z90 0 hw112 hz90 sp119 (by omega) _ fun v121 hp123 => ?_)))
            refine (?_ : R (_, _, (.int (Int32.ofInt v121)) :: [], w112, 0 + mc1 + mc90, 0 + ms1 + ms90))
            obtain ⟨hTf124, hIf124, hpf124, hKf124⟩ := top_fr2 hT hw112 fr114 (by decide) aw118
            exact hR (zret_i rfl (Nat.le_refl _) trivial ⟨⟨_, hTf124, fun l m h => hIf124 _ _ (hI90 _ _ (hIt90 _ _ (hI1 _ _ (hIt1 _ _ (h))))), (KEEP2_tr hKt1 (KEEP2_tr hK1 (KEEP2_tr hKt90 (KEEP2_tr hK90 hKf124)))), (EXT_tr hx1 hx90), by omega, by omega⟩, _, rfl⟩)
          iterate 2 refine hR (?_ : R (_, _, _, _, _, _))
          refine hR (c_obj hO117 (zcall_i 0 0 (Nat.le_refl _) (Nat.le_refl _) (c_bestEnd _ z90 1 hw112 hz90 sp119 (by omega) _ fun v125 hp127 => ?_)))
          refine (?_ : R (_, _, (.int (Int32.ofInt v125)) :: [], w112, 0 + mc1 + mc90, 0 + ms1 + ms90))
          obtain ⟨hTf128, hIf128, hpf128, hKf128⟩ := top_fr2 hT hw112 fr114 (by decide) aw118
          exact hR (zret_i rfl (Nat.le_refl _) trivial ⟨⟨_, hTf128, fun l m h => hIf128 _ _ (hI90 _ _ (hIt90 _ _ (hI1 _ _ (hIt1 _ _ (h))))), (KEEP2_tr hKt1 (KEEP2_tr hK1 (KEEP2_tr hKt90 (KEEP2_tr hK90 hKf128)))), (EXT_tr hx1 hx90), by omega, by omega⟩, _, rfl⟩)
        iterate 2 refine hR (?_ : R (_, _, _, _, _, _))
        refine hR (j_eq (by omega) (by omega) (fun hc129 => ?_) (fun hc129 => ?_))
        rotate_left
        · skip
          refine hR (?_ : R (_, _, _, _, _, _))
          refine hR (k_ne (by omega) (fun hc => by omega) (fun _ => ?_))
          refine hR (?_ : R (_, _, _, _, _, _))
          obtain ⟨hTf164, hIf164, hpf164, hKf164⟩ := top_fr2 hT hT.1 fr3 (by decide) hT.2.2.1
          exact hR (zret_i rfl (Nat.le_refl _) trivial ⟨⟨_, hTf164, fun l m h => hIf164 _ _ (hI1 _ _ (hIt1 _ _ (h))), (KEEP2_tr hKt1 (KEEP2_tr hK1 hKf164)), hx1, by omega, by omega⟩, _, rfl⟩)
        refine hR (?_ : R (_, _, _, _, _, _))
        obtain ⟨y6_131, y7_131, hO131, hk131_0, hk131_1, hk131_2, hk131_3, hk131_4, hk131_5, hk131_6, hk131_7⟩ := CI_o1 hT.1 hT.2.1
        obtain ⟨hTt130, hIt130, hpt130, hKt130⟩ := top_fr2 hT hT.1 fr3 (by decide) hT.2.2.1
        obtain ⟨mc130, ms130, re130, w, ⟨ρ, z130, hA130, hre130, hz130⟩, hrun130⟩ := a_levelsThere hTt130 (d + 3)
        subst hre130
        refine hR0 (0 + mc1 + mc130) (0 + ms1 + ms130) (Nat.le_add_right _ _) (Nat.le_add_right _ _) (c_obj hO131 (zcall_i mc130 ms130 (Nat.le_refl _) (Nat.le_refl _) (hrun130 _ ?_)))
        obtain ⟨hT, hI130, hK130, hx130, hm130, hs130⟩ := hA130
        have hl132 : ρ z1 = 50 := (hx130 z1 (by rw [hz1]; decide)).trans hz1
        have fr133 := wfR_rf [51, 70, 71, 72, 73, 74, 75, 76] ρ w
        refine (?_ : R (_, _, (.ref z130) :: [], w, 0 + mc1 + mc130, 0 + ms1 + ms130))
        iterate 2 refine hR (?_ : R (_, _, _, _, _, _))
        obtain ⟨y0_135, x1_135, x2_135, x3_135, hO135, hk135_0, hk135_1, hk135_2, hk135_3, hk135_4, hk135_5, hk135_6, hk135_7, hk135_8, hk135_9⟩ := CI_o70 hT.1 hz130
        refine hR (c_obj hO135 (zcall_i 0 0 (Nat.le_refl _) (Nat.le_refl _) (c_wantNothing _ z130 hT.1 hz130 _ fun w134 hw134 g134 => ?_)))
        have fr136 := wfR_tr fr133 g134 (by decide)
        have hO137 := (g134.2 z130 (by rw [hz130]; decide)).trans hO135
        refine (?_ : R (_, _, [], w134, 0 + mc1 + mc130, 0 + ms1 + ms130))
        have aw138 := AWK_fr hT.1 g134 hT.2.2.1 (by decide)
        iterate 4 refine hR (?_ : R (_, _, _, _, _, _))
        obtain ⟨z0_142, z2_142, z3_142, hO142, hk142_0, hk142_1, hk142_2, hk142_3, hk142_4⟩ := CI_o50 hw134 hl132
        refine hR (c_obj hO142 (zcall_i 0 0 (Nat.le_refl _) (Nat.le_refl _) (c_all _ z1 hw134 hl132 _ fun v139 hp141 => ?_)))
        refine (?_ : R (_, _, (.int (Int32.ofInt v139)) :: (.int (Int32.ofInt a2)) :: (.ref z1) :: (.ref z130) :: [], w134, 0 + mc1 + mc130, 0 + ms1 + ms130))
        refine hR (?_ : R (_, _, _, _, _, _))
        refine hR (c_obj hO142 (zcall_i 0 0 (Nat.le_refl _) (Nat.le_refl _) (c_all _ z1 hw134 hl132 _ fun v143 hp145 => ?_)))
        refine (?_ : R (_, _, (.int (Int32.ofInt v143)) :: (.int (Int32.ofInt v139)) :: (.int (Int32.ofInt a2)) :: (.ref z1) :: (.ref z130) :: [], w134, 0 + mc1 + mc130, 0 + ms1 + ms130))
        refine hR (c_obj hO137 (zcall_i 0 0 (Nat.le_refl _) (Nat.le_refl _) (c_spread _ z130 z1 a2 v139 v143 hw134 hz130 hl132 (by omega) (by omega) (by omega) _ fun w146 hw146 g146 hn147 hp148 => ?_)))
        have fr149 := wfR_tr fr136 g146 (by decide)
        have hO150 := (g146.2 z1 (by rw [hl132]; decide)).trans hO142
        refine (?_ : R (_, _, [], w146, 0 + mc1 + mc130, 0 + ms1 + ms130))
        have aw151 := AWK_fr hw134 g146 aw138 (by decide)
        refine hR (?_ : R (_, _, _, _, _, _))
        obtain ⟨y0_153, x1_153, x2_153, x3_153, hO153, hk153_0, hk153_1, hk153_2, hk153_3, hk153_4, hk153_5, hk153_6, hk153_7, hk153_8, hk153_9⟩ := CI_o70 hw146 hz130
        refine hR (c_obj hO153 (zcall_i 0 0 (Nat.le_refl _) (Nat.le_refl _) (c_endByDrift _ z130 hw146 hz130 hn147 _ fun w152 hw152 g152 => ?_)))
        have fr154 := wfR_tr fr149 g152 (by decide)
        have hn155 := nn_eq (g152.2 z130 (by rw [hz130]; decide)) hn147
        have hO156 := (g152.2 z1 (by rw [hl132]; decide)).trans hO150
        have hO157 := (g152.2 z130 (by rw [hz130]; decide)).trans hO153
        refine (?_ : R (_, _, [], w152, 0 + mc1 + mc130, 0 + ms1 + ms130))
        have aw158 := AWK_fr hw146 g152 aw151 (by decide)
        have sp159 := SPN_eq (g152.2 z130 (by rw [hz130]; decide)) (g152.2 (z130 + 1) (by rw [hk153_4]; decide)) hp148
        refine hR (?_ : R (_, _, _, _, _, _))
        refine hR (k_ne (by omega) (fun hc => by omega) (fun _ => ?_))
        iterate 3 refine hR (?_ : R (_, _, _, _, _, _))
        refine hR (j_ne (by omega) (by omega) (fun hc => by omega) (fun _ => ?_))
        iterate 2 refine hR (?_ : R (_, _, _, _, _, _))
        refine hR (c_obj hO157 (zcall_i 0 0 (Nat.le_refl _) (Nat.le_refl _) (c_bestEnd _ z130 1 hw152 hz130 sp159 (by omega) _ fun v160 hp162 => ?_)))
        refine (?_ : R (_, _, (.int (Int32.ofInt v160)) :: [], w152, 0 + mc1 + mc130, 0 + ms1 + ms130))
        obtain ⟨hTf163, hIf163, hpf163, hKf163⟩ := top_fr2 hT hw152 fr154 (by decide) aw158
        exact hR (zret_i rfl (Nat.le_refl _) trivial ⟨⟨_, hTf163, fun l m h => hIf163 _ _ (hI130 _ _ (hIt130 _ _ (hI1 _ _ (hIt1 _ _ (h))))), (KEEP2_tr hKt1 (KEEP2_tr hK1 (KEEP2_tr hKt130 (KEEP2_tr hK130 hKf163)))), (EXT_tr hx1 hx130), by omega, by omega⟩, _, rfl⟩)
      iterate 4 refine hR (?_ : R (_, _, _, _, _, _))
      refine hR (k_eq (by omega) (fun hc165 => ?_) (fun hc165 => ?_))
      · skip
        refine hR (?_ : R (_, _, _, _, _, _))
        obtain ⟨y6_167, y7_167, hO167, hk167_0, hk167_1, hk167_2, hk167_3, hk167_4, hk167_5, hk167_6, hk167_7⟩ := CI_o1 hT.1 hT.2.1
        obtain ⟨hTt166, hIt166, hpt166, hKt166⟩ := top_fr2 hT hT.1 fr3 (by decide) hT.2.2.1
        obtain ⟨mc166, ms166, re166, w, ⟨ρ, z166, hA166, hre166, hz166⟩, hrun166⟩ := a_levelsThere hTt166 (d + 3)
        subst hre166
        refine hR0 (0 + mc1 + mc166) (0 + ms1 + ms166) (Nat.le_add_right _ _) (Nat.le_add_right _ _) (c_obj hO167 (zcall_i mc166 ms166 (Nat.le_refl _) (Nat.le_refl _) (hrun166 _ ?_)))
        obtain ⟨hT, hI166, hK166, hx166, hm166, hs166⟩ := hA166
        have hl168 : ρ z1 = 50 := (hx166 z1 (by rw [hz1]; decide)).trans hz1
        have fr169 := wfR_rf [51, 70, 71, 72, 73, 74, 75, 76] ρ w
        refine (?_ : R (_, _, (.ref z166) :: [], w, 0 + mc1 + mc166, 0 + ms1 + ms166))
        iterate 2 refine hR (?_ : R (_, _, _, _, _, _))
        obtain ⟨y0_171, x1_171, x2_171, x3_171, hO171, hk171_0, hk171_1, hk171_2, hk171_3, hk171_4, hk171_5, hk171_6, hk171_7, hk171_8, hk171_9⟩ := CI_o70 hT.1 hz166
        refine hR (c_obj hO171 (zcall_i 0 0 (Nat.le_refl _) (Nat.le_refl _) (c_wantNothing _ z166 hT.1 hz166 _ fun w170 hw170 g170 => ?_)))
        have fr172 := wfR_tr fr169 g170 (by decide)
        have hO173 := (g170.2 z166 (by rw [hz166]; decide)).trans hO171
        refine (?_ : R (_, _, [], w170, 0 + mc1 + mc166, 0 + ms1 + ms166))
        have aw174 := AWK_fr hT.1 g170 hT.2.2.1 (by decide)
        iterate 4 refine hR (?_ : R (_, _, _, _, _, _))
        obtain ⟨z0_178, z2_178, z3_178, hO178, hk178_0, hk178_1, hk178_2, hk178_3, hk178_4⟩ := CI_o50 hw170 hl168
        refine hR (c_obj hO178 (zcall_i 0 0 (Nat.le_refl _) (Nat.le_refl _) (c_all _ z1 hw170 hl168 _ fun v175 hp177 => ?_)))
        refine (?_ : R (_, _, (.int (Int32.ofInt v175)) :: (.int (Int32.ofInt a2)) :: (.ref z1) :: (.ref z166) :: [], w170, 0 + mc1 + mc166, 0 + ms1 + ms166))
        refine hR (?_ : R (_, _, _, _, _, _))
        refine hR (c_obj hO178 (zcall_i 0 0 (Nat.le_refl _) (Nat.le_refl _) (c_all _ z1 hw170 hl168 _ fun v179 hp181 => ?_)))
        refine (?_ : R (_, _, (.int (Int32.ofInt v179)) :: (.int (Int32.ofInt v175)) :: (.int (Int32.ofInt a2)) :: (.ref z1) :: (.ref z166) :: [], w170, 0 + mc1 + mc166, 0 + ms1 + ms166))
        refine hR (c_obj hO173 (zcall_i 0 0 (Nat.le_refl _) (Nat.le_refl _) (c_spread _ z166 z1 a2 v175 v179 hw170 hz166 hl168 (by omega) (by omega) (by omega) _ fun w182 hw182 g182 hn183 hp184 => ?_)))
        have fr185 := wfR_tr fr172 g182 (by decide)
        have hO186 := (g182.2 z1 (by rw [hl168]; decide)).trans hO178
        refine (?_ : R (_, _, [], w182, 0 + mc1 + mc166, 0 + ms1 + ms166))
        have aw187 := AWK_fr hw170 g182 aw174 (by decide)
        refine hR (?_ : R (_, _, _, _, _, _))
        obtain ⟨y0_189, x1_189, x2_189, x3_189, hO189, hk189_0, hk189_1, hk189_2, hk189_3, hk189_4, hk189_5, hk189_6, hk189_7, hk189_8, hk189_9⟩ := CI_o70 hw182 hz166
        refine hR (c_obj hO189 (zcall_i 0 0 (Nat.le_refl _) (Nat.le_refl _) (c_endByDrift _ z166 hw182 hz166 hn183 _ fun w188 hw188 g188 => ?_)))
        have fr190 := wfR_tr fr185 g188 (by decide)
        have hn191 := nn_eq (g188.2 z166 (by rw [hz166]; decide)) hn183
        have hO192 := (g188.2 z1 (by rw [hl168]; decide)).trans hO186
        have hO193 := (g188.2 z166 (by rw [hz166]; decide)).trans hO189
        refine (?_ : R (_, _, [], w188, 0 + mc1 + mc166, 0 + ms1 + ms166))
        have aw194 := AWK_fr hw182 g188 aw187 (by decide)
        have sp195 := SPN_eq (g188.2 z166 (by rw [hz166]; decide)) (g188.2 (z166 + 1) (by rw [hk189_4]; decide)) hp184
        refine hR (?_ : R (_, _, _, _, _, _))
        refine hR (k_ne (by omega) (fun _ => ?_) (fun hc => by omega))
        iterate 3 refine hR (?_ : R (_, _, _, _, _, _))
        refine hR (c_obj hO193 (zcall_i 0 0 (Nat.le_refl _) (Nat.le_refl _) (c_foldBack _ z166 0 0 hw188 hz166 hn191 (by omega) (by omega) _ fun w196 hw196 g196 => ?_)))
        have fr197 := wfR_tr fr190 g196 (by decide)
        have hn198 := nn_eq (g196.2 z166 (by rw [hz166]; decide)) hn191
        have hO199 := (g196.2 z1 (by rw [hl168]; decide)).trans hO192
        have hO200 := (g196.2 z166 (by rw [hz166]; decide)).trans hO193
        refine (?_ : R (_, _, [], w196, 0 + mc1 + mc166, 0 + ms1 + ms166))
        have aw201 := AWK_fr hw188 g196 aw194 (by decide)
        have sp202 := SPN_eq (g196.2 z166 (by rw [hz166]; decide)) (g196.2 (z166 + 1) (by rw [hk189_4]; decide)) sp195
        iterate 2 refine hR (?_ : R (_, _, _, _, _, _))
        refine hR (t_c 10 (by decide) ?_)
        refine hR (t_sub ?_)
        refine hR (c_obj hO200 (zcall_i 0 0 (Nat.le_refl _) (Nat.le_refl _) (c_chosenAt _ z166 (a3 - 10) hw196 hz166 hn198 (by omega) _ fun v203 w204 hw204 g204 hp205 => ?_)))
        have fr206 := wfR_tr fr197 g204 (by decide)
        have hn207 := nn_eq (g204.2 z166 (by rw [hz166]; decide)) hn198
        have hO208 := (g204.2 z1 (by rw [hl168]; decide)).trans hO199
        have hO209 := (g204.2 z166 (by rw [hz166]; decide)).trans hO200
        refine (?_ : R (_, _, (.int (Int32.ofInt v203)) :: [], w204, 0 + mc1 + mc166, 0 + ms1 + ms166))
        have aw210 := AWK_fr hw196 g204 aw201 (by decide)
        have sp211 := SPN_eq (g204.2 z166 (by rw [hz166]; decide)) (g204.2 (z166 + 1) (by rw [hk189_4]; decide)) sp202
        obtain ⟨hTf212, hIf212, hpf212, hKf212⟩ := top_fr2 hT hw204 fr206 (by decide) aw210
        exact hR (zret_i rfl (Nat.le_refl _) trivial ⟨⟨_, hTf212, fun l m h => hIf212 _ _ (hI166 _ _ (hIt166 _ _ (hI1 _ _ (hIt1 _ _ (h))))), (KEEP2_tr hKt1 (KEEP2_tr hK1 (KEEP2_tr hKt166 (KEEP2_tr hK166 hKf212)))), (EXT_tr hx1 hx166), by omega, by omega⟩, _, rfl⟩)
      iterate 2 refine hR (?_ : R (_, _, _, _, _, _))
      refine hR (j_eq (by omega) (by omega) (fun hc213 => ?_) (fun hc213 => ?_))
      · skip
        refine hR (?_ : R (_, _, _, _, _, _))
        obtain ⟨y6_215, y7_215, hO215, hk215_0, hk215_1, hk215_2, hk215_3, hk215_4, hk215_5, hk215_6, hk215_7⟩ := CI_o1 hT.1 hT.2.1
        obtain ⟨hTt214, hIt214, hpt214, hKt214⟩ := top_fr2 hT hT.1 fr3 (by decide) hT.2.2.1
        obtain ⟨mc214, ms214, re214, w, ⟨ρ, z214, hA214, hre214, hz214⟩, hrun214⟩ := a_levelsThere hTt214 (d + 3)
        subst hre214
        refine hR0 (0 + mc1 + mc214) (0 + ms1 + ms214) (Nat.le_add_right _ _) (Nat.le_add_right _ _) (c_obj hO215 (zcall_i mc214 ms214 (Nat.le_refl _) (Nat.le_refl _) (hrun214 _ ?_)))
        obtain ⟨hT, hI214, hK214, hx214, hm214, hs214⟩ := hA214
        have hl216 : ρ z1 = 50 := (hx214 z1 (by rw [hz1]; decide)).trans hz1
        have fr217 := wfR_rf [51, 70, 71, 72, 73, 74, 75, 76] ρ w
        refine (?_ : R (_, _, (.ref z214) :: [], w, 0 + mc1 + mc214, 0 + ms1 + ms214))
        iterate 2 refine hR (?_ : R (_, _, _, _, _, _))
        obtain ⟨y0_219, x1_219, x2_219, x3_219, hO219, hk219_0, hk219_1, hk219_2, hk219_3, hk219_4, hk219_5, hk219_6, hk219_7, hk219_8, hk219_9⟩ := CI_o70 hT.1 hz214
        refine hR (c_obj hO219 (zcall_i 0 0 (Nat.le_refl _) (Nat.le_refl _) (c_wantNothing _ z214 hT.1 hz214 _ fun w218 hw218 g218 => ?_)))
        have fr220 := wfR_tr fr217 g218 (by decide)
        have hO221 := (g218.2 z214 (by rw [hz214]; decide)).trans hO219
        refine (?_ : R (_, _, [], w218, 0 + mc1 + mc214, 0 + ms1 + ms214))
        have aw222 := AWK_fr hT.1 g218 hT.2.2.1 (by decide)
        iterate 4 refine hR (?_ : R (_, _, _, _, _, _))
        obtain ⟨z0_226, z2_226, z3_226, hO226, hk226_0, hk226_1, hk226_2, hk226_3, hk226_4⟩ := CI_o50 hw218 hl216
        refine hR (c_obj hO226 (zcall_i 0 0 (Nat.le_refl _) (Nat.le_refl _) (c_all _ z1 hw218 hl216 _ fun v223 hp225 => ?_)))
        refine (?_ : R (_, _, (.int (Int32.ofInt v223)) :: (.int (Int32.ofInt a2)) :: (.ref z1) :: (.ref z214) :: [], w218, 0 + mc1 + mc214, 0 + ms1 + ms214))
        refine hR (?_ : R (_, _, _, _, _, _))
        refine hR (c_obj hO226 (zcall_i 0 0 (Nat.le_refl _) (Nat.le_refl _) (c_all _ z1 hw218 hl216 _ fun v227 hp229 => ?_)))
        refine (?_ : R (_, _, (.int (Int32.ofInt v227)) :: (.int (Int32.ofInt v223)) :: (.int (Int32.ofInt a2)) :: (.ref z1) :: (.ref z214) :: [], w218, 0 + mc1 + mc214, 0 + ms1 + ms214))
        refine hR (c_obj hO221 (zcall_i 0 0 (Nat.le_refl _) (Nat.le_refl _) (c_spread _ z214 z1 a2 v223 v227 hw218 hz214 hl216 (by omega) (by omega) (by omega) _ fun w230 hw230 g230 hn231 hp232 => ?_)))
        have fr233 := wfR_tr fr220 g230 (by decide)
        have hO234 := (g230.2 z1 (by rw [hl216]; decide)).trans hO226
        refine (?_ : R (_, _, [], w230, 0 + mc1 + mc214, 0 + ms1 + ms214))
        have aw235 := AWK_fr hw218 g230 aw222 (by decide)
        refine hR (?_ : R (_, _, _, _, _, _))
        obtain ⟨y0_237, x1_237, x2_237, x3_237, hO237, hk237_0, hk237_1, hk237_2, hk237_3, hk237_4, hk237_5, hk237_6, hk237_7, hk237_8, hk237_9⟩ := CI_o70 hw230 hz214
        refine hR (c_obj hO237 (zcall_i 0 0 (Nat.le_refl _) (Nat.le_refl _) (c_endByDrift _ z214 hw230 hz214 hn231 _ fun w236 hw236 g236 => ?_)))
        have fr238 := wfR_tr fr233 g236 (by decide)
        have hn239 := nn_eq (g236.2 z214 (by rw [hz214]; decide)) hn231
        have hO240 := (g236.2 z1 (by rw [hl216]; decide)).trans hO234
        have hO241 := (g236.2 z214 (by rw [hz214]; decide)).trans hO237
        refine (?_ : R (_, _, [], w236, 0 + mc1 + mc214, 0 + ms1 + ms214))
        have aw242 := AWK_fr hw230 g236 aw235 (by decide)
        have sp243 := SPN_eq (g236.2 z214 (by rw [hz214]; decide)) (g236.2 (z214 + 1) (by rw [hk237_4]; decide)) hp232
        refine hR (?_ : R (_, _, _, _, _, _))
        refine hR (k_ne (by omega) (fun _ => ?_) (fun hc => by omega))
        iterate 3 refine hR (?_ : R (_, _, _, _, _, _))
        refine hR (c_obj hO241 (zcall_i 0 0 (Nat.le_refl _) (Nat.le_refl _) (c_foldBack _ z214 0 0 hw236 hz214 hn239 (by omega) (by omega) _ fun w244 hw244 g244 => ?_)))
        have fr245 := wfR_tr fr238 g244 (by decide)
        have hn246 := nn_eq (g244.2 z214 (by rw [hz214]; decide)) hn239
        have hO247 := (g244.2 z1 (by rw [hl216]; decide)).trans hO240
        have hO248 := (g244.2 z214 (by rw [hz214]; decide)).trans hO241
        refine (?_ : R (_, _, [], w244, 0 + mc1 + mc214, 0 + ms1 + ms214))
        have aw249 := AWK_fr hw236 g244 aw242 (by decide)
        have sp250 := SPN_eq (g244.2 z214 (by rw [hz214]; decide)) (g244.2 (z214 + 1) (by rw [hk237_4]; decide)) sp243
        iterate 2 refine hR (?_ : R (_, _, _, _, _, _))
        refine hR (t_c 10 (by decide) ?_)
        refine hR (t_sub ?_)
        refine hR (c_obj hO248 (zcall_i 0 0 (Nat.le_refl _) (Nat.le_refl _) (c_chosenAt _ z214 (a3 - 10) hw244 hz214 hn246 (by omega) _ fun v251 w252 hw252 g252 hp253 => ?_)))
        have fr254 := wfR_tr fr245 g252 (by decide)
        have hn255 := nn_eq (g252.2 z214 (by rw [hz214]; decide)) hn246
        have hO256 := (g252.2 z1 (by rw [hl216]; decide)).trans hO247
        have hO257 := (g252.2 z214 (by rw [hz214]; decide)).trans hO248
        refine (?_ : R (_, _, (.int (Int32.ofInt v251)) :: [], w252, 0 + mc1 + mc214, 0 + ms1 + ms214))
        have aw258 := AWK_fr hw244 g252 aw249 (by decide)
        have sp259 := SPN_eq (g252.2 z214 (by rw [hz214]; decide)) (g252.2 (z214 + 1) (by rw [hk237_4]; decide)) sp250
        obtain ⟨hTf260, hIf260, hpf260, hKf260⟩ := top_fr2 hT hw252 fr254 (by decide) aw258
        exact hR (zret_i rfl (Nat.le_refl _) trivial ⟨⟨_, hTf260, fun l m h => hIf260 _ _ (hI214 _ _ (hIt214 _ _ (hI1 _ _ (hIt1 _ _ (h))))), (KEEP2_tr hKt1 (KEEP2_tr hK1 (KEEP2_tr hKt214 (KEEP2_tr hK214 hKf260)))), (EXT_tr hx1 hx214), by omega, by omega⟩, _, rfl⟩)
      refine hR (?_ : R (_, _, _, _, _, _))
      refine hR (k_ne (by omega) (fun _ => ?_) (fun hc => by omega))
      refine hR (?_ : R (_, _, _, _, _, _))
      obtain ⟨y6_262, y7_262, hO262, hk262_0, hk262_1, hk262_2, hk262_3, hk262_4, hk262_5, hk262_6, hk262_7⟩ := CI_o1 hT.1 hT.2.1
      obtain ⟨hTt261, hIt261, hpt261, hKt261⟩ := top_fr2 hT hT.1 fr3 (by decide) hT.2.2.1
      obtain ⟨mc261, ms261, re261, w, ⟨ρ, z261, hA261, hre261, hz261⟩, hrun261⟩ := a_levelsThere hTt261 (d + 3)
      subst hre261
      refine hR0 (0 + mc1 + mc261) (0 + ms1 + ms261) (Nat.le_add_right _ _) (Nat.le_add_right _ _) (c_obj hO262 (zcall_i mc261 ms261 (Nat.le_refl _) (Nat.le_refl _) (hrun261 _ ?_)))
      obtain ⟨hT, hI261, hK261, hx261, hm261, hs261⟩ := hA261
      have hl263 : ρ z1 = 50 := (hx261 z1 (by rw [hz1]; decide)).trans hz1
      have fr264 := wfR_rf [51, 70, 71, 72, 73, 74, 75, 76] ρ w
      refine (?_ : R (_, _, (.ref z261) :: [], w, 0 + mc1 + mc261, 0 + ms1 + ms261))
      iterate 2 refine hR (?_ : R (_, _, _, _, _, _))
      obtain ⟨y0_266, x1_266, x2_266, x3_266, hO266, hk266_0, hk266_1, hk266_2, hk266_3, hk266_4, hk266_5, hk266_6, hk266_7, hk266_8, hk266_9⟩ := CI_o70 hT.1 hz261
      refine hR (c_obj hO266 (zcall_i 0 0 (Nat.le_refl _) (Nat.le_refl _) (c_wantNothing _ z261 hT.1 hz261 _ fun w265 hw265 g265 => ?_)))
      have fr267 := wfR_tr fr264 g265 (by decide)
      have hO268 := (g265.2 z261 (by rw [hz261]; decide)).trans hO266
      refine (?_ : R (_, _, [], w265, 0 + mc1 + mc261, 0 + ms1 + ms261))
      have aw269 := AWK_fr hT.1 g265 hT.2.2.1 (by decide)
      iterate 4 refine hR (?_ : R (_, _, _, _, _, _))
      obtain ⟨z0_273, z2_273, z3_273, hO273, hk273_0, hk273_1, hk273_2, hk273_3, hk273_4⟩ := CI_o50 hw265 hl263
      refine hR (c_obj hO273 (zcall_i 0 0 (Nat.le_refl _) (Nat.le_refl _) (c_all _ z1 hw265 hl263 _ fun v270 hp272 => ?_)))
      refine (?_ : R (_, _, (.int (Int32.ofInt v270)) :: (.int (Int32.ofInt a2)) :: (.ref z1) :: (.ref z261) :: [], w265, 0 + mc1 + mc261, 0 + ms1 + ms261))
      refine hR (?_ : R (_, _, _, _, _, _))
      refine hR (c_obj hO273 (zcall_i 0 0 (Nat.le_refl _) (Nat.le_refl _) (c_all _ z1 hw265 hl263 _ fun v274 hp276 => ?_)))
      refine (?_ : R (_, _, (.int (Int32.ofInt v274)) :: (.int (Int32.ofInt v270)) :: (.int (Int32.ofInt a2)) :: (.ref z1) :: (.ref z261) :: [], w265, 0 + mc1 + mc261, 0 + ms1 + ms261))
      refine hR (c_obj hO268 (zcall_i 0 0 (Nat.le_refl _) (Nat.le_refl _) (c_spread _ z261 z1 a2 v270 v274 hw265 hz261 hl263 (by omega) (by omega) (by omega) _ fun w277 hw277 g277 hn278 hp279 => ?_)))
      have fr280 := wfR_tr fr267 g277 (by decide)
      have hO281 := (g277.2 z1 (by rw [hl263]; decide)).trans hO273
      refine (?_ : R (_, _, [], w277, 0 + mc1 + mc261, 0 + ms1 + ms261))
      have aw282 := AWK_fr hw265 g277 aw269 (by decide)
      refine hR (?_ : R (_, _, _, _, _, _))
      obtain ⟨y0_284, x1_284, x2_284, x3_284, hO284, hk284_0, hk284_1, hk284_2, hk284_3, hk284_4, hk284_5, hk284_6, hk284_7, hk284_8, hk284_9⟩ := CI_o70 hw277 hz261
      refine hR (c_obj hO284 (zcall_i 0 0 (Nat.le_refl _) (Nat.le_refl _) (c_endByDrift _ z261 hw277 hz261 hn278 _ fun w283 hw283 g283 => ?_)))
      have fr285 := wfR_tr fr280 g283 (by decide)
      have hn286 := nn_eq (g283.2 z261 (by rw [hz261]; decide)) hn278
      have hO287 := (g283.2 z1 (by rw [hl263]; decide)).trans hO281
      have hO288 := (g283.2 z261 (by rw [hz261]; decide)).trans hO284
      refine (?_ : R (_, _, [], w283, 0 + mc1 + mc261, 0 + ms1 + ms261))
      have aw289 := AWK_fr hw277 g283 aw282 (by decide)
      have sp290 := SPN_eq (g283.2 z261 (by rw [hz261]; decide)) (g283.2 (z261 + 1) (by rw [hk284_4]; decide)) hp279
      refine hR (?_ : R (_, _, _, _, _, _))
      refine hR (k_ne (by omega) (fun _ => ?_) (fun hc => by omega))
      iterate 3 refine hR (?_ : R (_, _, _, _, _, _))
      refine hR (c_obj hO288 (zcall_i 0 0 (Nat.le_refl _) (Nat.le_refl _) (c_foldBack _ z261 0 0 hw283 hz261 hn286 (by omega) (by omega) _ fun w291 hw291 g291 => ?_)))
      have fr292 := wfR_tr fr285 g291 (by decide)
      have hn293 := nn_eq (g291.2 z261 (by rw [hz261]; decide)) hn286
      have hO294 := (g291.2 z1 (by rw [hl263]; decide)).trans hO287
      have hO295 := (g291.2 z261 (by rw [hz261]; decide)).trans hO288
      refine (?_ : R (_, _, [], w291, 0 + mc1 + mc261, 0 + ms1 + ms261))
      have aw296 := AWK_fr hw283 g291 aw289 (by decide)
      have sp297 := SPN_eq (g291.2 z261 (by rw [hz261]; decide)) (g291.2 (z261 + 1) (by rw [hk284_4]; decide)) sp290
      iterate 2 refine hR (?_ : R (_, _, _, _, _, _))
      refine hR (t_c 10 (by decide) ?_)
      refine hR (t_sub ?_)
      refine hR (c_obj hO295 (zcall_i 0 0 (Nat.le_refl _) (Nat.le_refl _) (c_chosenAt _ z261 (a3 - 10) hw291 hz261 hn293 (by omega) _ fun v298 w299 hw299 g299 hp300 => ?_)))
      have fr301 := wfR_tr fr292 g299 (by decide)
      have hn302 := nn_eq (g299.2 z261 (by rw [hz261]; decide)) hn293
      have hO303 := (g299.2 z1 (by rw [hl263]; decide)).trans hO294
      have hO304 := (g299.2 z261 (by rw [hz261]; decide)).trans hO295
      refine (?_ : R (_, _, (.int (Int32.ofInt v298)) :: [], w299, 0 + mc1 + mc261, 0 + ms1 + ms261))
      have aw305 := AWK_fr hw291 g299 aw296 (by decide)
      have sp306 := SPN_eq (g299.2 z261 (by rw [hz261]; decide)) (g299.2 (z261 + 1) (by rw [hk284_4]; decide)) sp297
      obtain ⟨hTf307, hIf307, hpf307, hKf307⟩ := top_fr2 hT hw299 fr301 (by decide) aw305
      exact hR (zret_i rfl (Nat.le_refl _) trivial ⟨⟨_, hTf307, fun l m h => hIf307 _ _ (hI261 _ _ (hIt261 _ _ (hI1 _ _ (hIt1 _ _ (h))))), (KEEP2_tr hKt1 (KEEP2_tr hK1 (KEEP2_tr hKt261 (KEEP2_tr hK261 hKf307)))), (EXT_tr hx1 hx261), by omega, by omega⟩, _, rfl⟩)
    refine hR (?_ : R (_, _, _, _, _, _))
    obtain ⟨z0_311, z2_311, z3_311, hO311, hk311_0, hk311_1, hk311_2, hk311_3, hk311_4⟩ := CI_o50 hT.1 hz1
    refine hR (c_obj hO311 (zcall_i 0 0 (Nat.le_refl _) (Nat.le_refl _) (c_all _ z1 hT.1 hz1 _ fun v308 hp310 => ?_)))
    refine (?_ : R (_, _, (.int (Int32.ofInt v308)) :: [], w, 0 + mc1, 0 + ms1))
    refine hR (k_ne (by omega) (fun hc312 => ?_) (fun hc312 => ?_))
    rotate_left
    · skip
      refine hR (?_ : R (_, _, _, _, _, _))
      obtain ⟨hTf610, hIf610, hpf610, hKf610⟩ := top_fr2 hT hT.1 fr3 (by decide) hT.2.2.1
      exact hR (zret_i rfl (Nat.le_refl _) trivial ⟨⟨_, hTf610, fun l m h => hIf610 _ _ (hI1 _ _ (hIt1 _ _ (h))), (KEEP2_tr hKt1 (KEEP2_tr hK1 hKf610)), hx1, by omega, by omega⟩, _, rfl⟩)
    refine hR (?_ : R (_, _, _, _, _, _))
    refine hR (t_c 10 (by decide) ?_)
    refine hR (j_lt (by omega) (by omega) (fun hc313 => ?_) (fun hc313 => ?_))
    · skip
      iterate 3 refine hR (?_ : R (_, _, _, _, _, _))
      refine hR (k_eq (by omega) (fun hc314 => ?_) (fun hc314 => ?_))
      · skip
        refine hR (?_ : R (_, _, _, _, _, _))
        obtain ⟨y6_316, y7_316, hO316, hk316_0, hk316_1, hk316_2, hk316_3, hk316_4, hk316_5, hk316_6, hk316_7⟩ := CI_o1 hT.1 hT.2.1
        obtain ⟨hTt315, hIt315, hpt315, hKt315⟩ := top_fr2 hT hT.1 fr3 (by decide) hT.2.2.1
        obtain ⟨mc315, ms315, re315, w, ⟨ρ, z315, hA315, hre315, hz315⟩, hrun315⟩ := a_levelsThere hTt315 (d + 3)
        subst hre315
        refine hR0 (0 + mc1 + mc315) (0 + ms1 + ms315) (Nat.le_add_right _ _) (Nat.le_add_right _ _) (c_obj hO316 (zcall_i mc315 ms315 (Nat.le_refl _) (Nat.le_refl _) (hrun315 _ ?_)))
        obtain ⟨hT, hI315, hK315, hx315, hm315, hs315⟩ := hA315
        have hl317 : ρ z1 = 50 := (hx315 z1 (by rw [hz1]; decide)).trans hz1
        have fr318 := wfR_rf [51, 70, 71, 72, 73, 74, 75, 76] ρ w
        refine (?_ : R (_, _, (.ref z315) :: [], w, 0 + mc1 + mc315, 0 + ms1 + ms315))
        iterate 2 refine hR (?_ : R (_, _, _, _, _, _))
        obtain ⟨y0_320, x1_320, x2_320, x3_320, hO320, hk320_0, hk320_1, hk320_2, hk320_3, hk320_4, hk320_5, hk320_6, hk320_7, hk320_8, hk320_9⟩ := CI_o70 hT.1 hz315
        refine hR (c_obj hO320 (zcall_i 0 0 (Nat.le_refl _) (Nat.le_refl _) (c_wantNothing _ z315 hT.1 hz315 _ fun w319 hw319 g319 => ?_)))
        have fr321 := wfR_tr fr318 g319 (by decide)
        have hO322 := (g319.2 z315 (by rw [hz315]; decide)).trans hO320
        refine (?_ : R (_, _, [], w319, 0 + mc1 + mc315, 0 + ms1 + ms315))
        have aw323 := AWK_fr hT.1 g319 hT.2.2.1 (by decide)
        iterate 4 refine hR (?_ : R (_, _, _, _, _, _))
        obtain ⟨z0_327, z2_327, z3_327, hO327, hk327_0, hk327_1, hk327_2, hk327_3, hk327_4⟩ := CI_o50 hw319 hl317
        refine hR (c_obj hO327 (zcall_i 0 0 (Nat.le_refl _) (Nat.le_refl _) (c_all _ z1 hw319 hl317 _ fun v324 hp326 => ?_)))
        refine (?_ : R (_, _, (.int (Int32.ofInt v324)) :: (.int (Int32.ofInt a2)) :: (.ref z1) :: (.ref z315) :: [], w319, 0 + mc1 + mc315, 0 + ms1 + ms315))
        refine hR (?_ : R (_, _, _, _, _, _))
        refine hR (c_obj hO327 (zcall_i 0 0 (Nat.le_refl _) (Nat.le_refl _) (c_all _ z1 hw319 hl317 _ fun v328 hp330 => ?_)))
        refine (?_ : R (_, _, (.int (Int32.ofInt v328)) :: (.int (Int32.ofInt v324)) :: (.int (Int32.ofInt a2)) :: (.ref z1) :: (.ref z315) :: [], w319, 0 + mc1 + mc315, 0 + ms1 + ms315))
        refine hR (c_obj hO322 (zcall_i 0 0 (Nat.le_refl _) (Nat.le_refl _) (c_spread _ z315 z1 a2 v324 v328 hw319 hz315 hl317 (by omega) (by omega) (by omega) _ fun w331 hw331 g331 hn332 hp333 => ?_)))
        have fr334 := wfR_tr fr321 g331 (by decide)
        have hO335 := (g331.2 z1 (by rw [hl317]; decide)).trans hO327
        refine (?_ : R (_, _, [], w331, 0 + mc1 + mc315, 0 + ms1 + ms315))
        have aw336 := AWK_fr hw319 g331 aw323 (by decide)
        refine hR (?_ : R (_, _, _, _, _, _))
        obtain ⟨y0_338, x1_338, x2_338, x3_338, hO338, hk338_0, hk338_1, hk338_2, hk338_3, hk338_4, hk338_5, hk338_6, hk338_7, hk338_8, hk338_9⟩ := CI_o70 hw331 hz315
        refine hR (c_obj hO338 (zcall_i 0 0 (Nat.le_refl _) (Nat.le_refl _) (c_endByDrift _ z315 hw331 hz315 hn332 _ fun w337 hw337 g337 => ?_)))
        have fr339 := wfR_tr fr334 g337 (by decide)
        have hn340 := nn_eq (g337.2 z315 (by rw [hz315]; decide)) hn332
        have hO341 := (g337.2 z1 (by rw [hl317]; decide)).trans hO335
        have hO342 := (g337.2 z315 (by rw [hz315]; decide)).trans hO338
        refine (?_ : R (_, _, [], w337, 0 + mc1 + mc315, 0 + ms1 + ms315))
        have aw343 := AWK_fr hw331 g337 aw336 (by decide)
        have sp344 := SPN_eq (g337.2 z315 (by rw [hz315]; decide)) (g337.2 (z315 + 1) (by rw [hk338_4]; decide)) hp333
        refine hR (?_ : R (_, _, _, _, _, _))
        refine hR (k_ne (by omega) (fun hc => by omega) (fun _ => ?_))
        iterate 3 refine hR (?_ : R (_, _, _, _, _, _))
        refine hR (j_ne (by omega) (by omega) (fun hc345 => ?_) (fun hc345 => ?_))
        · skip
          refine hR (?_ : R (_, _, _, _, _, _))
          refine hR (c_obj hO342 (zcall_i 0 0 (Nat.le_refl _) (Nat.le_refl _) (c_bestEnd _ z315 0 hw337 hz315 sp344 (by omega) _ fun v346 hp348 => ?_)))
          refine (?_ : R (_, _, (.int (Int32.ofInt v346)) :: [], w337, 0 + mc1 + mc315, 0 + ms1 + ms315))
          obtain ⟨hTf349, hIf349, hpf349, hKf349⟩ := top_fr2 hT hw337 fr339 (by decide) aw343
          exact hR (zret_i rfl (Nat.le_refl _) trivial ⟨⟨_, hTf349, fun l m h => hIf349 _ _ (hI315 _ _ (hIt315 _ _ (hI1 _ _ (hIt1 _ _ (h))))), (KEEP2_tr hKt1 (KEEP2_tr hK1 (KEEP2_tr hKt315 (KEEP2_tr hK315 hKf349)))), (EXT_tr hx1 hx315), by omega, by omega⟩, _, rfl⟩)
        iterate 2 refine hR (?_ : R (_, _, _, _, _, _))
        refine hR (c_obj hO342 (zcall_i 0 0 (Nat.le_refl _) (Nat.le_refl _) (c_bestEnd _ z315 1 hw337 hz315 sp344 (by omega) _ fun v350 hp352 => ?_)))
        refine (?_ : R (_, _, (.int (Int32.ofInt v350)) :: [], w337, 0 + mc1 + mc315, 0 + ms1 + ms315))
        obtain ⟨hTf353, hIf353, hpf353, hKf353⟩ := top_fr2 hT hw337 fr339 (by decide) aw343
        exact hR (zret_i rfl (Nat.le_refl _) trivial ⟨⟨_, hTf353, fun l m h => hIf353 _ _ (hI315 _ _ (hIt315 _ _ (hI1 _ _ (hIt1 _ _ (h))))), (KEEP2_tr hKt1 (KEEP2_tr hK1 (KEEP2_tr hKt315 (KEEP2_tr hK315 hKf353)))), (EXT_tr hx1 hx315), by omega, by omega⟩, _, rfl⟩)
      iterate 2 refine hR (?_ : R (_, _, _, _, _, _))
      refine hR (j_eq (by omega) (by omega) (fun hc354 => ?_) (fun hc354 => ?_))
      rotate_left
      · skip
        refine hR (?_ : R (_, _, _, _, _, _))
        refine hR (k_ne (by omega) (fun hc => by omega) (fun _ => ?_))
        refine hR (?_ : R (_, _, _, _, _, _))
        obtain ⟨hTf389, hIf389, hpf389, hKf389⟩ := top_fr2 hT hT.1 fr3 (by decide) hT.2.2.1
        exact hR (zret_i rfl (Nat.le_refl _) trivial ⟨⟨_, hTf389, fun l m h => hIf389 _ _ (hI1 _ _ (hIt1 _ _ (h))), (KEEP2_tr hKt1 (KEEP2_tr hK1 hKf389)), hx1, by omega, by omega⟩, _, rfl⟩)
      refine hR (?_ : R (_, _, _, _, _, _))
      obtain ⟨y6_356, y7_356, hO356, hk356_0, hk356_1, hk356_2, hk356_3, hk356_4, hk356_5, hk356_6, hk356_7⟩ := CI_o1 hT.1 hT.2.1
      obtain ⟨hTt355, hIt355, hpt355, hKt355⟩ := top_fr2 hT hT.1 fr3 (by decide) hT.2.2.1
      obtain ⟨mc355, ms355, re355, w, ⟨ρ, z355, hA355, hre355, hz355⟩, hrun355⟩ := a_levelsThere hTt355 (d + 3)
      subst hre355
      refine hR0 (0 + mc1 + mc355) (0 + ms1 + ms355) (Nat.le_add_right _ _) (Nat.le_add_right _ _) (c_obj hO356 (zcall_i mc355 ms355 (Nat.le_refl _) (Nat.le_refl _) (hrun355 _ ?_)))
      obtain ⟨hT, hI355, hK355, hx355, hm355, hs355⟩ := hA355
      have hl357 : ρ z1 = 50 := (hx355 z1 (by rw [hz1]; decide)).trans hz1
      have fr358 := wfR_rf [51, 70, 71, 72, 73, 74, 75, 76] ρ w
      refine (?_ : R (_, _, (.ref z355) :: [], w, 0 + mc1 + mc355, 0 + ms1 + ms355))
      iterate 2 refine hR (?_ : R (_, _, _, _, _, _))
      obtain ⟨y0_360, x1_360, x2_360, x3_360, hO360, hk360_0, hk360_1, hk360_2, hk360_3, hk360_4, hk360_5, hk360_6, hk360_7, hk360_8, hk360_9⟩ := CI_o70 hT.1 hz355
      refine hR (c_obj hO360 (zcall_i 0 0 (Nat.le_refl _) (Nat.le_refl _) (c_wantNothing _ z355 hT.1 hz355 _ fun w359 hw359 g359 => ?_)))
      have fr361 := wfR_tr fr358 g359 (by decide)
      have hO362 := (g359.2 z355 (by rw [hz355]; decide)).trans hO360
      refine (?_ : R (_, _, [], w359, 0 + mc1 + mc355, 0 + ms1 + ms355))
      have aw363 := AWK_fr hT.1 g359 hT.2.2.1 (by decide)
      iterate 4 refine hR (?_ : R (_, _, _, _, _, _))
      obtain ⟨z0_367, z2_367, z3_367, hO367, hk367_0, hk367_1, hk367_2, hk367_3, hk367_4⟩ := CI_o50 hw359 hl357
      refine hR (c_obj hO367 (zcall_i 0 0 (Nat.le_refl _) (Nat.le_refl _) (c_all _ z1 hw359 hl357 _ fun v364 hp366 => ?_)))
      refine (?_ : R (_, _, (.int (Int32.ofInt v364)) :: (.int (Int32.ofInt a2)) :: (.ref z1) :: (.ref z355) :: [], w359, 0 + mc1 + mc355, 0 + ms1 + ms355))
      refine hR (?_ : R (_, _, _, _, _, _))
      refine hR (c_obj hO367 (zcall_i 0 0 (Nat.le_refl _) (Nat.le_refl _) (c_all _ z1 hw359 hl357 _ fun v368 hp370 => ?_)))
      refine (?_ : R (_, _, (.int (Int32.ofInt v368)) :: (.int (Int32.ofInt v364)) :: (.int (Int32.ofInt a2)) :: (.ref z1) :: (.ref z355) :: [], w359, 0 + mc1 + mc355, 0 + ms1 + ms355))
      refine hR (c_obj hO362 (zcall_i 0 0 (Nat.le_refl _) (Nat.le_refl _) (c_spread _ z355 z1 a2 v364 v368 hw359 hz355 hl357 (by omega) (by omega) (by omega) _ fun w371 hw371 g371 hn372 hp373 => ?_)))
      have fr374 := wfR_tr fr361 g371 (by decide)
      have hO375 := (g371.2 z1 (by rw [hl357]; decide)).trans hO367
      refine (?_ : R (_, _, [], w371, 0 + mc1 + mc355, 0 + ms1 + ms355))
      have aw376 := AWK_fr hw359 g371 aw363 (by decide)
      refine hR (?_ : R (_, _, _, _, _, _))
      obtain ⟨y0_378, x1_378, x2_378, x3_378, hO378, hk378_0, hk378_1, hk378_2, hk378_3, hk378_4, hk378_5, hk378_6, hk378_7, hk378_8, hk378_9⟩ := CI_o70 hw371 hz355
      refine hR (c_obj hO378 (zcall_i 0 0 (Nat.le_refl _) (Nat.le_refl _) (c_endByDrift _ z355 hw371 hz355 hn372 _ fun w377 hw377 g377 => ?_)))
      have fr379 := wfR_tr fr374 g377 (by decide)
      have hn380 := nn_eq (g377.2 z355 (by rw [hz355]; decide)) hn372
      have hO381 := (g377.2 z1 (by rw [hl357]; decide)).trans hO375
      have hO382 := (g377.2 z355 (by rw [hz355]; decide)).trans hO378
      refine (?_ : R (_, _, [], w377, 0 + mc1 + mc355, 0 + ms1 + ms355))
      have aw383 := AWK_fr hw371 g377 aw376 (by decide)
      have sp384 := SPN_eq (g377.2 z355 (by rw [hz355]; decide)) (g377.2 (z355 + 1) (by rw [hk378_4]; decide)) hp373
      refine hR (?_ : R (_, _, _, _, _, _))
      refine hR (k_ne (by omega) (fun hc => by omega) (fun _ => ?_))
      iterate 3 refine hR (?_ : R (_, _, _, _, _, _))
      refine hR (j_ne (by omega) (by omega) (fun hc => by omega) (fun _ => ?_))
      iterate 2 refine hR (?_ : R (_, _, _, _, _, _))
      refine hR (c_obj hO382 (zcall_i 0 0 (Nat.le_refl _) (Nat.le_refl _) (c_bestEnd _ z355 1 hw377 hz355 sp384 (by omega) _ fun v385 hp387 => ?_)))
      refine (?_ : R (_, _, (.int (Int32.ofInt v385)) :: [], w377, 0 + mc1 + mc355, 0 + ms1 + ms355))
      obtain ⟨hTf388, hIf388, hpf388, hKf388⟩ := top_fr2 hT hw377 fr379 (by decide) aw383
      exact hR (zret_i rfl (Nat.le_refl _) trivial ⟨⟨_, hTf388, fun l m h => hIf388 _ _ (hI355 _ _ (hIt355 _ _ (hI1 _ _ (hIt1 _ _ (h))))), (KEEP2_tr hKt1 (KEEP2_tr hK1 (KEEP2_tr hKt355 (KEEP2_tr hK355 hKf388)))), (EXT_tr hx1 hx355), by omega, by omega⟩, _, rfl⟩)
    refine hR (?_ : R (_, _, _, _, _, _))
    refine hR (t_c 10 (by decide) ?_)
    refine hR (?_ : R (_, _, _, _, _, _))
    refine hR (t_add ?_)
    refine hR (j_ge (by omega) (by omega) (fun hc390 => ?_) (fun hc390 => ?_))
    · skip
      iterate 3 refine hR (?_ : R (_, _, _, _, _, _))
      refine hR (k_eq (by omega) (fun hc391 => ?_) (fun hc391 => ?_))
      · skip
        refine hR (?_ : R (_, _, _, _, _, _))
        obtain ⟨y6_393, y7_393, hO393, hk393_0, hk393_1, hk393_2, hk393_3, hk393_4, hk393_5, hk393_6, hk393_7⟩ := CI_o1 hT.1 hT.2.1
        obtain ⟨hTt392, hIt392, hpt392, hKt392⟩ := top_fr2 hT hT.1 fr3 (by decide) hT.2.2.1
        obtain ⟨mc392, ms392, re392, w, ⟨ρ, z392, hA392, hre392, hz392⟩, hrun392⟩ := a_levelsThere hTt392 (d + 3)
        subst hre392
        refine hR0 (0 + mc1 + mc392) (0 + ms1 + ms392) (Nat.le_add_right _ _) (Nat.le_add_right _ _) (c_obj hO393 (zcall_i mc392 ms392 (Nat.le_refl _) (Nat.le_refl _) (hrun392 _ ?_)))
        obtain ⟨hT, hI392, hK392, hx392, hm392, hs392⟩ := hA392
        have hl394 : ρ z1 = 50 := (hx392 z1 (by rw [hz1]; decide)).trans hz1
        have fr395 := wfR_rf [51, 70, 71, 72, 73, 74, 75, 76] ρ w
        refine (?_ : R (_, _, (.ref z392) :: [], w, 0 + mc1 + mc392, 0 + ms1 + ms392))
        iterate 2 refine hR (?_ : R (_, _, _, _, _, _))
        obtain ⟨y0_397, x1_397, x2_397, x3_397, hO397, hk397_0, hk397_1, hk397_2, hk397_3, hk397_4, hk397_5, hk397_6, hk397_7, hk397_8, hk397_9⟩ := CI_o70 hT.1 hz392
        refine hR (c_obj hO397 (zcall_i 0 0 (Nat.le_refl _) (Nat.le_refl _) (c_wantNothing _ z392 hT.1 hz392 _ fun w396 hw396 g396 => ?_)))
        have fr398 := wfR_tr fr395 g396 (by decide)
        have hO399 := (g396.2 z392 (by rw [hz392]; decide)).trans hO397
        refine (?_ : R (_, _, [], w396, 0 + mc1 + mc392, 0 + ms1 + ms392))
        have aw400 := AWK_fr hT.1 g396 hT.2.2.1 (by decide)
        iterate 4 refine hR (?_ : R (_, _, _, _, _, _))
        obtain ⟨z0_404, z2_404, z3_404, hO404, hk404_0, hk404_1, hk404_2, hk404_3, hk404_4⟩ := CI_o50 hw396 hl394
        refine hR (c_obj hO404 (zcall_i 0 0 (Nat.le_refl _) (Nat.le_refl _) (c_all _ z1 hw396 hl394 _ fun v401 hp403 => ?_)))
        refine (?_ : R (_, _, (.int (Int32.ofInt v401)) :: (.int (Int32.ofInt a2)) :: (.ref z1) :: (.ref z392) :: [], w396, 0 + mc1 + mc392, 0 + ms1 + ms392))
        refine hR (?_ : R (_, _, _, _, _, _))
        refine hR (c_obj hO404 (zcall_i 0 0 (Nat.le_refl _) (Nat.le_refl _) (c_all _ z1 hw396 hl394 _ fun v405 hp407 => ?_)))
        refine (?_ : R (_, _, (.int (Int32.ofInt v405)) :: (.int (Int32.ofInt v401)) :: (.int (Int32.ofInt a2)) :: (.ref z1) :: (.ref z392) :: [], w396, 0 + mc1 + mc392, 0 + ms1 + ms392))
        refine hR (c_obj hO399 (zcall_i 0 0 (Nat.le_refl _) (Nat.le_refl _) (c_spread _ z392 z1 a2 v401 v405 hw396 hz392 hl394 (by omega) (by omega) (by omega) _ fun w408 hw408 g408 hn409 hp410 => ?_)))
        have fr411 := wfR_tr fr398 g408 (by decide)
        have hO412 := (g408.2 z1 (by rw [hl394]; decide)).trans hO404
        refine (?_ : R (_, _, [], w408, 0 + mc1 + mc392, 0 + ms1 + ms392))
        have aw413 := AWK_fr hw396 g408 aw400 (by decide)
        refine hR (?_ : R (_, _, _, _, _, _))
        obtain ⟨y0_415, x1_415, x2_415, x3_415, hO415, hk415_0, hk415_1, hk415_2, hk415_3, hk415_4, hk415_5, hk415_6, hk415_7, hk415_8, hk415_9⟩ := CI_o70 hw408 hz392
        refine hR (c_obj hO415 (zcall_i 0 0 (Nat.le_refl _) (Nat.le_refl _) (c_endByDrift _ z392 hw408 hz392 hn409 _ fun w414 hw414 g414 => ?_)))
        have fr416 := wfR_tr fr411 g414 (by decide)
        have hn417 := nn_eq (g414.2 z392 (by rw [hz392]; decide)) hn409
        have hO418 := (g414.2 z1 (by rw [hl394]; decide)).trans hO412
        have hO419 := (g414.2 z392 (by rw [hz392]; decide)).trans hO415
        refine (?_ : R (_, _, [], w414, 0 + mc1 + mc392, 0 + ms1 + ms392))
        have aw420 := AWK_fr hw408 g414 aw413 (by decide)
        have sp421 := SPN_eq (g414.2 z392 (by rw [hz392]; decide)) (g414.2 (z392 + 1) (by rw [hk415_4]; decide)) hp410
        refine hR (?_ : R (_, _, _, _, _, _))
        refine hR (k_ne (by omega) (fun hc => by omega) (fun _ => ?_))
        iterate 3 refine hR (?_ : R (_, _, _, _, _, _))
        refine hR (j_ne (by omega) (by omega) (fun hc422 => ?_) (fun hc422 => ?_))
        · skip
          refine hR (?_ : R (_, _, _, _, _, _))
          refine hR (c_obj hO419 (zcall_i 0 0 (Nat.le_refl _) (Nat.le_refl _) (c_bestEnd _ z392 0 hw414 hz392 sp421 (by omega) _ fun v423 hp425 => ?_)))
          refine (?_ : R (_, _, (.int (Int32.ofInt v423)) :: [], w414, 0 + mc1 + mc392, 0 + ms1 + ms392))
          obtain ⟨hTf426, hIf426, hpf426, hKf426⟩ := top_fr2 hT hw414 fr416 (by decide) aw420
          exact hR (zret_i rfl (Nat.le_refl _) trivial ⟨⟨_, hTf426, fun l m h => hIf426 _ _ (hI392 _ _ (hIt392 _ _ (hI1 _ _ (hIt1 _ _ (h))))), (KEEP2_tr hKt1 (KEEP2_tr hK1 (KEEP2_tr hKt392 (KEEP2_tr hK392 hKf426)))), (EXT_tr hx1 hx392), by omega, by omega⟩, _, rfl⟩)
        iterate 2 refine hR (?_ : R (_, _, _, _, _, _))
        refine hR (c_obj hO419 (zcall_i 0 0 (Nat.le_refl _) (Nat.le_refl _) (c_bestEnd _ z392 1 hw414 hz392 sp421 (by omega) _ fun v427 hp429 => ?_)))
        refine (?_ : R (_, _, (.int (Int32.ofInt v427)) :: [], w414, 0 + mc1 + mc392, 0 + ms1 + ms392))
        obtain ⟨hTf430, hIf430, hpf430, hKf430⟩ := top_fr2 hT hw414 fr416 (by decide) aw420
        exact hR (zret_i rfl (Nat.le_refl _) trivial ⟨⟨_, hTf430, fun l m h => hIf430 _ _ (hI392 _ _ (hIt392 _ _ (hI1 _ _ (hIt1 _ _ (h))))), (KEEP2_tr hKt1 (KEEP2_tr hK1 (KEEP2_tr hKt392 (KEEP2_tr hK392 hKf430)))), (EXT_tr hx1 hx392), by omega, by omega⟩, _, rfl⟩)
      iterate 2 refine hR (?_ : R (_, _, _, _, _, _))
      refine hR (j_eq (by omega) (by omega) (fun hc431 => ?_) (fun hc431 => ?_))
      rotate_left
      · skip
        refine hR (?_ : R (_, _, _, _, _, _))
        refine hR (k_ne (by omega) (fun hc => by omega) (fun _ => ?_))
        refine hR (?_ : R (_, _, _, _, _, _))
        obtain ⟨hTf466, hIf466, hpf466, hKf466⟩ := top_fr2 hT hT.1 fr3 (by decide) hT.2.2.1
        exact hR (zret_i rfl (Nat.le_refl _) trivial ⟨⟨_, hTf466, fun l m h => hIf466 _ _ (hI1 _ _ (hIt1 _ _ (h))), (KEEP2_tr hKt1 (KEEP2_tr hK1 hKf466)), hx1, by omega, by omega⟩, _, rfl⟩)
      refine hR (?_ : R (_, _, _, _, _, _))
      obtain ⟨y6_433, y7_433, hO433, hk433_0, hk433_1, hk433_2, hk433_3, hk433_4, hk433_5, hk433_6, hk433_7⟩ := CI_o1 hT.1 hT.2.1
      obtain ⟨hTt432, hIt432, hpt432, hKt432⟩ := top_fr2 hT hT.1 fr3 (by decide) hT.2.2.1
      obtain ⟨mc432, ms432, re432, w, ⟨ρ, z432, hA432, hre432, hz432⟩, hrun432⟩ := a_levelsThere hTt432 (d + 3)
      subst hre432
      refine hR0 (0 + mc1 + mc432) (0 + ms1 + ms432) (Nat.le_add_right _ _) (Nat.le_add_right _ _) (c_obj hO433 (zcall_i mc432 ms432 (Nat.le_refl _) (Nat.le_refl _) (hrun432 _ ?_)))
      obtain ⟨hT, hI432, hK432, hx432, hm432, hs432⟩ := hA432
      have hl434 : ρ z1 = 50 := (hx432 z1 (by rw [hz1]; decide)).trans hz1
      have fr435 := wfR_rf [51, 70, 71, 72, 73, 74, 75, 76] ρ w
      refine (?_ : R (_, _, (.ref z432) :: [], w, 0 + mc1 + mc432, 0 + ms1 + ms432))
      iterate 2 refine hR (?_ : R (_, _, _, _, _, _))
      obtain ⟨y0_437, x1_437, x2_437, x3_437, hO437, hk437_0, hk437_1, hk437_2, hk437_3, hk437_4, hk437_5, hk437_6, hk437_7, hk437_8, hk437_9⟩ := CI_o70 hT.1 hz432
      refine hR (c_obj hO437 (zcall_i 0 0 (Nat.le_refl _) (Nat.le_refl _) (c_wantNothing _ z432 hT.1 hz432 _ fun w436 hw436 g436 => ?_)))
      have fr438 := wfR_tr fr435 g436 (by decide)
      have hO439 := (g436.2 z432 (by rw [hz432]; decide)).trans hO437
      refine (?_ : R (_, _, [], w436, 0 + mc1 + mc432, 0 + ms1 + ms432))
      have aw440 := AWK_fr hT.1 g436 hT.2.2.1 (by decide)
      iterate 4 refine hR (?_ : R (_, _, _, _, _, _))
      obtain ⟨z0_444, z2_444, z3_444, hO444, hk444_0, hk444_1, hk444_2, hk444_3, hk444_4⟩ := CI_o50 hw436 hl434
      refine hR (c_obj hO444 (zcall_i 0 0 (Nat.le_refl _) (Nat.le_refl _) (c_all _ z1 hw436 hl434 _ fun v441 hp443 => ?_)))
      refine (?_ : R (_, _, (.int (Int32.ofInt v441)) :: (.int (Int32.ofInt a2)) :: (.ref z1) :: (.ref z432) :: [], w436, 0 + mc1 + mc432, 0 + ms1 + ms432))
      refine hR (?_ : R (_, _, _, _, _, _))
      refine hR (c_obj hO444 (zcall_i 0 0 (Nat.le_refl _) (Nat.le_refl _) (c_all _ z1 hw436 hl434 _ fun v445 hp447 => ?_)))
      refine (?_ : R (_, _, (.int (Int32.ofInt v445)) :: (.int (Int32.ofInt v441)) :: (.int (Int32.ofInt a2)) :: (.ref z1) :: (.ref z432) :: [], w436, 0 + mc1 + mc432, 0 + ms1 + ms432))
      refine hR (c_obj hO439 (zcall_i 0 0 (Nat.le_refl _) (Nat.le_refl _) (c_spread _ z432 z1 a2 v441 v445 hw436 hz432 hl434 (by omega) (by omega) (by omega) _ fun w448 hw448 g448 hn449 hp450 => ?_)))
      have fr451 := wfR_tr fr438 g448 (by decide)
      have hO452 := (g448.2 z1 (by rw [hl434]; decide)).trans hO444
      refine (?_ : R (_, _, [], w448, 0 + mc1 + mc432, 0 + ms1 + ms432))
      have aw453 := AWK_fr hw436 g448 aw440 (by decide)
      refine hR (?_ : R (_, _, _, _, _, _))
      obtain ⟨y0_455, x1_455, x2_455, x3_455, hO455, hk455_0, hk455_1, hk455_2, hk455_3, hk455_4, hk455_5, hk455_6, hk455_7, hk455_8, hk455_9⟩ := CI_o70 hw448 hz432
      refine hR (c_obj hO455 (zcall_i 0 0 (Nat.le_refl _) (Nat.le_refl _) (c_endByDrift _ z432 hw448 hz432 hn449 _ fun w454 hw454 g454 => ?_)))
      have fr456 := wfR_tr fr451 g454 (by decide)
      have hn457 := nn_eq (g454.2 z432 (by rw [hz432]; decide)) hn449
      have hO458 := (g454.2 z1 (by rw [hl434]; decide)).trans hO452
      have hO459 := (g454.2 z432 (by rw [hz432]; decide)).trans hO455
      refine (?_ : R (_, _, [], w454, 0 + mc1 + mc432, 0 + ms1 + ms432))
      have aw460 := AWK_fr hw448 g454 aw453 (by decide)
      have sp461 := SPN_eq (g454.2 z432 (by rw [hz432]; decide)) (g454.2 (z432 + 1) (by rw [hk455_4]; decide)) hp450
      refine hR (?_ : R (_, _, _, _, _, _))
      refine hR (k_ne (by omega) (fun hc => by omega) (fun _ => ?_))
      iterate 3 refine hR (?_ : R (_, _, _, _, _, _))
      refine hR (j_ne (by omega) (by omega) (fun hc => by omega) (fun _ => ?_))
      iterate 2 refine hR (?_ : R (_, _, _, _, _, _))
      refine hR (c_obj hO459 (zcall_i 0 0 (Nat.le_refl _) (Nat.le_refl _) (c_bestEnd _ z432 1 hw454 hz432 sp461 (by omega) _ fun v462 hp464 => ?_)))
      refine (?_ : R (_, _, (.int (Int32.ofInt v462)) :: [], w454, 0 + mc1 + mc432, 0 + ms1 + ms432))
      obtain ⟨hTf465, hIf465, hpf465, hKf465⟩ := top_fr2 hT hw454 fr456 (by decide) aw460
      exact hR (zret_i rfl (Nat.le_refl _) trivial ⟨⟨_, hTf465, fun l m h => hIf465 _ _ (hI432 _ _ (hIt432 _ _ (hI1 _ _ (hIt1 _ _ (h))))), (KEEP2_tr hKt1 (KEEP2_tr hK1 (KEEP2_tr hKt432 (KEEP2_tr hK432 hKf465)))), (EXT_tr hx1 hx432), by omega, by omega⟩, _, rfl⟩)
    iterate 4 refine hR (?_ : R (_, _, _, _, _, _))
    refine hR (k_eq (by omega) (fun hc467 => ?_) (fun hc467 => ?_))
    · skip
      refine hR (?_ : R (_, _, _, _, _, _))
      obtain ⟨y6_469, y7_469, hO469, hk469_0, hk469_1, hk469_2, hk469_3, hk469_4, hk469_5, hk469_6, hk469_7⟩ := CI_o1 hT.1 hT.2.1
      obtain ⟨hTt468, hIt468, hpt468, hKt468⟩ := top_fr2 hT hT.1 fr3 (by decide) hT.2.2.1
      obtain ⟨mc468, ms468, re468, w, ⟨ρ, z468, hA468, hre468, hz468⟩, hrun468⟩ := a_levelsThere hTt468 (d + 3)
      subst hre468
      refine hR0 (0 + mc1 + mc468) (0 + ms1 + ms468) (Nat.le_add_right _ _) (Nat.le_add_right _ _) (c_obj hO469 (zcall_i mc468 ms468 (Nat.le_refl _) (Nat.le_refl _) (hrun468 _ ?_)))
      obtain ⟨hT, hI468, hK468, hx468, hm468, hs468⟩ := hA468
      have hl470 : ρ z1 = 50 := (hx468 z1 (by rw [hz1]; decide)).trans hz1
      have fr471 := wfR_rf [51, 70, 71, 72, 73, 74, 75, 76] ρ w
      refine (?_ : R (_, _, (.ref z468) :: [], w, 0 + mc1 + mc468, 0 + ms1 + ms468))
      iterate 2 refine hR (?_ : R (_, _, _, _, _, _))
      obtain ⟨y0_473, x1_473, x2_473, x3_473, hO473, hk473_0, hk473_1, hk473_2, hk473_3, hk473_4, hk473_5, hk473_6, hk473_7, hk473_8, hk473_9⟩ := CI_o70 hT.1 hz468
      refine hR (c_obj hO473 (zcall_i 0 0 (Nat.le_refl _) (Nat.le_refl _) (c_wantNothing _ z468 hT.1 hz468 _ fun w472 hw472 g472 => ?_)))
      have fr474 := wfR_tr fr471 g472 (by decide)
      have hO475 := (g472.2 z468 (by rw [hz468]; decide)).trans hO473
      refine (?_ : R (_, _, [], w472, 0 + mc1 + mc468, 0 + ms1 + ms468))
      have aw476 := AWK_fr hT.1 g472 hT.2.2.1 (by decide)
      iterate 4 refine hR (?_ : R (_, _, _, _, _, _))
      obtain ⟨z0_480, z2_480, z3_480, hO480, hk480_0, hk480_1, hk480_2, hk480_3, hk480_4⟩ := CI_o50 hw472 hl470
      refine hR (c_obj hO480 (zcall_i 0 0 (Nat.le_refl _) (Nat.le_refl _) (c_all _ z1 hw472 hl470 _ fun v477 hp479 => ?_)))
      refine (?_ : R (_, _, (.int (Int32.ofInt v477)) :: (.int (Int32.ofInt a2)) :: (.ref z1) :: (.ref z468) :: [], w472, 0 + mc1 + mc468, 0 + ms1 + ms468))
      refine hR (?_ : R (_, _, _, _, _, _))
      refine hR (c_obj hO480 (zcall_i 0 0 (Nat.le_refl _) (Nat.le_refl _) (c_all _ z1 hw472 hl470 _ fun v481 hp483 => ?_)))
      refine (?_ : R (_, _, (.int (Int32.ofInt v481)) :: (.int (Int32.ofInt v477)) :: (.int (Int32.ofInt a2)) :: (.ref z1) :: (.ref z468) :: [], w472, 0 + mc1 + mc468, 0 + ms1 + ms468))
      refine hR (c_obj hO475 (zcall_i 0 0 (Nat.le_refl _) (Nat.le_refl _) (c_spread _ z468 z1 a2 v477 v481 hw472 hz468 hl470 (by omega) (by omega) (by omega) _ fun w484 hw484 g484 hn485 hp486 => ?_)))
      have fr487 := wfR_tr fr474 g484 (by decide)
      have hO488 := (g484.2 z1 (by rw [hl470]; decide)).trans hO480
      refine (?_ : R (_, _, [], w484, 0 + mc1 + mc468, 0 + ms1 + ms468))
      have aw489 := AWK_fr hw472 g484 aw476 (by decide)
      refine hR (?_ : R (_, _, _, _, _, _))
      obtain ⟨y0_491, x1_491, x2_491, x3_491, hO491, hk491_0, hk491_1, hk491_2, hk491_3, hk491_4, hk491_5, hk491_6, hk491_7, hk491_8, hk491_9⟩ := CI_o70 hw484 hz468
      refine hR (c_obj hO491 (zcall_i 0 0 (Nat.le_refl _) (Nat.le_refl _) (c_endByDrift _ z468 hw484 hz468 hn485 _ fun w490 hw490 g490 => ?_)))
      have fr492 := wfR_tr fr487 g490 (by decide)
      have hn493 := nn_eq (g490.2 z468 (by rw [hz468]; decide)) hn485
      have hO494 := (g490.2 z1 (by rw [hl470]; decide)).trans hO488
      have hO495 := (g490.2 z468 (by rw [hz468]; decide)).trans hO491
      refine (?_ : R (_, _, [], w490, 0 + mc1 + mc468, 0 + ms1 + ms468))
      have aw496 := AWK_fr hw484 g490 aw489 (by decide)
      have sp497 := SPN_eq (g490.2 z468 (by rw [hz468]; decide)) (g490.2 (z468 + 1) (by rw [hk491_4]; decide)) hp486
      refine hR (?_ : R (_, _, _, _, _, _))
      refine hR (k_ne (by omega) (fun _ => ?_) (fun hc => by omega))
      iterate 3 refine hR (?_ : R (_, _, _, _, _, _))
      refine hR (c_obj hO495 (zcall_i 0 0 (Nat.le_refl _) (Nat.le_refl _) (c_foldBack _ z468 0 0 hw490 hz468 hn493 (by omega) (by omega) _ fun w498 hw498 g498 => ?_)))
      have fr499 := wfR_tr fr492 g498 (by decide)
      have hn500 := nn_eq (g498.2 z468 (by rw [hz468]; decide)) hn493
      have hO501 := (g498.2 z1 (by rw [hl470]; decide)).trans hO494
      have hO502 := (g498.2 z468 (by rw [hz468]; decide)).trans hO495
      refine (?_ : R (_, _, [], w498, 0 + mc1 + mc468, 0 + ms1 + ms468))
      have aw503 := AWK_fr hw490 g498 aw496 (by decide)
      have sp504 := SPN_eq (g498.2 z468 (by rw [hz468]; decide)) (g498.2 (z468 + 1) (by rw [hk491_4]; decide)) sp497
      iterate 2 refine hR (?_ : R (_, _, _, _, _, _))
      refine hR (t_c 10 (by decide) ?_)
      refine hR (t_sub ?_)
      refine hR (c_obj hO502 (zcall_i 0 0 (Nat.le_refl _) (Nat.le_refl _) (c_chosenAt _ z468 (a3 - 10) hw498 hz468 hn500 (by omega) _ fun v505 w506 hw506 g506 hp507 => ?_)))
      have fr508 := wfR_tr fr499 g506 (by decide)
      have hn509 := nn_eq (g506.2 z468 (by rw [hz468]; decide)) hn500
      have hO510 := (g506.2 z1 (by rw [hl470]; decide)).trans hO501
      have hO511 := (g506.2 z468 (by rw [hz468]; decide)).trans hO502
      refine (?_ : R (_, _, (.int (Int32.ofInt v505)) :: [], w506, 0 + mc1 + mc468, 0 + ms1 + ms468))
      have aw512 := AWK_fr hw498 g506 aw503 (by decide)
      have sp513 := SPN_eq (g506.2 z468 (by rw [hz468]; decide)) (g506.2 (z468 + 1) (by rw [hk491_4]; decide)) sp504
      obtain ⟨hTf514, hIf514, hpf514, hKf514⟩ := top_fr2 hT hw506 fr508 (by decide) aw512
      exact hR (zret_i rfl (Nat.le_refl _) trivial ⟨⟨_, hTf514, fun l m h => hIf514 _ _ (hI468 _ _ (hIt468 _ _ (hI1 _ _ (hIt1 _ _ (h))))), (KEEP2_tr hKt1 (KEEP2_tr hK1 (KEEP2_tr hKt468 (KEEP2_tr hK468 hKf514)))), (EXT_tr hx1 hx468), by omega, by omega⟩, _, rfl⟩)
    iterate 2 refine hR (?_ : R (_, _, _, _, _, _))
    refine hR (j_eq (by omega) (by omega) (fun hc515 => ?_) (fun hc515 => ?_))
    · skip
      refine hR (?_ : R (_, _, _, _, _, _))
      obtain ⟨y6_517, y7_517, hO517, hk517_0, hk517_1, hk517_2, hk517_3, hk517_4, hk517_5, hk517_6, hk517_7⟩ := CI_o1 hT.1 hT.2.1
      obtain ⟨hTt516, hIt516, hpt516, hKt516⟩ := top_fr2 hT hT.1 fr3 (by decide) hT.2.2.1
      obtain ⟨mc516, ms516, re516, w, ⟨ρ, z516, hA516, hre516, hz516⟩, hrun516⟩ := a_levelsThere hTt516 (d + 3)
      subst hre516
      refine hR0 (0 + mc1 + mc516) (0 + ms1 + ms516) (Nat.le_add_right _ _) (Nat.le_add_right _ _) (c_obj hO517 (zcall_i mc516 ms516 (Nat.le_refl _) (Nat.le_refl _) (hrun516 _ ?_)))
      obtain ⟨hT, hI516, hK516, hx516, hm516, hs516⟩ := hA516
      have hl518 : ρ z1 = 50 := (hx516 z1 (by rw [hz1]; decide)).trans hz1
      have fr519 := wfR_rf [51, 70, 71, 72, 73, 74, 75, 76] ρ w
      refine (?_ : R (_, _, (.ref z516) :: [], w, 0 + mc1 + mc516, 0 + ms1 + ms516))
      iterate 2 refine hR (?_ : R (_, _, _, _, _, _))
      obtain ⟨y0_521, x1_521, x2_521, x3_521, hO521, hk521_0, hk521_1, hk521_2, hk521_3, hk521_4, hk521_5, hk521_6, hk521_7, hk521_8, hk521_9⟩ := CI_o70 hT.1 hz516
      refine hR (c_obj hO521 (zcall_i 0 0 (Nat.le_refl _) (Nat.le_refl _) (c_wantNothing _ z516 hT.1 hz516 _ fun w520 hw520 g520 => ?_)))
      have fr522 := wfR_tr fr519 g520 (by decide)
      have hO523 := (g520.2 z516 (by rw [hz516]; decide)).trans hO521
      refine (?_ : R (_, _, [], w520, 0 + mc1 + mc516, 0 + ms1 + ms516))
      have aw524 := AWK_fr hT.1 g520 hT.2.2.1 (by decide)
      iterate 4 refine hR (?_ : R (_, _, _, _, _, _))
      obtain ⟨z0_528, z2_528, z3_528, hO528, hk528_0, hk528_1, hk528_2, hk528_3, hk528_4⟩ := CI_o50 hw520 hl518
      refine hR (c_obj hO528 (zcall_i 0 0 (Nat.le_refl _) (Nat.le_refl _) (c_all _ z1 hw520 hl518 _ fun v525 hp527 => ?_)))
      refine (?_ : R (_, _, (.int (Int32.ofInt v525)) :: (.int (Int32.ofInt a2)) :: (.ref z1) :: (.ref z516) :: [], w520, 0 + mc1 + mc516, 0 + ms1 + ms516))
      refine hR (?_ : R (_, _, _, _, _, _))
      refine hR (c_obj hO528 (zcall_i 0 0 (Nat.le_refl _) (Nat.le_refl _) (c_all _ z1 hw520 hl518 _ fun v529 hp531 => ?_)))
      refine (?_ : R (_, _, (.int (Int32.ofInt v529)) :: (.int (Int32.ofInt v525)) :: (.int (Int32.ofInt a2)) :: (.ref z1) :: (.ref z516) :: [], w520, 0 + mc1 + mc516, 0 + ms1 + ms516))
      refine hR (c_obj hO523 (zcall_i 0 0 (Nat.le_refl _) (Nat.le_refl _) (c_spread _ z516 z1 a2 v525 v529 hw520 hz516 hl518 (by omega) (by omega) (by omega) _ fun w532 hw532 g532 hn533 hp534 => ?_)))
      have fr535 := wfR_tr fr522 g532 (by decide)
      have hO536 := (g532.2 z1 (by rw [hl518]; decide)).trans hO528
      refine (?_ : R (_, _, [], w532, 0 + mc1 + mc516, 0 + ms1 + ms516))
      have aw537 := AWK_fr hw520 g532 aw524 (by decide)
      refine hR (?_ : R (_, _, _, _, _, _))
      obtain ⟨y0_539, x1_539, x2_539, x3_539, hO539, hk539_0, hk539_1, hk539_2, hk539_3, hk539_4, hk539_5, hk539_6, hk539_7, hk539_8, hk539_9⟩ := CI_o70 hw532 hz516
      refine hR (c_obj hO539 (zcall_i 0 0 (Nat.le_refl _) (Nat.le_refl _) (c_endByDrift _ z516 hw532 hz516 hn533 _ fun w538 hw538 g538 => ?_)))
      have fr540 := wfR_tr fr535 g538 (by decide)
      have hn541 := nn_eq (g538.2 z516 (by rw [hz516]; decide)) hn533
      have hO542 := (g538.2 z1 (by rw [hl518]; decide)).trans hO536
      have hO543 := (g538.2 z516 (by rw [hz516]; decide)).trans hO539
      refine (?_ : R (_, _, [], w538, 0 + mc1 + mc516, 0 + ms1 + ms516))
      have aw544 := AWK_fr hw532 g538 aw537 (by decide)
      have sp545 := SPN_eq (g538.2 z516 (by rw [hz516]; decide)) (g538.2 (z516 + 1) (by rw [hk539_4]; decide)) hp534
      refine hR (?_ : R (_, _, _, _, _, _))
      refine hR (k_ne (by omega) (fun _ => ?_) (fun hc => by omega))
      iterate 3 refine hR (?_ : R (_, _, _, _, _, _))
      refine hR (c_obj hO543 (zcall_i 0 0 (Nat.le_refl _) (Nat.le_refl _) (c_foldBack _ z516 0 0 hw538 hz516 hn541 (by omega) (by omega) _ fun w546 hw546 g546 => ?_)))
      have fr547 := wfR_tr fr540 g546 (by decide)
      have hn548 := nn_eq (g546.2 z516 (by rw [hz516]; decide)) hn541
      have hO549 := (g546.2 z1 (by rw [hl518]; decide)).trans hO542
      have hO550 := (g546.2 z516 (by rw [hz516]; decide)).trans hO543
      refine (?_ : R (_, _, [], w546, 0 + mc1 + mc516, 0 + ms1 + ms516))
      have aw551 := AWK_fr hw538 g546 aw544 (by decide)
      have sp552 := SPN_eq (g546.2 z516 (by rw [hz516]; decide)) (g546.2 (z516 + 1) (by rw [hk539_4]; decide)) sp545
      iterate 2 refine hR (?_ : R (_, _, _, _, _, _))
      refine hR (t_c 10 (by decide) ?_)
      refine hR (t_sub ?_)
      refine hR (c_obj hO550 (zcall_i 0 0 (Nat.le_refl _) (Nat.le_refl _) (c_chosenAt _ z516 (a3 - 10) hw546 hz516 hn548 (by omega) _ fun v553 w554 hw554 g554 hp555 => ?_)))
      have fr556 := wfR_tr fr547 g554 (by decide)
      have hn557 := nn_eq (g554.2 z516 (by rw [hz516]; decide)) hn548
      have hO558 := (g554.2 z1 (by rw [hl518]; decide)).trans hO549
      have hO559 := (g554.2 z516 (by rw [hz516]; decide)).trans hO550
      refine (?_ : R (_, _, (.int (Int32.ofInt v553)) :: [], w554, 0 + mc1 + mc516, 0 + ms1 + ms516))
      have aw560 := AWK_fr hw546 g554 aw551 (by decide)
      have sp561 := SPN_eq (g554.2 z516 (by rw [hz516]; decide)) (g554.2 (z516 + 1) (by rw [hk539_4]; decide)) sp552
      obtain ⟨hTf562, hIf562, hpf562, hKf562⟩ := top_fr2 hT hw554 fr556 (by decide) aw560
      exact hR (zret_i rfl (Nat.le_refl _) trivial ⟨⟨_, hTf562, fun l m h => hIf562 _ _ (hI516 _ _ (hIt516 _ _ (hI1 _ _ (hIt1 _ _ (h))))), (KEEP2_tr hKt1 (KEEP2_tr hK1 (KEEP2_tr hKt516 (KEEP2_tr hK516 hKf562)))), (EXT_tr hx1 hx516), by omega, by omega⟩, _, rfl⟩)
    refine hR (?_ : R (_, _, _, _, _, _))
    refine hR (k_ne (by omega) (fun _ => ?_) (fun hc => by omega))
    refine hR (?_ : R (_, _, _, _, _, _))
    obtain ⟨y6_564, y7_564, hO564, hk564_0, hk564_1, hk564_2, hk564_3, hk564_4, hk564_5, hk564_6, hk564_7⟩ := CI_o1 hT.1 hT.2.1
    obtain ⟨hTt563, hIt563, hpt563, hKt563⟩ := top_fr2 hT hT.1 fr3 (by decide) hT.2.2.1
    obtain ⟨mc563, ms563, re563, w, ⟨ρ, z563, hA563, hre563, hz563⟩, hrun563⟩ := a_levelsThere hTt563 (d + 3)
    subst hre563
    refine hR0 (0 + mc1 + mc563) (0 + ms1 + ms563) (Nat.le_add_right _ _) (Nat.le_add_right _ _) (c_obj hO564 (zcall_i mc563 ms563 (Nat.le_refl _) (Nat.le_refl _) (hrun563 _ ?_)))
    obtain ⟨hT, hI563, hK563, hx563, hm563, hs563⟩ := hA563
    have hl565 : ρ z1 = 50 := (hx563 z1 (by rw [hz1]; decide)).trans hz1
    have fr566 := wfR_rf [51, 70, 71, 72, 73, 74, 75, 76] ρ w
    refine (?_ : R (_, _, (.ref z563) :: [], w, 0 + mc1 + mc563, 0 + ms1 + ms563))
    iterate 2 refine hR (?_ : R (_, _, _, _, _, _))
    obtain ⟨y0_568, x1_568, x2_568, x3_568, hO568, hk568_0, hk568_1, hk568_2, hk568_3, hk568_4, hk568_5, hk568_6, hk568_7, hk568_8, hk568_9⟩ := CI_o70 hT.1 hz563
    refine hR (c_obj hO568 (zcall_i 0 0 (Nat.le_refl _) (Nat.le_refl _) (c_wantNothing _ z563 hT.1 hz563 _ fun w567 hw567 g567 => ?_)))
    have fr569 := wfR_tr fr566 g567 (by decide)
    have hO570 := (g567.2 z563 (by rw [hz563]; decide)).trans hO568
    refine (?_ : R (_, _, [], w567, 0 + mc1 + mc563, 0 + ms1 + ms563))
    have aw571 := AWK_fr hT.1 g567 hT.2.2.1 (by decide)
    iterate 4 refine hR (?_ : R (_, _, _, _, _, _))
    obtain ⟨z0_575, z2_575, z3_575, hO575, hk575_0, hk575_1, hk575_2, hk575_3, hk575_4⟩ := CI_o50 hw567 hl565
    refine hR (c_obj hO575 (zcall_i 0 0 (Nat.le_refl _) (Nat.le_refl _) (c_all _ z1 hw567 hl565 _ fun v572 hp574 => ?_)))
    refine (?_ : R (_, _, (.int (Int32.ofInt v572)) :: (.int (Int32.ofInt a2)) :: (.ref z1) :: (.ref z563) :: [], w567, 0 + mc1 + mc563, 0 + ms1 + ms563))
    refine hR (?_ : R (_, _, _, _, _, _))
    refine hR (c_obj hO575 (zcall_i 0 0 (Nat.le_refl _) (Nat.le_refl _) (c_all _ z1 hw567 hl565 _ fun v576 hp578 => ?_)))
    refine (?_ : R (_, _, (.int (Int32.ofInt v576)) :: (.int (Int32.ofInt v572)) :: (.int (Int32.ofInt a2)) :: (.ref z1) :: (.ref z563) :: [], w567, 0 + mc1 + mc563, 0 + ms1 + ms563))
    refine hR (c_obj hO570 (zcall_i 0 0 (Nat.le_refl _) (Nat.le_refl _) (c_spread _ z563 z1 a2 v572 v576 hw567 hz563 hl565 (by omega) (by omega) (by omega) _ fun w579 hw579 g579 hn580 hp581 => ?_)))
    have fr582 := wfR_tr fr569 g579 (by decide)
    have hO583 := (g579.2 z1 (by rw [hl565]; decide)).trans hO575
    refine (?_ : R (_, _, [], w579, 0 + mc1 + mc563, 0 + ms1 + ms563))
    have aw584 := AWK_fr hw567 g579 aw571 (by decide)
    refine hR (?_ : R (_, _, _, _, _, _))
    obtain ⟨y0_586, x1_586, x2_586, x3_586, hO586, hk586_0, hk586_1, hk586_2, hk586_3, hk586_4, hk586_5, hk586_6, hk586_7, hk586_8, hk586_9⟩ := CI_o70 hw579 hz563
    refine hR (c_obj hO586 (zcall_i 0 0 (Nat.le_refl _) (Nat.le_refl _) (c_endByDrift _ z563 hw579 hz563 hn580 _ fun w585 hw585 g585 => ?_)))
    have fr587 := wfR_tr fr582 g585 (by decide)
    have hn588 := nn_eq (g585.2 z563 (by rw [hz563]; decide)) hn580
    have hO589 := (g585.2 z1 (by rw [hl565]; decide)).trans hO583
    have hO590 := (g585.2 z563 (by rw [hz563]; decide)).trans hO586
    refine (?_ : R (_, _, [], w585, 0 + mc1 + mc563, 0 + ms1 + ms563))
    have aw591 := AWK_fr hw579 g585 aw584 (by decide)
    have sp592 := SPN_eq (g585.2 z563 (by rw [hz563]; decide)) (g585.2 (z563 + 1) (by rw [hk586_4]; decide)) hp581
    refine hR (?_ : R (_, _, _, _, _, _))
    refine hR (k_ne (by omega) (fun _ => ?_) (fun hc => by omega))
    iterate 3 refine hR (?_ : R (_, _, _, _, _, _))
    refine hR (c_obj hO590 (zcall_i 0 0 (Nat.le_refl _) (Nat.le_refl _) (c_foldBack _ z563 0 0 hw585 hz563 hn588 (by omega) (by omega) _ fun w593 hw593 g593 => ?_)))
    have fr594 := wfR_tr fr587 g593 (by decide)
    have hn595 := nn_eq (g593.2 z563 (by rw [hz563]; decide)) hn588
    have hO596 := (g593.2 z1 (by rw [hl565]; decide)).trans hO589
    have hO597 := (g593.2 z563 (by rw [hz563]; decide)).trans hO590
    refine (?_ : R (_, _, [], w593, 0 + mc1 + mc563, 0 + ms1 + ms563))
    have aw598 := AWK_fr hw585 g593 aw591 (by decide)
    have sp599 := SPN_eq (g593.2 z563 (by rw [hz563]; decide)) (g593.2 (z563 + 1) (by rw [hk586_4]; decide)) sp592
    iterate 2 refine hR (?_ : R (_, _, _, _, _, _))
    refine hR (t_c 10 (by decide) ?_)
    refine hR (t_sub ?_)
    refine hR (c_obj hO597 (zcall_i 0 0 (Nat.le_refl _) (Nat.le_refl _) (c_chosenAt _ z563 (a3 - 10) hw593 hz563 hn595 (by omega) _ fun v600 w601 hw601 g601 hp602 => ?_)))
    have fr603 := wfR_tr fr594 g601 (by decide)
    have hn604 := nn_eq (g601.2 z563 (by rw [hz563]; decide)) hn595
    have hO605 := (g601.2 z1 (by rw [hl565]; decide)).trans hO596
    have hO606 := (g601.2 z563 (by rw [hz563]; decide)).trans hO597
    refine (?_ : R (_, _, (.int (Int32.ofInt v600)) :: [], w601, 0 + mc1 + mc563, 0 + ms1 + ms563))
    have aw607 := AWK_fr hw593 g601 aw598 (by decide)
    have sp608 := SPN_eq (g601.2 z563 (by rw [hz563]; decide)) (g601.2 (z563 + 1) (by rw [hk586_4]; decide)) sp599
    obtain ⟨hTf609, hIf609, hpf609, hKf609⟩ := top_fr2 hT hw601 fr603 (by decide) aw607
    exact hR (zret_i rfl (Nat.le_refl _) trivial ⟨⟨_, hTf609, fun l m h => hIf609 _ _ (hI563 _ _ (hIt563 _ _ (hI1 _ _ (hIt1 _ _ (h))))), (KEEP2_tr hKt1 (KEEP2_tr hK1 (KEEP2_tr hKt563 (KEEP2_tr hK563 hKf609)))), (EXT_tr hx1 hx563), by omega, by omega⟩, _, rfl⟩)
theorem k_mean {ρ : Nat → Nat} {w : zW} (hT : TOP ρ w) (d : Nat) (a1 a2 a3 : Int) (hr0 : -2147483648 ≤ a1 ∧ a1 ≤ 2147483647) (hr1 : -2147483648 ≤ a2 ∧ a2 ≤ 2147483647) (hr2 : -2147483648 ≤ a3 ∧ a3 ≤ 2147483647) : DET zTab (d + 7) iX11_mean [.ref 0, .int (Int32.ofInt a1), .int (Int32.ofInt a2), .int (Int32.ofInt a3)] w (PBl ρ w) := by
  refine z_rel (M := kX11_mean) _ rfl (Nat.le_of_ble_eq_true rfl) fun R hR0 => ?_
  have hR : ∀ {pc : Nat} {L : zL} {S : List Value} {w1 : zW} {k n : Nat}, zsc (zCl zTab (d + 6)) (d + 6) kX11_mean none zTab k n (PBl ρ w k n) pc L S w1 k n R → R (pc, L, S, w1, k, n) := fun h => hR0 _ _ (Nat.le_refl _) (Nat.le_refl _) h
  have fr0 := wfR_rf [51, 70, 71, 72, 73, 74, 75, 76] ρ w
  iterate 2 refine hR (?_ : R (_, _, _, _, _, _))
  obtain ⟨y6_2, y7_2, hO2, hk2_0, hk2_1, hk2_2, hk2_3, hk2_4, hk2_5, hk2_6, hk2_7⟩ := CI_o1 hT.1 hT.2.1
  obtain ⟨hTt1, hIt1, hpt1, hKt1⟩ := top_fr2 hT hT.1 fr0 (by decide) hT.2.2.1
  obtain ⟨mc1, ms1, re1, w, ⟨ρ, hA1, hr_1⟩, hrun1⟩ := a_readingsAt hTt1 (d + 3) a1 (by omega)
  refine hR0 (0 + mc1) (0 + ms1) (Nat.le_add_right _ _) (Nat.le_add_right _ _) (c_obj hO2 (zcall_i mc1 ms1 (Nat.le_refl _) (Nat.le_refl _) (hrun1 _ ?_)))
  obtain ⟨hT, hI1, hK1, hx1, hm1, hs1⟩ := hA1
  have fr3 := wfR_rf [51, 70, 71, 72, 73, 74, 75, 76] ρ w
  rcases hr_1 with rfl | ⟨z1, rfl, hz1⟩
  · skip
    refine (?_ : R (_, _, .null :: [], w, 0 + mc1, 0 + ms1))
    iterate 4 refine hR (?_ : R (_, _, _, _, _, _))
    obtain ⟨hTf4, hIf4, hpf4, hKf4⟩ := top_fr2 hT hT.1 fr3 (by decide) hT.2.2.1
    exact hR (zret_i rfl (Nat.le_refl _) trivial ⟨⟨_, hTf4, fun l m h => hIf4 _ _ (hI1 _ _ (hIt1 _ _ (h))), (KEEP2_tr hKt1 (KEEP2_tr hK1 hKf4)), hx1, by omega, by omega⟩, _, rfl⟩)
  · skip
    refine (?_ : R (_, _, (.ref z1) :: [], w, 0 + mc1, 0 + ms1))
    iterate 4 refine hR (?_ : R (_, _, _, _, _, _))
    refine hR (zcall_i 0 0 (Nat.le_refl _) (Nat.le_refl _) (c_isSpan _ _ a2 (by omega) _ fun v5 hp7 => ?_))
    refine (?_ : R (_, _, (.int (Int32.ofInt v5)) :: [], w, 0 + mc1, 0 + ms1))
    refine hR (k_eq (by omega) (fun hc8 => ?_) (fun hc8 => ?_))
    · skip
      refine hR (?_ : R (_, _, _, _, _, _))
      obtain ⟨hTf9, hIf9, hpf9, hKf9⟩ := top_fr2 hT hT.1 fr3 (by decide) hT.2.2.1
      exact hR (zret_i rfl (Nat.le_refl _) trivial ⟨⟨_, hTf9, fun l m h => hIf9 _ _ (hI1 _ _ (hIt1 _ _ (h))), (KEEP2_tr hKt1 (KEEP2_tr hK1 hKf9)), hx1, by omega, by omega⟩, _, rfl⟩)
    refine hR (?_ : R (_, _, _, _, _, _))
    refine hR (k_le (by omega) (fun hc10 => ?_) (fun hc10 => ?_))
    · skip
      refine hR (?_ : R (_, _, _, _, _, _))
      obtain ⟨y6_12, y7_12, hO12, hk12_0, hk12_1, hk12_2, hk12_3, hk12_4, hk12_5, hk12_6, hk12_7⟩ := CI_o1 hT.1 hT.2.1
      obtain ⟨hTt11, hIt11, hpt11, hKt11⟩ := top_fr2 hT hT.1 fr3 (by decide) hT.2.2.1
      obtain ⟨mc11, ms11, re11, w, ⟨ρ, z11, hA11, hre11, hz11⟩, hrun11⟩ := a_levelsThere hTt11 (d + 3)
      subst hre11
      refine hR0 (0 + mc1 + mc11) (0 + ms1 + ms11) (Nat.le_add_right _ _) (Nat.le_add_right _ _) (c_obj hO12 (zcall_i mc11 ms11 (Nat.le_refl _) (Nat.le_refl _) (hrun11 _ ?_)))
      obtain ⟨hT, hI11, hK11, hx11, hm11, hs11⟩ := hA11
      have hl13 : ρ z1 = 50 := (hx11 z1 (by rw [hz1]; decide)).trans hz1
      have fr14 := wfR_rf [51, 70, 71, 72, 73, 74, 75, 76] ρ w
      refine (?_ : R (_, _, (.ref z11) :: [], w, 0 + mc1 + mc11, 0 + ms1 + ms11))
      iterate 2 refine hR (?_ : R (_, _, _, _, _, _))
      obtain ⟨y0_16, x1_16, x2_16, x3_16, hO16, hk16_0, hk16_1, hk16_2, hk16_3, hk16_4, hk16_5, hk16_6, hk16_7, hk16_8, hk16_9⟩ := CI_o70 hT.1 hz11
      refine hR (c_obj hO16 (zcall_i 0 0 (Nat.le_refl _) (Nat.le_refl _) (c_wantNothing _ z11 hT.1 hz11 _ fun w15 hw15 g15 => ?_)))
      have fr17 := wfR_tr fr14 g15 (by decide)
      have hO18 := (g15.2 z11 (by rw [hz11]; decide)).trans hO16
      refine (?_ : R (_, _, [], w15, 0 + mc1 + mc11, 0 + ms1 + ms11))
      have aw19 := AWK_fr hT.1 g15 hT.2.2.1 (by decide)
      iterate 4 refine hR (?_ : R (_, _, _, _, _, _))
      obtain ⟨z0_23, z2_23, z3_23, hO23, hk23_0, hk23_1, hk23_2, hk23_3, hk23_4⟩ := CI_o50 hw15 hl13
      refine hR (c_obj hO23 (zcall_i 0 0 (Nat.le_refl _) (Nat.le_refl _) (c_all _ z1 hw15 hl13 _ fun v20 hp22 => ?_)))
      refine (?_ : R (_, _, (.int (Int32.ofInt v20)) :: (.int (Int32.ofInt a2)) :: (.ref z1) :: (.ref z11) :: [], w15, 0 + mc1 + mc11, 0 + ms1 + ms11))
      refine hR (?_ : R (_, _, _, _, _, _))
      refine hR (c_obj hO23 (zcall_i 0 0 (Nat.le_refl _) (Nat.le_refl _) (c_all _ z1 hw15 hl13 _ fun v24 hp26 => ?_)))
      refine (?_ : R (_, _, (.int (Int32.ofInt v24)) :: (.int (Int32.ofInt v20)) :: (.int (Int32.ofInt a2)) :: (.ref z1) :: (.ref z11) :: [], w15, 0 + mc1 + mc11, 0 + ms1 + ms11))
      refine hR (c_obj hO18 (zcall_i 0 0 (Nat.le_refl _) (Nat.le_refl _) (c_spread _ z11 z1 a2 v20 v24 hw15 hz11 hl13 (by omega) (by omega) (by omega) _ fun w27 hw27 g27 hn28 hp29 => ?_)))
      have fr30 := wfR_tr fr17 g27 (by decide)
      have hO31 := (g27.2 z1 (by rw [hl13]; decide)).trans hO23
      refine (?_ : R (_, _, [], w27, 0 + mc1 + mc11, 0 + ms1 + ms11))
      have aw32 := AWK_fr hw15 g27 aw19 (by decide)
      refine hR (?_ : R (_, _, _, _, _, _))
      obtain ⟨y0_34, x1_34, x2_34, x3_34, hO34, hk34_0, hk34_1, hk34_2, hk34_3, hk34_4, hk34_5, hk34_6, hk34_7, hk34_8, hk34_9⟩ := CI_o70 hw27 hz11
      refine hR (c_obj hO34 (zcall_i 0 0 (Nat.le_refl _) (Nat.le_refl _) (c_endByDrift _ z11 hw27 hz11 hn28 _ fun w33 hw33 g33 => ?_)))
      have fr35 := wfR_tr fr30 g33 (by decide)
      have hn36 := nn_eq (g33.2 z11 (by rw [hz11]; decide)) hn28
      have hO37 := (g33.2 z1 (by rw [hl13]; decide)).trans hO31
      have hO38 := (g33.2 z11 (by rw [hz11]; decide)).trans hO34
      refine (?_ : R (_, _, [], w33, 0 + mc1 + mc11, 0 + ms1 + ms11))
      have aw39 := AWK_fr hw27 g33 aw32 (by decide)
      have sp40 := SPN_eq (g33.2 z11 (by rw [hz11]; decide)) (g33.2 (z11 + 1) (by rw [hk34_4]; decide)) hp29
      refine hR (?_ : R (_, _, _, _, _, _))
      refine hR (c_obj hO38 (zcall_i 0 0 (Nat.le_refl _) (Nat.le_refl _) (c_sumOfEnds _ z11 hw33 hz11 _ fun v41 => ?_)))
      refine (?_ : R (_, _, (.long v41) :: [], w33, 0 + mc1 + mc11, 0 + ms1 + ms11))
      iterate 2 refine hR (?_ : R (_, _, _, _, _, _))
      refine hR (c_obj hO38 (zcall_i 0 0 (Nat.le_refl _) (Nat.le_refl _) (c_rows _ z11 hw33 hz11 _ fun v43 hp45 => ?_)))
      refine (?_ : R (_, _, (.int (Int32.ofInt v43)) :: [], w33, 0 + mc1 + mc11, 0 + ms1 + ms11))
      refine hR (t_xl fun w_46 => ?_)
      iterate 3 refine hR (?_ : R (_, _, _, _, _, _))
      refine hR (zcall_i 0 0 (Nat.le_refl _) (Nat.le_refl _) (c_common _ _ v41 w_46 _ fun v47 => ?_))
      refine (?_ : R (_, _, (.long v47) :: [], w33, 0 + mc1 + mc11, 0 + ms1 + ms11))
      iterate 3 refine hR (?_ : R (_, _, _, _, _, _))
      refine hR (?_ : R (_, _, .int (lg_cmp v47 0) :: [], w33, 0 + mc1 + mc11, 0 + ms1 + ms11))
      refine hR (And.intro (fun hcz => ?_) (fun hcz => ?_))
      rotate_left
      · skip
        refine hR (?_ : R (_, _, _, _, _, _))
        obtain ⟨hTf52, hIf52, hpf52, hKf52⟩ := top_fr2 hT hw33 fr35 (by decide) aw39
        exact hR (zret_i rfl (Nat.le_refl _) trivial ⟨⟨_, hTf52, fun l m h => hIf52 _ _ (hI11 _ _ (hIt11 _ _ (hI1 _ _ (hIt1 _ _ (h))))), (KEEP2_tr hKt1 (KEEP2_tr hK1 (KEEP2_tr hKt11 (KEEP2_tr hK11 hKf52)))), (EXT_tr hx1 hx11), by omega, by omega⟩, _, rfl⟩)
      have hne : v47 ≠ 0 := fun e => hcz (by rw [e]; decide)
      refine hR (?_ : R (_, _, _, _, _, _))
      refine hR (k_eq (by omega) (fun hc49 => ?_) (fun hc49 => ?_))
      · skip
        iterate 2 refine hR (?_ : R (_, _, _, _, _, _))
        refine hR (And.intro hne ?_)
        obtain ⟨hTf50, hIf50, hpf50, hKf50⟩ := top_fr2 hT hw33 fr35 (by decide) aw39
        exact hR (zret_i rfl (Nat.le_refl _) trivial ⟨⟨_, hTf50, fun l m h => hIf50 _ _ (hI11 _ _ (hIt11 _ _ (hI1 _ _ (hIt1 _ _ (h))))), (KEEP2_tr hKt1 (KEEP2_tr hK1 (KEEP2_tr hKt11 (KEEP2_tr hK11 hKf50)))), (EXT_tr hx1 hx11), by omega, by omega⟩, _, rfl⟩)
      iterate 2 refine hR (?_ : R (_, _, _, _, _, _))
      refine hR (And.intro hne ?_)
      refine hR (?_ : R (_, _, _, _, _, _))
      obtain ⟨hTf51, hIf51, hpf51, hKf51⟩ := top_fr2 hT hw33 fr35 (by decide) aw39
      exact hR (zret_i rfl (Nat.le_refl _) trivial ⟨⟨_, hTf51, fun l m h => hIf51 _ _ (hI11 _ _ (hIt11 _ _ (hI1 _ _ (hIt1 _ _ (h))))), (KEEP2_tr hKt1 (KEEP2_tr hK1 (KEEP2_tr hKt11 (KEEP2_tr hK11 hKf51)))), (EXT_tr hx1 hx11), by omega, by omega⟩, _, rfl⟩)
    refine hR (?_ : R (_, _, _, _, _, _))
    obtain ⟨z0_56, z2_56, z3_56, hO56, hk56_0, hk56_1, hk56_2, hk56_3, hk56_4⟩ := CI_o50 hT.1 hz1
    refine hR (c_obj hO56 (zcall_i 0 0 (Nat.le_refl _) (Nat.le_refl _) (c_all _ z1 hT.1 hz1 _ fun v53 hp55 => ?_)))
    refine (?_ : R (_, _, (.int (Int32.ofInt v53)) :: [], w, 0 + mc1, 0 + ms1))
    refine hR (k_ne (by omega) (fun hc57 => ?_) (fun hc57 => ?_))
    rotate_left
    · skip
      refine hR (?_ : R (_, _, _, _, _, _))
      obtain ⟨hTf100, hIf100, hpf100, hKf100⟩ := top_fr2 hT hT.1 fr3 (by decide) hT.2.2.1
      exact hR (zret_i rfl (Nat.le_refl _) trivial ⟨⟨_, hTf100, fun l m h => hIf100 _ _ (hI1 _ _ (hIt1 _ _ (h))), (KEEP2_tr hKt1 (KEEP2_tr hK1 hKf100)), hx1, by omega, by omega⟩, _, rfl⟩)
    refine hR (?_ : R (_, _, _, _, _, _))
    obtain ⟨y6_59, y7_59, hO59, hk59_0, hk59_1, hk59_2, hk59_3, hk59_4, hk59_5, hk59_6, hk59_7⟩ := CI_o1 hT.1 hT.2.1
    obtain ⟨hTt58, hIt58, hpt58, hKt58⟩ := top_fr2 hT hT.1 fr3 (by decide) hT.2.2.1
    obtain ⟨mc58, ms58, re58, w, ⟨ρ, z58, hA58, hre58, hz58⟩, hrun58⟩ := a_levelsThere hTt58 (d + 3)
    subst hre58
    refine hR0 (0 + mc1 + mc58) (0 + ms1 + ms58) (Nat.le_add_right _ _) (Nat.le_add_right _ _) (c_obj hO59 (zcall_i mc58 ms58 (Nat.le_refl _) (Nat.le_refl _) (hrun58 _ ?_)))
    obtain ⟨hT, hI58, hK58, hx58, hm58, hs58⟩ := hA58
    have hl60 : ρ z1 = 50 := (hx58 z1 (by rw [hz1]; decide)).trans hz1
    have fr61 := wfR_rf [51, 70, 71, 72, 73, 74, 75, 76] ρ w
    refine (?_ : R (_, _, (.ref z58) :: [], w, 0 + mc1 + mc58, 0 + ms1 + ms58))
    iterate 2 refine hR (?_ : R (_, _, _, _, _, _))
    obtain ⟨y0_63, x1_63, x2_63, x3_63, hO63, hk63_0, hk63_1, hk63_2, hk63_3, hk63_4, hk63_5, hk63_6, hk63_7, hk63_8, hk63_9⟩ := CI_o70 hT.1 hz58
    refine hR (c_obj hO63 (zcall_i 0 0 (Nat.le_refl _) (Nat.le_refl _) (c_wantNothing _ z58 hT.1 hz58 _ fun w62 hw62 g62 => ?_)))
    have fr64 := wfR_tr fr61 g62 (by decide)
    have hO65 := (g62.2 z58 (by rw [hz58]; decide)).trans hO63
    refine (?_ : R (_, _, [], w62, 0 + mc1 + mc58, 0 + ms1 + ms58))
    have aw66 := AWK_fr hT.1 g62 hT.2.2.1 (by decide)
    iterate 4 refine hR (?_ : R (_, _, _, _, _, _))
    obtain ⟨z0_70, z2_70, z3_70, hO70, hk70_0, hk70_1, hk70_2, hk70_3, hk70_4⟩ := CI_o50 hw62 hl60
    refine hR (c_obj hO70 (zcall_i 0 0 (Nat.le_refl _) (Nat.le_refl _) (c_all _ z1 hw62 hl60 _ fun v67 hp69 => ?_)))
    refine (?_ : R (_, _, (.int (Int32.ofInt v67)) :: (.int (Int32.ofInt a2)) :: (.ref z1) :: (.ref z58) :: [], w62, 0 + mc1 + mc58, 0 + ms1 + ms58))
    refine hR (?_ : R (_, _, _, _, _, _))
    refine hR (c_obj hO70 (zcall_i 0 0 (Nat.le_refl _) (Nat.le_refl _) (c_all _ z1 hw62 hl60 _ fun v71 hp73 => ?_)))
    refine (?_ : R (_, _, (.int (Int32.ofInt v71)) :: (.int (Int32.ofInt v67)) :: (.int (Int32.ofInt a2)) :: (.ref z1) :: (.ref z58) :: [], w62, 0 + mc1 + mc58, 0 + ms1 + ms58))
    refine hR (c_obj hO65 (zcall_i 0 0 (Nat.le_refl _) (Nat.le_refl _) (c_spread _ z58 z1 a2 v67 v71 hw62 hz58 hl60 (by omega) (by omega) (by omega) _ fun w74 hw74 g74 hn75 hp76 => ?_)))
    have fr77 := wfR_tr fr64 g74 (by decide)
    have hO78 := (g74.2 z1 (by rw [hl60]; decide)).trans hO70
    refine (?_ : R (_, _, [], w74, 0 + mc1 + mc58, 0 + ms1 + ms58))
    have aw79 := AWK_fr hw62 g74 aw66 (by decide)
    refine hR (?_ : R (_, _, _, _, _, _))
    obtain ⟨y0_81, x1_81, x2_81, x3_81, hO81, hk81_0, hk81_1, hk81_2, hk81_3, hk81_4, hk81_5, hk81_6, hk81_7, hk81_8, hk81_9⟩ := CI_o70 hw74 hz58
    refine hR (c_obj hO81 (zcall_i 0 0 (Nat.le_refl _) (Nat.le_refl _) (c_endByDrift _ z58 hw74 hz58 hn75 _ fun w80 hw80 g80 => ?_)))
    have fr82 := wfR_tr fr77 g80 (by decide)
    have hn83 := nn_eq (g80.2 z58 (by rw [hz58]; decide)) hn75
    have hO84 := (g80.2 z1 (by rw [hl60]; decide)).trans hO78
    have hO85 := (g80.2 z58 (by rw [hz58]; decide)).trans hO81
    refine (?_ : R (_, _, [], w80, 0 + mc1 + mc58, 0 + ms1 + ms58))
    have aw86 := AWK_fr hw74 g80 aw79 (by decide)
    have sp87 := SPN_eq (g80.2 z58 (by rw [hz58]; decide)) (g80.2 (z58 + 1) (by rw [hk81_4]; decide)) hp76
    refine hR (?_ : R (_, _, _, _, _, _))
    refine hR (c_obj hO85 (zcall_i 0 0 (Nat.le_refl _) (Nat.le_refl _) (c_sumOfEnds _ z58 hw80 hz58 _ fun v88 => ?_)))
    refine (?_ : R (_, _, (.long v88) :: [], w80, 0 + mc1 + mc58, 0 + ms1 + ms58))
    iterate 2 refine hR (?_ : R (_, _, _, _, _, _))
    refine hR (c_obj hO85 (zcall_i 0 0 (Nat.le_refl _) (Nat.le_refl _) (c_rows _ z58 hw80 hz58 _ fun v90 hp92 => ?_)))
    refine (?_ : R (_, _, (.int (Int32.ofInt v90)) :: [], w80, 0 + mc1 + mc58, 0 + ms1 + ms58))
    refine hR (t_xl fun w_93 => ?_)
    iterate 3 refine hR (?_ : R (_, _, _, _, _, _))
    refine hR (zcall_i 0 0 (Nat.le_refl _) (Nat.le_refl _) (c_common _ _ v88 w_93 _ fun v94 => ?_))
    refine (?_ : R (_, _, (.long v94) :: [], w80, 0 + mc1 + mc58, 0 + ms1 + ms58))
    iterate 3 refine hR (?_ : R (_, _, _, _, _, _))
    refine hR (?_ : R (_, _, .int (lg_cmp v94 0) :: [], w80, 0 + mc1 + mc58, 0 + ms1 + ms58))
    refine hR (And.intro (fun hcz => ?_) (fun hcz => ?_))
    rotate_left
    · skip
      refine hR (?_ : R (_, _, _, _, _, _))
      obtain ⟨hTf99, hIf99, hpf99, hKf99⟩ := top_fr2 hT hw80 fr82 (by decide) aw86
      exact hR (zret_i rfl (Nat.le_refl _) trivial ⟨⟨_, hTf99, fun l m h => hIf99 _ _ (hI58 _ _ (hIt58 _ _ (hI1 _ _ (hIt1 _ _ (h))))), (KEEP2_tr hKt1 (KEEP2_tr hK1 (KEEP2_tr hKt58 (KEEP2_tr hK58 hKf99)))), (EXT_tr hx1 hx58), by omega, by omega⟩, _, rfl⟩)
    have hne : v94 ≠ 0 := fun e => hcz (by rw [e]; decide)
    refine hR (?_ : R (_, _, _, _, _, _))
    refine hR (k_eq (by omega) (fun hc96 => ?_) (fun hc96 => ?_))
    · skip
      iterate 2 refine hR (?_ : R (_, _, _, _, _, _))
      refine hR (And.intro hne ?_)
      obtain ⟨hTf97, hIf97, hpf97, hKf97⟩ := top_fr2 hT hw80 fr82 (by decide) aw86
      exact hR (zret_i rfl (Nat.le_refl _) trivial ⟨⟨_, hTf97, fun l m h => hIf97 _ _ (hI58 _ _ (hIt58 _ _ (hI1 _ _ (hIt1 _ _ (h))))), (KEEP2_tr hKt1 (KEEP2_tr hK1 (KEEP2_tr hKt58 (KEEP2_tr hK58 hKf97)))), (EXT_tr hx1 hx58), by omega, by omega⟩, _, rfl⟩)
    iterate 2 refine hR (?_ : R (_, _, _, _, _, _))
    refine hR (And.intro hne ?_)
    refine hR (?_ : R (_, _, _, _, _, _))
    obtain ⟨hTf98, hIf98, hpf98, hKf98⟩ := top_fr2 hT hw80 fr82 (by decide) aw86
    exact hR (zret_i rfl (Nat.le_refl _) trivial ⟨⟨_, hTf98, fun l m h => hIf98 _ _ (hI58 _ _ (hIt58 _ _ (hI1 _ _ (hIt1 _ _ (h))))), (KEEP2_tr hKt1 (KEEP2_tr hK1 (KEEP2_tr hKt58 (KEEP2_tr hK58 hKf98)))), (EXT_tr hx1 hx58), by omega, by omega⟩, _, rfl⟩)
theorem k_play {ρ : Nat → Nat} {w : zW} (hT : TOP ρ w) (d : Nat) (a1 a2 a3 a4 a5 a6 : Int) (hr0 : -2147483648 ≤ a1 ∧ a1 ≤ 2147483647) (hr1 : -2147483648 ≤ a2 ∧ a2 ≤ 2147483647) (hr2 : -2147483648 ≤ a3 ∧ a3 ≤ 2147483647) (hr3 : -2147483648 ≤ a4 ∧ a4 ≤ 2147483647) (hr4 : -2147483648 ≤ a5 ∧ a5 ≤ 2147483647) (hr5 : -2147483648 ≤ a6 ∧ a6 ≤ 2147483647) : DET zTab (d + 7) iX11_play [.ref 0, .int (Int32.ofInt a1), .int (Int32.ofInt a2), .int (Int32.ofInt a3), .int (Int32.ofInt a4), .int (Int32.ofInt a5), .int (Int32.ofInt a6)] w (PB ρ w) := by
  refine z_rel (M := kX11_play) _ rfl (Nat.le_of_ble_eq_true rfl) fun R hR0 => ?_
  have hR : ∀ {pc : Nat} {L : zL} {S : List Value} {w1 : zW} {k n : Nat}, zsc (zCl zTab (d + 6)) (d + 6) kX11_play none zTab k n (PB ρ w k n) pc L S w1 k n R → R (pc, L, S, w1, k, n) := fun h => hR0 _ _ (Nat.le_refl _) (Nat.le_refl _) h
  have fr0 := wfR_rf [51, 70, 71, 72, 73, 74, 75, 76] ρ w
  iterate 2 refine hR (?_ : R (_, _, _, _, _, _))
  obtain ⟨y6_2, y7_2, hO2, hk2_0, hk2_1, hk2_2, hk2_3, hk2_4, hk2_5, hk2_6, hk2_7⟩ := CI_o1 hT.1 hT.2.1
  obtain ⟨hTt1, hIt1, hpt1, hKt1⟩ := top_fr2 hT hT.1 fr0 (by decide) hT.2.2.1
  obtain ⟨mc1, ms1, re1, w, ⟨ρ, hA1, hr_1⟩, hrun1⟩ := a_readingsAt hTt1 (d + 3) a1 (by omega)
  refine hR0 (0 + mc1) (0 + ms1) (Nat.le_add_right _ _) (Nat.le_add_right _ _) (c_obj hO2 (zcall_i mc1 ms1 (Nat.le_refl _) (Nat.le_refl _) (hrun1 _ ?_)))
  obtain ⟨hT, hI1, hK1, hx1, hm1, hs1⟩ := hA1
  have fr3 := wfR_rf [51, 70, 71, 72, 73, 74, 75, 76] ρ w
  rcases hr_1 with rfl | ⟨z1, rfl, hz1⟩
  · skip
    refine (?_ : R (_, _, .null :: [], w, 0 + mc1, 0 + ms1))
    iterate 4 refine hR (?_ : R (_, _, _, _, _, _))
    obtain ⟨hTf4, hIf4, hpf4, hKf4⟩ := top_fr2 hT hT.1 fr3 (by decide) hT.2.2.1
    exact hR (zret_i rfl (Nat.le_refl _) trivial ⟨⟨_, hTf4, fun l m h => hIf4 _ _ (hI1 _ _ (hIt1 _ _ (h))), (KEEP2_tr hKt1 (KEEP2_tr hK1 hKf4)), hx1, by omega, by omega⟩, _, rfl⟩)
  · skip
    refine (?_ : R (_, _, (.ref z1) :: [], w, 0 + mc1, 0 + ms1))
    iterate 4 refine hR (?_ : R (_, _, _, _, _, _))
    refine hR (zcall_i 0 0 (Nat.le_refl _) (Nat.le_refl _) (c_isSpan _ _ a2 (by omega) _ fun v5 hp7 => ?_))
    refine (?_ : R (_, _, (.int (Int32.ofInt v5)) :: [], w, 0 + mc1, 0 + ms1))
    refine hR (k_eq (by omega) (fun hc8 => ?_) (fun hc8 => ?_))
    · skip
      refine hR (?_ : R (_, _, _, _, _, _))
      obtain ⟨hTf9, hIf9, hpf9, hKf9⟩ := top_fr2 hT hT.1 fr3 (by decide) hT.2.2.1
      exact hR (zret_i rfl (Nat.le_refl _) trivial ⟨⟨_, hTf9, fun l m h => hIf9 _ _ (hI1 _ _ (hIt1 _ _ (h))), (KEEP2_tr hKt1 (KEEP2_tr hK1 hKf9)), hx1, by omega, by omega⟩, _, rfl⟩)
    refine hR (?_ : R (_, _, _, _, _, _))
    refine hR (zcall_i 0 0 (Nat.le_refl _) (Nat.le_refl _) (c_isWord _ _ a3 (by omega) _ fun v10 hp12 => ?_))
    refine (?_ : R (_, _, (.int (Int32.ofInt v10)) :: [], w, 0 + mc1, 0 + ms1))
    refine hR (k_ne (by omega) (fun hc13 => ?_) (fun hc13 => ?_))
    rotate_left
    · skip
      refine hR (?_ : R (_, _, _, _, _, _))
      obtain ⟨hTf171, hIf171, hpf171, hKf171⟩ := top_fr2 hT hT.1 fr3 (by decide) hT.2.2.1
      exact hR (zret_i rfl (Nat.le_refl _) trivial ⟨⟨_, hTf171, fun l m h => hIf171 _ _ (hI1 _ _ (hIt1 _ _ (h))), (KEEP2_tr hKt1 (KEEP2_tr hK1 hKf171)), hx1, by omega, by omega⟩, _, rfl⟩)
    refine hR (?_ : R (_, _, _, _, _, _))
    obtain ⟨z0_14, z2_14, z3_14, hO14, hk14_0, hk14_1, hk14_2, hk14_3, hk14_4⟩ := CI_o50 hT.1 hz1
    refine hR (c_get hO14 rfl ?_)
    refine hR (?_ : R (_, _, _, _, _, _))
    obtain ⟨x0_18, x1_18, x2_18, hO18, hk18_0, hk18_1, hk18_2, hk18_3, hk18_4, hk18_5, hk18_6⟩ := CI_o20 hT.1 hk14_0
    refine hR (c_obj hO18 (zcall_i 0 0 (Nat.le_refl _) (Nat.le_refl _) (c_hasReaders _ z0_14 a4 hT.1 hk14_0 (by omega) _ fun v15 hp17 => ?_)))
    refine (?_ : R (_, _, (.int (Int32.ofInt v15)) :: [], w, 0 + mc1, 0 + ms1))
    refine hR (k_eq (by omega) (fun hc19 => ?_) (fun hc19 => ?_))
    · skip
      refine hR (?_ : R (_, _, _, _, _, _))
      obtain ⟨hTf20, hIf20, hpf20, hKf20⟩ := top_fr2 hT hT.1 fr3 (by decide) hT.2.2.1
      exact hR (zret_i rfl (Nat.le_refl _) trivial ⟨⟨_, hTf20, fun l m h => hIf20 _ _ (hI1 _ _ (hIt1 _ _ (h))), (KEEP2_tr hKt1 (KEEP2_tr hK1 hKf20)), hx1, by omega, by omega⟩, _, rfl⟩)
    refine hR (?_ : R (_, _, _, _, _, _))
    refine hR (c_get hO14 rfl ?_)
    refine hR (?_ : R (_, _, _, _, _, _))
    refine hR (c_obj hO18 (zcall_i 0 0 (Nat.le_refl _) (Nat.le_refl _) (c_hasReaders _ z0_14 a5 hT.1 hk14_0 (by omega) _ fun v21 hp23 => ?_)))
    refine (?_ : R (_, _, (.int (Int32.ofInt v21)) :: [], w, 0 + mc1, 0 + ms1))
    refine hR (k_ne (by omega) (fun hc24 => ?_) (fun hc24 => ?_))
    rotate_left
    · skip
      refine hR (?_ : R (_, _, _, _, _, _))
      obtain ⟨hTf170, hIf170, hpf170, hKf170⟩ := top_fr2 hT hT.1 fr3 (by decide) hT.2.2.1
      exact hR (zret_i rfl (Nat.le_refl _) trivial ⟨⟨_, hTf170, fun l m h => hIf170 _ _ (hI1 _ _ (hIt1 _ _ (h))), (KEEP2_tr hKt1 (KEEP2_tr hK1 hKf170)), hx1, by omega, by omega⟩, _, rfl⟩)
    refine hR (?_ : R (_, _, _, _, _, _))
    refine hR (k_eq (by omega) (fun hc25 => ?_) (fun hc25 => ?_))
    · skip
      refine hR (?_ : R (_, _, _, _, _, _))
      obtain ⟨hTf26, hIf26, hpf26, hKf26⟩ := top_fr2 hT hT.1 fr3 (by decide) hT.2.2.1
      exact hR (zret_i rfl (Nat.le_refl _) trivial ⟨⟨_, hTf26, fun l m h => hIf26 _ _ (hI1 _ _ (hIt1 _ _ (h))), (KEEP2_tr hKt1 (KEEP2_tr hK1 hKf26)), hx1, by omega, by omega⟩, _, rfl⟩)
    refine hR (?_ : R (_, _, _, _, _, _))
    refine hR (k_ne (by omega) (fun hc27 => ?_) (fun hc27 => ?_))
    · skip
      refine hR (?_ : R (_, _, _, _, _, _))
      refine hR (k_eq (by omega) (fun hc28 => ?_) (fun hc28 => ?_))
      · skip
        refine hR (?_ : R (_, _, _, _, _, _))
        obtain ⟨y6_30, y7_30, hO30, hk30_0, hk30_1, hk30_2, hk30_3, hk30_4, hk30_5, hk30_6, hk30_7⟩ := CI_o1 hT.1 hT.2.1
        obtain ⟨hTt29, hIt29, hpt29, hKt29⟩ := top_fr2 hT hT.1 fr3 (by decide) hT.2.2.1
        obtain ⟨mc29, ms29, re29, w, ⟨ρ, z29, hA29, hre29, hz29⟩, hrun29⟩ := a_levelsThere hTt29 (d + 3)
        subst hre29
        refine hR0 (0 + mc1 + mc29) (0 + ms1 + ms29) (Nat.le_add_right _ _) (Nat.le_add_right _ _) (c_obj hO30 (zcall_i mc29 ms29 (Nat.le_refl _) (Nat.le_refl _) (hrun29 _ ?_)))
        obtain ⟨hT, hI29, hK29, hx29, hm29, hs29⟩ := hA29
        have hl31 : ρ z1 = 50 := (hx29 z1 (by rw [hz1]; decide)).trans hz1
        have fr32 := wfR_rf [51, 70, 71, 72, 73, 74, 75, 76] ρ w
        refine (?_ : R (_, _, (.ref z29) :: [], w, 0 + mc1 + mc29, 0 + ms1 + ms29))
        iterate 2 refine hR (?_ : R (_, _, _, _, _, _))
        obtain ⟨y0_34, x1_34, x2_34, x3_34, hO34, hk34_0, hk34_1, hk34_2, hk34_3, hk34_4, hk34_5, hk34_6, hk34_7, hk34_8, hk34_9⟩ := CI_o70 hT.1 hz29
        refine hR (c_obj hO34 (zcall_i 0 0 (Nat.le_refl _) (Nat.le_refl _) (c_wantNothing _ z29 hT.1 hz29 _ fun w33 hw33 g33 => ?_)))
        have fr35 := wfR_tr fr32 g33 (by decide)
        have hO36 := (g33.2 z29 (by rw [hz29]; decide)).trans hO34
        refine (?_ : R (_, _, [], w33, 0 + mc1 + mc29, 0 + ms1 + ms29))
        have aw37 := AWK_fr hT.1 g33 hT.2.2.1 (by decide)
        iterate 5 refine hR (?_ : R (_, _, _, _, _, _))
        refine hR (c_obj hO36 (zcall_i 0 0 (Nat.le_refl _) (Nat.le_refl _) (c_spread _ z29 z1 a2 a4 a5 hw33 hz29 hl31 (by omega) (by omega) (by omega) _ fun w38 hw38 g38 hn39 hp40 => ?_)))
        have fr41 := wfR_tr fr35 g38 (by decide)
        refine (?_ : R (_, _, [], w38, 0 + mc1 + mc29, 0 + ms1 + ms29))
        have aw42 := AWK_fr hw33 g38 aw37 (by decide)
        iterate 2 refine hR (?_ : R (_, _, _, _, _, _))
        obtain ⟨y0_44, x1_44, x2_44, x3_44, hO44, hk44_0, hk44_1, hk44_2, hk44_3, hk44_4, hk44_5, hk44_6, hk44_7, hk44_8, hk44_9⟩ := CI_o70 hw38 hz29
        refine hR (c_obj hO44 (zcall_i 0 0 (Nat.le_refl _) (Nat.le_refl _) (c_endByWord _ z29 a3 hw38 hz29 hn39 (by omega) _ fun w43 hw43 g43 => ?_)))
        have fr45 := wfR_tr fr41 g43 (by decide)
        have hn46 := nn_eq (g43.2 z29 (by rw [hz29]; decide)) hn39
        have hO47 := (g43.2 z29 (by rw [hz29]; decide)).trans hO44
        refine (?_ : R (_, _, [], w43, 0 + mc1 + mc29, 0 + ms1 + ms29))
        have aw48 := AWK_fr hw38 g43 aw42 (by decide)
        have sp49 := SPN_eq (g43.2 z29 (by rw [hz29]; decide)) (g43.2 (z29 + 1) (by rw [hk44_4]; decide)) hp40
        iterate 3 refine hR (?_ : R (_, _, _, _, _, _))
        refine hR (c_obj hO47 (zcall_i 0 0 (Nat.le_refl _) (Nat.le_refl _) (c_foldBack _ z29 1 0 hw43 hz29 hn46 (by omega) (by omega) _ fun w50 hw50 g50 => ?_)))
        have fr51 := wfR_tr fr45 g50 (by decide)
        have hn52 := nn_eq (g50.2 z29 (by rw [hz29]; decide)) hn46
        have hO53 := (g50.2 z29 (by rw [hz29]; decide)).trans hO47
        refine (?_ : R (_, _, [], w50, 0 + mc1 + mc29, 0 + ms1 + ms29))
        have aw54 := AWK_fr hw43 g50 aw48 (by decide)
        have sp55 := SPN_eq (g50.2 z29 (by rw [hz29]; decide)) (g50.2 (z29 + 1) (by rw [hk44_4]; decide)) sp49
        refine hR (?_ : R (_, _, _, _, _, _))
        refine hR (k_eq (by omega) (fun _ => ?_) (fun hc => by omega))
        refine hR (?_ : R (_, _, _, _, _, _))
        refine hR (c_obj hO53 (zcall_i 0 0 (Nat.le_refl _) (Nat.le_refl _) (c_bestStart _ z29 hw50 hz29 _ fun v56 hp58 => ?_)))
        refine (?_ : R (_, _, (.int (Int32.ofInt v56)) :: [], w50, 0 + mc1 + mc29, 0 + ms1 + ms29))
        obtain ⟨hTf59, hIf59, hpf59, hKf59⟩ := top_fr2 hT hw50 fr51 (by decide) aw54
        exact hR (zret_i rfl (Nat.le_refl _) trivial ⟨⟨_, hTf59, fun l m h => hIf59 _ _ (hI29 _ _ (hIt29 _ _ (hI1 _ _ (hIt1 _ _ (h))))), (KEEP2_tr hKt1 (KEEP2_tr hK1 (KEEP2_tr hKt29 (KEEP2_tr hK29 hKf59)))), (EXT_tr hx1 hx29), by omega, by omega⟩, _, rfl⟩)
      refine hR (?_ : R (_, _, _, _, _, _))
      refine hR (k_ne (by omega) (fun hc60 => ?_) (fun hc60 => ?_))
      rotate_left
      · skip
        refine hR (?_ : R (_, _, _, _, _, _))
        obtain ⟨hTf97, hIf97, hpf97, hKf97⟩ := top_fr2 hT hT.1 fr3 (by decide) hT.2.2.1
        exact hR (zret_i rfl (Nat.le_refl _) trivial ⟨⟨_, hTf97, fun l m h => hIf97 _ _ (hI1 _ _ (hIt1 _ _ (h))), (KEEP2_tr hKt1 (KEEP2_tr hK1 hKf97)), hx1, by omega, by omega⟩, _, rfl⟩)
      refine hR (?_ : R (_, _, _, _, _, _))
      obtain ⟨y6_62, y7_62, hO62, hk62_0, hk62_1, hk62_2, hk62_3, hk62_4, hk62_5, hk62_6, hk62_7⟩ := CI_o1 hT.1 hT.2.1
      obtain ⟨hTt61, hIt61, hpt61, hKt61⟩ := top_fr2 hT hT.1 fr3 (by decide) hT.2.2.1
      obtain ⟨mc61, ms61, re61, w, ⟨ρ, z61, hA61, hre61, hz61⟩, hrun61⟩ := a_levelsThere hTt61 (d + 3)
      subst hre61
      refine hR0 (0 + mc1 + mc61) (0 + ms1 + ms61) (Nat.le_add_right _ _) (Nat.le_add_right _ _) (c_obj hO62 (zcall_i mc61 ms61 (Nat.le_refl _) (Nat.le_refl _) (hrun61 _ ?_)))
      obtain ⟨hT, hI61, hK61, hx61, hm61, hs61⟩ := hA61
      have hl63 : ρ z1 = 50 := (hx61 z1 (by rw [hz1]; decide)).trans hz1
      have fr64 := wfR_rf [51, 70, 71, 72, 73, 74, 75, 76] ρ w
      refine (?_ : R (_, _, (.ref z61) :: [], w, 0 + mc1 + mc61, 0 + ms1 + ms61))
      iterate 2 refine hR (?_ : R (_, _, _, _, _, _))
      obtain ⟨y0_66, x1_66, x2_66, x3_66, hO66, hk66_0, hk66_1, hk66_2, hk66_3, hk66_4, hk66_5, hk66_6, hk66_7, hk66_8, hk66_9⟩ := CI_o70 hT.1 hz61
      refine hR (c_obj hO66 (zcall_i 0 0 (Nat.le_refl _) (Nat.le_refl _) (c_wantNothing _ z61 hT.1 hz61 _ fun w65 hw65 g65 => ?_)))
      have fr67 := wfR_tr fr64 g65 (by decide)
      have hO68 := (g65.2 z61 (by rw [hz61]; decide)).trans hO66
      refine (?_ : R (_, _, [], w65, 0 + mc1 + mc61, 0 + ms1 + ms61))
      have aw69 := AWK_fr hT.1 g65 hT.2.2.1 (by decide)
      iterate 5 refine hR (?_ : R (_, _, _, _, _, _))
      refine hR (c_obj hO68 (zcall_i 0 0 (Nat.le_refl _) (Nat.le_refl _) (c_spread _ z61 z1 a2 a4 a5 hw65 hz61 hl63 (by omega) (by omega) (by omega) _ fun w70 hw70 g70 hn71 hp72 => ?_)))
      have fr73 := wfR_tr fr67 g70 (by decide)
      refine (?_ : R (_, _, [], w70, 0 + mc1 + mc61, 0 + ms1 + ms61))
      have aw74 := AWK_fr hw65 g70 aw69 (by decide)
      iterate 2 refine hR (?_ : R (_, _, _, _, _, _))
      obtain ⟨y0_76, x1_76, x2_76, x3_76, hO76, hk76_0, hk76_1, hk76_2, hk76_3, hk76_4, hk76_5, hk76_6, hk76_7, hk76_8, hk76_9⟩ := CI_o70 hw70 hz61
      refine hR (c_obj hO76 (zcall_i 0 0 (Nat.le_refl _) (Nat.le_refl _) (c_endByWord _ z61 a3 hw70 hz61 hn71 (by omega) _ fun w75 hw75 g75 => ?_)))
      have fr77 := wfR_tr fr73 g75 (by decide)
      have hn78 := nn_eq (g75.2 z61 (by rw [hz61]; decide)) hn71
      have hO79 := (g75.2 z61 (by rw [hz61]; decide)).trans hO76
      refine (?_ : R (_, _, [], w75, 0 + mc1 + mc61, 0 + ms1 + ms61))
      have aw80 := AWK_fr hw70 g75 aw74 (by decide)
      have sp81 := SPN_eq (g75.2 z61 (by rw [hz61]; decide)) (g75.2 (z61 + 1) (by rw [hk76_4]; decide)) hp72
      iterate 3 refine hR (?_ : R (_, _, _, _, _, _))
      refine hR (c_obj hO79 (zcall_i 0 0 (Nat.le_refl _) (Nat.le_refl _) (c_foldBack _ z61 1 0 hw75 hz61 hn78 (by omega) (by omega) _ fun w82 hw82 g82 => ?_)))
      have fr83 := wfR_tr fr77 g82 (by decide)
      have hn84 := nn_eq (g82.2 z61 (by rw [hz61]; decide)) hn78
      have hO85 := (g82.2 z61 (by rw [hz61]; decide)).trans hO79
      refine (?_ : R (_, _, [], w82, 0 + mc1 + mc61, 0 + ms1 + ms61))
      have aw86 := AWK_fr hw75 g82 aw80 (by decide)
      have sp87 := SPN_eq (g82.2 z61 (by rw [hz61]; decide)) (g82.2 (z61 + 1) (by rw [hk76_4]; decide)) sp81
      refine hR (?_ : R (_, _, _, _, _, _))
      refine hR (k_eq (by omega) (fun hc => by omega) (fun _ => ?_))
      iterate 2 refine hR (?_ : R (_, _, _, _, _, _))
      refine hR (c_obj hO85 (zcall_i 0 0 (Nat.le_refl _) (Nat.le_refl _) (c_chosenAt _ z61 0 hw82 hz61 hn84 (by omega) _ fun v88 w89 hw89 g89 hp90 => ?_)))
      have fr91 := wfR_tr fr83 g89 (by decide)
      have hn92 := nn_eq (g89.2 z61 (by rw [hz61]; decide)) hn84
      have hO93 := (g89.2 z61 (by rw [hz61]; decide)).trans hO85
      refine (?_ : R (_, _, (.int (Int32.ofInt v88)) :: [], w89, 0 + mc1 + mc61, 0 + ms1 + ms61))
      have aw94 := AWK_fr hw82 g89 aw86 (by decide)
      have sp95 := SPN_eq (g89.2 z61 (by rw [hz61]; decide)) (g89.2 (z61 + 1) (by rw [hk76_4]; decide)) sp87
      refine hR (?_ : R (_, _, _, _, _, _))
      obtain ⟨hTf96, hIf96, hpf96, hKf96⟩ := top_fr2 hT hw89 fr91 (by decide) aw94
      exact hR (zret_i rfl (Nat.le_refl _) trivial ⟨⟨_, hTf96, fun l m h => hIf96 _ _ (hI61 _ _ (hIt61 _ _ (hI1 _ _ (hIt1 _ _ (h))))), (KEEP2_tr hKt1 (KEEP2_tr hK1 (KEEP2_tr hKt61 (KEEP2_tr hK61 hKf96)))), (EXT_tr hx1 hx61), by omega, by omega⟩, _, rfl⟩)
    iterate 2 refine hR (?_ : R (_, _, _, _, _, _))
    refine hR (j_ne (by omega) (by omega) (fun hc98 => ?_) (fun hc98 => ?_))
    · skip
      refine hR (?_ : R (_, _, _, _, _, _))
      obtain ⟨hTf99, hIf99, hpf99, hKf99⟩ := top_fr2 hT hT.1 fr3 (by decide) hT.2.2.1
      exact hR (zret_i rfl (Nat.le_refl _) trivial ⟨⟨_, hTf99, fun l m h => hIf99 _ _ (hI1 _ _ (hIt1 _ _ (h))), (KEEP2_tr hKt1 (KEEP2_tr hK1 hKf99)), hx1, by omega, by omega⟩, _, rfl⟩)
    refine hR (?_ : R (_, _, _, _, _, _))
    refine hR (k_eq (by omega) (fun hc100 => ?_) (fun hc100 => ?_))
    · skip
      refine hR (?_ : R (_, _, _, _, _, _))
      obtain ⟨y6_102, y7_102, hO102, hk102_0, hk102_1, hk102_2, hk102_3, hk102_4, hk102_5, hk102_6, hk102_7⟩ := CI_o1 hT.1 hT.2.1
      obtain ⟨hTt101, hIt101, hpt101, hKt101⟩ := top_fr2 hT hT.1 fr3 (by decide) hT.2.2.1
      obtain ⟨mc101, ms101, re101, w, ⟨ρ, z101, hA101, hre101, hz101⟩, hrun101⟩ := a_levelsThere hTt101 (d + 3)
      subst hre101
      refine hR0 (0 + mc1 + mc101) (0 + ms1 + ms101) (Nat.le_add_right _ _) (Nat.le_add_right _ _) (c_obj hO102 (zcall_i mc101 ms101 (Nat.le_refl _) (Nat.le_refl _) (hrun101 _ ?_)))
      obtain ⟨hT, hI101, hK101, hx101, hm101, hs101⟩ := hA101
      have hl103 : ρ z1 = 50 := (hx101 z1 (by rw [hz1]; decide)).trans hz1
      have fr104 := wfR_rf [51, 70, 71, 72, 73, 74, 75, 76] ρ w
      refine (?_ : R (_, _, (.ref z101) :: [], w, 0 + mc1 + mc101, 0 + ms1 + ms101))
      iterate 2 refine hR (?_ : R (_, _, _, _, _, _))
      obtain ⟨y0_106, x1_106, x2_106, x3_106, hO106, hk106_0, hk106_1, hk106_2, hk106_3, hk106_4, hk106_5, hk106_6, hk106_7, hk106_8, hk106_9⟩ := CI_o70 hT.1 hz101
      refine hR (c_obj hO106 (zcall_i 0 0 (Nat.le_refl _) (Nat.le_refl _) (c_wantNothing _ z101 hT.1 hz101 _ fun w105 hw105 g105 => ?_)))
      have fr107 := wfR_tr fr104 g105 (by decide)
      have hO108 := (g105.2 z101 (by rw [hz101]; decide)).trans hO106
      refine (?_ : R (_, _, [], w105, 0 + mc1 + mc101, 0 + ms1 + ms101))
      have aw109 := AWK_fr hT.1 g105 hT.2.2.1 (by decide)
      iterate 5 refine hR (?_ : R (_, _, _, _, _, _))
      refine hR (c_obj hO108 (zcall_i 0 0 (Nat.le_refl _) (Nat.le_refl _) (c_spread _ z101 z1 a2 a4 a5 hw105 hz101 hl103 (by omega) (by omega) (by omega) _ fun w110 hw110 g110 hn111 hp112 => ?_)))
      have fr113 := wfR_tr fr107 g110 (by decide)
      refine (?_ : R (_, _, [], w110, 0 + mc1 + mc101, 0 + ms1 + ms101))
      have aw114 := AWK_fr hw105 g110 aw109 (by decide)
      iterate 2 refine hR (?_ : R (_, _, _, _, _, _))
      obtain ⟨y0_116, x1_116, x2_116, x3_116, hO116, hk116_0, hk116_1, hk116_2, hk116_3, hk116_4, hk116_5, hk116_6, hk116_7, hk116_8, hk116_9⟩ := CI_o70 hw110 hz101
      refine hR (c_obj hO116 (zcall_i 0 0 (Nat.le_refl _) (Nat.le_refl _) (c_endByWord _ z101 a3 hw110 hz101 hn111 (by omega) _ fun w115 hw115 g115 => ?_)))
      have fr117 := wfR_tr fr113 g115 (by decide)
      have hn118 := nn_eq (g115.2 z101 (by rw [hz101]; decide)) hn111
      have hO119 := (g115.2 z101 (by rw [hz101]; decide)).trans hO116
      refine (?_ : R (_, _, [], w115, 0 + mc1 + mc101, 0 + ms1 + ms101))
      have aw120 := AWK_fr hw110 g115 aw114 (by decide)
      have sp121 := SPN_eq (g115.2 z101 (by rw [hz101]; decide)) (g115.2 (z101 + 1) (by rw [hk116_4]; decide)) hp112
      iterate 3 refine hR (?_ : R (_, _, _, _, _, _))
      refine hR (c_obj hO119 (zcall_i 0 0 (Nat.le_refl _) (Nat.le_refl _) (c_foldBack _ z101 1 0 hw115 hz101 hn118 (by omega) (by omega) _ fun w122 hw122 g122 => ?_)))
      have fr123 := wfR_tr fr117 g122 (by decide)
      have hn124 := nn_eq (g122.2 z101 (by rw [hz101]; decide)) hn118
      have hO125 := (g122.2 z101 (by rw [hz101]; decide)).trans hO119
      refine (?_ : R (_, _, [], w122, 0 + mc1 + mc101, 0 + ms1 + ms101))
      have aw126 := AWK_fr hw115 g122 aw120 (by decide)
      have sp127 := SPN_eq (g122.2 z101 (by rw [hz101]; decide)) (g122.2 (z101 + 1) (by rw [hk116_4]; decide)) sp121
      refine hR (?_ : R (_, _, _, _, _, _))
      refine hR (k_eq (by omega) (fun _ => ?_) (fun hc => by omega))
      refine hR (?_ : R (_, _, _, _, _, _))
      refine hR (c_obj hO125 (zcall_i 0 0 (Nat.le_refl _) (Nat.le_refl _) (c_bestStart _ z101 hw122 hz101 _ fun v128 hp130 => ?_)))
      refine (?_ : R (_, _, (.int (Int32.ofInt v128)) :: [], w122, 0 + mc1 + mc101, 0 + ms1 + ms101))
      obtain ⟨hTf131, hIf131, hpf131, hKf131⟩ := top_fr2 hT hw122 fr123 (by decide) aw126
      exact hR (zret_i rfl (Nat.le_refl _) trivial ⟨⟨_, hTf131, fun l m h => hIf131 _ _ (hI101 _ _ (hIt101 _ _ (hI1 _ _ (hIt1 _ _ (h))))), (KEEP2_tr hKt1 (KEEP2_tr hK1 (KEEP2_tr hKt101 (KEEP2_tr hK101 hKf131)))), (EXT_tr hx1 hx101), by omega, by omega⟩, _, rfl⟩)
    refine hR (?_ : R (_, _, _, _, _, _))
    refine hR (k_ne (by omega) (fun hc132 => ?_) (fun hc132 => ?_))
    rotate_left
    · skip
      refine hR (?_ : R (_, _, _, _, _, _))
      obtain ⟨hTf169, hIf169, hpf169, hKf169⟩ := top_fr2 hT hT.1 fr3 (by decide) hT.2.2.1
      exact hR (zret_i rfl (Nat.le_refl _) trivial ⟨⟨_, hTf169, fun l m h => hIf169 _ _ (hI1 _ _ (hIt1 _ _ (h))), (KEEP2_tr hKt1 (KEEP2_tr hK1 hKf169)), hx1, by omega, by omega⟩, _, rfl⟩)
    refine hR (?_ : R (_, _, _, _, _, _))
    obtain ⟨y6_134, y7_134, hO134, hk134_0, hk134_1, hk134_2, hk134_3, hk134_4, hk134_5, hk134_6, hk134_7⟩ := CI_o1 hT.1 hT.2.1
    obtain ⟨hTt133, hIt133, hpt133, hKt133⟩ := top_fr2 hT hT.1 fr3 (by decide) hT.2.2.1
    obtain ⟨mc133, ms133, re133, w, ⟨ρ, z133, hA133, hre133, hz133⟩, hrun133⟩ := a_levelsThere hTt133 (d + 3)
    subst hre133
    refine hR0 (0 + mc1 + mc133) (0 + ms1 + ms133) (Nat.le_add_right _ _) (Nat.le_add_right _ _) (c_obj hO134 (zcall_i mc133 ms133 (Nat.le_refl _) (Nat.le_refl _) (hrun133 _ ?_)))
    obtain ⟨hT, hI133, hK133, hx133, hm133, hs133⟩ := hA133
    have hl135 : ρ z1 = 50 := (hx133 z1 (by rw [hz1]; decide)).trans hz1
    have fr136 := wfR_rf [51, 70, 71, 72, 73, 74, 75, 76] ρ w
    refine (?_ : R (_, _, (.ref z133) :: [], w, 0 + mc1 + mc133, 0 + ms1 + ms133))
    iterate 2 refine hR (?_ : R (_, _, _, _, _, _))
    obtain ⟨y0_138, x1_138, x2_138, x3_138, hO138, hk138_0, hk138_1, hk138_2, hk138_3, hk138_4, hk138_5, hk138_6, hk138_7, hk138_8, hk138_9⟩ := CI_o70 hT.1 hz133
    refine hR (c_obj hO138 (zcall_i 0 0 (Nat.le_refl _) (Nat.le_refl _) (c_wantNothing _ z133 hT.1 hz133 _ fun w137 hw137 g137 => ?_)))
    have fr139 := wfR_tr fr136 g137 (by decide)
    have hO140 := (g137.2 z133 (by rw [hz133]; decide)).trans hO138
    refine (?_ : R (_, _, [], w137, 0 + mc1 + mc133, 0 + ms1 + ms133))
    have aw141 := AWK_fr hT.1 g137 hT.2.2.1 (by decide)
    iterate 5 refine hR (?_ : R (_, _, _, _, _, _))
    refine hR (c_obj hO140 (zcall_i 0 0 (Nat.le_refl _) (Nat.le_refl _) (c_spread _ z133 z1 a2 a4 a5 hw137 hz133 hl135 (by omega) (by omega) (by omega) _ fun w142 hw142 g142 hn143 hp144 => ?_)))
    have fr145 := wfR_tr fr139 g142 (by decide)
    refine (?_ : R (_, _, [], w142, 0 + mc1 + mc133, 0 + ms1 + ms133))
    have aw146 := AWK_fr hw137 g142 aw141 (by decide)
    iterate 2 refine hR (?_ : R (_, _, _, _, _, _))
    obtain ⟨y0_148, x1_148, x2_148, x3_148, hO148, hk148_0, hk148_1, hk148_2, hk148_3, hk148_4, hk148_5, hk148_6, hk148_7, hk148_8, hk148_9⟩ := CI_o70 hw142 hz133
    refine hR (c_obj hO148 (zcall_i 0 0 (Nat.le_refl _) (Nat.le_refl _) (c_endByWord _ z133 a3 hw142 hz133 hn143 (by omega) _ fun w147 hw147 g147 => ?_)))
    have fr149 := wfR_tr fr145 g147 (by decide)
    have hn150 := nn_eq (g147.2 z133 (by rw [hz133]; decide)) hn143
    have hO151 := (g147.2 z133 (by rw [hz133]; decide)).trans hO148
    refine (?_ : R (_, _, [], w147, 0 + mc1 + mc133, 0 + ms1 + ms133))
    have aw152 := AWK_fr hw142 g147 aw146 (by decide)
    have sp153 := SPN_eq (g147.2 z133 (by rw [hz133]; decide)) (g147.2 (z133 + 1) (by rw [hk148_4]; decide)) hp144
    iterate 3 refine hR (?_ : R (_, _, _, _, _, _))
    refine hR (c_obj hO151 (zcall_i 0 0 (Nat.le_refl _) (Nat.le_refl _) (c_foldBack _ z133 1 0 hw147 hz133 hn150 (by omega) (by omega) _ fun w154 hw154 g154 => ?_)))
    have fr155 := wfR_tr fr149 g154 (by decide)
    have hn156 := nn_eq (g154.2 z133 (by rw [hz133]; decide)) hn150
    have hO157 := (g154.2 z133 (by rw [hz133]; decide)).trans hO151
    refine (?_ : R (_, _, [], w154, 0 + mc1 + mc133, 0 + ms1 + ms133))
    have aw158 := AWK_fr hw147 g154 aw152 (by decide)
    have sp159 := SPN_eq (g154.2 z133 (by rw [hz133]; decide)) (g154.2 (z133 + 1) (by rw [hk148_4]; decide)) sp153
    refine hR (?_ : R (_, _, _, _, _, _))
    refine hR (k_eq (by omega) (fun hc => by omega) (fun _ => ?_))
    iterate 2 refine hR (?_ : R (_, _, _, _, _, _))
    refine hR (c_obj hO157 (zcall_i 0 0 (Nat.le_refl _) (Nat.le_refl _) (c_chosenAt _ z133 0 hw154 hz133 hn156 (by omega) _ fun v160 w161 hw161 g161 hp162 => ?_)))
    have fr163 := wfR_tr fr155 g161 (by decide)
    have hn164 := nn_eq (g161.2 z133 (by rw [hz133]; decide)) hn156
    have hO165 := (g161.2 z133 (by rw [hz133]; decide)).trans hO157
    refine (?_ : R (_, _, (.int (Int32.ofInt v160)) :: [], w161, 0 + mc1 + mc133, 0 + ms1 + ms133))
    have aw166 := AWK_fr hw154 g161 aw158 (by decide)
    have sp167 := SPN_eq (g161.2 z133 (by rw [hz133]; decide)) (g161.2 (z133 + 1) (by rw [hk148_4]; decide)) sp159
    refine hR (?_ : R (_, _, _, _, _, _))
    obtain ⟨hTf168, hIf168, hpf168, hKf168⟩ := top_fr2 hT hw161 fr163 (by decide) aw166
    exact hR (zret_i rfl (Nat.le_refl _) trivial ⟨⟨_, hTf168, fun l m h => hIf168 _ _ (hI133 _ _ (hIt133 _ _ (hI1 _ _ (hIt1 _ _ (h))))), (KEEP2_tr hKt1 (KEEP2_tr hK1 (KEEP2_tr hKt133 (KEEP2_tr hK133 hKf168)))), (EXT_tr hx1 hx133), by omega, by omega⟩, _, rfl⟩)
theorem k_fits {ρ : Nat → Nat} {w : zW} (hT : TOP ρ w) (d : Nat) (a1 a2 a3 a4 : Int) (hr0 : -2147483648 ≤ a1 ∧ a1 ≤ 2147483647) (hr1 : -2147483648 ≤ a2 ∧ a2 ≤ 2147483647) (hr2 : -2147483648 ≤ a3 ∧ a3 ≤ 2147483647) (hr3 : -2147483648 ≤ a4 ∧ a4 ≤ 2147483647) : DET zTab (d + 7) iX11_fits [.ref 0, .int (Int32.ofInt a1), .int (Int32.ofInt a2), .int (Int32.ofInt a3), .int (Int32.ofInt a4)] w (PB ρ w) := by
  refine z_rel (M := kX11_fits) _ rfl (Nat.le_of_ble_eq_true rfl) fun R hR0 => ?_
  have hR : ∀ {pc : Nat} {L : zL} {S : List Value} {w1 : zW} {k n : Nat}, zsc (zCl zTab (d + 6)) (d + 6) kX11_fits none zTab k n (PB ρ w k n) pc L S w1 k n R → R (pc, L, S, w1, k, n) := fun h => hR0 _ _ (Nat.le_refl _) (Nat.le_refl _) h
  have fr0 := wfR_rf [51, 70, 71, 72, 73, 74, 75, 76] ρ w
  iterate 2 refine hR (?_ : R (_, _, _, _, _, _))
  obtain ⟨y6_2, y7_2, hO2, hk2_0, hk2_1, hk2_2, hk2_3, hk2_4, hk2_5, hk2_6, hk2_7⟩ := CI_o1 hT.1 hT.2.1
  obtain ⟨hTt1, hIt1, hpt1, hKt1⟩ := top_fr2 hT hT.1 fr0 (by decide) hT.2.2.1
  obtain ⟨mc1, ms1, re1, w, ⟨ρ, hA1, hr_1⟩, hrun1⟩ := a_readingsAt hTt1 (d + 3) a1 (by omega)
  refine hR0 (0 + mc1) (0 + ms1) (Nat.le_add_right _ _) (Nat.le_add_right _ _) (c_obj hO2 (zcall_i mc1 ms1 (Nat.le_refl _) (Nat.le_refl _) (hrun1 _ ?_)))
  obtain ⟨hT, hI1, hK1, hx1, hm1, hs1⟩ := hA1
  have fr3 := wfR_rf [51, 70, 71, 72, 73, 74, 75, 76] ρ w
  rcases hr_1 with rfl | ⟨z1, rfl, hz1⟩
  · skip
    refine (?_ : R (_, _, .null :: [], w, 0 + mc1, 0 + ms1))
    iterate 3 refine hR (?_ : R (_, _, _, _, _, _))
    obtain ⟨y6_7, y7_7, hO7, hk7_0, hk7_1, hk7_2, hk7_3, hk7_4, hk7_5, hk7_6, hk7_7⟩ := CI_o1 hT.1 hT.2.1
    refine hR (c_obj hO7 (zcall_i 0 0 (Nat.le_refl _) (Nat.le_refl _) (c_sightAt _ a2 hT.1 hT.2.1 (by omega) _ fun v4 hv4 hp6 => ?_)))
    cases v4 with
    | none =>
      refine (?_ : R (_, _, .null :: [], w, 0 + mc1, 0 + ms1))
      iterate 4 refine hR (?_ : R (_, _, _, _, _, _))
      obtain ⟨hTf9, hIf9, hpf9, hKf9⟩ := top_fr2 hT hT.1 fr3 (by decide) hT.2.2.1
      exact hR (zret_i rfl (Nat.le_refl _) trivial ⟨⟨_, hTf9, fun l m h => hIf9 _ _ (hI1 _ _ (hIt1 _ _ (h))), (KEEP2_tr hKt1 (KEEP2_tr hK1 hKf9)), hx1, by omega, by omega⟩, _, rfl⟩)
    | some z8 =>
      have hz8 : ρ z8 = 40 := hv4 z8 rfl
      refine (?_ : R (_, _, (.ref z8) :: [], w, 0 + mc1, 0 + ms1))
      iterate 4 refine hR (?_ : R (_, _, _, _, _, _))
      obtain ⟨hTf10, hIf10, hpf10, hKf10⟩ := top_fr2 hT hT.1 fr3 (by decide) hT.2.2.1
      exact hR (zret_i rfl (Nat.le_refl _) trivial ⟨⟨_, hTf10, fun l m h => hIf10 _ _ (hI1 _ _ (hIt1 _ _ (h))), (KEEP2_tr hKt1 (KEEP2_tr hK1 hKf10)), hx1, by omega, by omega⟩, _, rfl⟩)
  · skip
    refine (?_ : R (_, _, (.ref z1) :: [], w, 0 + mc1, 0 + ms1))
    iterate 3 refine hR (?_ : R (_, _, _, _, _, _))
    obtain ⟨y6_14, y7_14, hO14, hk14_0, hk14_1, hk14_2, hk14_3, hk14_4, hk14_5, hk14_6, hk14_7⟩ := CI_o1 hT.1 hT.2.1
    refine hR (c_obj hO14 (zcall_i 0 0 (Nat.le_refl _) (Nat.le_refl _) (c_sightAt _ a2 hT.1 hT.2.1 (by omega) _ fun v11 hv11 hp13 => ?_)))
    cases v11 with
    | none =>
      refine (?_ : R (_, _, .null :: [], w, 0 + mc1, 0 + ms1))
      iterate 6 refine hR (?_ : R (_, _, _, _, _, _))
      obtain ⟨hTf16, hIf16, hpf16, hKf16⟩ := top_fr2 hT hT.1 fr3 (by decide) hT.2.2.1
      exact hR (zret_i rfl (Nat.le_refl _) trivial ⟨⟨_, hTf16, fun l m h => hIf16 _ _ (hI1 _ _ (hIt1 _ _ (h))), (KEEP2_tr hKt1 (KEEP2_tr hK1 hKf16)), hx1, by omega, by omega⟩, _, rfl⟩)
    | some z15 =>
      have hz15 : ρ z15 = 40 := hv11 z15 rfl
      refine (?_ : R (_, _, (.ref z15) :: [], w, 0 + mc1, 0 + ms1))
      iterate 6 refine hR (?_ : R (_, _, _, _, _, _))
      refine hR (zcall_i 0 0 (Nat.le_refl _) (Nat.le_refl _) (c_isSpan _ _ a3 (by omega) _ fun v17 hp19 => ?_))
      refine (?_ : R (_, _, (.int (Int32.ofInt v17)) :: [], w, 0 + mc1, 0 + ms1))
      refine hR (k_eq (by omega) (fun hc20 => ?_) (fun hc20 => ?_))
      · skip
        refine hR (?_ : R (_, _, _, _, _, _))
        obtain ⟨hTf21, hIf21, hpf21, hKf21⟩ := top_fr2 hT hT.1 fr3 (by decide) hT.2.2.1
        exact hR (zret_i rfl (Nat.le_refl _) trivial ⟨⟨_, hTf21, fun l m h => hIf21 _ _ (hI1 _ _ (hIt1 _ _ (h))), (KEEP2_tr hKt1 (KEEP2_tr hK1 hKf21)), hx1, by omega, by omega⟩, _, rfl⟩)
      iterate 2 refine hR (?_ : R (_, _, _, _, _, _))
      refine hR (j_eq (by omega) (by omega) (fun hc22 => ?_) (fun hc22 => ?_))
      · skip
        refine hR (?_ : R (_, _, _, _, _, _))
        obtain ⟨hTt23, hIt23, hpt23, hKt23⟩ := top_fr2 hT hT.1 fr3 (by decide) hT.2.2.1
        obtain ⟨mc23, ms23, re23, w, ⟨ρ, z23, hA23, hre23, hz23⟩, hrun23⟩ := a_levelsThere hTt23 (d + 3)
        subst hre23
        refine hR0 (0 + mc1 + mc23) (0 + ms1 + ms23) (Nat.le_add_right _ _) (Nat.le_add_right _ _) (c_obj hO14 (zcall_i mc23 ms23 (Nat.le_refl _) (Nat.le_refl _) (hrun23 _ ?_)))
        obtain ⟨hT, hI23, hK23, hx23, hm23, hs23⟩ := hA23
        have hl24 : ρ z1 = 50 := (hx23 z1 (by rw [hz1]; decide)).trans hz1
        have hl25 : ρ z15 = 40 := (hx23 z15 (by rw [hz15]; decide)).trans hz15
        have fr26 := wfR_rf [51, 70, 71, 72, 73, 74, 75, 76] ρ w
        refine (?_ : R (_, _, (.ref z23) :: [], w, 0 + mc1 + mc23, 0 + ms1 + ms23))
        iterate 3 refine hR (?_ : R (_, _, _, _, _, _))
        obtain ⟨y0_28, x1_28, x2_28, x3_28, hO28, hk28_0, hk28_1, hk28_2, hk28_3, hk28_4, hk28_5, hk28_6, hk28_7, hk28_8, hk28_9⟩ := CI_o70 hT.1 hz23
        refine hR (c_obj hO28 (zcall_i 0 0 (Nat.le_refl _) (Nat.le_refl _) (c_want _ z23 z15 hT.1 hz23 hl25 _ fun w27 hw27 g27 => ?_)))
        have fr29 := wfR_tr fr26 g27 (by decide)
        have hO30 := (g27.2 z23 (by rw [hz23]; decide)).trans hO28
        refine (?_ : R (_, _, [], w27, 0 + mc1 + mc23, 0 + ms1 + ms23))
        have aw31 := AWK_fr hT.1 g27 hT.2.2.1 (by decide)
        iterate 4 refine hR (?_ : R (_, _, _, _, _, _))
        obtain ⟨z0_35, z2_35, z3_35, hO35, hk35_0, hk35_1, hk35_2, hk35_3, hk35_4⟩ := CI_o50 hw27 hl24
        refine hR (c_obj hO35 (zcall_i 0 0 (Nat.le_refl _) (Nat.le_refl _) (c_all _ z1 hw27 hl24 _ fun v32 hp34 => ?_)))
        refine (?_ : R (_, _, (.int (Int32.ofInt v32)) :: (.int (Int32.ofInt a3)) :: (.ref z1) :: (.ref z23) :: [], w27, 0 + mc1 + mc23, 0 + ms1 + ms23))
        refine hR (?_ : R (_, _, _, _, _, _))
        refine hR (c_obj hO35 (zcall_i 0 0 (Nat.le_refl _) (Nat.le_refl _) (c_all _ z1 hw27 hl24 _ fun v36 hp38 => ?_)))
        refine (?_ : R (_, _, (.int (Int32.ofInt v36)) :: (.int (Int32.ofInt v32)) :: (.int (Int32.ofInt a3)) :: (.ref z1) :: (.ref z23) :: [], w27, 0 + mc1 + mc23, 0 + ms1 + ms23))
        refine hR (c_obj hO30 (zcall_i 0 0 (Nat.le_refl _) (Nat.le_refl _) (c_spread _ z23 z1 a3 v32 v36 hw27 hz23 hl24 (by omega) (by omega) (by omega) _ fun w39 hw39 g39 hn40 hp41 => ?_)))
        have fr42 := wfR_tr fr29 g39 (by decide)
        have hO43 := (g39.2 z1 (by rw [hl24]; decide)).trans hO35
        refine (?_ : R (_, _, [], w39, 0 + mc1 + mc23, 0 + ms1 + ms23))
        have aw44 := AWK_fr hw27 g39 aw31 (by decide)
        iterate 2 refine hR (?_ : R (_, _, _, _, _, _))
        refine hR (j_ne (by omega) (by omega) (fun hc => by omega) (fun _ => ?_))
        refine hR (?_ : R (_, _, _, _, _, _))
        obtain ⟨y0_48, x1_48, x2_48, x3_48, hO48, hk48_0, hk48_1, hk48_2, hk48_3, hk48_4, hk48_5, hk48_6, hk48_7, hk48_8, hk48_9⟩ := CI_o70 hw39 hz23
        refine hR (c_obj hO48 (zcall_i 0 0 (Nat.le_refl _) (Nat.le_refl _) (c_rows _ z23 hw39 hz23 _ fun v45 hp47 => ?_)))
        refine (?_ : R (_, _, (.int (Int32.ofInt v45)) :: [], w39, 0 + mc1 + mc23, 0 + ms1 + ms23))
        refine hR (?_ : R (_, _, _, _, _, _))
        obtain ⟨hTf49, hIf49, hpf49, hKf49⟩ := top_fr2 hT hw39 fr42 (by decide) aw44
        exact hR (zret_i rfl (Nat.le_refl _) trivial ⟨⟨_, hTf49, fun l m h => hIf49 _ _ (hI23 _ _ (hIt23 _ _ (hI1 _ _ (hIt1 _ _ (h))))), (KEEP2_tr hKt1 (KEEP2_tr hK1 (KEEP2_tr hKt23 (KEEP2_tr hK23 hKf49)))), (EXT_tr hx1 hx23), by omega, by omega⟩, _, rfl⟩)
      refine hR (?_ : R (_, _, _, _, _, _))
      refine hR (zcall_i 0 0 (Nat.le_refl _) (Nat.le_refl _) (c_isText _ _ a4 (by omega) _ fun v50 hp52 => ?_))
      refine (?_ : R (_, _, (.int (Int32.ofInt v50)) :: [], w, 0 + mc1, 0 + ms1))
      refine hR (k_ne (by omega) (fun hc53 => ?_) (fun hc53 => ?_))
      rotate_left
      · skip
        refine hR (?_ : R (_, _, _, _, _, _))
        obtain ⟨hTf81, hIf81, hpf81, hKf81⟩ := top_fr2 hT hT.1 fr3 (by decide) hT.2.2.1
        exact hR (zret_i rfl (Nat.le_refl _) trivial ⟨⟨_, hTf81, fun l m h => hIf81 _ _ (hI1 _ _ (hIt1 _ _ (h))), (KEEP2_tr hKt1 (KEEP2_tr hK1 hKf81)), hx1, by omega, by omega⟩, _, rfl⟩)
      refine hR (?_ : R (_, _, _, _, _, _))
      obtain ⟨hTt54, hIt54, hpt54, hKt54⟩ := top_fr2 hT hT.1 fr3 (by decide) hT.2.2.1
      obtain ⟨mc54, ms54, re54, w, ⟨ρ, z54, hA54, hre54, hz54⟩, hrun54⟩ := a_levelsThere hTt54 (d + 3)
      subst hre54
      refine hR0 (0 + mc1 + mc54) (0 + ms1 + ms54) (Nat.le_add_right _ _) (Nat.le_add_right _ _) (c_obj hO14 (zcall_i mc54 ms54 (Nat.le_refl _) (Nat.le_refl _) (hrun54 _ ?_)))
      obtain ⟨hT, hI54, hK54, hx54, hm54, hs54⟩ := hA54
      have hl55 : ρ z1 = 50 := (hx54 z1 (by rw [hz1]; decide)).trans hz1
      have hl56 : ρ z15 = 40 := (hx54 z15 (by rw [hz15]; decide)).trans hz15
      have fr57 := wfR_rf [51, 70, 71, 72, 73, 74, 75, 76] ρ w
      refine (?_ : R (_, _, (.ref z54) :: [], w, 0 + mc1 + mc54, 0 + ms1 + ms54))
      iterate 3 refine hR (?_ : R (_, _, _, _, _, _))
      obtain ⟨y0_59, x1_59, x2_59, x3_59, hO59, hk59_0, hk59_1, hk59_2, hk59_3, hk59_4, hk59_5, hk59_6, hk59_7, hk59_8, hk59_9⟩ := CI_o70 hT.1 hz54
      refine hR (c_obj hO59 (zcall_i 0 0 (Nat.le_refl _) (Nat.le_refl _) (c_want _ z54 z15 hT.1 hz54 hl56 _ fun w58 hw58 g58 => ?_)))
      have fr60 := wfR_tr fr57 g58 (by decide)
      have hO61 := (g58.2 z54 (by rw [hz54]; decide)).trans hO59
      refine (?_ : R (_, _, [], w58, 0 + mc1 + mc54, 0 + ms1 + ms54))
      have aw62 := AWK_fr hT.1 g58 hT.2.2.1 (by decide)
      iterate 4 refine hR (?_ : R (_, _, _, _, _, _))
      obtain ⟨z0_66, z2_66, z3_66, hO66, hk66_0, hk66_1, hk66_2, hk66_3, hk66_4⟩ := CI_o50 hw58 hl55
      refine hR (c_obj hO66 (zcall_i 0 0 (Nat.le_refl _) (Nat.le_refl _) (c_all _ z1 hw58 hl55 _ fun v63 hp65 => ?_)))
      refine (?_ : R (_, _, (.int (Int32.ofInt v63)) :: (.int (Int32.ofInt a3)) :: (.ref z1) :: (.ref z54) :: [], w58, 0 + mc1 + mc54, 0 + ms1 + ms54))
      refine hR (?_ : R (_, _, _, _, _, _))
      refine hR (c_obj hO66 (zcall_i 0 0 (Nat.le_refl _) (Nat.le_refl _) (c_all _ z1 hw58 hl55 _ fun v67 hp69 => ?_)))
      refine (?_ : R (_, _, (.int (Int32.ofInt v67)) :: (.int (Int32.ofInt v63)) :: (.int (Int32.ofInt a3)) :: (.ref z1) :: (.ref z54) :: [], w58, 0 + mc1 + mc54, 0 + ms1 + ms54))
      refine hR (c_obj hO61 (zcall_i 0 0 (Nat.le_refl _) (Nat.le_refl _) (c_spread _ z54 z1 a3 v63 v67 hw58 hz54 hl55 (by omega) (by omega) (by omega) _ fun w70 hw70 g70 hn71 hp72 => ?_)))
      have fr73 := wfR_tr fr60 g70 (by decide)
      have hO74 := (g70.2 z1 (by rw [hl55]; decide)).trans hO66
      refine (?_ : R (_, _, [], w70, 0 + mc1 + mc54, 0 + ms1 + ms54))
      have aw75 := AWK_fr hw58 g70 aw62 (by decide)
      iterate 2 refine hR (?_ : R (_, _, _, _, _, _))
      refine hR (j_ne (by omega) (by omega) (fun _ => ?_) (fun hc => by omega))
      iterate 2 refine hR (?_ : R (_, _, _, _, _, _))
      obtain ⟨y0_79, x1_79, x2_79, x3_79, hO79, hk79_0, hk79_1, hk79_2, hk79_3, hk79_4, hk79_5, hk79_6, hk79_7, hk79_8, hk79_9⟩ := CI_o70 hw70 hz54
      refine hR (c_obj hO79 (zcall_i 0 0 (Nat.le_refl _) (Nat.le_refl _) (c_rowsTo _ z54 a4 hw70 hz54 (by omega) _ fun v76 hp78 => ?_)))
      refine (?_ : R (_, _, (.int (Int32.ofInt v76)) :: [], w70, 0 + mc1 + mc54, 0 + ms1 + ms54))
      obtain ⟨hTf80, hIf80, hpf80, hKf80⟩ := top_fr2 hT hw70 fr73 (by decide) aw75
      exact hR (zret_i rfl (Nat.le_refl _) trivial ⟨⟨_, hTf80, fun l m h => hIf80 _ _ (hI54 _ _ (hIt54 _ _ (hI1 _ _ (hIt1 _ _ (h))))), (KEEP2_tr hKt1 (KEEP2_tr hK1 (KEEP2_tr hKt54 (KEEP2_tr hK54 hKf80)))), (EXT_tr hx1 hx54), by omega, by omega⟩, _, rfl⟩)
theorem k_sure {ρ : Nat → Nat} {w : zW} (hT : TOP ρ w) (d : Nat) (a1 a2 a3 a4 : Int) (hr0 : -2147483648 ≤ a1 ∧ a1 ≤ 2147483647) (hr1 : -2147483648 ≤ a2 ∧ a2 ≤ 2147483647) (hr2 : -2147483648 ≤ a3 ∧ a3 ≤ 2147483647) (hr3 : -2147483648 ≤ a4 ∧ a4 ≤ 2147483647) : DET zTab (d + 7) iX11_sure [.ref 0, .int (Int32.ofInt a1), .int (Int32.ofInt a2), .int (Int32.ofInt a3), .int (Int32.ofInt a4)] w (PB ρ w) := by
  refine z_rel (M := kX11_sure) _ rfl (Nat.le_of_ble_eq_true rfl) fun R hR0 => ?_
  have hR : ∀ {pc : Nat} {L : zL} {S : List Value} {w1 : zW} {k n : Nat}, zsc (zCl zTab (d + 6)) (d + 6) kX11_sure none zTab k n (PB ρ w k n) pc L S w1 k n R → R (pc, L, S, w1, k, n) := fun h => hR0 _ _ (Nat.le_refl _) (Nat.le_refl _) h
  have fr0 := wfR_rf [51, 70, 71, 72, 73, 74, 75, 76] ρ w
  iterate 2 refine hR (?_ : R (_, _, _, _, _, _))
  obtain ⟨y6_2, y7_2, hO2, hk2_0, hk2_1, hk2_2, hk2_3, hk2_4, hk2_5, hk2_6, hk2_7⟩ := CI_o1 hT.1 hT.2.1
  obtain ⟨hTt1, hIt1, hpt1, hKt1⟩ := top_fr2 hT hT.1 fr0 (by decide) hT.2.2.1
  obtain ⟨mc1, ms1, re1, w, ⟨ρ, hA1, hr_1⟩, hrun1⟩ := a_readingsAt hTt1 (d + 3) a1 (by omega)
  refine hR0 (0 + mc1) (0 + ms1) (Nat.le_add_right _ _) (Nat.le_add_right _ _) (c_obj hO2 (zcall_i mc1 ms1 (Nat.le_refl _) (Nat.le_refl _) (hrun1 _ ?_)))
  obtain ⟨hT, hI1, hK1, hx1, hm1, hs1⟩ := hA1
  have fr3 := wfR_rf [51, 70, 71, 72, 73, 74, 75, 76] ρ w
  rcases hr_1 with rfl | ⟨z1, rfl, hz1⟩
  · skip
    refine (?_ : R (_, _, .null :: [], w, 0 + mc1, 0 + ms1))
    iterate 3 refine hR (?_ : R (_, _, _, _, _, _))
    obtain ⟨y6_7, y7_7, hO7, hk7_0, hk7_1, hk7_2, hk7_3, hk7_4, hk7_5, hk7_6, hk7_7⟩ := CI_o1 hT.1 hT.2.1
    refine hR (c_obj hO7 (zcall_i 0 0 (Nat.le_refl _) (Nat.le_refl _) (c_sightAt _ a2 hT.1 hT.2.1 (by omega) _ fun v4 hv4 hp6 => ?_)))
    cases v4 with
    | none =>
      refine (?_ : R (_, _, .null :: [], w, 0 + mc1, 0 + ms1))
      iterate 4 refine hR (?_ : R (_, _, _, _, _, _))
      obtain ⟨hTf9, hIf9, hpf9, hKf9⟩ := top_fr2 hT hT.1 fr3 (by decide) hT.2.2.1
      exact hR (zret_i rfl (Nat.le_refl _) trivial ⟨⟨_, hTf9, fun l m h => hIf9 _ _ (hI1 _ _ (hIt1 _ _ (h))), (KEEP2_tr hKt1 (KEEP2_tr hK1 hKf9)), hx1, by omega, by omega⟩, _, rfl⟩)
    | some z8 =>
      have hz8 : ρ z8 = 40 := hv4 z8 rfl
      refine (?_ : R (_, _, (.ref z8) :: [], w, 0 + mc1, 0 + ms1))
      iterate 4 refine hR (?_ : R (_, _, _, _, _, _))
      obtain ⟨hTf10, hIf10, hpf10, hKf10⟩ := top_fr2 hT hT.1 fr3 (by decide) hT.2.2.1
      exact hR (zret_i rfl (Nat.le_refl _) trivial ⟨⟨_, hTf10, fun l m h => hIf10 _ _ (hI1 _ _ (hIt1 _ _ (h))), (KEEP2_tr hKt1 (KEEP2_tr hK1 hKf10)), hx1, by omega, by omega⟩, _, rfl⟩)
  · skip
    refine (?_ : R (_, _, (.ref z1) :: [], w, 0 + mc1, 0 + ms1))
    iterate 3 refine hR (?_ : R (_, _, _, _, _, _))
    obtain ⟨y6_14, y7_14, hO14, hk14_0, hk14_1, hk14_2, hk14_3, hk14_4, hk14_5, hk14_6, hk14_7⟩ := CI_o1 hT.1 hT.2.1
    refine hR (c_obj hO14 (zcall_i 0 0 (Nat.le_refl _) (Nat.le_refl _) (c_sightAt _ a2 hT.1 hT.2.1 (by omega) _ fun v11 hv11 hp13 => ?_)))
    cases v11 with
    | none =>
      refine (?_ : R (_, _, .null :: [], w, 0 + mc1, 0 + ms1))
      iterate 6 refine hR (?_ : R (_, _, _, _, _, _))
      obtain ⟨hTf16, hIf16, hpf16, hKf16⟩ := top_fr2 hT hT.1 fr3 (by decide) hT.2.2.1
      exact hR (zret_i rfl (Nat.le_refl _) trivial ⟨⟨_, hTf16, fun l m h => hIf16 _ _ (hI1 _ _ (hIt1 _ _ (h))), (KEEP2_tr hKt1 (KEEP2_tr hK1 hKf16)), hx1, by omega, by omega⟩, _, rfl⟩)
    | some z15 =>
      have hz15 : ρ z15 = 40 := hv11 z15 rfl
      refine (?_ : R (_, _, (.ref z15) :: [], w, 0 + mc1, 0 + ms1))
      iterate 6 refine hR (?_ : R (_, _, _, _, _, _))
      refine hR (zcall_i 0 0 (Nat.le_refl _) (Nat.le_refl _) (c_isSpan _ _ a3 (by omega) _ fun v17 hp19 => ?_))
      refine (?_ : R (_, _, (.int (Int32.ofInt v17)) :: [], w, 0 + mc1, 0 + ms1))
      refine hR (k_eq (by omega) (fun hc20 => ?_) (fun hc20 => ?_))
      · skip
        refine hR (?_ : R (_, _, _, _, _, _))
        obtain ⟨hTf21, hIf21, hpf21, hKf21⟩ := top_fr2 hT hT.1 fr3 (by decide) hT.2.2.1
        exact hR (zret_i rfl (Nat.le_refl _) trivial ⟨⟨_, hTf21, fun l m h => hIf21 _ _ (hI1 _ _ (hIt1 _ _ (h))), (KEEP2_tr hKt1 (KEEP2_tr hK1 hKf21)), hx1, by omega, by omega⟩, _, rfl⟩)
      iterate 2 refine hR (?_ : R (_, _, _, _, _, _))
      refine hR (j_lt (by omega) (by omega) (fun hc22 => ?_) (fun hc22 => ?_))
      · skip
        refine hR (?_ : R (_, _, _, _, _, _))
        obtain ⟨hTf23, hIf23, hpf23, hKf23⟩ := top_fr2 hT hT.1 fr3 (by decide) hT.2.2.1
        exact hR (zret_i rfl (Nat.le_refl _) trivial ⟨⟨_, hTf23, fun l m h => hIf23 _ _ (hI1 _ _ (hIt1 _ _ (h))), (KEEP2_tr hKt1 (KEEP2_tr hK1 hKf23)), hx1, by omega, by omega⟩, _, rfl⟩)
      iterate 2 refine hR (?_ : R (_, _, _, _, _, _))
      refine hR (j_lt (by omega) (by omega) (fun hc24 => ?_) (fun hc24 => ?_))
      rotate_left
      · skip
        iterate 2 refine hR (?_ : R (_, _, _, _, _, _))
        refine hR (j_eq (by omega) (by omega) (fun hc82 => ?_) (fun hc82 => ?_))
        rotate_left
        · skip
          refine hR (?_ : R (_, _, _, _, _, _))
          obtain ⟨hTf129, hIf129, hpf129, hKf129⟩ := top_fr2 hT hT.1 fr3 (by decide) hT.2.2.1
          exact hR (zret_i rfl (Nat.le_refl _) trivial ⟨⟨_, hTf129, fun l m h => hIf129 _ _ (hI1 _ _ (hIt1 _ _ (h))), (KEEP2_tr hKt1 (KEEP2_tr hK1 hKf129)), hx1, by omega, by omega⟩, _, rfl⟩)
        refine hR (?_ : R (_, _, _, _, _, _))
        obtain ⟨hTt83, hIt83, hpt83, hKt83⟩ := top_fr2 hT hT.1 fr3 (by decide) hT.2.2.1
        obtain ⟨mc83, ms83, re83, w, ⟨ρ, z83, hA83, hre83, hz83⟩, hrun83⟩ := a_levelsThere hTt83 (d + 3)
        subst hre83
        refine hR0 (0 + mc1 + mc83) (0 + ms1 + ms83) (Nat.le_add_right _ _) (Nat.le_add_right _ _) (c_obj hO14 (zcall_i mc83 ms83 (Nat.le_refl _) (Nat.le_refl _) (hrun83 _ ?_)))
        obtain ⟨hT, hI83, hK83, hx83, hm83, hs83⟩ := hA83
        have hl84 : ρ z1 = 50 := (hx83 z1 (by rw [hz1]; decide)).trans hz1
        have hl85 : ρ z15 = 40 := (hx83 z15 (by rw [hz15]; decide)).trans hz15
        have fr86 := wfR_rf [51, 70, 71, 72, 73, 74, 75, 76] ρ w
        refine (?_ : R (_, _, (.ref z83) :: [], w, 0 + mc1 + mc83, 0 + ms1 + ms83))
        iterate 3 refine hR (?_ : R (_, _, _, _, _, _))
        obtain ⟨y0_88, x1_88, x2_88, x3_88, hO88, hk88_0, hk88_1, hk88_2, hk88_3, hk88_4, hk88_5, hk88_6, hk88_7, hk88_8, hk88_9⟩ := CI_o70 hT.1 hz83
        refine hR (c_obj hO88 (zcall_i 0 0 (Nat.le_refl _) (Nat.le_refl _) (c_want _ z83 z15 hT.1 hz83 hl85 _ fun w87 hw87 g87 => ?_)))
        have fr89 := wfR_tr fr86 g87 (by decide)
        have hO90 := (g87.2 z83 (by rw [hz83]; decide)).trans hO88
        refine (?_ : R (_, _, [], w87, 0 + mc1 + mc83, 0 + ms1 + ms83))
        have aw91 := AWK_fr hT.1 g87 hT.2.2.1 (by decide)
        iterate 4 refine hR (?_ : R (_, _, _, _, _, _))
        obtain ⟨z0_95, z2_95, z3_95, hO95, hk95_0, hk95_1, hk95_2, hk95_3, hk95_4⟩ := CI_o50 hw87 hl84
        refine hR (c_obj hO95 (zcall_i 0 0 (Nat.le_refl _) (Nat.le_refl _) (c_all _ z1 hw87 hl84 _ fun v92 hp94 => ?_)))
        refine (?_ : R (_, _, (.int (Int32.ofInt v92)) :: (.int (Int32.ofInt a3)) :: (.ref z1) :: (.ref z83) :: [], w87, 0 + mc1 + mc83, 0 + ms1 + ms83))
        refine hR (?_ : R (_, _, _, _, _, _))
        refine hR (c_obj hO95 (zcall_i 0 0 (Nat.le_refl _) (Nat.le_refl _) (c_all _ z1 hw87 hl84 _ fun v96 hp98 => ?_)))
        refine (?_ : R (_, _, (.int (Int32.ofInt v96)) :: (.int (Int32.ofInt v92)) :: (.int (Int32.ofInt a3)) :: (.ref z1) :: (.ref z83) :: [], w87, 0 + mc1 + mc83, 0 + ms1 + ms83))
        refine hR (c_obj hO90 (zcall_i 0 0 (Nat.le_refl _) (Nat.le_refl _) (c_spread _ z83 z1 a3 v92 v96 hw87 hz83 hl84 (by omega) (by omega) (by omega) _ fun w99 hw99 g99 hn100 hp101 => ?_)))
        have fr102 := wfR_tr fr89 g99 (by decide)
        have hO103 := (g99.2 z1 (by rw [hl84]; decide)).trans hO95
        refine (?_ : R (_, _, [], w99, 0 + mc1 + mc83, 0 + ms1 + ms83))
        have aw104 := AWK_fr hw87 g99 aw91 (by decide)
        refine hR (?_ : R (_, _, _, _, _, _))
        obtain ⟨y0_108, x1_108, x2_108, x3_108, hO108, hk108_0, hk108_1, hk108_2, hk108_3, hk108_4, hk108_5, hk108_6, hk108_7, hk108_8, hk108_9⟩ := CI_o70 hw99 hz83
        refine hR (c_obj hO108 (zcall_i 0 0 (Nat.le_refl _) (Nat.le_refl _) (c_rows _ z83 hw99 hz83 _ fun v105 hp107 => ?_)))
        refine (?_ : R (_, _, (.int (Int32.ofInt v105)) :: [], w99, 0 + mc1 + mc83, 0 + ms1 + ms83))
        refine hR (k_ne (by omega) (fun hc109 => ?_) (fun hc109 => ?_))
        rotate_left
        · skip
          refine hR (?_ : R (_, _, _, _, _, _))
          obtain ⟨hTf128, hIf128, hpf128, hKf128⟩ := top_fr2 hT hw99 fr102 (by decide) aw104
          exact hR (zret_i rfl (Nat.le_refl _) trivial ⟨⟨_, hTf128, fun l m h => hIf128 _ _ (hI83 _ _ (hIt83 _ _ (hI1 _ _ (hIt1 _ _ (h))))), (KEEP2_tr hKt1 (KEEP2_tr hK1 (KEEP2_tr hKt83 (KEEP2_tr hK83 hKf128)))), (EXT_tr hx1 hx83), by omega, by omega⟩, _, rfl⟩)
        refine hR (?_ : R (_, _, _, _, _, _))
        refine hR (c_obj hO108 (zcall_i 0 0 (Nat.le_refl _) (Nat.le_refl _) (c_endByOne _ z83 hw99 hz83 hn100 _ fun w110 hw110 g110 => ?_)))
        have fr111 := wfR_tr fr102 g110 (by decide)
        have hn112 := nn_eq (g110.2 z83 (by rw [hz83]; decide)) hn100
        have hO113 := (g110.2 z1 (by rw [hl84]; decide)).trans hO103
        have hO114 := (g110.2 z83 (by rw [hz83]; decide)).trans hO108
        refine (?_ : R (_, _, [], w110, 0 + mc1 + mc83, 0 + ms1 + ms83))
        have aw115 := AWK_fr hw99 g110 aw104 (by decide)
        have sp116 := SPN_eq (g110.2 z83 (by rw [hz83]; decide)) (g110.2 (z83 + 1) (by rw [hk108_4]; decide)) hp101
        iterate 3 refine hR (?_ : R (_, _, _, _, _, _))
        refine hR (c_obj hO114 (zcall_i 0 0 (Nat.le_refl _) (Nat.le_refl _) (c_foldBack _ z83 2 2 hw110 hz83 hn112 (by omega) (by omega) _ fun w117 hw117 g117 => ?_)))
        have fr118 := wfR_tr fr111 g117 (by decide)
        have hn119 := nn_eq (g117.2 z83 (by rw [hz83]; decide)) hn112
        have hO120 := (g117.2 z1 (by rw [hl84]; decide)).trans hO113
        have hO121 := (g117.2 z83 (by rw [hz83]; decide)).trans hO114
        refine (?_ : R (_, _, [], w117, 0 + mc1 + mc83, 0 + ms1 + ms83))
        have aw122 := AWK_fr hw110 g117 aw115 (by decide)
        have sp123 := SPN_eq (g117.2 z83 (by rw [hz83]; decide)) (g117.2 (z83 + 1) (by rw [hk108_4]; decide)) sp116
        iterate 2 refine hR (?_ : R (_, _, _, _, _, _))
        refine hR (j_ne (by omega) (by omega) (fun hc => by omega) (fun _ => ?_))
        refine hR (?_ : R (_, _, _, _, _, _))
        refine hR (c_obj hO121 (zcall_i 0 0 (Nat.le_refl _) (Nat.le_refl _) (c_look _ z83 hw117 hz83 _ fun v124 hp126 => ?_)))
        refine (?_ : R (_, _, (.int (Int32.ofInt v124)) :: [], w117, 0 + mc1 + mc83, 0 + ms1 + ms83))
        refine hR (?_ : R (_, _, _, _, _, _))
        obtain ⟨hTf127, hIf127, hpf127, hKf127⟩ := top_fr2 hT hw117 fr118 (by decide) aw122
        exact hR (zret_i rfl (Nat.le_refl _) trivial ⟨⟨_, hTf127, fun l m h => hIf127 _ _ (hI83 _ _ (hIt83 _ _ (hI1 _ _ (hIt1 _ _ (h))))), (KEEP2_tr hKt1 (KEEP2_tr hK1 (KEEP2_tr hKt83 (KEEP2_tr hK83 hKf127)))), (EXT_tr hx1 hx83), by omega, by omega⟩, _, rfl⟩)
      refine hR (?_ : R (_, _, _, _, _, _))
      obtain ⟨hTt25, hIt25, hpt25, hKt25⟩ := top_fr2 hT hT.1 fr3 (by decide) hT.2.2.1
      obtain ⟨mc25, ms25, re25, w, ⟨ρ, z25, hA25, hre25, hz25⟩, hrun25⟩ := a_levelsThere hTt25 (d + 3)
      subst hre25
      refine hR0 (0 + mc1 + mc25) (0 + ms1 + ms25) (Nat.le_add_right _ _) (Nat.le_add_right _ _) (c_obj hO14 (zcall_i mc25 ms25 (Nat.le_refl _) (Nat.le_refl _) (hrun25 _ ?_)))
      obtain ⟨hT, hI25, hK25, hx25, hm25, hs25⟩ := hA25
      have hl26 : ρ z1 = 50 := (hx25 z1 (by rw [hz1]; decide)).trans hz1
      have hl27 : ρ z15 = 40 := (hx25 z15 (by rw [hz15]; decide)).trans hz15
      have fr28 := wfR_rf [51, 70, 71, 72, 73, 74, 75, 76] ρ w
      refine (?_ : R (_, _, (.ref z25) :: [], w, 0 + mc1 + mc25, 0 + ms1 + ms25))
      iterate 3 refine hR (?_ : R (_, _, _, _, _, _))
      obtain ⟨y0_30, x1_30, x2_30, x3_30, hO30, hk30_0, hk30_1, hk30_2, hk30_3, hk30_4, hk30_5, hk30_6, hk30_7, hk30_8, hk30_9⟩ := CI_o70 hT.1 hz25
      refine hR (c_obj hO30 (zcall_i 0 0 (Nat.le_refl _) (Nat.le_refl _) (c_want _ z25 z15 hT.1 hz25 hl27 _ fun w29 hw29 g29 => ?_)))
      have fr31 := wfR_tr fr28 g29 (by decide)
      have hO32 := (g29.2 z25 (by rw [hz25]; decide)).trans hO30
      refine (?_ : R (_, _, [], w29, 0 + mc1 + mc25, 0 + ms1 + ms25))
      have aw33 := AWK_fr hT.1 g29 hT.2.2.1 (by decide)
      iterate 4 refine hR (?_ : R (_, _, _, _, _, _))
      obtain ⟨z0_37, z2_37, z3_37, hO37, hk37_0, hk37_1, hk37_2, hk37_3, hk37_4⟩ := CI_o50 hw29 hl26
      refine hR (c_obj hO37 (zcall_i 0 0 (Nat.le_refl _) (Nat.le_refl _) (c_all _ z1 hw29 hl26 _ fun v34 hp36 => ?_)))
      refine (?_ : R (_, _, (.int (Int32.ofInt v34)) :: (.int (Int32.ofInt a3)) :: (.ref z1) :: (.ref z25) :: [], w29, 0 + mc1 + mc25, 0 + ms1 + ms25))
      refine hR (?_ : R (_, _, _, _, _, _))
      refine hR (c_obj hO37 (zcall_i 0 0 (Nat.le_refl _) (Nat.le_refl _) (c_all _ z1 hw29 hl26 _ fun v38 hp40 => ?_)))
      refine (?_ : R (_, _, (.int (Int32.ofInt v38)) :: (.int (Int32.ofInt v34)) :: (.int (Int32.ofInt a3)) :: (.ref z1) :: (.ref z25) :: [], w29, 0 + mc1 + mc25, 0 + ms1 + ms25))
      refine hR (c_obj hO32 (zcall_i 0 0 (Nat.le_refl _) (Nat.le_refl _) (c_spread _ z25 z1 a3 v34 v38 hw29 hz25 hl26 (by omega) (by omega) (by omega) _ fun w41 hw41 g41 hn42 hp43 => ?_)))
      have fr44 := wfR_tr fr31 g41 (by decide)
      have hO45 := (g41.2 z1 (by rw [hl26]; decide)).trans hO37
      refine (?_ : R (_, _, [], w41, 0 + mc1 + mc25, 0 + ms1 + ms25))
      have aw46 := AWK_fr hw29 g41 aw33 (by decide)
      refine hR (?_ : R (_, _, _, _, _, _))
      obtain ⟨y0_50, x1_50, x2_50, x3_50, hO50, hk50_0, hk50_1, hk50_2, hk50_3, hk50_4, hk50_5, hk50_6, hk50_7, hk50_8, hk50_9⟩ := CI_o70 hw41 hz25
      refine hR (c_obj hO50 (zcall_i 0 0 (Nat.le_refl _) (Nat.le_refl _) (c_rows _ z25 hw41 hz25 _ fun v47 hp49 => ?_)))
      refine (?_ : R (_, _, (.int (Int32.ofInt v47)) :: [], w41, 0 + mc1 + mc25, 0 + ms1 + ms25))
      refine hR (k_ne (by omega) (fun hc51 => ?_) (fun hc51 => ?_))
      rotate_left
      · skip
        refine hR (?_ : R (_, _, _, _, _, _))
        obtain ⟨hTf81, hIf81, hpf81, hKf81⟩ := top_fr2 hT hw41 fr44 (by decide) aw46
        exact hR (zret_i rfl (Nat.le_refl _) trivial ⟨⟨_, hTf81, fun l m h => hIf81 _ _ (hI25 _ _ (hIt25 _ _ (hI1 _ _ (hIt1 _ _ (h))))), (KEEP2_tr hKt1 (KEEP2_tr hK1 (KEEP2_tr hKt25 (KEEP2_tr hK25 hKf81)))), (EXT_tr hx1 hx25), by omega, by omega⟩, _, rfl⟩)
      refine hR (?_ : R (_, _, _, _, _, _))
      refine hR (c_obj hO50 (zcall_i 0 0 (Nat.le_refl _) (Nat.le_refl _) (c_endByOne _ z25 hw41 hz25 hn42 _ fun w52 hw52 g52 => ?_)))
      have fr53 := wfR_tr fr44 g52 (by decide)
      have hn54 := nn_eq (g52.2 z25 (by rw [hz25]; decide)) hn42
      have hO55 := (g52.2 z1 (by rw [hl26]; decide)).trans hO45
      have hO56 := (g52.2 z25 (by rw [hz25]; decide)).trans hO50
      refine (?_ : R (_, _, [], w52, 0 + mc1 + mc25, 0 + ms1 + ms25))
      have aw57 := AWK_fr hw41 g52 aw46 (by decide)
      have sp58 := SPN_eq (g52.2 z25 (by rw [hz25]; decide)) (g52.2 (z25 + 1) (by rw [hk50_4]; decide)) hp43
      iterate 3 refine hR (?_ : R (_, _, _, _, _, _))
      refine hR (c_obj hO56 (zcall_i 0 0 (Nat.le_refl _) (Nat.le_refl _) (c_foldBack _ z25 2 2 hw52 hz25 hn54 (by omega) (by omega) _ fun w59 hw59 g59 => ?_)))
      have fr60 := wfR_tr fr53 g59 (by decide)
      have hn61 := nn_eq (g59.2 z25 (by rw [hz25]; decide)) hn54
      have hO62 := (g59.2 z1 (by rw [hl26]; decide)).trans hO55
      have hO63 := (g59.2 z25 (by rw [hz25]; decide)).trans hO56
      refine (?_ : R (_, _, [], w59, 0 + mc1 + mc25, 0 + ms1 + ms25))
      have aw64 := AWK_fr hw52 g59 aw57 (by decide)
      have sp65 := SPN_eq (g59.2 z25 (by rw [hz25]; decide)) (g59.2 (z25 + 1) (by rw [hk50_4]; decide)) sp58
      iterate 2 refine hR (?_ : R (_, _, _, _, _, _))
      refine hR (j_ne (by omega) (by omega) (fun hc66 => ?_) (fun hc66 => ?_))
      rotate_left
      · skip
        refine hR (?_ : R (_, _, _, _, _, _))
        refine hR (c_obj hO63 (zcall_i 0 0 (Nat.le_refl _) (Nat.le_refl _) (c_look _ z25 hw59 hz25 _ fun v77 hp79 => ?_)))
        refine (?_ : R (_, _, (.int (Int32.ofInt v77)) :: [], w59, 0 + mc1 + mc25, 0 + ms1 + ms25))
        refine hR (?_ : R (_, _, _, _, _, _))
        obtain ⟨hTf80, hIf80, hpf80, hKf80⟩ := top_fr2 hT hw59 fr60 (by decide) aw64
        exact hR (zret_i rfl (Nat.le_refl _) trivial ⟨⟨_, hTf80, fun l m h => hIf80 _ _ (hI25 _ _ (hIt25 _ _ (hI1 _ _ (hIt1 _ _ (h))))), (KEEP2_tr hKt1 (KEEP2_tr hK1 (KEEP2_tr hKt25 (KEEP2_tr hK25 hKf80)))), (EXT_tr hx1 hx25), by omega, by omega⟩, _, rfl⟩)
      iterate 2 refine hR (?_ : R (_, _, _, _, _, _))
      refine hR (c_obj hO63 (zcall_i 0 0 (Nat.le_refl _) (Nat.le_refl _) (c_onlyReaderAt _ z25 a4 hw59 hz25 hn61 (by omega) _ fun v67 w68 hw68 g68 hp69 => ?_)))
      have fr70 := wfR_tr fr60 g68 (by decide)
      have hn71 := nn_eq (g68.2 z25 (by rw [hz25]; decide)) hn61
      have hO72 := (g68.2 z1 (by rw [hl26]; decide)).trans hO62
      have hO73 := (g68.2 z25 (by rw [hz25]; decide)).trans hO63
      refine (?_ : R (_, _, (.int (Int32.ofInt v67)) :: [], w68, 0 + mc1 + mc25, 0 + ms1 + ms25))
      have aw74 := AWK_fr hw59 g68 aw64 (by decide)
      have sp75 := SPN_eq (g68.2 z25 (by rw [hz25]; decide)) (g68.2 (z25 + 1) (by rw [hk50_4]; decide)) sp65
      obtain ⟨hTf76, hIf76, hpf76, hKf76⟩ := top_fr2 hT hw68 fr70 (by decide) aw74
      exact hR (zret_i rfl (Nat.le_refl _) trivial ⟨⟨_, hTf76, fun l m h => hIf76 _ _ (hI25 _ _ (hIt25 _ _ (hI1 _ _ (hIt1 _ _ (h))))), (KEEP2_tr hKt1 (KEEP2_tr hK1 (KEEP2_tr hKt25 (KEEP2_tr hK25 hKf76)))), (EXT_tr hx1 hx25), by omega, by omega⟩, _, rfl⟩)
theorem k_silenced {ρ : Nat → Nat} {w : zW} (hT : TOP ρ w) (d : Nat) (a1 a2 a3 : Int) (hr0 : -2147483648 ≤ a1 ∧ a1 ≤ 2147483647) (hr1 : -2147483648 ≤ a2 ∧ a2 ≤ 2147483647) (hr2 : -2147483648 ≤ a3 ∧ a3 ≤ 2147483647) : DET zTab (d + 6) iX11_silenced [.ref 0, .int (Int32.ofInt a1), .int (Int32.ofInt a2), .int (Int32.ofInt a3)] w (PB ρ w) := by
  refine z_rel (M := kX11_silenced) _ rfl (Nat.le_of_ble_eq_true rfl) fun R hR0 => ?_
  have hR : ∀ {pc : Nat} {L : zL} {S : List Value} {w1 : zW} {k n : Nat}, zsc (zCl zTab (d + 5)) (d + 5) kX11_silenced none zTab k n (PB ρ w k n) pc L S w1 k n R → R (pc, L, S, w1, k, n) := fun h => hR0 _ _ (Nat.le_refl _) (Nat.le_refl _) h
  have fr0 := wfR_rf [51, 60, 61, 62, 63, 64] ρ w
  iterate 2 refine hR (?_ : R (_, _, _, _, _, _))
  obtain ⟨y6_2, y7_2, hO2, hk2_0, hk2_1, hk2_2, hk2_3, hk2_4, hk2_5, hk2_6, hk2_7⟩ := CI_o1 hT.1 hT.2.1
  obtain ⟨hTt1, hIt1, hpt1, hKt1⟩ := top_fr2 hT hT.1 fr0 (by decide) hT.2.2.1
  obtain ⟨mc1, ms1, re1, w, ⟨ρ, hA1, hr_1⟩, hrun1⟩ := a_readingsAt hTt1 (d + 2) a1 (by omega)
  refine hR0 (0 + mc1) (0 + ms1) (Nat.le_add_right _ _) (Nat.le_add_right _ _) (c_obj hO2 (zcall_i mc1 ms1 (Nat.le_refl _) (Nat.le_refl _) (hrun1 _ ?_)))
  obtain ⟨hT, hI1, hK1, hx1, hm1, hs1⟩ := hA1
  have fr3 := wfR_rf [51, 60, 61, 62, 63, 64] ρ w
  rcases hr_1 with rfl | ⟨z1, rfl, hz1⟩
  · skip
    refine (?_ : R (_, _, .null :: [], w, 0 + mc1, 0 + ms1))
    iterate 4 refine hR (?_ : R (_, _, _, _, _, _))
    obtain ⟨hTf4, hIf4, hpf4, hKf4⟩ := top_fr2 hT hT.1 fr3 (by decide) hT.2.2.1
    exact hR (zret_i rfl (Nat.le_refl _) trivial ⟨⟨_, hTf4, fun l m h => hIf4 _ _ (hI1 _ _ (hIt1 _ _ (h))), (KEEP2_tr hKt1 (KEEP2_tr hK1 hKf4)), hx1, by omega, by omega⟩, _, rfl⟩)
  · skip
    refine (?_ : R (_, _, (.ref z1) :: [], w, 0 + mc1, 0 + ms1))
    iterate 4 refine hR (?_ : R (_, _, _, _, _, _))
    refine hR (zcall_i 0 0 (Nat.le_refl _) (Nat.le_refl _) (c_isText _ _ a2 (by omega) _ fun v5 hp7 => ?_))
    refine (?_ : R (_, _, (.int (Int32.ofInt v5)) :: [], w, 0 + mc1, 0 + ms1))
    refine hR (k_eq (by omega) (fun hc8 => ?_) (fun hc8 => ?_))
    · skip
      refine hR (?_ : R (_, _, _, _, _, _))
      obtain ⟨hTf9, hIf9, hpf9, hKf9⟩ := top_fr2 hT hT.1 fr3 (by decide) hT.2.2.1
      exact hR (zret_i rfl (Nat.le_refl _) trivial ⟨⟨_, hTf9, fun l m h => hIf9 _ _ (hI1 _ _ (hIt1 _ _ (h))), (KEEP2_tr hKt1 (KEEP2_tr hK1 hKf9)), hx1, by omega, by omega⟩, _, rfl⟩)
    refine hR (?_ : R (_, _, _, _, _, _))
    refine hR (zcall_i 0 0 (Nat.le_refl _) (Nat.le_refl _) (c_isText _ _ a3 (by omega) _ fun v10 hp12 => ?_))
    refine (?_ : R (_, _, (.int (Int32.ofInt v10)) :: [], w, 0 + mc1, 0 + ms1))
    refine hR (k_eq (by omega) (fun hc13 => ?_) (fun hc13 => ?_))
    · skip
      refine hR (?_ : R (_, _, _, _, _, _))
      obtain ⟨hTf14, hIf14, hpf14, hKf14⟩ := top_fr2 hT hT.1 fr3 (by decide) hT.2.2.1
      exact hR (zret_i rfl (Nat.le_refl _) trivial ⟨⟨_, hTf14, fun l m h => hIf14 _ _ (hI1 _ _ (hIt1 _ _ (h))), (KEEP2_tr hKt1 (KEEP2_tr hK1 hKf14)), hx1, by omega, by omega⟩, _, rfl⟩)
    iterate 2 refine hR (?_ : R (_, _, _, _, _, _))
    refine hR (j_ne (by omega) (by omega) (fun hc15 => ?_) (fun hc15 => ?_))
    rotate_left
    · skip
      refine hR (?_ : R (_, _, _, _, _, _))
      obtain ⟨hTf46, hIf46, hpf46, hKf46⟩ := top_fr2 hT hT.1 fr3 (by decide) hT.2.2.1
      exact hR (zret_i rfl (Nat.le_refl _) trivial ⟨⟨_, hTf46, fun l m h => hIf46 _ _ (hI1 _ _ (hIt1 _ _ (h))), (KEEP2_tr hKt1 (KEEP2_tr hK1 hKf46)), hx1, by omega, by omega⟩, _, rfl⟩)
    iterate 2 refine hR (?_ : R (_, _, _, _, _, _))
    obtain ⟨y6_17, y7_17, hO17, hk17_0, hk17_1, hk17_2, hk17_3, hk17_4, hk17_5, hk17_6, hk17_7⟩ := CI_o1 hT.1 hT.2.1
    obtain ⟨hTt16, hIt16, hpt16, hKt16⟩ := top_fr2 hT hT.1 fr3 (by decide) hT.2.2.1
    obtain ⟨mc16, ms16, re16, w, ⟨ρ, z16, hA16, hre16, hz16⟩, hrun16⟩ := a_walkAt hTt16 (d + 2) 0 (by omega)
    subst hre16
    refine hR0 (0 + mc1 + mc16) (0 + ms1 + ms16) (Nat.le_add_right _ _) (Nat.le_add_right _ _) (c_obj hO17 (zcall_i mc16 ms16 (Nat.le_refl _) (Nat.le_refl _) (hrun16 _ ?_)))
    obtain ⟨hT, hI16, hK16, hx16, hm16, hs16⟩ := hA16
    have hl18 : ρ z1 = 50 := (hx16 z1 (by rw [hz1]; decide)).trans hz1
    have fr19 := wfR_rf [51, 60, 61, 62, 63, 64] ρ w
    refine (?_ : R (_, _, (.ref z16) :: [], w, 0 + mc1 + mc16, 0 + ms1 + ms16))
    iterate 2 refine hR (?_ : R (_, _, _, _, _, _))
    obtain ⟨z0_20, z2_20, z3_20, hO20, hk20_0, hk20_1, hk20_2, hk20_3, hk20_4⟩ := CI_o50 hT.1 hl18
    refine hR (c_get hO20 rfl ?_)
    obtain ⟨x0_21, x1_21, x2_21, hO21, hk21_0, hk21_1, hk21_2, hk21_3, hk21_4, hk21_5, hk21_6⟩ := CI_o20 hT.1 hk20_0
    refine hR (c_get hO21 rfl ?_)
    iterate 3 refine hR (?_ : R (_, _, _, _, _, _))
    have lp53 : ∀ (N : Nat) (mn : Int) (o8_53 : Option Value) (w_53 : zW), (zc2 o8_53 = false) → (CI ρ w_53) → (wfR [51, 60, 61, 62, 63, 64] ρ w w_53) → (zix w_53 z1 = some (.inr (3, [.ref z0_20, .ref (z1 + 1), .ref z2_20, .ref z3_20]))) → (zix w_53 z0_20 = some (.inr (0, [.int (Int32.ofInt x0_21), .int (Int32.ofInt x1_21), .int (Int32.ofInt x2_21), .ref (z0_20 + 1), .ref (z0_20 + 2), .ref (z0_20 + 3), .ref (z0_20 + 4)]))) → (0 ≤ mn ∧ mn ≤ 6) → (AWK ρ w_53) → (7 - mn < N) → R (53, [some (.ref 0), some (.int (Int32.ofInt a1)), some (.int (Int32.ofInt a2)), some (.int (Int32.ofInt a3)), some (.ref z1), some (.ref z16), some (.int (Int32.ofInt x1_21)), some (.int (Int32.ofInt mn)), o8_53], [], w_53, 0 + mc1 + mc16, 0 + ms1 + ms16) := by
      intro N
      induction N with
      | zero => intros; omega
      | succ N ih53 =>
        intro mn o8_53 w_53 hzo8_53 hw_53 fr_53 hOz1_53 hOz0_20_53 hf0_53 hp0_53 hN53
        iterate 2 refine hR (?_ : R (_, _, _, _, _, _))
        refine hR (j_gt (by omega) (by omega) (fun hc22 => ?_) (fun hc22 => ?_))
        · skip
          refine hR (?_ : R (_, _, _, _, _, _))
          obtain ⟨hTf23, hIf23, hpf23, hKf23⟩ := top_fr2 hT hw_53 fr_53 (by decide) hp0_53
          exact hR (zret_i rfl (Nat.le_refl _) trivial ⟨⟨_, hTf23, fun l m h => hIf23 _ _ (hI16 _ _ (hIt16 _ _ (hI1 _ _ (hIt1 _ _ (h))))), (KEEP2_tr hKt1 (KEEP2_tr hK1 (KEEP2_tr hKt16 (KEEP2_tr hK16 hKf23)))), (EXT_tr hx1 hx16), by omega, by omega⟩, _, rfl⟩)
        iterate 2 refine hR (?_ : R (_, _, _, _, _, _))
        have lp63 : ∀ (N : Nat) (wo : Int) (w_63 : zW), (CI ρ w_63) → (wfR [51, 60, 61, 62, 63, 64] ρ w w_63) → (zix w_63 z1 = some (.inr (3, [.ref z0_20, .ref (z1 + 1), .ref z2_20, .ref z3_20]))) → (zix w_63 z0_20 = some (.inr (0, [.int (Int32.ofInt x0_21), .int (Int32.ofInt x1_21), .int (Int32.ofInt x2_21), .ref (z0_20 + 1), .ref (z0_20 + 2), .ref (z0_20 + 3), .ref (z0_20 + 4)]))) → (0 ≤ wo ∧ wo ≤ 32) → (AWK ρ w_63) → (33 - wo < N) → R (63, [some (.ref 0), some (.int (Int32.ofInt a1)), some (.int (Int32.ofInt a2)), some (.int (Int32.ofInt a3)), some (.ref z1), some (.ref z16), some (.int (Int32.ofInt x1_21)), some (.int (Int32.ofInt mn)), some (.int (Int32.ofInt wo))], [], w_63, 0 + mc1 + mc16, 0 + ms1 + ms16) := by
          intro N
          induction N with
          | zero => intros; omega
          | succ N ih63 =>
            intro wo w_63 hw_63 fr_63 hOz1_63 hOz0_20_63 hf0_63 hp0_63 hN63
            iterate 2 refine hR (?_ : R (_, _, _, _, _, _))
            refine hR (c_obj hOz1_63 (zcall_i 0 0 (Nat.le_refl _) (Nat.le_refl _) (c_all _ z1 hw_63 hl18 _ fun v24 hp26 => ?_)))
            refine (?_ : R (_, _, (.int (Int32.ofInt v24)) :: (.int (Int32.ofInt wo)) :: [], w_63, 0 + mc1 + mc16, 0 + ms1 + ms16))
            refine hR (j_gt (by omega) (by omega) (fun hc27 => ?_) (fun hc27 => ?_))
            · skip
              refine hR (t_inc ?_)
              refine hR (?_ : R (_, _, _, _, _, _))
              exact ih53 _ _ _ (by rfl) hw_63 fr_63 hOz1_63 hOz0_20_63 (by omega) hp0_63 (by omega)
            refine hR (?_ : R (_, _, _, _, _, _))
            refine hR (zcall_i 0 0 (Nat.le_refl _) (Nat.le_refl _) (c_bitCount _ _ wo _ fun v28 hp30 => ?_))
            refine (?_ : R (_, _, (.int (Int32.ofInt v28)) :: [], w_63, 0 + mc1 + mc16, 0 + ms1 + ms16))
            refine hR (?_ : R (_, _, _, _, _, _))
            refine hR (j_ne (by omega) (by omega) (fun hc31 => ?_) (fun hc31 => ?_))
            · skip
              refine hR (t_inc ?_)
              refine hR (?_ : R (_, _, _, _, _, _))
              exact ih63 _ _ hw_63 fr_63 hOz1_63 hOz0_20_63 (by omega) hp0_63 (by omega)
            iterate 4 refine hR (?_ : R (_, _, _, _, _, _))
            refine hR (c_obj hOz1_63 (zcall_i 0 0 (Nat.le_refl _) (Nat.le_refl _) (c_all _ z1 hw_63 hl18 _ fun v32 hp34 => ?_)))
            refine (?_ : R (_, _, (.int (Int32.ofInt v32)) :: (.int (Int32.ofInt a2)) :: (.ref z1) :: (.ref z16) :: [], w_63, 0 + mc1 + mc16, 0 + ms1 + ms16))
            iterate 2 refine hR (?_ : R (_, _, _, _, _, _))
            refine hR (t_o fun v35 rv35 => ?_)
            refine hR (t_o fun v36 rv36 => ?_)
            refine hR (?_ : R (_, _, _, _, _, _))
            obtain ⟨x0_39, hO39, hk39_0, hk39_1, hk39_2, hk39_3, hk39_4⟩ := CI_o60 hw_63 hz16
            refine hR (c_obj hO39 (zcall_i 0 0 (Nat.le_refl _) (Nat.le_refl _) (c_goA _ z16 z1 a2 v36 a3 hw_63 hz16 hl18 hp0_63 (by omega) (by omega) (by omega) _ fun w37 hw37 g37 hp38 => ?_)))
            have fr40 := wfR_tr fr_63 g37 (by decide)
            have hO41 := (g37.2 z1 (by rw [hl18]; decide)).trans hOz1_63
            have hO42 := (g37.2 z0_20 (by rw [hk20_0]; decide)).trans hOz0_20_63
            refine (?_ : R (_, _, [], w37, 0 + mc1 + mc16, 0 + ms1 + ms16))
            refine hR (?_ : R (_, _, _, _, _, _))
            obtain ⟨x0_43, hO43, hk43_0, hk43_1, hk43_2, hk43_3, hk43_4⟩ := CI_o60 hw37 hz16
            refine hR (c_get hO43 rfl ?_)
            refine hR (?_ : R (_, _, _, _, _, _))
            refine hR (c_ald hw37 (by rw [hk43_2]; rfl) (by omega) (by omega) (Nat.le_of_ble_eq_true rfl) fun v44 lv44 uv44 => ?_)
            refine hR (?_ : R (_, _, _, _, _, _))
            refine hR (j_any ?_ ?_)
            · skip
              refine hR (t_inc ?_)
              refine hR (?_ : R (_, _, _, _, _, _))
              exact ih63 _ _ hw37 fr40 hO41 hO42 (by omega) hp38 (by omega)
            refine hR (?_ : R (_, _, _, _, _, _))
            obtain ⟨hTf45, hIf45, hpf45, hKf45⟩ := top_fr2 hT hw37 fr40 (by decide) hp38
            exact hR (zret_i rfl (Nat.le_refl _) trivial ⟨⟨_, hTf45, fun l m h => hIf45 _ _ (hI16 _ _ (hIt16 _ _ (hI1 _ _ (hIt1 _ _ (h))))), (KEEP2_tr hKt1 (KEEP2_tr hK1 (KEEP2_tr hKt16 (KEEP2_tr hK16 hKf45)))), (EXT_tr hx1 hx16), by omega, by omega⟩, _, rfl⟩)
        exact lp63 400000000 _ _ hw_53 fr_53 hOz1_53 hOz0_20_53 (by omega) hp0_53 (by omega)
    exact lp53 400000000 _ _ _ (by rfl) hT.1 fr19 hO20 hO21 (by omega) hT.2.2.1 (by omega)
theorem k_fault {ρ : Nat → Nat} {w : zW} (hT : TOP ρ w) (d : Nat) (a1 : Int) (hr0 : -2147483648 ≤ a1 ∧ a1 ≤ 2147483647) : DET zTab (d + 4) iX11_fault [.ref 0, .int (Int32.ofInt a1)] w (PB ρ w) := by
  refine z_rel (M := kX11_fault) _ rfl (Nat.le_of_ble_eq_true rfl) fun R hR0 => ?_
  have hR : ∀ {pc : Nat} {L : zL} {S : List Value} {w1 : zW} {k n : Nat}, zsc (zCl zTab (d + 3)) (d + 3) kX11_fault none zTab k n (PB ρ w k n) pc L S w1 k n R → R (pc, L, S, w1, k, n) := fun h => hR0 _ _ (Nat.le_refl _) (Nat.le_refl _) h
  have fr0 := wfR_rf [] ρ w
  refine hR (?_ : R (_, _, _, _, _, _))
  have hl1 : a1 = 0 ∨ a1 = 1 ∨ (a1 ≠ 0 ∧ a1 ≠ 1) := by omega
  rcases hl1 with hl1 | hl1 | hl1
  · refine hR (t_pc (pc2 := 28) (by rw [zti (e := a1) (by omega) (by omega)]; show (((1 : Nat) : Int) + Op.lookupswitch.offset [(0, 27), (1, 35)] 43 a1).toNat = 28; simp only [Op.lookupswitch.offset_cons]; (repeat' split) <;> first | omega | rfl) ?_)
    refine hR (?_ : R (_, _, _, _, _, _))
    obtain ⟨y6_2, y7_2, hO2, hk2_0, hk2_1, hk2_2, hk2_3, hk2_4, hk2_5, hk2_6, hk2_7⟩ := CI_o1 hT.1 hT.2.1
    refine hR (c_get hO2 rfl ?_)
    obtain ⟨x1_3, x2_3, x3_3, hO3, hk3_0, hk3_1, hk3_2, hk3_3, hk3_4, hk3_5, hk3_6, hk3_7⟩ := CI_o2 hT.1 hk2_0
    refine hR (c_get hO3 rfl ?_)
    obtain ⟨hTf4, hIf4, hpf4, hKf4⟩ := top_fr2 hT hT.1 fr0 (by decide) hT.2.2.1
    exact hR (zret_i rfl (Nat.le_refl _) trivial ⟨⟨_, hTf4, fun l m h => hIf4 _ _ (h), hKf4, (EXT_rf _), by omega, by omega⟩, _, rfl⟩)
  · refine hR (t_pc (pc2 := 36) (by rw [zti (e := a1) (by omega) (by omega)]; show (((1 : Nat) : Int) + Op.lookupswitch.offset [(0, 27), (1, 35)] 43 a1).toNat = 36; simp only [Op.lookupswitch.offset_cons]; (repeat' split) <;> first | omega | rfl) ?_)
    refine hR (?_ : R (_, _, _, _, _, _))
    obtain ⟨y6_5, y7_5, hO5, hk5_0, hk5_1, hk5_2, hk5_3, hk5_4, hk5_5, hk5_6, hk5_7⟩ := CI_o1 hT.1 hT.2.1
    refine hR (c_get hO5 rfl ?_)
    obtain ⟨x1_6, x2_6, x3_6, hO6, hk6_0, hk6_1, hk6_2, hk6_3, hk6_4, hk6_5, hk6_6, hk6_7⟩ := CI_o2 hT.1 hk5_0
    refine hR (c_get hO6 rfl ?_)
    obtain ⟨hTf7, hIf7, hpf7, hKf7⟩ := top_fr2 hT hT.1 fr0 (by decide) hT.2.2.1
    exact hR (zret_i rfl (Nat.le_refl _) trivial ⟨⟨_, hTf7, fun l m h => hIf7 _ _ (h), hKf7, (EXT_rf _), by omega, by omega⟩, _, rfl⟩)
  · refine hR (t_pc (pc2 := 44) (by rw [zti (e := a1) (by omega) (by omega)]; show (((1 : Nat) : Int) + Op.lookupswitch.offset [(0, 27), (1, 35)] 43 a1).toNat = 44; simp only [Op.lookupswitch.offset_cons]; (repeat' split) <;> first | omega | rfl) ?_)
    refine hR (?_ : R (_, _, _, _, _, _))
    obtain ⟨hTf8, hIf8, hpf8, hKf8⟩ := top_fr2 hT hT.1 fr0 (by decide) hT.2.2.1
    exact hR (zret_i rfl (Nat.le_refl _) trivial ⟨⟨_, hTf8, fun l m h => hIf8 _ _ (h), hKf8, (EXT_rf _), by omega, by omega⟩, _, rfl⟩)
theorem k_book {ρ : Nat → Nat} {w : zW} (hT : TOP ρ w) (d : Nat) (a1 a2 : Int) (hr0 : -2147483648 ≤ a1 ∧ a1 ≤ 2147483647) (hr1 : -2147483648 ≤ a2 ∧ a2 ≤ 2147483647) : DET zTab (d + 4) iX11_book [.ref 0, .int (Int32.ofInt a1), .int (Int32.ofInt a2)] w (PB ρ w) := by
  refine z_rel (M := kX11_book) _ rfl (Nat.le_of_ble_eq_true rfl) fun R hR0 => ?_
  have hR : ∀ {pc : Nat} {L : zL} {S : List Value} {w1 : zW} {k n : Nat}, zsc (zCl zTab (d + 3)) (d + 3) kX11_book none zTab k n (PB ρ w k n) pc L S w1 k n R → R (pc, L, S, w1, k, n) := fun h => hR0 _ _ (Nat.le_refl _) (Nat.le_refl _) h
  have fr0 := wfR_rf [] ρ w
  iterate 2 refine hR (?_ : R (_, _, _, _, _, _))
  obtain ⟨y6_4, y7_4, hO4, hk4_0, hk4_1, hk4_2, hk4_3, hk4_4, hk4_5, hk4_6, hk4_7⟩ := CI_o1 hT.1 hT.2.1
  refine hR (c_obj hO4 (zcall_i 0 0 (Nat.le_refl _) (Nat.le_refl _) (c_bookAt _ a1 hT.1 hT.2.1 (by omega) _ fun v1 hv1 hp3 => ?_)))
  cases v1 with
  | none =>
    refine (?_ : R (_, _, .null :: [], w, 0, 0))
    iterate 5 refine hR (?_ : R (_, _, _, _, _, _))
    obtain ⟨hTf6, hIf6, hpf6, hKf6⟩ := top_fr2 hT hT.1 fr0 (by decide) hT.2.2.1
    exact hR (zret_i rfl (Nat.le_refl _) trivial ⟨⟨_, hTf6, fun l m h => hIf6 _ _ (h), hKf6, (EXT_rf _), by omega, by omega⟩, _, rfl⟩)
  | some z5 =>
    have hz5 : ρ z5 = 20 := hv1 z5 rfl
    refine (?_ : R (_, _, (.ref z5) :: [], w, 0, 0))
    iterate 5 refine hR (?_ : R (_, _, _, _, _, _))
    obtain ⟨x0_9, x1_9, x2_9, hO9, hk9_0, hk9_1, hk9_2, hk9_3, hk9_4, hk9_5, hk9_6⟩ := CI_o20 hT.1 hz5
    refine hR (c_obj hO9 (zcall_i 0 0 (Nat.le_refl _) (Nat.le_refl _) (c_bookTells _ z5 a2 hT.1 hz5 (by omega) _ fun v7 => ?_)))
    refine (?_ : R (_, _, (.int (Int32.ofInt v7)) :: [], w, 0, 0))
    obtain ⟨hTf10, hIf10, hpf10, hKf10⟩ := top_fr2 hT hT.1 fr0 (by decide) hT.2.2.1
    exact hR (zret_i rfl (Nat.le_refl _) trivial ⟨⟨_, hTf10, fun l m h => hIf10 _ _ (h), hKf10, (EXT_rf _), by omega, by omega⟩, _, rfl⟩)
theorem k_word {ρ : Nat → Nat} {w : zW} (hT : TOP ρ w) (d : Nat) (a1 a2 : Int) (hr0 : -2147483648 ≤ a1 ∧ a1 ≤ 2147483647) (hr1 : -2147483648 ≤ a2 ∧ a2 ≤ 2147483647) : DET zTab (d + 4) iX11_word [.ref 0, .int (Int32.ofInt a1), .int (Int32.ofInt a2)] w (PB ρ w) := by
  refine z_rel (M := kX11_word) _ rfl (Nat.le_of_ble_eq_true rfl) fun R hR0 => ?_
  have hR : ∀ {pc : Nat} {L : zL} {S : List Value} {w1 : zW} {k n : Nat}, zsc (zCl zTab (d + 3)) (d + 3) kX11_word none zTab k n (PB ρ w k n) pc L S w1 k n R → R (pc, L, S, w1, k, n) := fun h => hR0 _ _ (Nat.le_refl _) (Nat.le_refl _) h
  have fr0 := wfR_rf [] ρ w
  refine hR (?_ : R (_, _, _, _, _, _))
  refine hR (zcall_i 0 0 (Nat.le_refl _) (Nat.le_refl _) (c_isText _ _ a1 (by omega) _ fun v1 hp3 => ?_))
  refine (?_ : R (_, _, (.int (Int32.ofInt v1)) :: [], w, 0, 0))
  refine hR (k_ne (by omega) (fun hc4 => ?_) (fun hc4 => ?_))
  rotate_left
  · skip
    refine hR (?_ : R (_, _, _, _, _, _))
    obtain ⟨hTf18, hIf18, hpf18, hKf18⟩ := top_fr2 hT hT.1 fr0 (by decide) hT.2.2.1
    exact hR (zret_i rfl (Nat.le_refl _) trivial ⟨⟨_, hTf18, fun l m h => hIf18 _ _ (h), hKf18, (EXT_rf _), by omega, by omega⟩, _, rfl⟩)
  refine hR (?_ : R (_, _, _, _, _, _))
  refine hR (zcall_i 0 0 (Nat.le_refl _) (Nat.le_refl _) (c_lengthOf _ _ a1 (by omega) _ fun v5 hp7 => ?_))
  refine (?_ : R (_, _, (.int (Int32.ofInt v5)) :: [], w, 0, 0))
  iterate 3 refine hR (?_ : R (_, _, _, _, _, _))
  refine hR (j_ne (by omega) (by omega) (fun hc8 => ?_) (fun hc8 => ?_))
  rotate_left
  · skip
    refine hR (?_ : R (_, _, _, _, _, _))
    obtain ⟨hTf17, hIf17, hpf17, hKf17⟩ := top_fr2 hT hT.1 fr0 (by decide) hT.2.2.1
    exact hR (zret_i rfl (Nat.le_refl _) trivial ⟨⟨_, hTf17, fun l m h => hIf17 _ _ (h), hKf17, (EXT_rf _), by omega, by omega⟩, _, rfl⟩)
  refine hR (?_ : R (_, _, _, _, _, _))
  refine hR (k_lt (by omega) (fun hc9 => ?_) (fun hc9 => ?_))
  · skip
    iterate 2 refine hR (?_ : R (_, _, _, _, _, _))
    obtain ⟨hTf10, hIf10, hpf10, hKf10⟩ := top_fr2 hT hT.1 fr0 (by decide) hT.2.2.1
    exact hR (zret_i rfl (Nat.le_refl _) trivial ⟨⟨_, hTf10, fun l m h => hIf10 _ _ (h), hKf10, (EXT_rf _), by omega, by omega⟩, _, rfl⟩)
  iterate 2 refine hR (?_ : R (_, _, _, _, _, _))
  refine hR (j_lt (by omega) (by omega) (fun hc11 => ?_) (fun hc11 => ?_))
  rotate_left
  · skip
    iterate 2 refine hR (?_ : R (_, _, _, _, _, _))
    obtain ⟨hTf16, hIf16, hpf16, hKf16⟩ := top_fr2 hT hT.1 fr0 (by decide) hT.2.2.1
    exact hR (zret_i rfl (Nat.le_refl _) trivial ⟨⟨_, hTf16, fun l m h => hIf16 _ _ (h), hKf16, (EXT_rf _), by omega, by omega⟩, _, rfl⟩)
  iterate 2 refine hR (?_ : R (_, _, _, _, _, _))
  refine hR (zcall_i 0 0 (Nat.le_refl _) (Nat.le_refl _) (c_wordAt _ _ a1 a2 (by omega) (by omega) _ fun v12 hp14 => ?_))
  refine (?_ : R (_, _, (.int (Int32.ofInt v12)) :: [], w, 0, 0))
  obtain ⟨hTf15, hIf15, hpf15, hKf15⟩ := top_fr2 hT hT.1 fr0 (by decide) hT.2.2.1
  exact hR (zret_i rfl (Nat.le_refl _) trivial ⟨⟨_, hTf15, fun l m h => hIf15 _ _ (h), hKf15, (EXT_rf _), by omega, by omega⟩, _, rfl⟩)
theorem k_drift {ρ : Nat → Nat} {w : zW} (hT : TOP ρ w) (d : Nat) (a1 a2 : Int) (hr0 : -2147483648 ≤ a1 ∧ a1 ≤ 2147483647) (hr1 : -2147483648 ≤ a2 ∧ a2 ≤ 2147483647) : DET zTab (d + 4) iX11_drift [.ref 0, .int (Int32.ofInt a1), .int (Int32.ofInt a2)] w (PB ρ w) := by
  refine z_rel (M := kX11_drift) _ rfl (Nat.le_of_ble_eq_true rfl) fun R hR0 => ?_
  have hR : ∀ {pc : Nat} {L : zL} {S : List Value} {w1 : zW} {k n : Nat}, zsc (zCl zTab (d + 3)) (d + 3) kX11_drift none zTab k n (PB ρ w k n) pc L S w1 k n R → R (pc, L, S, w1, k, n) := fun h => hR0 _ _ (Nat.le_refl _) (Nat.le_refl _) h
  have fr0 := wfR_rf [] ρ w
  refine hR (?_ : R (_, _, _, _, _, _))
  refine hR (zcall_i 0 0 (Nat.le_refl _) (Nat.le_refl _) (c_isText _ _ a1 (by omega) _ fun v1 hp3 => ?_))
  refine (?_ : R (_, _, (.int (Int32.ofInt v1)) :: [], w, 0, 0))
  refine hR (k_eq (by omega) (fun hc4 => ?_) (fun hc4 => ?_))
  · skip
    refine hR (?_ : R (_, _, _, _, _, _))
    obtain ⟨hTf5, hIf5, hpf5, hKf5⟩ := top_fr2 hT hT.1 fr0 (by decide) hT.2.2.1
    exact hR (zret_i rfl (Nat.le_refl _) trivial ⟨⟨_, hTf5, fun l m h => hIf5 _ _ (h), hKf5, (EXT_rf _), by omega, by omega⟩, _, rfl⟩)
  refine hR (?_ : R (_, _, _, _, _, _))
  refine hR (zcall_i 0 0 (Nat.le_refl _) (Nat.le_refl _) (c_isText _ _ a2 (by omega) _ fun v6 hp8 => ?_))
  refine (?_ : R (_, _, (.int (Int32.ofInt v6)) :: [], w, 0, 0))
  refine hR (k_eq (by omega) (fun hc9 => ?_) (fun hc9 => ?_))
  · skip
    refine hR (?_ : R (_, _, _, _, _, _))
    obtain ⟨hTf10, hIf10, hpf10, hKf10⟩ := top_fr2 hT hT.1 fr0 (by decide) hT.2.2.1
    exact hR (zret_i rfl (Nat.le_refl _) trivial ⟨⟨_, hTf10, fun l m h => hIf10 _ _ (h), hKf10, (EXT_rf _), by omega, by omega⟩, _, rfl⟩)
  iterate 2 refine hR (?_ : R (_, _, _, _, _, _))
  refine hR (zcall_i 0 0 (Nat.le_refl _) (Nat.le_refl _) (c_driftOf _ _ a1 a2 (by omega) (by omega) _ fun v11 hp13 => ?_))
  refine (?_ : R (_, _, (.int (Int32.ofInt v11)) :: [], w, 0, 0))
  refine hR (?_ : R (_, _, _, _, _, _))
  obtain ⟨hTf14, hIf14, hpf14, hKf14⟩ := top_fr2 hT hT.1 fr0 (by decide) hT.2.2.1
  exact hR (zret_i rfl (Nat.le_refl _) trivial ⟨⟨_, hTf14, fun l m h => hIf14 _ _ (h), hKf14, (EXT_rf _), by omega, by omega⟩, _, rfl⟩)
theorem k_read {ρ : Nat → Nat} {w : zW} (hT : TOP ρ w) (d : Nat) (a1 a2 a3 : Int) (hr0 : -2147483648 ≤ a1 ∧ a1 ≤ 2147483647) (hr1 : -2147483648 ≤ a2 ∧ a2 ≤ 2147483647) (hr2 : -2147483648 ≤ a3 ∧ a3 ≤ 2147483647) : DET zTab (d + 4) iX11_read [.ref 0, .int (Int32.ofInt a1), .int (Int32.ofInt a2), .int (Int32.ofInt a3)] w (PB ρ w) := by
  refine z_rel (M := kX11_read) _ rfl (Nat.le_of_ble_eq_true rfl) fun R hR0 => ?_
  have hR : ∀ {pc : Nat} {L : zL} {S : List Value} {w1 : zW} {k n : Nat}, zsc (zCl zTab (d + 3)) (d + 3) kX11_read none zTab k n (PB ρ w k n) pc L S w1 k n R → R (pc, L, S, w1, k, n) := fun h => hR0 _ _ (Nat.le_refl _) (Nat.le_refl _) h
  have fr0 := wfR_rf [] ρ w
  iterate 2 refine hR (?_ : R (_, _, _, _, _, _))
  obtain ⟨y6_4, y7_4, hO4, hk4_0, hk4_1, hk4_2, hk4_3, hk4_4, hk4_5, hk4_6, hk4_7⟩ := CI_o1 hT.1 hT.2.1
  refine hR (c_obj hO4 (zcall_i 0 0 (Nat.le_refl _) (Nat.le_refl _) (c_bookAt _ a1 hT.1 hT.2.1 (by omega) _ fun v1 hv1 hp3 => ?_)))
  cases v1 with
  | none =>
    refine (?_ : R (_, _, .null :: [], w, 0, 0))
    iterate 4 refine hR (?_ : R (_, _, _, _, _, _))
    obtain ⟨hTf6, hIf6, hpf6, hKf6⟩ := top_fr2 hT hT.1 fr0 (by decide) hT.2.2.1
    exact hR (zret_i rfl (Nat.le_refl _) trivial ⟨⟨_, hTf6, fun l m h => hIf6 _ _ (h), hKf6, (EXT_rf _), by omega, by omega⟩, _, rfl⟩)
  | some z5 =>
    have hz5 : ρ z5 = 20 := hv1 z5 rfl
    refine (?_ : R (_, _, (.ref z5) :: [], w, 0, 0))
    iterate 4 refine hR (?_ : R (_, _, _, _, _, _))
    refine hR (zcall_i 0 0 (Nat.le_refl _) (Nat.le_refl _) (c_isText _ _ a2 (by omega) _ fun v7 hp9 => ?_))
    refine (?_ : R (_, _, (.int (Int32.ofInt v7)) :: [], w, 0, 0))
    refine hR (k_eq (by omega) (fun hc10 => ?_) (fun hc10 => ?_))
    · skip
      refine hR (?_ : R (_, _, _, _, _, _))
      obtain ⟨hTf11, hIf11, hpf11, hKf11⟩ := top_fr2 hT hT.1 fr0 (by decide) hT.2.2.1
      exact hR (zret_i rfl (Nat.le_refl _) trivial ⟨⟨_, hTf11, fun l m h => hIf11 _ _ (h), hKf11, (EXT_rf _), by omega, by omega⟩, _, rfl⟩)
    iterate 2 refine hR (?_ : R (_, _, _, _, _, _))
    obtain ⟨x0_15, x1_15, x2_15, hO15, hk15_0, hk15_1, hk15_2, hk15_3, hk15_4, hk15_5, hk15_6⟩ := CI_o20 hT.1 hz5
    refine hR (c_obj hO15 (zcall_i 0 0 (Nat.le_refl _) (Nat.le_refl _) (c_hasReader _ z5 a3 hT.1 hz5 (by omega) _ fun v12 hp14 => ?_)))
    refine (?_ : R (_, _, (.int (Int32.ofInt v12)) :: [], w, 0, 0))
    refine hR (k_ne (by omega) (fun hc16 => ?_) (fun hc16 => ?_))
    rotate_left
    · skip
      refine hR (?_ : R (_, _, _, _, _, _))
      obtain ⟨hTf21, hIf21, hpf21, hKf21⟩ := top_fr2 hT hT.1 fr0 (by decide) hT.2.2.1
      exact hR (zret_i rfl (Nat.le_refl _) trivial ⟨⟨_, hTf21, fun l m h => hIf21 _ _ (h), hKf21, (EXT_rf _), by omega, by omega⟩, _, rfl⟩)
    iterate 3 refine hR (?_ : R (_, _, _, _, _, _))
    refine hR (c_obj hO15 (zcall_i 0 0 (Nat.le_refl _) (Nat.le_refl _) (c_readBy _ z5 a3 a2 hT.1 hz5 (by omega) (by omega) _ fun v17 hp19 => ?_)))
    refine (?_ : R (_, _, (.int (Int32.ofInt v17)) :: [], w, 0, 0))
    obtain ⟨hTf20, hIf20, hpf20, hKf20⟩ := top_fr2 hT hT.1 fr0 (by decide) hT.2.2.1
    exact hR (zret_i rfl (Nat.le_refl _) trivial ⟨⟨_, hTf20, fun l m h => hIf20 _ _ (h), hKf20, (EXT_rf _), by omega, by omega⟩, _, rfl⟩)
theorem k_deed {ρ : Nat → Nat} {w : zW} (hT : TOP ρ w) (d : Nat) (a1 a2 a3 : Int) (hr0 : -2147483648 ≤ a1 ∧ a1 ≤ 2147483647) (hr1 : -2147483648 ≤ a2 ∧ a2 ≤ 2147483647) (hr2 : -2147483648 ≤ a3 ∧ a3 ≤ 2147483647) : DET zTab (d + 4) iX11_deed [.ref 0, .int (Int32.ofInt a1), .int (Int32.ofInt a2), .int (Int32.ofInt a3)] w (PB ρ w) := by
  refine z_rel (M := kX11_deed) _ rfl (Nat.le_of_ble_eq_true rfl) fun R hR0 => ?_
  have hR : ∀ {pc : Nat} {L : zL} {S : List Value} {w1 : zW} {k n : Nat}, zsc (zCl zTab (d + 3)) (d + 3) kX11_deed none zTab k n (PB ρ w k n) pc L S w1 k n R → R (pc, L, S, w1, k, n) := fun h => hR0 _ _ (Nat.le_refl _) (Nat.le_refl _) h
  have fr0 := wfR_rf [] ρ w
  iterate 2 refine hR (?_ : R (_, _, _, _, _, _))
  obtain ⟨y6_4, y7_4, hO4, hk4_0, hk4_1, hk4_2, hk4_3, hk4_4, hk4_5, hk4_6, hk4_7⟩ := CI_o1 hT.1 hT.2.1
  refine hR (c_obj hO4 (zcall_i 0 0 (Nat.le_refl _) (Nat.le_refl _) (c_yearAt _ a1 hT.1 hT.2.1 (by omega) _ fun v1 hv1 hp3 => ?_)))
  cases v1 with
  | none =>
    refine (?_ : R (_, _, .null :: [], w, 0, 0))
    iterate 3 refine hR (?_ : R (_, _, _, _, _, _))
    refine hR (t_c (-2) (by decide) ?_)
    refine hR (?_ : R (_, _, _, _, _, _))
    obtain ⟨hTf6, hIf6, hpf6, hKf6⟩ := top_fr2 hT hT.1 fr0 (by decide) hT.2.2.1
    exact hR (zret_i rfl (Nat.le_refl _) trivial ⟨⟨_, hTf6, fun l m h => hIf6 _ _ (h), hKf6, (EXT_rf _), by omega, by omega⟩, _, rfl⟩)
  | some z5 =>
    have hz5 : ρ z5 = 30 := hv1 z5 rfl
    refine (?_ : R (_, _, (.ref z5) :: [], w, 0, 0))
    iterate 6 refine hR (?_ : R (_, _, _, _, _, _))
    obtain ⟨x0_9, hO9, hk9_0, hk9_1, hk9_2, hk9_3⟩ := CI_o30 hT.1 hz5
    refine hR (c_obj hO9 (zcall_i 0 0 (Nat.le_refl _) (Nat.le_refl _) (c_yearTells _ z5 a2 a3 hT.1 hz5 (by omega) (by omega) _ fun v7 => ?_)))
    refine (?_ : R (_, _, (.int (Int32.ofInt v7)) :: [], w, 0, 0))
    obtain ⟨hTf10, hIf10, hpf10, hKf10⟩ := top_fr2 hT hT.1 fr0 (by decide) hT.2.2.1
    exact hR (zret_i rfl (Nat.le_refl _) trivial ⟨⟨_, hTf10, fun l m h => hIf10 _ _ (h), hKf10, (EXT_rf _), by omega, by omega⟩, _, rfl⟩)
theorem k_stop {ρ : Nat → Nat} {w : zW} (hT : TOP ρ w) (d : Nat) (a1 a2 : Int) (hr0 : -2147483648 ≤ a1 ∧ a1 ≤ 2147483647) (hr1 : -2147483648 ≤ a2 ∧ a2 ≤ 2147483647) : DET zTab (d + 7) iX11_stop [.ref 0, .int (Int32.ofInt a1), .int (Int32.ofInt a2)] w (PB ρ w) := by
  refine z_rel (M := kX11_stop) _ rfl (Nat.le_of_ble_eq_true rfl) fun R hR0 => ?_
  have hR : ∀ {pc : Nat} {L : zL} {S : List Value} {w1 : zW} {k n : Nat}, zsc (zCl zTab (d + 6)) (d + 6) kX11_stop none zTab k n (PB ρ w k n) pc L S w1 k n R → R (pc, L, S, w1, k, n) := fun h => hR0 _ _ (Nat.le_refl _) (Nat.le_refl _) h
  have fr0 := wfR_rf [10, 11, 12] ρ w
  iterate 2 refine hR (?_ : R (_, _, _, _, _, _))
  obtain ⟨y6_4, y7_4, hO4, hk4_0, hk4_1, hk4_2, hk4_3, hk4_4, hk4_5, hk4_6, hk4_7⟩ := CI_o1 hT.1 hT.2.1
  refine hR (c_obj hO4 (zcall_i 0 0 (Nat.le_refl _) (Nat.le_refl _) (c_bookAt _ a1 hT.1 hT.2.1 (by omega) _ fun v1 hv1 hp3 => ?_)))
  cases v1 with
  | none =>
    refine (?_ : R (_, _, .null :: [], w, 0, 0))
    iterate 3 refine hR (?_ : R (_, _, _, _, _, _))
    refine hR (c_obj hO4 (zcall_i 0 0 (Nat.le_refl _) (Nat.le_refl _) (c_yearAt _ a2 hT.1 hT.2.1 (by omega) _ fun v6 hv6 hp8 => ?_)))
    cases v6 with
    | none =>
      refine (?_ : R (_, _, .null :: [], w, 0, 0))
      iterate 4 refine hR (?_ : R (_, _, _, _, _, _))
      obtain ⟨hTf10, hIf10, hpf10, hKf10⟩ := top_fr2 hT hT.1 fr0 (by decide) hT.2.2.1
      exact hR (zret_i rfl (Nat.le_refl _) trivial ⟨⟨_, hTf10, fun l m h => hIf10 _ _ (h), hKf10, (EXT_rf _), by omega, by omega⟩, _, rfl⟩)
    | some z9 =>
      have hz9 : ρ z9 = 30 := hv6 z9 rfl
      refine (?_ : R (_, _, (.ref z9) :: [], w, 0, 0))
      iterate 4 refine hR (?_ : R (_, _, _, _, _, _))
      obtain ⟨hTf11, hIf11, hpf11, hKf11⟩ := top_fr2 hT hT.1 fr0 (by decide) hT.2.2.1
      exact hR (zret_i rfl (Nat.le_refl _) trivial ⟨⟨_, hTf11, fun l m h => hIf11 _ _ (h), hKf11, (EXT_rf _), by omega, by omega⟩, _, rfl⟩)
  | some z5 =>
    have hz5 : ρ z5 = 20 := hv1 z5 rfl
    refine (?_ : R (_, _, (.ref z5) :: [], w, 0, 0))
    iterate 3 refine hR (?_ : R (_, _, _, _, _, _))
    refine hR (c_obj hO4 (zcall_i 0 0 (Nat.le_refl _) (Nat.le_refl _) (c_yearAt _ a2 hT.1 hT.2.1 (by omega) _ fun v12 hv12 hp14 => ?_)))
    cases v12 with
    | none =>
      refine (?_ : R (_, _, .null :: [], w, 0, 0))
      iterate 6 refine hR (?_ : R (_, _, _, _, _, _))
      obtain ⟨hTf16, hIf16, hpf16, hKf16⟩ := top_fr2 hT hT.1 fr0 (by decide) hT.2.2.1
      exact hR (zret_i rfl (Nat.le_refl _) trivial ⟨⟨_, hTf16, fun l m h => hIf16 _ _ (h), hKf16, (EXT_rf _), by omega, by omega⟩, _, rfl⟩)
    | some z15 =>
      have hz15 : ρ z15 = 30 := hv12 z15 rfl
      refine (?_ : R (_, _, (.ref z15) :: [], w, 0, 0))
      iterate 6 refine hR (?_ : R (_, _, _, _, _, _))
      refine hR (c_get hO4 rfl ?_)
      refine hR (?_ : R (_, _, _, _, _, _))
      obtain ⟨y0_19, x1_19, x2_19, x3_19, x4_19, hO19, hk19_0, hk19_1, hk19_2, hk19_3, hk19_4, hk19_5, hk19_6⟩ := CI_o10 hT.1 hk4_3
      refine hR (c_obj hO19 (zcall_i 0 0 (Nat.le_refl _) (Nat.le_refl _) (c_begin _ 9 z5 hT.1 hk4_3 hz5 _ fun w17 hw17 g17 hn18 => ?_)))
      have fr20 := wfR_tr fr0 g17 (by decide)
      have hO21 := (g17.2 0 (by rw [hT.2.1]; decide)).trans hO4
      refine (?_ : R (_, _, [], w17, 0, 0))
      have aw22 := AWK_fr hT.1 g17 hT.2.2.1 (by decide)
      refine hR (?_ : R (_, _, _, _, _, _))
      refine hR (c_get hO21 rfl ?_)
      iterate 2 refine hR (?_ : R (_, _, _, _, _, _))
      obtain ⟨x0_23, hO23, hk23_0, hk23_1, hk23_2, hk23_3⟩ := CI_o30 hw17 hz15
      refine hR (c_get hO23 rfl ?_)
      obtain ⟨y0_28, x1_28, x2_28, x3_28, x4_28, hO28, hk28_0, hk28_1, hk28_2, hk28_3, hk28_4, hk28_5, hk28_6⟩ := CI_o10 hw17 hk4_3
      refine hR (c_obj hO28 (zcall_i 0 0 (Nat.le_refl _) (Nat.le_refl _) (c_doFirst _ 9 z15 x0_23 hw17 hk4_3 hz15 hn18 (by omega) _ fun v24 w25 hw25 g25 hn26 hp27 => ?_)))
      have fr29 := wfR_tr fr20 g25 (by decide)
      have hO30 := (g25.2 0 (by rw [hT.2.1]; decide)).trans hO21
      have hO31 := (g25.2 z15 (by rw [hz15]; decide)).trans hO23
      refine (?_ : R (_, _, (.int (Int32.ofInt v24)) :: [], w25, 0, 0))
      have aw32 := AWK_fr hw17 g25 aw22 (by decide)
      obtain ⟨hTf33, hIf33, hpf33, hKf33⟩ := top_fr2 hT hw25 fr29 (by decide) aw32
      exact hR (zret_i rfl (Nat.le_refl _) trivial ⟨⟨_, hTf33, fun l m h => hIf33 _ _ (h), hKf33, (EXT_rf _), by omega, by omega⟩, _, rfl⟩)
theorem k_state {ρ : Nat → Nat} {w : zW} (hT : TOP ρ w) (d : Nat) (a1 a2 a3 a4 : Int) (hr0 : -2147483648 ≤ a1 ∧ a1 ≤ 2147483647) (hr1 : -2147483648 ≤ a2 ∧ a2 ≤ 2147483647) (hr2 : -2147483648 ≤ a3 ∧ a3 ≤ 2147483647) (hr3 : -2147483648 ≤ a4 ∧ a4 ≤ 2147483647) : DET zTab (d + 7) iX11_state [.ref 0, .int (Int32.ofInt a1), .int (Int32.ofInt a2), .int (Int32.ofInt a3), .int (Int32.ofInt a4)] w (PB ρ w) := by
  refine z_rel (M := kX11_state) _ rfl (Nat.le_of_ble_eq_true rfl) fun R hR0 => ?_
  have hR : ∀ {pc : Nat} {L : zL} {S : List Value} {w1 : zW} {k n : Nat}, zsc (zCl zTab (d + 6)) (d + 6) kX11_state none zTab k n (PB ρ w k n) pc L S w1 k n R → R (pc, L, S, w1, k, n) := fun h => hR0 _ _ (Nat.le_refl _) (Nat.le_refl _) h
  have fr0 := wfR_rf [10, 11, 12] ρ w
  iterate 2 refine hR (?_ : R (_, _, _, _, _, _))
  obtain ⟨y6_4, y7_4, hO4, hk4_0, hk4_1, hk4_2, hk4_3, hk4_4, hk4_5, hk4_6, hk4_7⟩ := CI_o1 hT.1 hT.2.1
  refine hR (c_obj hO4 (zcall_i 0 0 (Nat.le_refl _) (Nat.le_refl _) (c_bookAt _ a1 hT.1 hT.2.1 (by omega) _ fun v1 hv1 hp3 => ?_)))
  cases v1 with
  | none =>
    refine (?_ : R (_, _, .null :: [], w, 0, 0))
    iterate 3 refine hR (?_ : R (_, _, _, _, _, _))
    refine hR (c_obj hO4 (zcall_i 0 0 (Nat.le_refl _) (Nat.le_refl _) (c_yearAt _ a2 hT.1 hT.2.1 (by omega) _ fun v6 hv6 hp8 => ?_)))
    cases v6 with
    | none =>
      refine (?_ : R (_, _, .null :: [], w, 0, 0))
      iterate 3 refine hR (?_ : R (_, _, _, _, _, _))
      refine hR (t_c (-2) (by decide) ?_)
      obtain ⟨hTf10, hIf10, hpf10, hKf10⟩ := top_fr2 hT hT.1 fr0 (by decide) hT.2.2.1
      exact hR (zret_i rfl (Nat.le_refl _) trivial ⟨⟨_, hTf10, fun l m h => hIf10 _ _ (h), hKf10, (EXT_rf _), by omega, by omega⟩, _, rfl⟩)
    | some z9 =>
      have hz9 : ρ z9 = 30 := hv6 z9 rfl
      refine (?_ : R (_, _, (.ref z9) :: [], w, 0, 0))
      iterate 3 refine hR (?_ : R (_, _, _, _, _, _))
      refine hR (t_c (-2) (by decide) ?_)
      obtain ⟨hTf11, hIf11, hpf11, hKf11⟩ := top_fr2 hT hT.1 fr0 (by decide) hT.2.2.1
      exact hR (zret_i rfl (Nat.le_refl _) trivial ⟨⟨_, hTf11, fun l m h => hIf11 _ _ (h), hKf11, (EXT_rf _), by omega, by omega⟩, _, rfl⟩)
  | some z5 =>
    have hz5 : ρ z5 = 20 := hv1 z5 rfl
    refine (?_ : R (_, _, (.ref z5) :: [], w, 0, 0))
    iterate 3 refine hR (?_ : R (_, _, _, _, _, _))
    refine hR (c_obj hO4 (zcall_i 0 0 (Nat.le_refl _) (Nat.le_refl _) (c_yearAt _ a2 hT.1 hT.2.1 (by omega) _ fun v12 hv12 hp14 => ?_)))
    cases v12 with
    | none =>
      refine (?_ : R (_, _, .null :: [], w, 0, 0))
      iterate 5 refine hR (?_ : R (_, _, _, _, _, _))
      refine hR (t_c (-2) (by decide) ?_)
      obtain ⟨hTf16, hIf16, hpf16, hKf16⟩ := top_fr2 hT hT.1 fr0 (by decide) hT.2.2.1
      exact hR (zret_i rfl (Nat.le_refl _) trivial ⟨⟨_, hTf16, fun l m h => hIf16 _ _ (h), hKf16, (EXT_rf _), by omega, by omega⟩, _, rfl⟩)
    | some z15 =>
      have hz15 : ρ z15 = 30 := hv12 z15 rfl
      refine (?_ : R (_, _, (.ref z15) :: [], w, 0, 0))
      iterate 6 refine hR (?_ : R (_, _, _, _, _, _))
      refine hR (k_lt (by omega) (fun hc17 => ?_) (fun hc17 => ?_))
      · skip
        refine hR (t_c (-2) (by decide) ?_)
        obtain ⟨hTf18, hIf18, hpf18, hKf18⟩ := top_fr2 hT hT.1 fr0 (by decide) hT.2.2.1
        exact hR (zret_i rfl (Nat.le_refl _) trivial ⟨⟨_, hTf18, fun l m h => hIf18 _ _ (h), hKf18, (EXT_rf _), by omega, by omega⟩, _, rfl⟩)
      iterate 2 refine hR (?_ : R (_, _, _, _, _, _))
      obtain ⟨x0_19, hO19, hk19_0, hk19_1, hk19_2, hk19_3⟩ := CI_o30 hT.1 hz15
      refine hR (c_get hO19 rfl ?_)
      refine hR (j_le (by omega) (by omega) (fun hc20 => ?_) (fun hc20 => ?_))
      rotate_left
      · skip
        refine hR (t_c (-2) (by decide) ?_)
        obtain ⟨hTf43, hIf43, hpf43, hKf43⟩ := top_fr2 hT hT.1 fr0 (by decide) hT.2.2.1
        exact hR (zret_i rfl (Nat.le_refl _) trivial ⟨⟨_, hTf43, fun l m h => hIf43 _ _ (h), hKf43, (EXT_rf _), by omega, by omega⟩, _, rfl⟩)
      refine hR (?_ : R (_, _, _, _, _, _))
      refine hR (c_get hO4 rfl ?_)
      refine hR (?_ : R (_, _, _, _, _, _))
      obtain ⟨y0_23, x1_23, x2_23, x3_23, x4_23, hO23, hk23_0, hk23_1, hk23_2, hk23_3, hk23_4, hk23_5, hk23_6⟩ := CI_o10 hT.1 hk4_3
      refine hR (c_obj hO23 (zcall_i 0 0 (Nat.le_refl _) (Nat.le_refl _) (c_begin _ 9 z5 hT.1 hk4_3 hz5 _ fun w21 hw21 g21 hn22 => ?_)))
      have fr24 := wfR_tr fr0 g21 (by decide)
      have hO25 := (g21.2 0 (by rw [hT.2.1]; decide)).trans hO4
      have hO26 := (g21.2 z15 (by rw [hz15]; decide)).trans hO19
      refine (?_ : R (_, _, [], w21, 0, 0))
      have aw27 := AWK_fr hT.1 g21 hT.2.2.1 (by decide)
      refine hR (?_ : R (_, _, _, _, _, _))
      refine hR (c_get hO25 rfl ?_)
      iterate 2 refine hR (?_ : R (_, _, _, _, _, _))
      obtain ⟨y0_32, x1_32, x2_32, x3_32, x4_32, hO32, hk32_0, hk32_1, hk32_2, hk32_3, hk32_4, hk32_5, hk32_6⟩ := CI_o10 hw21 hk4_3
      refine hR (c_obj hO32 (zcall_i 0 0 (Nat.le_refl _) (Nat.le_refl _) (c_doFirst _ 9 z15 a3 hw21 hk4_3 hz15 hn22 (by omega) _ fun v28 w29 hw29 g29 hn30 hp31 => ?_)))
      have fr33 := wfR_tr fr24 g29 (by decide)
      have hO34 := (g29.2 0 (by rw [hT.2.1]; decide)).trans hO25
      have hO35 := (g29.2 z15 (by rw [hz15]; decide)).trans hO26
      refine (?_ : R (_, _, (.int (Int32.ofInt v28)) :: [], w29, 0, 0))
      have aw36 := AWK_fr hw21 g29 aw27 (by decide)
      refine hR (?_ : R (_, _, _, _, _, _))
      refine hR (j_ge (by omega) (by omega) (fun hc37 => ?_) (fun hc37 => ?_))
      rotate_left
      · skip
        refine hR (t_c (-2) (by decide) ?_)
        refine hR (?_ : R (_, _, _, _, _, _))
        obtain ⟨hTf42, hIf42, hpf42, hKf42⟩ := top_fr2 hT hw29 fr33 (by decide) aw36
        exact hR (zret_i rfl (Nat.le_refl _) trivial ⟨⟨_, hTf42, fun l m h => hIf42 _ _ (h), hKf42, (EXT_rf _), by omega, by omega⟩, _, rfl⟩)
      refine hR (?_ : R (_, _, _, _, _, _))
      refine hR (c_get hO34 rfl ?_)
      refine hR (?_ : R (_, _, _, _, _, _))
      obtain ⟨y0_40, x1_40, x2_40, x3_40, x4_40, hO40, hk40_0, hk40_1, hk40_2, hk40_3, hk40_4, hk40_5, hk40_6⟩ := CI_o10 hw29 hk4_3
      refine hR (c_obj hO40 (zcall_i 0 0 (Nat.le_refl _) (Nat.le_refl _) (c_courseTells _ 9 a4 hw29 hk4_3 hn30 (by omega) _ fun v38 => ?_)))
      refine (?_ : R (_, _, (.int (Int32.ofInt v38)) :: [], w29, 0, 0))
      obtain ⟨hTf41, hIf41, hpf41, hKf41⟩ := top_fr2 hT hw29 fr33 (by decide) aw36
      exact hR (zret_i rfl (Nat.le_refl _) trivial ⟨⟨_, hTf41, fun l m h => hIf41 _ _ (h), hKf41, (EXT_rf _), by omega, by omega⟩, _, rfl⟩)
theorem k_fact {ρ : Nat → Nat} {w : zW} (hT : TOP ρ w) (d : Nat) (a1 a2 a3 : Int) (hr0 : -2147483648 ≤ a1 ∧ a1 ≤ 2147483647) (hr1 : -2147483648 ≤ a2 ∧ a2 ≤ 2147483647) (hr2 : -2147483648 ≤ a3 ∧ a3 ≤ 2147483647) : DET zTab (d + 4) iX11_fact [.ref 0, .int (Int32.ofInt a1), .int (Int32.ofInt a2), .int (Int32.ofInt a3)] w (PB ρ w) := by
  refine z_rel (M := kX11_fact) _ rfl (Nat.le_of_ble_eq_true rfl) fun R hR0 => ?_
  have hR : ∀ {pc : Nat} {L : zL} {S : List Value} {w1 : zW} {k n : Nat}, zsc (zCl zTab (d + 3)) (d + 3) kX11_fact none zTab k n (PB ρ w k n) pc L S w1 k n R → R (pc, L, S, w1, k, n) := fun h => hR0 _ _ (Nat.le_refl _) (Nat.le_refl _) h
  have fr0 := wfR_rf [] ρ w
  iterate 2 refine hR (?_ : R (_, _, _, _, _, _))
  obtain ⟨y6_4, y7_4, hO4, hk4_0, hk4_1, hk4_2, hk4_3, hk4_4, hk4_5, hk4_6, hk4_7⟩ := CI_o1 hT.1 hT.2.1
  refine hR (c_obj hO4 (zcall_i 0 0 (Nat.le_refl _) (Nat.le_refl _) (c_sightAt _ a1 hT.1 hT.2.1 (by omega) _ fun v1 hv1 hp3 => ?_)))
  cases v1 with
  | none =>
    refine (?_ : R (_, _, .null :: [], w, 0, 0))
    iterate 3 refine hR (?_ : R (_, _, _, _, _, _))
    refine hR (t_c (-2) (by decide) ?_)
    refine hR (?_ : R (_, _, _, _, _, _))
    obtain ⟨hTf6, hIf6, hpf6, hKf6⟩ := top_fr2 hT hT.1 fr0 (by decide) hT.2.2.1
    exact hR (zret_i rfl (Nat.le_refl _) trivial ⟨⟨_, hTf6, fun l m h => hIf6 _ _ (h), hKf6, (EXT_rf _), by omega, by omega⟩, _, rfl⟩)
  | some z5 =>
    have hz5 : ρ z5 = 40 := hv1 z5 rfl
    refine (?_ : R (_, _, (.ref z5) :: [], w, 0, 0))
    iterate 6 refine hR (?_ : R (_, _, _, _, _, _))
    obtain ⟨x0_9, hO9, hk9_0, hk9_1, hk9_2⟩ := CI_o40 hT.1 hz5
    refine hR (c_obj hO9 (zcall_i 0 0 (Nat.le_refl _) (Nat.le_refl _) (c_sightTells _ z5 a2 a3 hT.1 hz5 (by omega) (by omega) _ fun v7 => ?_)))
    refine (?_ : R (_, _, (.int (Int32.ofInt v7)) :: [], w, 0, 0))
    obtain ⟨hTf10, hIf10, hpf10, hKf10⟩ := top_fr2 hT hT.1 fr0 (by decide) hT.2.2.1
    exact hR (zret_i rfl (Nat.le_refl _) trivial ⟨⟨_, hTf10, fun l m h => hIf10 _ _ (h), hKf10, (EXT_rf _), by omega, by omega⟩, _, rfl⟩)
theorem k_drawn {ρ : Nat → Nat} {w : zW} (hT : TOP ρ w) (d : Nat) (a1 a2 a3 a4 : Int) (hr0 : -2147483648 ≤ a1 ∧ a1 ≤ 2147483647) (hr1 : -2147483648 ≤ a2 ∧ a2 ≤ 2147483647) (hr2 : -2147483648 ≤ a3 ∧ a3 ≤ 2147483647) (hr3 : -2147483648 ≤ a4 ∧ a4 ≤ 2147483647) : DET zTab (d + 7) iX11_drawn [.ref 0, .int (Int32.ofInt a1), .int (Int32.ofInt a2), .int (Int32.ofInt a3), .int (Int32.ofInt a4)] w (PB ρ w) := by
  refine z_rel (M := kX11_drawn) _ rfl (Nat.le_of_ble_eq_true rfl) fun R hR0 => ?_
  have hR : ∀ {pc : Nat} {L : zL} {S : List Value} {w1 : zW} {k n : Nat}, zsc (zCl zTab (d + 6)) (d + 6) kX11_drawn none zTab k n (PB ρ w k n) pc L S w1 k n R → R (pc, L, S, w1, k, n) := fun h => hR0 _ _ (Nat.le_refl _) (Nat.le_refl _) h
  have fr0 := wfR_rf [10, 11, 12] ρ w
  iterate 2 refine hR (?_ : R (_, _, _, _, _, _))
  obtain ⟨y6_4, y7_4, hO4, hk4_0, hk4_1, hk4_2, hk4_3, hk4_4, hk4_5, hk4_6, hk4_7⟩ := CI_o1 hT.1 hT.2.1
  refine hR (c_obj hO4 (zcall_i 0 0 (Nat.le_refl _) (Nat.le_refl _) (c_bookAt _ a1 hT.1 hT.2.1 (by omega) _ fun v1 hv1 hp3 => ?_)))
  cases v1 with
  | none =>
    refine (?_ : R (_, _, .null :: [], w, 0, 0))
    iterate 3 refine hR (?_ : R (_, _, _, _, _, _))
    refine hR (t_c (-2) (by decide) ?_)
    obtain ⟨hTf6, hIf6, hpf6, hKf6⟩ := top_fr2 hT hT.1 fr0 (by decide) hT.2.2.1
    exact hR (zret_i rfl (Nat.le_refl _) trivial ⟨⟨_, hTf6, fun l m h => hIf6 _ _ (h), hKf6, (EXT_rf _), by omega, by omega⟩, _, rfl⟩)
  | some z5 =>
    have hz5 : ρ z5 = 20 := hv1 z5 rfl
    refine (?_ : R (_, _, (.ref z5) :: [], w, 0, 0))
    iterate 4 refine hR (?_ : R (_, _, _, _, _, _))
    refine hR (k_lt (by omega) (fun hc7 => ?_) (fun hc7 => ?_))
    · skip
      refine hR (t_c (-2) (by decide) ?_)
      obtain ⟨hTf8, hIf8, hpf8, hKf8⟩ := top_fr2 hT hT.1 fr0 (by decide) hT.2.2.1
      exact hR (zret_i rfl (Nat.le_refl _) trivial ⟨⟨_, hTf8, fun l m h => hIf8 _ _ (h), hKf8, (EXT_rf _), by omega, by omega⟩, _, rfl⟩)
    refine hR (?_ : R (_, _, _, _, _, _))
    refine hR (t_c 60 (by decide) ?_)
    refine hR (j_le (by omega) (by omega) (fun hc9 => ?_) (fun hc9 => ?_))
    rotate_left
    · skip
      refine hR (t_c (-2) (by decide) ?_)
      obtain ⟨hTf26, hIf26, hpf26, hKf26⟩ := top_fr2 hT hT.1 fr0 (by decide) hT.2.2.1
      exact hR (zret_i rfl (Nat.le_refl _) trivial ⟨⟨_, hTf26, fun l m h => hIf26 _ _ (h), hKf26, (EXT_rf _), by omega, by omega⟩, _, rfl⟩)
    refine hR (?_ : R (_, _, _, _, _, _))
    refine hR (c_get hO4 rfl ?_)
    refine hR (?_ : R (_, _, _, _, _, _))
    obtain ⟨y0_12, x1_12, x2_12, x3_12, x4_12, hO12, hk12_0, hk12_1, hk12_2, hk12_3, hk12_4, hk12_5, hk12_6⟩ := CI_o10 hT.1 hk4_3
    refine hR (c_obj hO12 (zcall_i 0 0 (Nat.le_refl _) (Nat.le_refl _) (c_begin _ 9 z5 hT.1 hk4_3 hz5 _ fun w10 hw10 g10 hn11 => ?_)))
    have fr13 := wfR_tr fr0 g10 (by decide)
    have hO14 := (g10.2 0 (by rw [hT.2.1]; decide)).trans hO4
    refine (?_ : R (_, _, [], w10, 0, 0))
    have aw15 := AWK_fr hT.1 g10 hT.2.2.1 (by decide)
    refine hR (?_ : R (_, _, _, _, _, _))
    refine hR (c_get hO14 rfl ?_)
    iterate 2 refine hR (?_ : R (_, _, _, _, _, _))
    obtain ⟨y0_18, x1_18, x2_18, x3_18, x4_18, hO18, hk18_0, hk18_1, hk18_2, hk18_3, hk18_4, hk18_5, hk18_6⟩ := CI_o10 hw10 hk4_3
    refine hR (c_obj hO18 (zcall_i 0 0 (Nat.le_refl _) (Nat.le_refl _) (c_draw _ 9 a2 a3 hw10 hk4_3 hn11 (by omega) (by omega) _ fun w16 hw16 g16 hn17 => ?_)))
    have fr19 := wfR_tr fr13 g16 (by decide)
    have hO20 := (g16.2 0 (by rw [hT.2.1]; decide)).trans hO14
    refine (?_ : R (_, _, [], w16, 0, 0))
    have aw21 := AWK_fr hw10 g16 aw15 (by decide)
    refine hR (?_ : R (_, _, _, _, _, _))
    refine hR (c_get hO20 rfl ?_)
    refine hR (?_ : R (_, _, _, _, _, _))
    obtain ⟨y0_24, x1_24, x2_24, x3_24, x4_24, hO24, hk24_0, hk24_1, hk24_2, hk24_3, hk24_4, hk24_5, hk24_6⟩ := CI_o10 hw16 hk4_3
    refine hR (c_obj hO24 (zcall_i 0 0 (Nat.le_refl _) (Nat.le_refl _) (c_courseTells _ 9 a4 hw16 hk4_3 hn17 (by omega) _ fun v22 => ?_)))
    refine (?_ : R (_, _, (.int (Int32.ofInt v22)) :: [], w16, 0, 0))
    obtain ⟨hTf25, hIf25, hpf25, hKf25⟩ := top_fr2 hT hw16 fr19 (by decide) aw21
    exact hR (zret_i rfl (Nat.le_refl _) trivial ⟨⟨_, hTf25, fun l m h => hIf25 _ _ (h), hKf25, (EXT_rf _), by omega, by omega⟩, _, rfl⟩)
theorem k_kinship {ρ : Nat → Nat} {w : zW} (hT : TOP ρ w) (d : Nat) (a1 a2 a3 : Int) (hr0 : -2147483648 ≤ a1 ∧ a1 ≤ 2147483647) (hr1 : -2147483648 ≤ a2 ∧ a2 ≤ 2147483647) (hr2 : -2147483648 ≤ a3 ∧ a3 ≤ 2147483647) : DET zTab (d + 4) iX11_kinship [.ref 0, .int (Int32.ofInt a1), .int (Int32.ofInt a2), .int (Int32.ofInt a3)] w (PB ρ w) := by
  refine z_rel (M := kX11_kinship) _ rfl (Nat.le_of_ble_eq_true rfl) fun R hR0 => ?_
  have hR : ∀ {pc : Nat} {L : zL} {S : List Value} {w1 : zW} {k n : Nat}, zsc (zCl zTab (d + 3)) (d + 3) kX11_kinship none zTab k n (PB ρ w k n) pc L S w1 k n R → R (pc, L, S, w1, k, n) := fun h => hR0 _ _ (Nat.le_refl _) (Nat.le_refl _) h
  have fr0 := wfR_rf [] ρ w
  iterate 2 refine hR (?_ : R (_, _, _, _, _, _))
  obtain ⟨y6_4, y7_4, hO4, hk4_0, hk4_1, hk4_2, hk4_3, hk4_4, hk4_5, hk4_6, hk4_7⟩ := CI_o1 hT.1 hT.2.1
  refine hR (c_obj hO4 (zcall_i 0 0 (Nat.le_refl _) (Nat.le_refl _) (c_bookAt _ a1 hT.1 hT.2.1 (by omega) _ fun v1 hv1 hp3 => ?_)))
  cases v1 with
  | none =>
    refine (?_ : R (_, _, .null :: [], w, 0, 0))
    iterate 4 refine hR (?_ : R (_, _, _, _, _, _))
    obtain ⟨hTf6, hIf6, hpf6, hKf6⟩ := top_fr2 hT hT.1 fr0 (by decide) hT.2.2.1
    exact hR (zret_i rfl (Nat.le_refl _) trivial ⟨⟨_, hTf6, fun l m h => hIf6 _ _ (h), hKf6, (EXT_rf _), by omega, by omega⟩, _, rfl⟩)
  | some z5 =>
    have hz5 : ρ z5 = 20 := hv1 z5 rfl
    refine (?_ : R (_, _, (.ref z5) :: [], w, 0, 0))
    iterate 4 refine hR (?_ : R (_, _, _, _, _, _))
    refine hR (zcall_i 0 0 (Nat.le_refl _) (Nat.le_refl _) (c_isWord _ _ a2 (by omega) _ fun v7 hp9 => ?_))
    refine (?_ : R (_, _, (.int (Int32.ofInt v7)) :: [], w, 0, 0))
    refine hR (k_ne (by omega) (fun hc10 => ?_) (fun hc10 => ?_))
    rotate_left
    · skip
      refine hR (?_ : R (_, _, _, _, _, _))
      obtain ⟨hTf20, hIf20, hpf20, hKf20⟩ := top_fr2 hT hT.1 fr0 (by decide) hT.2.2.1
      exact hR (zret_i rfl (Nat.le_refl _) trivial ⟨⟨_, hTf20, fun l m h => hIf20 _ _ (h), hKf20, (EXT_rf _), by omega, by omega⟩, _, rfl⟩)
    refine hR (?_ : R (_, _, _, _, _, _))
    refine hR (k_eq (by omega) (fun hc11 => ?_) (fun hc11 => ?_))
    · skip
      iterate 2 refine hR (?_ : R (_, _, _, _, _, _))
      obtain ⟨x0_14, x1_14, x2_14, hO14, hk14_0, hk14_1, hk14_2, hk14_3, hk14_4, hk14_5, hk14_6⟩ := CI_o20 hT.1 hz5
      refine hR (c_obj hO14 (zcall_i 0 0 (Nat.le_refl _) (Nat.le_refl _) (c_kinUntilRing _ z5 a2 hT.1 hz5 (by omega) _ fun v12 => ?_)))
      refine (?_ : R (_, _, (.int (Int32.ofInt v12)) :: [], w, 0, 0))
      obtain ⟨hTf15, hIf15, hpf15, hKf15⟩ := top_fr2 hT hT.1 fr0 (by decide) hT.2.2.1
      exact hR (zret_i rfl (Nat.le_refl _) trivial ⟨⟨_, hTf15, fun l m h => hIf15 _ _ (h), hKf15, (EXT_rf _), by omega, by omega⟩, _, rfl⟩)
    iterate 2 refine hR (?_ : R (_, _, _, _, _, _))
    obtain ⟨x0_18, x1_18, x2_18, hO18, hk18_0, hk18_1, hk18_2, hk18_3, hk18_4, hk18_5, hk18_6⟩ := CI_o20 hT.1 hz5
    refine hR (c_obj hO18 (zcall_i 0 0 (Nat.le_refl _) (Nat.le_refl _) (c_kinRing _ z5 a2 hT.1 hz5 (by omega) _ fun v16 => ?_)))
    refine (?_ : R (_, _, (.int (Int32.ofInt v16)) :: [], w, 0, 0))
    refine hR (?_ : R (_, _, _, _, _, _))
    obtain ⟨hTf19, hIf19, hpf19, hKf19⟩ := top_fr2 hT hT.1 fr0 (by decide) hT.2.2.1
    exact hR (zret_i rfl (Nat.le_refl _) trivial ⟨⟨_, hTf19, fun l m h => hIf19 _ _ (h), hKf19, (EXT_rf _), by omega, by omega⟩, _, rfl⟩)
theorem k_shared {ρ : Nat → Nat} {w : zW} (hT : TOP ρ w) (d : Nat) (a1 a2 a3 : Int) (hr0 : -2147483648 ≤ a1 ∧ a1 ≤ 2147483647) (hr1 : -2147483648 ≤ a2 ∧ a2 ≤ 2147483647) (hr2 : -2147483648 ≤ a3 ∧ a3 ≤ 2147483647) : DET zTab (d + 6) iX11_shared [.ref 0, .int (Int32.ofInt a1), .int (Int32.ofInt a2), .int (Int32.ofInt a3)] w (PB ρ w) := by
  refine z_rel (M := kX11_shared) _ rfl (Nat.le_of_ble_eq_true rfl) fun R hR0 => ?_
  have hR : ∀ {pc : Nat} {L : zL} {S : List Value} {w1 : zW} {k n : Nat}, zsc (zCl zTab (d + 5)) (d + 5) kX11_shared none zTab k n (PB ρ w k n) pc L S w1 k n R → R (pc, L, S, w1, k, n) := fun h => hR0 _ _ (Nat.le_refl _) (Nat.le_refl _) h
  have fr0 := wfR_rf [] ρ w
  refine hR (?_ : R (_, _, _, _, _, _))
  refine hR (zcall_i 0 0 (Nat.le_refl _) (Nat.le_refl _) (c_isText _ _ a1 (by omega) _ fun v1 hp3 => ?_))
  refine (?_ : R (_, _, (.int (Int32.ofInt v1)) :: [], w, 0, 0))
  refine hR (k_eq (by omega) (fun hc4 => ?_) (fun hc4 => ?_))
  · skip
    refine hR (?_ : R (_, _, _, _, _, _))
    obtain ⟨hTf5, hIf5, hpf5, hKf5⟩ := top_fr2 hT hT.1 fr0 (by decide) hT.2.2.1
    exact hR (zret_i rfl (Nat.le_refl _) trivial ⟨⟨_, hTf5, fun l m h => hIf5 _ _ (h), hKf5, (EXT_rf _), by omega, by omega⟩, _, rfl⟩)
  refine hR (?_ : R (_, _, _, _, _, _))
  refine hR (zcall_i 0 0 (Nat.le_refl _) (Nat.le_refl _) (c_isText _ _ a2 (by omega) _ fun v6 hp8 => ?_))
  refine (?_ : R (_, _, (.int (Int32.ofInt v6)) :: [], w, 0, 0))
  refine hR (k_ne (by omega) (fun hc9 => ?_) (fun hc9 => ?_))
  rotate_left
  · skip
    refine hR (?_ : R (_, _, _, _, _, _))
    obtain ⟨hTf19, hIf19, hpf19, hKf19⟩ := top_fr2 hT hT.1 fr0 (by decide) hT.2.2.1
    exact hR (zret_i rfl (Nat.le_refl _) trivial ⟨⟨_, hTf19, fun l m h => hIf19 _ _ (h), hKf19, (EXT_rf _), by omega, by omega⟩, _, rfl⟩)
  iterate 2 refine hR (?_ : R (_, _, _, _, _, _))
  refine hR (zcall_i 0 0 (Nat.le_refl _) (Nat.le_refl _) (c_mostShared _ _ a1 a2 (by omega) (by omega) _ fun v10 hp12 => ?_))
  refine (?_ : R (_, _, (.int (Int32.ofInt v10)) :: [], w, 0, 0))
  iterate 2 refine hR (?_ : R (_, _, _, _, _, _))
  refine hR (k_eq (by omega) (fun hc13 => ?_) (fun hc13 => ?_))
  rotate_left
  · skip
    iterate 2 refine hR (?_ : R (_, _, _, _, _, _))
    obtain ⟨hTf18, hIf18, hpf18, hKf18⟩ := top_fr2 hT hT.1 fr0 (by decide) hT.2.2.1
    exact hR (zret_i rfl (Nat.le_refl _) trivial ⟨⟨_, hTf18, fun l m h => hIf18 _ _ (h), hKf18, (EXT_rf _), by omega, by omega⟩, _, rfl⟩)
  refine hR (?_ : R (_, _, _, _, _, _))
  refine hR (zcall_i 0 0 (Nat.le_refl _) (Nat.le_refl _) (c_lengthOf _ _ v10 (by omega) _ fun v14 hp16 => ?_))
  refine (?_ : R (_, _, (.int (Int32.ofInt v14)) :: [], w, 0, 0))
  obtain ⟨hTf17, hIf17, hpf17, hKf17⟩ := top_fr2 hT hT.1 fr0 (by decide) hT.2.2.1
  exact hR (zret_i rfl (Nat.le_refl _) trivial ⟨⟨_, hTf17, fun l m h => hIf17 _ _ (h), hKf17, (EXT_rf _), by omega, by omega⟩, _, rfl⟩)
theorem k_count {ρ : Nat → Nat} {w : zW} (hT : TOP ρ w) (d : Nat) (a1 : Int) (hr0 : -2147483648 ≤ a1 ∧ a1 ≤ 2147483647) : DET zTab (d + 4) iX11_count [.ref 0, .int (Int32.ofInt a1)] w (PB ρ w) := by
  refine z_rel (M := kX11_count) _ rfl (Nat.le_of_ble_eq_true rfl) fun R hR0 => ?_
  have hR : ∀ {pc : Nat} {L : zL} {S : List Value} {w1 : zW} {k n : Nat}, zsc (zCl zTab (d + 3)) (d + 3) kX11_count none zTab k n (PB ρ w k n) pc L S w1 k n R → R (pc, L, S, w1, k, n) := fun h => hR0 _ _ (Nat.le_refl _) (Nat.le_refl _) h
  have fr0 := wfR_rf [] ρ w
  refine hR (?_ : R (_, _, _, _, _, _))
  refine hR (k_lt (by omega) (fun hc1 => ?_) (fun hc1 => ?_))
  · skip
    refine hR (t_c (-2) (by decide) ?_)
    refine hR (?_ : R (_, _, _, _, _, _))
    obtain ⟨hTf2, hIf2, hpf2, hKf2⟩ := top_fr2 hT hT.1 fr0 (by decide) hT.2.2.1
    exact hR (zret_i rfl (Nat.le_refl _) trivial ⟨⟨_, hTf2, fun l m h => hIf2 _ _ (h), hKf2, (EXT_rf _), by omega, by omega⟩, _, rfl⟩)
  iterate 2 refine hR (?_ : R (_, _, _, _, _, _))
  refine hR (j_lt (by omega) (by omega) (fun hc3 => ?_) (fun hc3 => ?_))
  rotate_left
  · skip
    refine hR (t_c (-2) (by decide) ?_)
    refine hR (?_ : R (_, _, _, _, _, _))
    obtain ⟨hTf8, hIf8, hpf8, hKf8⟩ := top_fr2 hT hT.1 fr0 (by decide) hT.2.2.1
    exact hR (zret_i rfl (Nat.le_refl _) trivial ⟨⟨_, hTf8, fun l m h => hIf8 _ _ (h), hKf8, (EXT_rf _), by omega, by omega⟩, _, rfl⟩)
  refine hR (?_ : R (_, _, _, _, _, _))
  obtain ⟨y6_4, y7_4, hO4, hk4_0, hk4_1, hk4_2, hk4_3, hk4_4, hk4_5, hk4_6, hk4_7⟩ := CI_o1 hT.1 hT.2.1
  refine hR (c_get hO4 rfl ?_)
  obtain ⟨x1_5, x2_5, x3_5, hO5, hk5_0, hk5_1, hk5_2, hk5_3, hk5_4, hk5_5, hk5_6, hk5_7⟩ := CI_o2 hT.1 hk4_0
  refine hR (c_get hO5 rfl ?_)
  refine hR (?_ : R (_, _, _, _, _, _))
  refine hR (c_ald hT.1 (by rw [hk5_4]; rfl) (by omega) (by omega) (Nat.le_of_ble_eq_true rfl) fun v6 lv6 uv6 => ?_)
  obtain ⟨hTf7, hIf7, hpf7, hKf7⟩ := top_fr2 hT hT.1 fr0 (by decide) hT.2.2.1
  exact hR (zret_i rfl (Nat.le_refl _) trivial ⟨⟨_, hTf7, fun l m h => hIf7 _ _ (h), hKf7, (EXT_rf _), by omega, by omega⟩, _, rfl⟩)
/-! WHAT IS TOLD: copies of it, bytes for the tape. -/
section CP
variable {R : zS → Prop} {np : Nat} {L : zL} {S : List Value} {w : zW} {k n : Nat} {ρ : Nat → Nat}
theorem c_cpy {q0 q1 ti len : Nat} {lo hi mi : Int} (hw : CI ρ w) (h0 : rAr (ρ q0) = some (ti, len, lo, hi)) (h1 : rAr (ρ q1) = some (ti, len, lo, hi)) (hm : ρ q1 ≠ 23 ∧ ρ q1 ≠ 24) (hti : Nat.ble ti 1 = true) (hmi : mi = len) (hn : len ≤ 60000) (hfit : ∀ v : Int32, lo ≤ v.toInt → v.toInt ≤ hi → fits (zaty ti) (.int v) = true) (hk : ∀ w1, CI ρ w1 → wfr q1 w w1 → R (np, L, S, w1, k, n)) : zai w q0 fun t0 n0 f => zai w q1 fun t1 n1 g => zif (Nat.beq t0 t1 && Nat.ble t0 1) (((¬ Int32.ofInt 0 < 0 ∧ ¬ Int32.ofInt 0 < 0 ∧ ¬ Int32.ofInt mi < 0) ∧ ((Int32.ofInt 0).toNatClampNeg + (Int32.ofInt mi).toNatClampNeg ≤ n0 ∧ (Int32.ofInt 0).toNatClampNeg + (Int32.ofInt mi).toNatClampNeg ≤ n1) ∧ ∀ j, j < (Int32.ofInt mi).toNatClampNeg → fits (zaty t0) (.int (f ((Int32.ofInt 0).toNatClampNeg + j))) = true) ∧ R (np, L, S, zst w q1 (.inl (t1, n1, .inl (va_cpy f g (Int32.ofInt 0).toNatClampNeg (Int32.ofInt 0).toNatClampNeg (Int32.ofInt mi).toNatClampNeg))), k, n)) := by
  subst hmi
  obtain ⟨f, f1, f2⟩ := CI_ar hw h0
  obtain ⟨g, g1, g2⟩ := CI_ar hw h1
  unfold zai
  rw [f1, g1]
  dsimp only
  rw [show Nat.beq ti ti = true from Nat.beq_refl ti, hti]
  have e0 : (Int32.ofInt 0).toNatClampNeg = 0 := by decide
  have em : (Int32.ofInt (len : Int)).toNatClampNeg = len := by rw [zcl (by omega) (by omega)]; omega
  have hlt : ¬ Int32.ofInt (len : Int) < 0 := by
    rw [Int32.lt_iff_toInt_lt, zti (by omega) (by omega)]
    show ¬ (len : Int) < 0
    omega
  show _ ∧ _
  rw [e0, em]
  refine ⟨⟨⟨by decide, by decide, hlt⟩, ⟨by omega, by omega⟩, fun j _ => hfit _ (f2 _).1 (f2 _).2⟩, ?_⟩
  obtain ⟨a, b⟩ := wfr_st (c' := .inl (ti, len, .inl (va_cpy f g 0 0 len))) g1
  refine hk _ (CI_st hw a b ?_ hm) a
  unfold rOK
  rw [h1]
  refine ⟨_, rfl, fun j => ?_⟩
  by_cases e : j < len
  · rw [pk_cpy_in (by omega) (by omega)]
    exact f2 _
  · rw [pk_cpy_out (by omega)]
    exact g2 _
theorem c_rso {q ti len re : Nat} {i : Int} {o : Option Nat} (hw : CI ρ w) (ha : rAr (ρ q) = none) (hr : rRf (ρ q) = some (ti, len, re)) (ht : (Nat.ble 3 ti && Nat.ble ti 8) = true) (hm : ρ q ≠ 23 ∧ ρ q ≠ 24) (ho : ∀ x, o = some x → ρ x = re ∧ ∃ fs, zix w x = some (.inr (zec ti, fs))) (h0 : 0 ≤ i) (h1 : i < len) (hl : len ≤ 60000) (hk : ∀ w1, CI ρ w1 → wfr q w w1 → R (np, L, S, w1, k, n)) : zaq w q (fun ti len g => zif (Nat.ble 3 ti && Nat.ble ti 8) (zrn2 (va_rf o) (fun q2 => zob w q2 (zec ti) fun _ => vp_in (Int32.ofInt i) len ∧ R (np, L, S, zst w q (.inl (ti, len, .inr (.inr (.inr (.inr (va_up g (Int32.ofInt i).toNatClampNeg (some q2))))))), k, n)) (vp_in (Int32.ofInt i) len ∧ R (np, L, S, zst w q (.inl (ti, len, .inr (.inr (.inr (.inr (va_up g (Int32.ofInt i).toNatClampNeg none)))))), k, n)))) := by
  obtain ⟨g, hg, -⟩ := CI_rf hw ha hr
  cases o with
  | none => exact c_rsn hw ha hr ht hm hg h0 h1 hl fun w1 a b _ => hk w1 a b
  | some x =>
    obtain ⟨hx, fs, hO⟩ := ho x rfl
    exact c_rst hw ha hr ht hm hg hx hO h0 h1 hl fun w1 a b _ => hk w1 a b
theorem c_bst3 {q len : Nat} {i : Int} {x : Int32} (hw : CI ρ w) (hr : rAr (ρ q) = some (0, len, -128, 127)) (hm : ρ q ≠ 23 ∧ ρ q ≠ 24) (h0 : 0 ≤ i) (h1 : i < len) (hl : len ≤ 60000) (hk : ∀ w1, CI ρ w1 → wfr q w w1 → R (np, L, S, w1, k, n)) : zai w q (fun ti len g => zor (Nat.beq ti 0) (vp_in (Int32.ofInt i) len ∧ R (np, L, S, zst w q (.inl (ti, len, .inl (upd g (Int32.ofInt i).toNatClampNeg (vp_nar .byte x)))), k, n)) (zif (Nat.beq ti 2) (vp_in (Int32.ofInt i) len ∧ R (np, L, S, zst w q (.inl (ti, len, .inl (upd g (Int32.ofInt i).toNatClampNeg (vp_nar .boolean x)))), k, n)))) := by
  obtain ⟨g, h2, h3⟩ := CI_ar hw hr
  unfold zai
  rw [h2]
  refine ⟨zvin h0 h1 hl, ?_⟩
  obtain ⟨f1, f2⟩ := wfr_st (c' := .inl (0, len, .inl (upd g (Int32.ofInt i).toNatClampNeg (vp_nar .byte x)))) h2
  refine hk _ (CI_st hw f1 f2 ?_ hm) f1
  unfold rOK
  rw [hr]
  refine ⟨_, rfl, fun j => ?_⟩
  by_cases e : j = (Int32.ofInt i).toNatClampNeg
  · subst e
    rw [pk_us, vp_nar_byte, Int8.toInt_toInt32]
    have a := Int8.le_toInt x.toInt8
    have b := Int8.toInt_lt x.toInt8
    omega
  · rw [pk_un e]
    exact h3 j
end CP
theorem fit_b (v : Int32) (h1 : -128 ≤ v.toInt) (h2 : v.toInt ≤ 127) : fits (zaty 0) (.int v) = true := by
  show (decide (-128 ≤ v) && decide (v ≤ 127)) = true
  rw [Bool.and_eq_true, decide_eq_true_eq, decide_eq_true_eq, Int32.le_iff_toInt_le, Int32.le_iff_toInt_le]
  exact ⟨h1, h2⟩
theorem blk {ρ : Nat → Nat} {w : zW} {p o : Nat} (hw : CI ρ w) (hp : ρ p = 2) (ho : ρ o = 2) (hne : p ≠ o) : ∀ j, j ≤ 5 → (o + j < p ∨ p + 5 < o + j) := by
  intro j hj
  obtain ⟨a1, a2, a3, -, b1, -, -, -, b2, b3, b4, b5⟩ := CI_o2 hw hp
  obtain ⟨c1, c2, c3, -, d1, -, -, -, d2, d3, d4, d5⟩ := CI_o2 hw ho
  rcases Nat.lt_or_ge (o + j) p with h | h
  · exact Or.inl h
  · rcases Nat.lt_or_ge (p + 5) (o + j) with h2 | h2
    · exact Or.inr h2
    · exfalso
      obtain ⟨i, hi⟩ : ∃ i, o + j = p + i := ⟨o + j - p, by omega⟩
      have e1 : ρ (p + i) = 2 + i := by
        have : i = 0 ∨ i = 1 ∨ i = 2 ∨ i = 3 ∨ i = 4 ∨ i = 5 := by omega
        rcases this with rfl | rfl | rfl | rfl | rfl | rfl <;> assumption
      have e2 : ρ (o + j) = 2 + j := by
        have : j = 0 ∨ j = 1 ∨ j = 2 ∨ j = 3 ∨ j = 4 ∨ j = 5 := by omega
        rcases this with rfl | rfl | rfl | rfl | rfl | rfl <;> assumption
      rw [hi, e1] at e2
      omega
noncomputable def FRP (p : Nat) (w w' : zW) : Prop := w'.length = w.length ∧ ∀ q, (q < p ∨ p + 5 < q) → zix w' q = zix w q
theorem FRP_st {p q0 : Nat} {w w1 w2 : zW} (h : FRP p w w1) (f : wfr q0 w1 w2) (hq : p ≤ q0 ∧ q0 ≤ p + 5) : FRP p w w2 := ⟨f.1.trans h.1, fun q hh => (f.2 q (by omega)).trans (h.2 q hh)⟩
theorem c_becomes {ρ : Nat → Nat} {w : zW} (d p o : Nat) (l : Int) (hw : CI ρ w) (hp : ρ p = 2) (ho : ρ o = 2) (hne : p ≠ o) (hl : LE w o l) (Q : zQ) (h : ∀ w', CI ρ w' → FRP p w w' → LE w' p l → Q none w') : zCl zTab (d + 2) iX8_becomes [.ref p, .ref o] w 0 0 Q := by
  have hbl := blk hw hp ho hne
  obtain ⟨x1, x2, x3, hO, p1, q1, q2, q3, p2, p3, p4, p5⟩ := CI_o2 hw hp
  obtain ⟨y1, y2, y3, hU, u1, v1, v2, v3, u2, u3, u4, u5⟩ := CI_o2 hw ho
  have ey := LE_u hl hU v1
  subst ey
  refine zCl_i (M := kX8_becomes) rfl (Nat.le_of_ble_eq_true rfl) fun R hR => ?_
  refine hR (?_ : R (_, _, _, _, _, _))
  refine hR (c_get hU rfl ?_)
  iterate 2 refine hR (?_ : R (_, _, _, _, _, _))
  refine hR (c_get hO rfl ?_)
  refine hR (?_ : R (_, _, _, _, _, _))
  refine hR (t_c 600 (by decide) ?_)
  refine hR (c_cpy hw (by rw [u1]; rfl) (by rw [p1]; rfl) ⟨by rw [p1]; decide, by rw [p1]; decide⟩ rfl rfl (Nat.le_of_ble_eq_true rfl) fit_b fun w1 hw1 f1 => ?_)
  have F1 : FRP p w w1 := FRP_st ⟨rfl, fun _ _ => rfl⟩ f1 (by omega)
  have hO1 := (f1.2 p (by omega)).trans hO
  have hU1 := (F1.2 o (hbl 0 (by omega))).trans hU
  iterate 2 refine hR (?_ : R (_, _, _, _, _, _))
  refine hR (c_get hU1 rfl ?_)
  refine hR (c_put hO1 rfl rfl fun w2 f2 hO2 => ?_)
  have hO2 : zix w2 p = some (.inr (7, [.ref (p + 1), .int (Int32.ofInt y1), .int (Int32.ofInt x2), .int (Int32.ofInt x3), .ref (p + 2), .ref (p + 3), .ref (p + 4), .ref (p + 5)])) := hO2
  have hw2 : CI ρ w2 := CI_w2 hw1 hp f2 hO2 ⟨p1, by omega, by omega, by omega, p2, p3, p4, p5⟩
  have F2 : FRP p w w2 := FRP_st F1 f2 (by omega)
  have hU2 := (F2.2 o (hbl 0 (by omega))).trans hU
  iterate 2 refine hR (?_ : R (_, _, _, _, _, _))
  refine hR (c_get hU2 rfl ?_)
  refine hR (c_put hO2 rfl rfl fun w3 f3 hO3 => ?_)
  have hO3 : zix w3 p = some (.inr (7, [.ref (p + 1), .int (Int32.ofInt y1), .int (Int32.ofInt y2), .int (Int32.ofInt x3), .ref (p + 2), .ref (p + 3), .ref (p + 4), .ref (p + 5)])) := hO3
  have hw3 : CI ρ w3 := CI_w2 hw2 hp f3 hO3 ⟨p1, by omega, by omega, by omega, p2, p3, p4, p5⟩
  have F3 : FRP p w w3 := FRP_st F2 f3 (by omega)
  have hU3 := (F3.2 o (hbl 0 (by omega))).trans hU
  iterate 2 refine hR (?_ : R (_, _, _, _, _, _))
  refine hR (c_get hU3 rfl ?_)
  refine hR (c_put hO3 rfl rfl fun w4 f4 hO4 => ?_)
  have hO4 : zix w4 p = some (.inr (7, [.ref (p + 1), .int (Int32.ofInt y1), .int (Int32.ofInt y2), .int (Int32.ofInt y3), .ref (p + 2), .ref (p + 3), .ref (p + 4), .ref (p + 5)])) := hO4
  have hw4 : CI ρ w4 := CI_w2 hw3 hp f4 hO4 ⟨p1, by omega, by omega, by omega, p2, p3, p4, p5⟩
  have F4 : FRP p w w4 := FRP_st F3 f4 (by omega)
  have hU4 := (F4.2 o (hbl 0 (by omega))).trans hU
  refine hR (?_ : R (_, _, _, _, _, _))
  refine hR (c_get hU4 rfl ?_)
  iterate 2 refine hR (?_ : R (_, _, _, _, _, _))
  refine hR (c_get hO4 rfl ?_)
  iterate 2 refine hR (?_ : R (_, _, _, _, _, _))
  refine hR (c_cpy hw4 (by rw [u2]; rfl) (by rw [p2]; rfl) ⟨by rw [p2]; decide, by rw [p2]; decide⟩ rfl rfl (Nat.le_of_ble_eq_true rfl) (fun _ _ _ => rfl) fun w5 hw5 f5 => ?_)
  have F5 : FRP p w w5 := FRP_st F4 f5 (by omega)
  have hO5 := (f5.2 p (by omega)).trans hO4
  have loop : ∀ (N : Nat) (i : Int) (v : zW), (0 ≤ i ∧ i ≤ 2) → CI ρ v → FRP p w v → zix v p = some (.inr (7, [.ref (p + 1), .int (Int32.ofInt y1), .int (Int32.ofInt y2), .int (Int32.ofInt y3), .ref (p + 2), .ref (p + 3), .ref (p + 4), .ref (p + 5)])) → 3 - i < N → R (56, [some (.ref p), some (.ref o), some (.int (Int32.ofInt i))], [], v, 0, 0) := by
    intro N
    induction N with
    | zero => intros; omega
    | succ N ih =>
      intro i v hi hv Fv hOv hN
      have hUv := (Fv.2 o (hbl 0 (by omega))).trans hU
      iterate 2 refine hR (?_ : R (_, _, _, _, _, _))
      refine hR (j_ge (by omega) (by omega) (fun hc => ?_) (fun hc => ?_))
      · exact hR (zret_i rfl (Nat.le_refl _) rfl (h v hv Fv ⟨_, _, hOv, v1⟩))
      · skip
        refine hR (?_ : R (_, _, _, _, _, _))
        refine hR (c_get hOv rfl ?_)
        iterate 2 refine hR (?_ : R (_, _, _, _, _, _))
        refine hR (c_get hUv rfl ?_)
        refine hR (?_ : R (_, _, _, _, _, _))
        refine hR (c_rld hv (by rw [u3]; rfl) (by rw [u3]; rfl) (by decide) (by omega) (by omega) (Nat.le_of_ble_eq_true rfl) fun oa hoa => ?_)
        refine hR (c_rso hv (by rw [p3]; rfl) (by rw [p3]; rfl) rfl ⟨by rw [p3]; decide, by rw [p3]; decide⟩ (fun x hx => ⟨hoa x hx, by obtain ⟨_, _, _, hh, -⟩ := CI_o20 hv (hoa x hx); exact ⟨_, hh⟩⟩) (by omega) (by omega) (Nat.le_of_ble_eq_true rfl) fun va hva fa => ?_)
        have Fa : FRP p w va := FRP_st Fv fa (by omega)
        have hOa := (fa.2 p (by omega)).trans hOv
        have hUa := (Fa.2 o (hbl 0 (by omega))).trans hU
        refine hR (?_ : R (_, _, _, _, _, _))
        refine hR (c_get hOa rfl ?_)
        iterate 2 refine hR (?_ : R (_, _, _, _, _, _))
        refine hR (c_get hUa rfl ?_)
        refine hR (?_ : R (_, _, _, _, _, _))
        refine hR (c_rld hva (by rw [u4]; rfl) (by rw [u4]; rfl) (by decide) (by omega) (by omega) (Nat.le_of_ble_eq_true rfl) fun ob hob => ?_)
        refine hR (c_rso hva (by rw [p4]; rfl) (by rw [p4]; rfl) rfl ⟨by rw [p4]; decide, by rw [p4]; decide⟩ (fun x hx => ⟨hob x hx, by obtain ⟨_, hh, -⟩ := CI_o30 hva (hob x hx); exact ⟨_, hh⟩⟩) (by omega) (by omega) (Nat.le_of_ble_eq_true rfl) fun vb hvb fb => ?_)
        have Fb : FRP p w vb := FRP_st Fa fb (by omega)
        have hOb := (fb.2 p (by omega)).trans hOa
        have hUb := (Fb.2 o (hbl 0 (by omega))).trans hU
        refine hR (?_ : R (_, _, _, _, _, _))
        refine hR (c_get hOb rfl ?_)
        iterate 2 refine hR (?_ : R (_, _, _, _, _, _))
        refine hR (c_get hUb rfl ?_)
        refine hR (?_ : R (_, _, _, _, _, _))
        refine hR (c_rld hvb (by rw [u5]; rfl) (by rw [u5]; rfl) (by decide) (by omega) (by omega) (Nat.le_of_ble_eq_true rfl) fun oc hoc => ?_)
        refine hR (c_rso hvb (by rw [p5]; rfl) (by rw [p5]; rfl) rfl ⟨by rw [p5]; decide, by rw [p5]; decide⟩ (fun x hx => ⟨hoc x hx, by obtain ⟨_, hh, -⟩ := CI_o40 hvb (hoc x hx); exact ⟨_, hh⟩⟩) (by omega) (by omega) (Nat.le_of_ble_eq_true rfl) fun vc hvc fc => ?_)
        have Fc : FRP p w vc := FRP_st Fb fc (by omega)
        have hOc := (fc.2 p (by omega)).trans hOb
        have hUc := (Fc.2 o (hbl 0 (by omega))).trans hU
        refine hR (t_inc ?_)
        refine hR (?_ : R (_, _, _, _, _, _))
        exact ih (i + 1) _ (by omega) hvc Fc hOc (by omega)
  iterate 2 refine hR (?_ : R (_, _, _, _, _, _))
  exact loop 10 0 _ (by omega) hw5 F5 hO5 (by omega)
