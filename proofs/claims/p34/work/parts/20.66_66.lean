theorem c_common (w : zW) (d : Nat) (la lb : Int64) (Q : zQ) (h : ∀ (v : Int64), Q (some (.long v)) w) : zCl zTab (d + 1) iX11_common [.long la, .long lb] w 0 0 Q := by
  refine zCl_i (M := kX11_common) rfl (Nat.le_of_ble_eq_true rfl) fun R hR => ?_
  have loop : ∀ (N : Nat) (x y : Int64) (i : Int) (o9 : Option Value), (0 ≤ i ∧ i ≤ 100) → 101 - i < N → R (9, [some (.long la), none, some (.long lb), none, some (.long x), none, some (.long y), none, some (.int (Int32.ofInt i)), o9, none], [], w, 0, 0) := by
    intro N
    induction N with
    | zero => intro x y i o9 _ h; omega
    | succ N ih =>
      intro x y i o9 hi hN
      refine hR (?_ : R (_, _, _, _, _, _))
      refine hR (t_c 100 (by decide) ?_)
      refine hR (j_ge (by omega) (by omega) (fun hc => ?_) (fun hc => ?_))
      · refine hR (?_ : R (_, _, _, _, _, _))
        exact hR (zret_i rfl (Nat.le_refl _) trivial (h x))
      · iterate 2 refine hR (?_ : R (_, _, _, _, _, _))
        refine hR (?_ : R (_, _, .int (lg_cmp y 0) :: _, _, _, _))
        refine hR (And.intro (fun hc => ?_) (fun hc => ?_))
        · refine hR (?_ : R (_, _, _, _, _, _))
          exact hR (zret_i rfl (Nat.le_refl _) trivial (h x))
        · have hy : y ≠ 0 := fun e => hc (by rw [e]; decide)
          iterate 2 refine hR (?_ : R (_, _, _, _, _, _))
          refine hR (And.intro hy ?_)
          iterate 5 refine hR (?_ : R (_, _, _, _, _, _))
          refine hR (t_inc ?_)
          refine hR (?_ : R (_, _, _, _, _, _))
          exact ih y _ _ _ (by omega) (by omega)
  iterate 6 refine hR (?_ : R (_, _, _, _, _, _))
  exact loop 200 la lb 0 none (by omega) (by omega)
/-- a call of the class that leaves what is told as it is -/
noncomputable def AL2 (ρ : Nat → Nat) (w : zW) (mc ms : Nat) (σ : Nat → Nat) (w' : zW) : Prop := TOP σ w' ∧ (∀ l m, IM w l m → IM w' l m) ∧ KEEP2 w w' ∧ EXT ρ σ ∧ mc ≤ 100 ∧ ms + phi w' ≤ phi w
noncomputable def PB (ρ : Nat → Nat) (w : zW) (mc ms : Nat) (r : Option Value) (w' : zW) : Prop := (∃ σ, AL2 ρ w mc ms σ w') ∧ ∃ v, r = some (.int v)
noncomputable def PBl (ρ : Nat → Nat) (w : zW) (mc ms : Nat) (r : Option Value) (w' : zW) : Prop := (∃ σ, AL2 ρ w mc ms σ w') ∧ ∃ v, r = some (.long v)
theorem k_making {ρ : Nat → Nat} {w : zW} (hT : TOP ρ w) (d : Nat) (a1 a2 a3 a4 : Int) (hr0 : -2147483648 ≤ a1 ∧ a1 ≤ 2147483647) (hr1 : -2147483648 ≤ a2 ∧ a2 ≤ 2147483647) (hr2 : -2147483648 ≤ a3 ∧ a3 ≤ 2147483647) (hr3 : -2147483648 ≤ a4 ∧ a4 ≤ 2147483647) : DET zTab (d + 6) iX11_making [.ref 0, .int (Int32.ofInt a1), .int (Int32.ofInt a2), .int (Int32.ofInt a3), .int (Int32.ofInt a4)] w (PB ρ w) := by
  refine z_rel (M := kX11_making) _ rfl (Nat.le_of_ble_eq_true rfl) fun R hR0 => ?_
  have hR : ∀ {pc : Nat} {L : zL} {S : List Value} {w1 : zW} {k n : Nat}, zsc (zCl zTab (d + 5)) (d + 5) kX11_making none zTab k n (PB ρ w k n) pc L S w1 k n R → R (pc, L, S, w1, k, n) := fun h => hR0 _ _ (Nat.le_refl _) (Nat.le_refl _) h
  have fr0 := wfR_rf [51, 60, 61, 62, 63, 64] ρ w
  iterate 2 refine hR (?_ : R (_, _, _, _, _, _))
  obtain ⟨y6_2, y7_2, hO2, hk2_0, hk2_1, hk2_2, hk2_3, hk2_4, hk2_5, hk2_6, hk2_7⟩ := CI_o1 hT.1 hT.2.1
  obtain ⟨hTt1, hIt1, hpt1, hKt1⟩ := top_fr2 hT hT.1 fr0 (by decide) hT.2.2.1
  obtain ⟨mc1, ms1, re1, w, ⟨ρ, hA1, hr_1⟩, hrun1⟩ := a_readingsAt hTt1 (d + 2) a1 (by omega)
  refine hR0 (0 + mc1) (0 + ms1) (Nat.le_add_right _ _) (Nat.le_add_right _ _) (c_obj hO2 (zcall_i mc1 ms1 (Nat.le_refl _) (Nat.le_refl _) (hrun1 _ ?_)))
  obtain ⟨hT, hI1, hK1, hx1, hm1, hs1⟩ := hA1
  have fr3 := wfR_rf [51, 60, 61, 62, 63, 64] ρ w
  rcases hr_1 with rfl | ⟨z1, rfl, hz1⟩
  · skip
    refine (?_ : R (_, _, .null :: [], w, 0 + mc1, 0 + ms1))
    iterate 4 refine hR (?_ : R (_, _, _, _, _, _))
    obtain ⟨hTf4, hIf4, hpf4, hKf4⟩ := top_fr2 hT hT.1 fr3 (by decide) hT.2.2.1
    exact hR (zret_i rfl (Nat.le_refl _) trivial ⟨⟨_, hTf4, fun l m h => hIf4 _ _ (hI1 _ _ (hIt1 _ _ (h))), (KEEP2_tr hKt1 (KEEP2_tr hK1 hKf4)), hx1, by omega, by omega⟩, _, rfl⟩)
  · skip
    refine (?_ : R (_, _, (.ref z1) :: [], w, 0 + mc1, 0 + ms1))
    iterate 4 refine hR (?_ : R (_, _, _, _, _, _))
    refine hR (zcall_i 0 0 (Nat.le_refl _) (Nat.le_refl _) (c_isText _ _ a2 (by omega) _ fun v5 hp7 => ?_))
    refine (?_ : R (_, _, (.int (Int32.ofInt v5)) :: [], w, 0 + mc1, 0 + ms1))
    refine hR (k_eq (by omega) (fun hc8 => ?_) (fun hc8 => ?_))
    · skip
      refine hR (?_ : R (_, _, _, _, _, _))
      obtain ⟨hTf9, hIf9, hpf9, hKf9⟩ := top_fr2 hT hT.1 fr3 (by decide) hT.2.2.1
      exact hR (zret_i rfl (Nat.le_refl _) trivial ⟨⟨_, hTf9, fun l m h => hIf9 _ _ (hI1 _ _ (hIt1 _ _ (h))), (KEEP2_tr hKt1 (KEEP2_tr hK1 hKf9)), hx1, by omega, by omega⟩, _, rfl⟩)
    refine hR (?_ : R (_, _, _, _, _, _))
    refine hR (zcall_i 0 0 (Nat.le_refl _) (Nat.le_refl _) (c_isText _ _ a3 (by omega) _ fun v10 hp12 => ?_))
    refine (?_ : R (_, _, (.int (Int32.ofInt v10)) :: [], w, 0 + mc1, 0 + ms1))
    refine hR (k_ne (by omega) (fun hc13 => ?_) (fun hc13 => ?_))
    rotate_left
    · skip
      refine hR (?_ : R (_, _, _, _, _, _))
      obtain ⟨hTf41, hIf41, hpf41, hKf41⟩ := top_fr2 hT hT.1 fr3 (by decide) hT.2.2.1
      exact hR (zret_i rfl (Nat.le_refl _) trivial ⟨⟨_, hTf41, fun l m h => hIf41 _ _ (hI1 _ _ (hIt1 _ _ (h))), (KEEP2_tr hKt1 (KEEP2_tr hK1 hKf41)), hx1, by omega, by omega⟩, _, rfl⟩)
    iterate 2 refine hR (?_ : R (_, _, _, _, _, _))
    obtain ⟨y6_15, y7_15, hO15, hk15_0, hk15_1, hk15_2, hk15_3, hk15_4, hk15_5, hk15_6, hk15_7⟩ := CI_o1 hT.1 hT.2.1
    obtain ⟨hTt14, hIt14, hpt14, hKt14⟩ := top_fr2 hT hT.1 fr3 (by decide) hT.2.2.1
    obtain ⟨mc14, ms14, re14, w, ⟨ρ, z14, hA14, hre14, hz14⟩, hrun14⟩ := a_walkAt hTt14 (d + 2) 0 (by omega)
    subst hre14
    refine hR0 (0 + mc1 + mc14) (0 + ms1 + ms14) (Nat.le_add_right _ _) (Nat.le_add_right _ _) (c_obj hO15 (zcall_i mc14 ms14 (Nat.le_refl _) (Nat.le_refl _) (hrun14 _ ?_)))
    obtain ⟨hT, hI14, hK14, hx14, hm14, hs14⟩ := hA14
    have hl16 : ρ z1 = 50 := (hx14 z1 (by rw [hz1]; decide)).trans hz1
    have fr17 := wfR_rf [51, 60, 61, 62, 63, 64] ρ w
    refine (?_ : R (_, _, (.ref z14) :: [], w, 0 + mc1 + mc14, 0 + ms1 + ms14))
    iterate 5 refine hR (?_ : R (_, _, _, _, _, _))
    obtain ⟨z0_21, z2_21, z3_21, hO21, hk21_0, hk21_1, hk21_2, hk21_3, hk21_4⟩ := CI_o50 hT.1 hl16
    refine hR (c_obj hO21 (zcall_i 0 0 (Nat.le_refl _) (Nat.le_refl _) (c_all _ z1 hT.1 hl16 _ fun v18 hp20 => ?_)))
    refine (?_ : R (_, _, (.int (Int32.ofInt v18)) :: (.int (Int32.ofInt a2)) :: (.ref z1) :: (.ref z14) :: [], w, 0 + mc1 + mc14, 0 + ms1 + ms14))
    refine hR (?_ : R (_, _, _, _, _, _))
    obtain ⟨x0_24, hO24, hk24_0, hk24_1, hk24_2, hk24_3, hk24_4⟩ := CI_o60 hT.1 hz14
    refine hR (c_obj hO24 (zcall_i 0 0 (Nat.le_refl _) (Nat.le_refl _) (c_goA _ z14 z1 a2 v18 a3 hT.1 hz14 hl16 hT.2.2.1 (by omega) (by omega) (by omega) _ fun w22 hw22 g22 hp23 => ?_)))
    have fr25 := wfR_tr fr17 g22 (by decide)
    have hO26 := (g22.2 z1 (by rw [hl16]; decide)).trans hO21
    refine (?_ : R (_, _, [], w22, 0 + mc1 + mc14, 0 + ms1 + ms14))
    refine hR (?_ : R (_, _, _, _, _, _))
    obtain ⟨x0_27, hO27, hk27_0, hk27_1, hk27_2, hk27_3, hk27_4⟩ := CI_o60 hw22 hz14
    refine hR (c_get hO27 rfl ?_)
    refine hR (?_ : R (_, _, _, _, _, _))
    refine hR (c_ald hw22 (by rw [hk27_2]; rfl) (by omega) (by omega) (Nat.le_of_ble_eq_true rfl) fun v28 lv28 uv28 => ?_)
    iterate 3 refine hR (?_ : R (_, _, _, _, _, _))
    refine hR (j_eq (by omega) (by omega) (fun hc29 => ?_) (fun hc29 => ?_))
    · skip
      refine hR (?_ : R (_, _, _, _, _, _))
      obtain ⟨hTf30, hIf30, hpf30, hKf30⟩ := top_fr2 hT hw22 fr25 (by decide) hp23
      exact hR (zret_i rfl (Nat.le_refl _) trivial ⟨⟨_, hTf30, fun l m h => hIf30 _ _ (hI14 _ _ (hIt14 _ _ (hI1 _ _ (hIt1 _ _ (h))))), (KEEP2_tr hKt1 (KEEP2_tr hK1 (KEEP2_tr hKt14 (KEEP2_tr hK14 hKf30)))), (EXT_tr hx1 hx14), by omega, by omega⟩, _, rfl⟩)
    iterate 2 refine hR (?_ : R (_, _, _, _, _, _))
    refine hR (j_ne (by omega) (by omega) (fun hc31 => ?_) (fun hc31 => ?_))
    rotate_left
    · skip
      refine hR (?_ : R (_, _, _, _, _, _))
      obtain ⟨hTf40, hIf40, hpf40, hKf40⟩ := top_fr2 hT hw22 fr25 (by decide) hp23
      exact hR (zret_i rfl (Nat.le_refl _) trivial ⟨⟨_, hTf40, fun l m h => hIf40 _ _ (hI14 _ _ (hIt14 _ _ (hI1 _ _ (hIt1 _ _ (h))))), (KEEP2_tr hKt1 (KEEP2_tr hK1 (KEEP2_tr hKt14 (KEEP2_tr hK14 hKf40)))), (EXT_tr hx1 hx14), by omega, by omega⟩, _, rfl⟩)
    refine hR (?_ : R (_, _, _, _, _, _))
    refine hR (k_lt (by omega) (fun hc32 => ?_) (fun hc32 => ?_))
    · skip
      iterate 2 refine hR (?_ : R (_, _, _, _, _, _))
      obtain ⟨hTf33, hIf33, hpf33, hKf33⟩ := top_fr2 hT hw22 fr25 (by decide) hp23
      exact hR (zret_i rfl (Nat.le_refl _) trivial ⟨⟨_, hTf33, fun l m h => hIf33 _ _ (hI14 _ _ (hIt14 _ _ (hI1 _ _ (hIt1 _ _ (h))))), (KEEP2_tr hKt1 (KEEP2_tr hK1 (KEEP2_tr hKt14 (KEEP2_tr hK14 hKf33)))), (EXT_tr hx1 hx14), by omega, by omega⟩, _, rfl⟩)
    iterate 2 refine hR (?_ : R (_, _, _, _, _, _))
    refine hR (j_lt (by omega) (by omega) (fun hc34 => ?_) (fun hc34 => ?_))
    rotate_left
    · skip
      iterate 2 refine hR (?_ : R (_, _, _, _, _, _))
      obtain ⟨hTf39, hIf39, hpf39, hKf39⟩ := top_fr2 hT hw22 fr25 (by decide) hp23
      exact hR (zret_i rfl (Nat.le_refl _) trivial ⟨⟨_, hTf39, fun l m h => hIf39 _ _ (hI14 _ _ (hIt14 _ _ (hI1 _ _ (hIt1 _ _ (h))))), (KEEP2_tr hKt1 (KEEP2_tr hK1 (KEEP2_tr hKt14 (KEEP2_tr hK14 hKf39)))), (EXT_tr hx1 hx14), by omega, by omega⟩, _, rfl⟩)
    iterate 3 refine hR (?_ : R (_, _, _, _, _, _))
    refine hR (c_obj hO27 (zcall_i 0 0 (Nat.le_refl _) (Nat.le_refl _) (c_readerOnWay _ z14 a3 a4 hw22 hz14 (hp23 z14 hz14) (by omega) (by omega) _ fun v35 hp37 => ?_)))
    refine (?_ : R (_, _, (.int (Int32.ofInt v35)) :: [], w22, 0 + mc1 + mc14, 0 + ms1 + ms14))
    obtain ⟨hTf38, hIf38, hpf38, hKf38⟩ := top_fr2 hT hw22 fr25 (by decide) hp23
    exact hR (zret_i rfl (Nat.le_refl _) trivial ⟨⟨_, hTf38, fun l m h => hIf38 _ _ (hI14 _ _ (hIt14 _ _ (hI1 _ _ (hIt1 _ _ (h))))), (KEEP2_tr hKt1 (KEEP2_tr hK1 (KEEP2_tr hKt14 (KEEP2_tr hK14 hKf38)))), (EXT_tr hx1 hx14), by omega, by omega⟩, _, rfl⟩)
theorem k_ring {ρ : Nat → Nat} {w : zW} (hT : TOP ρ w) (d : Nat) (a1 a2 : Int) (hr0 : -2147483648 ≤ a1 ∧ a1 ≤ 2147483647) (hr1 : -2147483648 ≤ a2 ∧ a2 ≤ 2147483647) : DET zTab (d + 6) iX11_ring [.ref 0, .int (Int32.ofInt a1), .int (Int32.ofInt a2)] w (PB ρ w) := by
  refine z_rel (M := kX11_ring) _ rfl (Nat.le_of_ble_eq_true rfl) fun R hR0 => ?_
  have hR : ∀ {pc : Nat} {L : zL} {S : List Value} {w1 : zW} {k n : Nat}, zsc (zCl zTab (d + 5)) (d + 5) kX11_ring none zTab k n (PB ρ w k n) pc L S w1 k n R → R (pc, L, S, w1, k, n) := fun h => hR0 _ _ (Nat.le_refl _) (Nat.le_refl _) h
  have fr0 := wfR_rf [51, 60, 61, 62, 63, 64] ρ w
  iterate 2 refine hR (?_ : R (_, _, _, _, _, _))
  obtain ⟨y6_2, y7_2, hO2, hk2_0, hk2_1, hk2_2, hk2_3, hk2_4, hk2_5, hk2_6, hk2_7⟩ := CI_o1 hT.1 hT.2.1
  obtain ⟨hTt1, hIt1, hpt1, hKt1⟩ := top_fr2 hT hT.1 fr0 (by decide) hT.2.2.1
  obtain ⟨mc1, ms1, re1, w, ⟨ρ, hA1, hr_1⟩, hrun1⟩ := a_readingsAt hTt1 (d + 2) a1 (by omega)
  refine hR0 (0 + mc1) (0 + ms1) (Nat.le_add_right _ _) (Nat.le_add_right _ _) (c_obj hO2 (zcall_i mc1 ms1 (Nat.le_refl _) (Nat.le_refl _) (hrun1 _ ?_)))
  obtain ⟨hT, hI1, hK1, hx1, hm1, hs1⟩ := hA1
  have fr3 := wfR_rf [51, 60, 61, 62, 63, 64] ρ w
  rcases hr_1 with rfl | ⟨z1, rfl, hz1⟩
  · skip
    refine (?_ : R (_, _, .null :: [], w, 0 + mc1, 0 + ms1))
    iterate 4 refine hR (?_ : R (_, _, _, _, _, _))
    obtain ⟨hTf4, hIf4, hpf4, hKf4⟩ := top_fr2 hT hT.1 fr3 (by decide) hT.2.2.1
    exact hR (zret_i rfl (Nat.le_refl _) trivial ⟨⟨_, hTf4, fun l m h => hIf4 _ _ (hI1 _ _ (hIt1 _ _ (h))), (KEEP2_tr hKt1 (KEEP2_tr hK1 hKf4)), hx1, by omega, by omega⟩, _, rfl⟩)
  · skip
    refine (?_ : R (_, _, (.ref z1) :: [], w, 0 + mc1, 0 + ms1))
    iterate 4 refine hR (?_ : R (_, _, _, _, _, _))
    refine hR (zcall_i 0 0 (Nat.le_refl _) (Nat.le_refl _) (c_isText _ _ a2 (by omega) _ fun v5 hp7 => ?_))
    refine (?_ : R (_, _, (.int (Int32.ofInt v5)) :: [], w, 0 + mc1, 0 + ms1))
    refine hR (k_ne (by omega) (fun hc8 => ?_) (fun hc8 => ?_))
    rotate_left
    · skip
      refine hR (?_ : R (_, _, _, _, _, _))
      obtain ⟨hTf31, hIf31, hpf31, hKf31⟩ := top_fr2 hT hT.1 fr3 (by decide) hT.2.2.1
      exact hR (zret_i rfl (Nat.le_refl _) trivial ⟨⟨_, hTf31, fun l m h => hIf31 _ _ (hI1 _ _ (hIt1 _ _ (h))), (KEEP2_tr hKt1 (KEEP2_tr hK1 hKf31)), hx1, by omega, by omega⟩, _, rfl⟩)
    iterate 2 refine hR (?_ : R (_, _, _, _, _, _))
    obtain ⟨y6_10, y7_10, hO10, hk10_0, hk10_1, hk10_2, hk10_3, hk10_4, hk10_5, hk10_6, hk10_7⟩ := CI_o1 hT.1 hT.2.1
    obtain ⟨hTt9, hIt9, hpt9, hKt9⟩ := top_fr2 hT hT.1 fr3 (by decide) hT.2.2.1
    obtain ⟨mc9, ms9, re9, w, ⟨ρ, z9, hA9, hre9, hz9⟩, hrun9⟩ := a_walkAt hTt9 (d + 2) 0 (by omega)
    subst hre9
    refine hR0 (0 + mc1 + mc9) (0 + ms1 + ms9) (Nat.le_add_right _ _) (Nat.le_add_right _ _) (c_obj hO10 (zcall_i mc9 ms9 (Nat.le_refl _) (Nat.le_refl _) (hrun9 _ ?_)))
    obtain ⟨hT, hI9, hK9, hx9, hm9, hs9⟩ := hA9
    have hl11 : ρ z1 = 50 := (hx9 z1 (by rw [hz1]; decide)).trans hz1
    have fr12 := wfR_rf [51, 60, 61, 62, 63, 64] ρ w
    refine (?_ : R (_, _, (.ref z9) :: [], w, 0 + mc1 + mc9, 0 + ms1 + ms9))
    iterate 5 refine hR (?_ : R (_, _, _, _, _, _))
    obtain ⟨z0_16, z2_16, z3_16, hO16, hk16_0, hk16_1, hk16_2, hk16_3, hk16_4⟩ := CI_o50 hT.1 hl11
    refine hR (c_obj hO16 (zcall_i 0 0 (Nat.le_refl _) (Nat.le_refl _) (c_all _ z1 hT.1 hl11 _ fun v13 hp15 => ?_)))
    refine (?_ : R (_, _, (.int (Int32.ofInt v13)) :: (.int (Int32.ofInt a2)) :: (.ref z1) :: (.ref z9) :: [], w, 0 + mc1 + mc9, 0 + ms1 + ms9))
    refine hR (?_ : R (_, _, _, _, _, _))
    obtain ⟨x0_19, hO19, hk19_0, hk19_1, hk19_2, hk19_3, hk19_4⟩ := CI_o60 hT.1 hz9
    refine hR (c_obj hO19 (zcall_i 0 0 (Nat.le_refl _) (Nat.le_refl _) (c_goA _ z9 z1 a2 v13 ((-1)) hT.1 hz9 hl11 hT.2.2.1 (by omega) (by omega) (by omega) _ fun w17 hw17 g17 hp18 => ?_)))
    have fr20 := wfR_tr fr12 g17 (by decide)
    have hO21 := (g17.2 z1 (by rw [hl11]; decide)).trans hO16
    refine (?_ : R (_, _, [], w17, 0 + mc1 + mc9, 0 + ms1 + ms9))
    iterate 3 refine hR (?_ : R (_, _, _, _, _, _))
    obtain ⟨x0_25, hO25, hk25_0, hk25_1, hk25_2, hk25_3, hk25_4⟩ := CI_o60 hw17 hz9
    refine hR (c_obj hO25 (zcall_i 0 0 (Nat.le_refl _) (Nat.le_refl _) (c_wayBack _ z9 z1 a2 hw17 hz9 hl11 (by omega) _ fun v22 w23 hw23 g23 hp24 => ?_)))
    have fr26 := wfR_tr fr20 g23 (by decide)
    have hO27 := (g23.2 z1 (by rw [hl11]; decide)).trans hO21
    have hO28 := (g23.2 z9 (by rw [hz9]; decide)).trans hO25
    refine (?_ : R (_, _, (.int (Int32.ofInt v22)) :: [], w23, 0 + mc1 + mc9, 0 + ms1 + ms9))
    have aw29 := AWK_fr hw17 g23 hp18 (by decide)
    obtain ⟨hTf30, hIf30, hpf30, hKf30⟩ := top_fr2 hT hw23 fr26 (by decide) aw29
    exact hR (zret_i rfl (Nat.le_refl _) trivial ⟨⟨_, hTf30, fun l m h => hIf30 _ _ (hI9 _ _ (hIt9 _ _ (hI1 _ _ (hIt1 _ _ (h))))), (KEEP2_tr hKt1 (KEEP2_tr hK1 (KEEP2_tr hKt9 (KEEP2_tr hK9 hKf30)))), (EXT_tr hx1 hx9), by omega, by omega⟩, _, rfl⟩)
theorem k_reach {ρ : Nat → Nat} {w : zW} (hT : TOP ρ w) (d : Nat) (a1 a2 a3 : Int) (hr0 : -2147483648 ≤ a1 ∧ a1 ≤ 2147483647) (hr1 : -2147483648 ≤ a2 ∧ a2 ≤ 2147483647) (hr2 : -2147483648 ≤ a3 ∧ a3 ≤ 2147483647) : DET zTab (d + 6) iX11_reach [.ref 0, .int (Int32.ofInt a1), .int (Int32.ofInt a2), .int (Int32.ofInt a3)] w (PB ρ w) := by
  refine z_rel (M := kX11_reach) _ rfl (Nat.le_of_ble_eq_true rfl) fun R hR0 => ?_
  have hR : ∀ {pc : Nat} {L : zL} {S : List Value} {w1 : zW} {k n : Nat}, zsc (zCl zTab (d + 5)) (d + 5) kX11_reach none zTab k n (PB ρ w k n) pc L S w1 k n R → R (pc, L, S, w1, k, n) := fun h => hR0 _ _ (Nat.le_refl _) (Nat.le_refl _) h
  have fr0 := wfR_rf [51, 60, 61, 62, 63, 64] ρ w
  iterate 2 refine hR (?_ : R (_, _, _, _, _, _))
  obtain ⟨y6_2, y7_2, hO2, hk2_0, hk2_1, hk2_2, hk2_3, hk2_4, hk2_5, hk2_6, hk2_7⟩ := CI_o1 hT.1 hT.2.1
  obtain ⟨hTt1, hIt1, hpt1, hKt1⟩ := top_fr2 hT hT.1 fr0 (by decide) hT.2.2.1
  obtain ⟨mc1, ms1, re1, w, ⟨ρ, hA1, hr_1⟩, hrun1⟩ := a_readingsAt hTt1 (d + 2) a1 (by omega)
  refine hR0 (0 + mc1) (0 + ms1) (Nat.le_add_right _ _) (Nat.le_add_right _ _) (c_obj hO2 (zcall_i mc1 ms1 (Nat.le_refl _) (Nat.le_refl _) (hrun1 _ ?_)))
  obtain ⟨hT, hI1, hK1, hx1, hm1, hs1⟩ := hA1
  have fr3 := wfR_rf [51, 60, 61, 62, 63, 64] ρ w
  rcases hr_1 with rfl | ⟨z1, rfl, hz1⟩
  · skip
    refine (?_ : R (_, _, .null :: [], w, 0 + mc1, 0 + ms1))
    iterate 4 refine hR (?_ : R (_, _, _, _, _, _))
    obtain ⟨hTf4, hIf4, hpf4, hKf4⟩ := top_fr2 hT hT.1 fr3 (by decide) hT.2.2.1
    exact hR (zret_i rfl (Nat.le_refl _) trivial ⟨⟨_, hTf4, fun l m h => hIf4 _ _ (hI1 _ _ (hIt1 _ _ (h))), (KEEP2_tr hKt1 (KEEP2_tr hK1 hKf4)), hx1, by omega, by omega⟩, _, rfl⟩)
  · skip
    refine (?_ : R (_, _, (.ref z1) :: [], w, 0 + mc1, 0 + ms1))
    iterate 4 refine hR (?_ : R (_, _, _, _, _, _))
    refine hR (zcall_i 0 0 (Nat.le_refl _) (Nat.le_refl _) (c_isText _ _ a2 (by omega) _ fun v5 hp7 => ?_))
    refine (?_ : R (_, _, (.int (Int32.ofInt v5)) :: [], w, 0 + mc1, 0 + ms1))
    refine hR (k_ne (by omega) (fun hc8 => ?_) (fun hc8 => ?_))
    rotate_left
    · skip
      refine hR (?_ : R (_, _, _, _, _, _))
      obtain ⟨hTf29, hIf29, hpf29, hKf29⟩ := top_fr2 hT hT.1 fr3 (by decide) hT.2.2.1
      exact hR (zret_i rfl (Nat.le_refl _) trivial ⟨⟨_, hTf29, fun l m h => hIf29 _ _ (hI1 _ _ (hIt1 _ _ (h))), (KEEP2_tr hKt1 (KEEP2_tr hK1 hKf29)), hx1, by omega, by omega⟩, _, rfl⟩)
    iterate 2 refine hR (?_ : R (_, _, _, _, _, _))
    obtain ⟨y6_10, y7_10, hO10, hk10_0, hk10_1, hk10_2, hk10_3, hk10_4, hk10_5, hk10_6, hk10_7⟩ := CI_o1 hT.1 hT.2.1
    obtain ⟨hTt9, hIt9, hpt9, hKt9⟩ := top_fr2 hT hT.1 fr3 (by decide) hT.2.2.1
    obtain ⟨mc9, ms9, re9, w, ⟨ρ, z9, hA9, hre9, hz9⟩, hrun9⟩ := a_walkAt hTt9 (d + 2) 0 (by omega)
    subst hre9
    refine hR0 (0 + mc1 + mc9) (0 + ms1 + ms9) (Nat.le_add_right _ _) (Nat.le_add_right _ _) (c_obj hO10 (zcall_i mc9 ms9 (Nat.le_refl _) (Nat.le_refl _) (hrun9 _ ?_)))
    obtain ⟨hT, hI9, hK9, hx9, hm9, hs9⟩ := hA9
    have hl11 : ρ z1 = 50 := (hx9 z1 (by rw [hz1]; decide)).trans hz1
    have fr12 := wfR_rf [51, 60, 61, 62, 63, 64] ρ w
    refine (?_ : R (_, _, (.ref z9) :: [], w, 0 + mc1 + mc9, 0 + ms1 + ms9))
    iterate 5 refine hR (?_ : R (_, _, _, _, _, _))
    obtain ⟨z0_16, z2_16, z3_16, hO16, hk16_0, hk16_1, hk16_2, hk16_3, hk16_4⟩ := CI_o50 hT.1 hl11
    refine hR (c_obj hO16 (zcall_i 0 0 (Nat.le_refl _) (Nat.le_refl _) (c_all _ z1 hT.1 hl11 _ fun v13 hp15 => ?_)))
    refine (?_ : R (_, _, (.int (Int32.ofInt v13)) :: (.int (Int32.ofInt a2)) :: (.ref z1) :: (.ref z9) :: [], w, 0 + mc1 + mc9, 0 + ms1 + ms9))
    refine hR (?_ : R (_, _, _, _, _, _))
    obtain ⟨x0_19, hO19, hk19_0, hk19_1, hk19_2, hk19_3, hk19_4⟩ := CI_o60 hT.1 hz9
    refine hR (c_obj hO19 (zcall_i 0 0 (Nat.le_refl _) (Nat.le_refl _) (c_goA _ z9 z1 a2 v13 ((-1)) hT.1 hz9 hl11 hT.2.2.1 (by omega) (by omega) (by omega) _ fun w17 hw17 g17 hp18 => ?_)))
    have fr20 := wfR_tr fr12 g17 (by decide)
    have hO21 := (g17.2 z1 (by rw [hl11]; decide)).trans hO16
    refine (?_ : R (_, _, [], w17, 0 + mc1 + mc9, 0 + ms1 + ms9))
    refine hR (?_ : R (_, _, _, _, _, _))
    refine hR (k_eq (by omega) (fun hc22 => ?_) (fun hc22 => ?_))
    · skip
      refine hR (?_ : R (_, _, _, _, _, _))
      obtain ⟨x0_23, hO23, hk23_0, hk23_1, hk23_2, hk23_3, hk23_4⟩ := CI_o60 hw17 hz9
      refine hR (c_get hO23 rfl ?_)
      obtain ⟨hTf24, hIf24, hpf24, hKf24⟩ := top_fr2 hT hw17 fr20 (by decide) hp18
      exact hR (zret_i rfl (Nat.le_refl _) trivial ⟨⟨_, hTf24, fun l m h => hIf24 _ _ (hI9 _ _ (hIt9 _ _ (hI1 _ _ (hIt1 _ _ (h))))), (KEEP2_tr hKt1 (KEEP2_tr hK1 (KEEP2_tr hKt9 (KEEP2_tr hK9 hKf24)))), (EXT_tr hx1 hx9), by omega, by omega⟩, _, rfl⟩)
    refine hR (?_ : R (_, _, _, _, _, _))
    obtain ⟨x0_27, hO27, hk27_0, hk27_1, hk27_2, hk27_3, hk27_4⟩ := CI_o60 hw17 hz9
    refine hR (c_obj hO27 (zcall_i 0 0 (Nat.le_refl _) (Nat.le_refl _) (c_farthest _ z9 hw17 hz9 _ fun v25 => ?_)))
    refine (?_ : R (_, _, (.int (Int32.ofInt v25)) :: [], w17, 0 + mc1 + mc9, 0 + ms1 + ms9))
    refine hR (?_ : R (_, _, _, _, _, _))
    obtain ⟨hTf28, hIf28, hpf28, hKf28⟩ := top_fr2 hT hw17 fr20 (by decide) hp18
    exact hR (zret_i rfl (Nat.le_refl _) trivial ⟨⟨_, hTf28, fun l m h => hIf28 _ _ (hI9 _ _ (hIt9 _ _ (hI1 _ _ (hIt1 _ _ (h))))), (KEEP2_tr hKt1 (KEEP2_tr hK1 (KEEP2_tr hKt9 (KEEP2_tr hK9 hKf28)))), (EXT_tr hx1 hx9), by omega, by omega⟩, _, rfl⟩)
theorem k_sound {ρ : Nat → Nat} {w : zW} (hT : TOP ρ w) (d : Nat) (a1 a2 : Int) (hr0 : -2147483648 ≤ a1 ∧ a1 ≤ 2147483647) (hr1 : -2147483648 ≤ a2 ∧ a2 ≤ 2147483647) : DET zTab (d + 7) iX11_sound [.ref 0, .int (Int32.ofInt a1), .int (Int32.ofInt a2)] w (PB ρ w) := by
  refine z_rel (M := kX11_sound) _ rfl (Nat.le_of_ble_eq_true rfl) fun R hR0 => ?_
  have hR : ∀ {pc : Nat} {L : zL} {S : List Value} {w1 : zW} {k n : Nat}, zsc (zCl zTab (d + 6)) (d + 6) kX11_sound none zTab k n (PB ρ w k n) pc L S w1 k n R → R (pc, L, S, w1, k, n) := fun h => hR0 _ _ (Nat.le_refl _) (Nat.le_refl _) h
  have fr0 := wfR_rf [51] ρ w
  iterate 2 refine hR (?_ : R (_, _, _, _, _, _))
  obtain ⟨y6_2, y7_2, hO2, hk2_0, hk2_1, hk2_2, hk2_3, hk2_4, hk2_5, hk2_6, hk2_7⟩ := CI_o1 hT.1 hT.2.1
  obtain ⟨hTt1, hIt1, hpt1, hKt1⟩ := top_fr2 hT hT.1 fr0 (by decide) hT.2.2.1
  obtain ⟨mc1, ms1, re1, w, ⟨ρ, hA1, hr_1⟩, hrun1⟩ := a_readingsAt hTt1 (d + 3) a1 (by omega)
  refine hR0 (0 + mc1) (0 + ms1) (Nat.le_add_right _ _) (Nat.le_add_right _ _) (c_obj hO2 (zcall_i mc1 ms1 (Nat.le_refl _) (Nat.le_refl _) (hrun1 _ ?_)))
  obtain ⟨hT, hI1, hK1, hx1, hm1, hs1⟩ := hA1
  have fr3 := wfR_rf [51] ρ w
  rcases hr_1 with rfl | ⟨z1, rfl, hz1⟩
  · skip
    refine (?_ : R (_, _, .null :: [], w, 0 + mc1, 0 + ms1))
    iterate 5 refine hR (?_ : R (_, _, _, _, _, _))
    obtain ⟨hTf4, hIf4, hpf4, hKf4⟩ := top_fr2 hT hT.1 fr3 (by decide) hT.2.2.1
    exact hR (zret_i rfl (Nat.le_refl _) trivial ⟨⟨_, hTf4, fun l m h => hIf4 _ _ (hI1 _ _ (hIt1 _ _ (h))), (KEEP2_tr hKt1 (KEEP2_tr hK1 hKf4)), hx1, by omega, by omega⟩, _, rfl⟩)
  · skip
    refine (?_ : R (_, _, (.ref z1) :: [], w, 0 + mc1, 0 + ms1))
    iterate 4 refine hR (?_ : R (_, _, _, _, _, _))
    obtain ⟨z0_5, z2_5, z3_5, hO5, hk5_0, hk5_1, hk5_2, hk5_3, hk5_4⟩ := CI_o50 hT.1 hz1
    refine hR (c_get hO5 rfl ?_)
    refine hR (?_ : R (_, _, _, _, _, _))
    obtain ⟨x0_9, x1_9, x2_9, hO9, hk9_0, hk9_1, hk9_2, hk9_3, hk9_4, hk9_5, hk9_6⟩ := CI_o20 hT.1 hk5_0
    refine hR (c_obj hO9 (zcall_i 0 0 (Nat.le_refl _) (Nat.le_refl _) (c_hasReaders _ z0_5 a2 hT.1 hk5_0 (by omega) _ fun v6 hp8 => ?_)))
    refine (?_ : R (_, _, (.int (Int32.ofInt v6)) :: [], w, 0 + mc1, 0 + ms1))
    refine hR (k_ne (by omega) (fun hc10 => ?_) (fun hc10 => ?_))
    rotate_left
    · skip
      iterate 2 refine hR (?_ : R (_, _, _, _, _, _))
      obtain ⟨hTf18, hIf18, hpf18, hKf18⟩ := top_fr2 hT hT.1 fr3 (by decide) hT.2.2.1
      exact hR (zret_i rfl (Nat.le_refl _) trivial ⟨⟨_, hTf18, fun l m h => hIf18 _ _ (hI1 _ _ (hIt1 _ _ (h))), (KEEP2_tr hKt1 (KEEP2_tr hK1 hKf18)), hx1, by omega, by omega⟩, _, rfl⟩)
    iterate 2 refine hR (?_ : R (_, _, _, _, _, _))
    refine hR (c_obj hO5 (zcall_i 0 0 (Nat.le_refl _) (Nat.le_refl _) (c_unchangedBy _ z1 a2 hT.1 hz1 (by omega) _ fun v11 w12 hw12 g12 => ?_)))
    have fr13 := wfR_tr fr3 g12 (by decide)
    have hO14 := (g12.2 z1 (by rw [hz1]; decide)).trans hO5
    have hO15 := (g12.2 z0_5 (by rw [hk5_0]; decide)).trans hO9
    refine (?_ : R (_, _, (.int (Int32.ofInt v11)) :: [], w12, 0 + mc1, 0 + ms1))
    have aw16 := AWK_fr hT.1 g12 hT.2.2.1 (by decide)
    obtain ⟨hTf17, hIf17, hpf17, hKf17⟩ := top_fr2 hT hw12 fr13 (by decide) aw16
    exact hR (zret_i rfl (Nat.le_refl _) trivial ⟨⟨_, hTf17, fun l m h => hIf17 _ _ (hI1 _ _ (hIt1 _ _ (h))), (KEEP2_tr hKt1 (KEEP2_tr hK1 hKf17)), hx1, by omega, by omega⟩, _, rfl⟩)
theorem k_like {ρ : Nat → Nat} {w : zW} (hT : TOP ρ w) (d : Nat) (a1 a2 a3 : Int) (hr0 : -2147483648 ≤ a1 ∧ a1 ≤ 2147483647) (hr1 : -2147483648 ≤ a2 ∧ a2 ≤ 2147483647) (hr2 : -2147483648 ≤ a3 ∧ a3 ≤ 2147483647) : DET zTab (d + 6) iX11_like [.ref 0, .int (Int32.ofInt a1), .int (Int32.ofInt a2), .int (Int32.ofInt a3)] w (PB ρ w) := by
  refine z_rel (M := kX11_like) _ rfl (Nat.le_of_ble_eq_true rfl) fun R hR0 => ?_
  have hR : ∀ {pc : Nat} {L : zL} {S : List Value} {w1 : zW} {k n : Nat}, zsc (zCl zTab (d + 5)) (d + 5) kX11_like none zTab k n (PB ρ w k n) pc L S w1 k n R → R (pc, L, S, w1, k, n) := fun h => hR0 _ _ (Nat.le_refl _) (Nat.le_refl _) h
  have fr0 := wfR_rf [51] ρ w
  iterate 2 refine hR (?_ : R (_, _, _, _, _, _))
  obtain ⟨y6_2, y7_2, hO2, hk2_0, hk2_1, hk2_2, hk2_3, hk2_4, hk2_5, hk2_6, hk2_7⟩ := CI_o1 hT.1 hT.2.1
  obtain ⟨hTt1, hIt1, hpt1, hKt1⟩ := top_fr2 hT hT.1 fr0 (by decide) hT.2.2.1
  obtain ⟨mc1, ms1, re1, w, ⟨ρ, hA1, hr_1⟩, hrun1⟩ := a_readingsAt hTt1 (d + 2) a1 (by omega)
  refine hR0 (0 + mc1) (0 + ms1) (Nat.le_add_right _ _) (Nat.le_add_right _ _) (c_obj hO2 (zcall_i mc1 ms1 (Nat.le_refl _) (Nat.le_refl _) (hrun1 _ ?_)))
  obtain ⟨hT, hI1, hK1, hx1, hm1, hs1⟩ := hA1
  have fr3 := wfR_rf [51] ρ w
  rcases hr_1 with rfl | ⟨z1, rfl, hz1⟩
  · skip
    refine (?_ : R (_, _, .null :: [], w, 0 + mc1, 0 + ms1))
    iterate 4 refine hR (?_ : R (_, _, _, _, _, _))
    obtain ⟨hTf4, hIf4, hpf4, hKf4⟩ := top_fr2 hT hT.1 fr3 (by decide) hT.2.2.1
    exact hR (zret_i rfl (Nat.le_refl _) trivial ⟨⟨_, hTf4, fun l m h => hIf4 _ _ (hI1 _ _ (hIt1 _ _ (h))), (KEEP2_tr hKt1 (KEEP2_tr hK1 hKf4)), hx1, by omega, by omega⟩, _, rfl⟩)
  · skip
    refine (?_ : R (_, _, (.ref z1) :: [], w, 0 + mc1, 0 + ms1))
    iterate 4 refine hR (?_ : R (_, _, _, _, _, _))
    obtain ⟨z0_5, z2_5, z3_5, hO5, hk5_0, hk5_1, hk5_2, hk5_3, hk5_4⟩ := CI_o50 hT.1 hz1
    refine hR (c_get hO5 rfl ?_)
    refine hR (?_ : R (_, _, _, _, _, _))
    obtain ⟨x0_9, x1_9, x2_9, hO9, hk9_0, hk9_1, hk9_2, hk9_3, hk9_4, hk9_5, hk9_6⟩ := CI_o20 hT.1 hk5_0
    refine hR (c_obj hO9 (zcall_i 0 0 (Nat.le_refl _) (Nat.le_refl _) (c_hasReader _ z0_5 a2 hT.1 hk5_0 (by omega) _ fun v6 hp8 => ?_)))
    refine (?_ : R (_, _, (.int (Int32.ofInt v6)) :: [], w, 0 + mc1, 0 + ms1))
    refine hR (k_eq (by omega) (fun hc10 => ?_) (fun hc10 => ?_))
    · skip
      refine hR (?_ : R (_, _, _, _, _, _))
      obtain ⟨hTf11, hIf11, hpf11, hKf11⟩ := top_fr2 hT hT.1 fr3 (by decide) hT.2.2.1
      exact hR (zret_i rfl (Nat.le_refl _) trivial ⟨⟨_, hTf11, fun l m h => hIf11 _ _ (hI1 _ _ (hIt1 _ _ (h))), (KEEP2_tr hKt1 (KEEP2_tr hK1 hKf11)), hx1, by omega, by omega⟩, _, rfl⟩)
    refine hR (?_ : R (_, _, _, _, _, _))
    refine hR (c_get hO5 rfl ?_)
    refine hR (?_ : R (_, _, _, _, _, _))
    refine hR (c_obj hO9 (zcall_i 0 0 (Nat.le_refl _) (Nat.le_refl _) (c_hasReader _ z0_5 a3 hT.1 hk5_0 (by omega) _ fun v12 hp14 => ?_)))
    refine (?_ : R (_, _, (.int (Int32.ofInt v12)) :: [], w, 0 + mc1, 0 + ms1))
    refine hR (k_ne (by omega) (fun hc15 => ?_) (fun hc15 => ?_))
    rotate_left
    · skip
      refine hR (?_ : R (_, _, _, _, _, _))
      obtain ⟨hTf23, hIf23, hpf23, hKf23⟩ := top_fr2 hT hT.1 fr3 (by decide) hT.2.2.1
      exact hR (zret_i rfl (Nat.le_refl _) trivial ⟨⟨_, hTf23, fun l m h => hIf23 _ _ (hI1 _ _ (hIt1 _ _ (h))), (KEEP2_tr hKt1 (KEEP2_tr hK1 hKf23)), hx1, by omega, by omega⟩, _, rfl⟩)
    iterate 3 refine hR (?_ : R (_, _, _, _, _, _))
    refine hR (c_obj hO5 (zcall_i 0 0 (Nat.le_refl _) (Nat.le_refl _) (c_alikeEitherWay _ z1 a2 a3 hT.1 hz1 (by omega) (by omega) _ fun v16 w17 hw17 g17 => ?_)))
    have fr18 := wfR_tr fr3 g17 (by decide)
    have hO19 := (g17.2 z1 (by rw [hz1]; decide)).trans hO5
    have hO20 := (g17.2 z0_5 (by rw [hk5_0]; decide)).trans hO9
    refine (?_ : R (_, _, (.int (Int32.ofInt v16)) :: [], w17, 0 + mc1, 0 + ms1))
    have aw21 := AWK_fr hT.1 g17 hT.2.2.1 (by decide)
    obtain ⟨hTf22, hIf22, hpf22, hKf22⟩ := top_fr2 hT hw17 fr18 (by decide) aw21
    exact hR (zret_i rfl (Nat.le_refl _) trivial ⟨⟨_, hTf22, fun l m h => hIf22 _ _ (hI1 _ _ (hIt1 _ _ (h))), (KEEP2_tr hKt1 (KEEP2_tr hK1 hKf22)), hx1, by omega, by omega⟩, _, rfl⟩)
theorem k_orbits {ρ : Nat → Nat} {w : zW} (hT : TOP ρ w) (d : Nat) (a1 a2 a3 : Int) (hr0 : -2147483648 ≤ a1 ∧ a1 ≤ 2147483647) (hr1 : -2147483648 ≤ a2 ∧ a2 ≤ 2147483647) (hr2 : -2147483648 ≤ a3 ∧ a3 ≤ 2147483647) : DET zTab (d + 7) iX11_orbits [.ref 0, .int (Int32.ofInt a1), .int (Int32.ofInt a2), .int (Int32.ofInt a3)] w (PB ρ w) := by
  refine z_rel (M := kX11_orbits) _ rfl (Nat.le_of_ble_eq_true rfl) fun R hR0 => ?_
  have hR : ∀ {pc : Nat} {L : zL} {S : List Value} {w1 : zW} {k n : Nat}, zsc (zCl zTab (d + 6)) (d + 6) kX11_orbits none zTab k n (PB ρ w k n) pc L S w1 k n R → R (pc, L, S, w1, k, n) := fun h => hR0 _ _ (Nat.le_refl _) (Nat.le_refl _) h
  have fr0 := wfR_rf [51, 80, 81, 82, 83, 84] ρ w
  iterate 2 refine hR (?_ : R (_, _, _, _, _, _))
  obtain ⟨y6_2, y7_2, hO2, hk2_0, hk2_1, hk2_2, hk2_3, hk2_4, hk2_5, hk2_6, hk2_7⟩ := CI_o1 hT.1 hT.2.1
  obtain ⟨hTt1, hIt1, hpt1, hKt1⟩ := top_fr2 hT hT.1 fr0 (by decide) hT.2.2.1
  obtain ⟨mc1, ms1, re1, w, ⟨ρ, hA1, hr_1⟩, hrun1⟩ := a_readingsAt hTt1 (d + 3) a1 (by omega)
  refine hR0 (0 + mc1) (0 + ms1) (Nat.le_add_right _ _) (Nat.le_add_right _ _) (c_obj hO2 (zcall_i mc1 ms1 (Nat.le_refl _) (Nat.le_refl _) (hrun1 _ ?_)))
  obtain ⟨hT, hI1, hK1, hx1, hm1, hs1⟩ := hA1
  have fr3 := wfR_rf [51, 80, 81, 82, 83, 84] ρ w
  rcases hr_1 with rfl | ⟨z1, rfl, hz1⟩
  · skip
    refine (?_ : R (_, _, .null :: [], w, 0 + mc1, 0 + ms1))
    iterate 4 refine hR (?_ : R (_, _, _, _, _, _))
    obtain ⟨hTf4, hIf4, hpf4, hKf4⟩ := top_fr2 hT hT.1 fr3 (by decide) hT.2.2.1
    exact hR (zret_i rfl (Nat.le_refl _) trivial ⟨⟨_, hTf4, fun l m h => hIf4 _ _ (hI1 _ _ (hIt1 _ _ (h))), (KEEP2_tr hKt1 (KEEP2_tr hK1 hKf4)), hx1, by omega, by omega⟩, _, rfl⟩)
  · skip
    refine (?_ : R (_, _, (.ref z1) :: [], w, 0 + mc1, 0 + ms1))
    iterate 4 refine hR (?_ : R (_, _, _, _, _, _))
    obtain ⟨z0_5, z2_5, z3_5, hO5, hk5_0, hk5_1, hk5_2, hk5_3, hk5_4⟩ := CI_o50 hT.1 hz1
    refine hR (c_get hO5 rfl ?_)
    refine hR (?_ : R (_, _, _, _, _, _))
    obtain ⟨x0_9, x1_9, x2_9, hO9, hk9_0, hk9_1, hk9_2, hk9_3, hk9_4, hk9_5, hk9_6⟩ := CI_o20 hT.1 hk5_0
    refine hR (c_obj hO9 (zcall_i 0 0 (Nat.le_refl _) (Nat.le_refl _) (c_hasReader _ z0_5 a2 hT.1 hk5_0 (by omega) _ fun v6 hp8 => ?_)))
    refine (?_ : R (_, _, (.int (Int32.ofInt v6)) :: [], w, 0 + mc1, 0 + ms1))
    refine hR (k_eq (by omega) (fun hc10 => ?_) (fun hc10 => ?_))
    · skip
      refine hR (?_ : R (_, _, _, _, _, _))
      obtain ⟨hTf11, hIf11, hpf11, hKf11⟩ := top_fr2 hT hT.1 fr3 (by decide) hT.2.2.1
      exact hR (zret_i rfl (Nat.le_refl _) trivial ⟨⟨_, hTf11, fun l m h => hIf11 _ _ (hI1 _ _ (hIt1 _ _ (h))), (KEEP2_tr hKt1 (KEEP2_tr hK1 hKf11)), hx1, by omega, by omega⟩, _, rfl⟩)
    refine hR (?_ : R (_, _, _, _, _, _))
    refine hR (k_lt (by omega) (fun hc12 => ?_) (fun hc12 => ?_))
    · skip
      refine hR (?_ : R (_, _, _, _, _, _))
      obtain ⟨hTf13, hIf13, hpf13, hKf13⟩ := top_fr2 hT hT.1 fr3 (by decide) hT.2.2.1
      exact hR (zret_i rfl (Nat.le_refl _) trivial ⟨⟨_, hTf13, fun l m h => hIf13 _ _ (hI1 _ _ (hIt1 _ _ (h))), (KEEP2_tr hKt1 (KEEP2_tr hK1 hKf13)), hx1, by omega, by omega⟩, _, rfl⟩)
    refine hR (?_ : R (_, _, _, _, _, _))
    refine hR (t_c 6 (by decide) ?_)
    refine hR (j_lt (by omega) (by omega) (fun hc14 => ?_) (fun hc14 => ?_))
    rotate_left
    · skip
      refine hR (?_ : R (_, _, _, _, _, _))
      obtain ⟨hTf26, hIf26, hpf26, hKf26⟩ := top_fr2 hT hT.1 fr3 (by decide) hT.2.2.1
      exact hR (zret_i rfl (Nat.le_refl _) trivial ⟨⟨_, hTf26, fun l m h => hIf26 _ _ (hI1 _ _ (hIt1 _ _ (h))), (KEEP2_tr hKt1 (KEEP2_tr hK1 hKf26)), hx1, by omega, by omega⟩, _, rfl⟩)
    refine hR (?_ : R (_, _, _, _, _, _))
    obtain ⟨y6_16, y7_16, hO16, hk16_0, hk16_1, hk16_2, hk16_3, hk16_4, hk16_5, hk16_6, hk16_7⟩ := CI_o1 hT.1 hT.2.1
    obtain ⟨hTt15, hIt15, hpt15, hKt15⟩ := top_fr2 hT hT.1 fr3 (by decide) hT.2.2.1
    obtain ⟨mc15, ms15, re15, w, ⟨ρ, z15, hA15, hre15, hz15⟩, hrun15⟩ := a_ringsThere hTt15 (d + 3)
    subst hre15
    refine hR0 (0 + mc1 + mc15) (0 + ms1 + ms15) (Nat.le_add_right _ _) (Nat.le_add_right _ _) (c_obj hO16 (zcall_i mc15 ms15 (Nat.le_refl _) (Nat.le_refl _) (hrun15 _ ?_)))
    obtain ⟨hT, hI15, hK15, hx15, hm15, hs15⟩ := hA15
    have hl17 : ρ z1 = 50 := (hx15 z1 (by rw [hz1]; decide)).trans hz1
    have fr18 := wfR_rf [51, 80, 81, 82, 83, 84] ρ w
    refine (?_ : R (_, _, (.ref z15) :: [], w, 0 + mc1 + mc15, 0 + ms1 + ms15))
    iterate 4 refine hR (?_ : R (_, _, _, _, _, _))
    obtain ⟨x1_20, x2_20, x3_20, x4_20, x5_20, hO20, hk20_0, hk20_1, hk20_2, hk20_3, hk20_4, hk20_5, hk20_6, hk20_7, hk20_8, hk20_9, hk20_10, hk20_11, hk20_12, hk20_13, hk20_14⟩ := CI_o80 hT.1 hz15
    refine hR (c_obj hO20 (zcall_i 0 0 (Nat.le_refl _) (Nat.le_refl _) (c_findOrbits _ z15 z1 a2 hT.1 hz15 hl17 (by omega) _ fun w19 hw19 g19 => ?_)))
    have fr21 := wfR_tr fr18 g19 (by decide)
    have hO22 := (g19.2 z15 (by rw [hz15]; decide)).trans hO20
    refine (?_ : R (_, _, [], w19, 0 + mc1 + mc15, 0 + ms1 + ms15))
    have aw23 := AWK_fr hT.1 g19 hT.2.2.1 (by decide)
    refine hR (?_ : R (_, _, _, _, _, _))
    refine hR (c_get hO22 rfl ?_)
    refine hR (?_ : R (_, _, _, _, _, _))
    refine hR (c_ald hw19 (by rw [hk20_0]; rfl) (by omega) (by omega) (Nat.le_of_ble_eq_true rfl) fun v24 lv24 uv24 => ?_)
    obtain ⟨hTf25, hIf25, hpf25, hKf25⟩ := top_fr2 hT hw19 fr21 (by decide) aw23
    exact hR (zret_i rfl (Nat.le_refl _) trivial ⟨⟨_, hTf25, fun l m h => hIf25 _ _ (hI15 _ _ (hIt15 _ _ (hI1 _ _ (hIt1 _ _ (h))))), (KEEP2_tr hKt1 (KEEP2_tr hK1 (KEEP2_tr hKt15 (KEEP2_tr hK15 hKf25)))), (EXT_tr hx1 hx15), by omega, by omega⟩, _, rfl⟩)
theorem k_elders {ρ : Nat → Nat} {w : zW} (hT : TOP ρ w) (d : Nat) (a1 a2 a3 a4 : Int) (hr0 : -2147483648 ≤ a1 ∧ a1 ≤ 2147483647) (hr1 : -2147483648 ≤ a2 ∧ a2 ≤ 2147483647) (hr2 : -2147483648 ≤ a3 ∧ a3 ≤ 2147483647) (hr3 : -2147483648 ≤ a4 ∧ a4 ≤ 2147483647) : DET zTab (d + 7) iX11_elders [.ref 0, .int (Int32.ofInt a1), .int (Int32.ofInt a2), .int (Int32.ofInt a3), .int (Int32.ofInt a4)] w (PB ρ w) := by
  refine z_rel (M := kX11_elders) _ rfl (Nat.le_of_ble_eq_true rfl) fun R hR0 => ?_
  have hR : ∀ {pc : Nat} {L : zL} {S : List Value} {w1 : zW} {k n : Nat}, zsc (zCl zTab (d + 6)) (d + 6) kX11_elders none zTab k n (PB ρ w k n) pc L S w1 k n R → R (pc, L, S, w1, k, n) := fun h => hR0 _ _ (Nat.le_refl _) (Nat.le_refl _) h
  have fr0 := wfR_rf [50, 51, 52] ρ w
  iterate 2 refine hR (?_ : R (_, _, _, _, _, _))
  obtain ⟨y6_2, y7_2, hO2, hk2_0, hk2_1, hk2_2, hk2_3, hk2_4, hk2_5, hk2_6, hk2_7⟩ := CI_o1 hT.1 hT.2.1
  obtain ⟨hTt1, hIt1, hpt1, hKt1⟩ := top_fr2 hT hT.1 fr0 (by decide) hT.2.2.1
  obtain ⟨mc1, ms1, re1, w, ⟨ρ, hA1, hr_1⟩, hrun1⟩ := a_readingsAt hTt1 (d + 3) a1 (by omega)
  refine hR0 (0 + mc1) (0 + ms1) (Nat.le_add_right _ _) (Nat.le_add_right _ _) (c_obj hO2 (zcall_i mc1 ms1 (Nat.le_refl _) (Nat.le_refl _) (hrun1 _ ?_)))
  obtain ⟨hT, hI1, hK1, hx1, hm1, hs1⟩ := hA1
  have fr3 := wfR_rf [50, 51, 52] ρ w
  rcases hr_1 with rfl | ⟨z1, rfl, hz1⟩
  · skip
    refine (?_ : R (_, _, .null :: [], w, 0 + mc1, 0 + ms1))
    iterate 3 refine hR (?_ : R (_, _, _, _, _, _))
    refine hR (t_c (-2) (by decide) ?_)
    obtain ⟨hTf4, hIf4, hpf4, hKf4⟩ := top_fr2 hT hT.1 fr3 (by decide) hT.2.2.1
    exact hR (zret_i rfl (Nat.le_refl _) trivial ⟨⟨_, hTf4, fun l m h => hIf4 _ _ (hI1 _ _ (hIt1 _ _ (h))), (KEEP2_tr hKt1 (KEEP2_tr hK1 hKf4)), hx1, by omega, by omega⟩, _, rfl⟩)
  · skip
    refine (?_ : R (_, _, (.ref z1) :: [], w, 0 + mc1, 0 + ms1))
    iterate 4 refine hR (?_ : R (_, _, _, _, _, _))
    refine hR (zcall_i 0 0 (Nat.le_refl _) (Nat.le_refl _) (c_isText _ _ a2 (by omega) _ fun v5 hp7 => ?_))
    refine (?_ : R (_, _, (.int (Int32.ofInt v5)) :: [], w, 0 + mc1, 0 + ms1))
    refine hR (k_eq (by omega) (fun hc8 => ?_) (fun hc8 => ?_))
    · skip
      refine hR (t_c (-2) (by decide) ?_)
      obtain ⟨hTf9, hIf9, hpf9, hKf9⟩ := top_fr2 hT hT.1 fr3 (by decide) hT.2.2.1
      exact hR (zret_i rfl (Nat.le_refl _) trivial ⟨⟨_, hTf9, fun l m h => hIf9 _ _ (hI1 _ _ (hIt1 _ _ (h))), (KEEP2_tr hKt1 (KEEP2_tr hK1 hKf9)), hx1, by omega, by omega⟩, _, rfl⟩)
    refine hR (?_ : R (_, _, _, _, _, _))
    refine hR (zcall_i 0 0 (Nat.le_refl _) (Nat.le_refl _) (c_isSpan _ _ a3 (by omega) _ fun v10 hp12 => ?_))
    refine (?_ : R (_, _, (.int (Int32.ofInt v10)) :: [], w, 0 + mc1, 0 + ms1))
    refine hR (k_ne (by omega) (fun hc13 => ?_) (fun hc13 => ?_))
    rotate_left
    · skip
      refine hR (t_c (-2) (by decide) ?_)
      obtain ⟨hTf27, hIf27, hpf27, hKf27⟩ := top_fr2 hT hT.1 fr3 (by decide) hT.2.2.1
      exact hR (zret_i rfl (Nat.le_refl _) trivial ⟨⟨_, hTf27, fun l m h => hIf27 _ _ (hI1 _ _ (hIt1 _ _ (h))), (KEEP2_tr hKt1 (KEEP2_tr hK1 hKf27)), hx1, by omega, by omega⟩, _, rfl⟩)
    iterate 3 refine hR (?_ : R (_, _, _, _, _, _))
    obtain ⟨z0_15, z2_15, z3_15, hO15, hk15_0, hk15_1, hk15_2, hk15_3, hk15_4⟩ := CI_o50 hT.1 hz1
    refine hR (c_obj hO15 (zcall_i 0 0 (Nat.le_refl _) (Nat.le_refl _) (c_goBack _ z1 a2 a3 hT.1 hz1 (by omega) (by omega) _ fun w14 hw14 g14 => ?_)))
    have fr16 := wfR_tr fr3 g14 (by decide)
    refine (?_ : R (_, _, [], w14, 0 + mc1, 0 + ms1))
    have aw17 := AWK_fr hT.1 g14 hT.2.2.1 (by decide)
    refine hR (?_ : R (_, _, _, _, _, _))
    refine hR (k_eq (by omega) (fun hc18 => ?_) (fun hc18 => ?_))
    · skip
      refine hR (?_ : R (_, _, _, _, _, _))
      obtain ⟨z0_21, z2_21, z3_21, hO21, hk21_0, hk21_1, hk21_2, hk21_3, hk21_4⟩ := CI_o50 hw14 hz1
      refine hR (c_obj hO21 (zcall_i 0 0 (Nat.le_refl _) (Nat.le_refl _) (c_marked _ z1 hw14 hz1 _ fun v19 => ?_)))
      refine (?_ : R (_, _, (.int (Int32.ofInt v19)) :: [], w14, 0 + mc1, 0 + ms1))
      obtain ⟨hTf22, hIf22, hpf22, hKf22⟩ := top_fr2 hT hw14 fr16 (by decide) aw17
      exact hR (zret_i rfl (Nat.le_refl _) trivial ⟨⟨_, hTf22, fun l m h => hIf22 _ _ (hI1 _ _ (hIt1 _ _ (h))), (KEEP2_tr hKt1 (KEEP2_tr hK1 hKf22)), hx1, by omega, by omega⟩, _, rfl⟩)
    refine hR (?_ : R (_, _, _, _, _, _))
    obtain ⟨z0_25, z2_25, z3_25, hO25, hk25_0, hk25_1, hk25_2, hk25_3, hk25_4⟩ := CI_o50 hw14 hz1
    refine hR (c_obj hO25 (zcall_i 0 0 (Nat.le_refl _) (Nat.le_refl _) (c_leastMarked _ z1 hw14 hz1 _ fun v23 => ?_)))
    refine (?_ : R (_, _, (.int (Int32.ofInt v23)) :: [], w14, 0 + mc1, 0 + ms1))
    refine hR (?_ : R (_, _, _, _, _, _))
    obtain ⟨hTf26, hIf26, hpf26, hKf26⟩ := top_fr2 hT hw14 fr16 (by decide) aw17
    exact hR (zret_i rfl (Nat.le_refl _) trivial ⟨⟨_, hTf26, fun l m h => hIf26 _ _ (hI1 _ _ (hIt1 _ _ (h))), (KEEP2_tr hKt1 (KEEP2_tr hK1 hKf26)), hx1, by omega, by omega⟩, _, rfl⟩)
theorem k_unmade {ρ : Nat → Nat} {w : zW} (hT : TOP ρ w) (d : Nat) (a1 a2 : Int) (hr0 : -2147483648 ≤ a1 ∧ a1 ≤ 2147483647) (hr1 : -2147483648 ≤ a2 ∧ a2 ≤ 2147483647) : DET zTab (d + 6) iX11_unmade [.ref 0, .int (Int32.ofInt a1), .int (Int32.ofInt a2)] w (PB ρ w) := by
  refine z_rel (M := kX11_unmade) _ rfl (Nat.le_of_ble_eq_true rfl) fun R hR0 => ?_
  have hR : ∀ {pc : Nat} {L : zL} {S : List Value} {w1 : zW} {k n : Nat}, zsc (zCl zTab (d + 5)) (d + 5) kX11_unmade none zTab k n (PB ρ w k n) pc L S w1 k n R → R (pc, L, S, w1, k, n) := fun h => hR0 _ _ (Nat.le_refl _) (Nat.le_refl _) h
  have fr0 := wfR_rf [51, 52] ρ w
  iterate 2 refine hR (?_ : R (_, _, _, _, _, _))
  obtain ⟨y6_2, y7_2, hO2, hk2_0, hk2_1, hk2_2, hk2_3, hk2_4, hk2_5, hk2_6, hk2_7⟩ := CI_o1 hT.1 hT.2.1
  obtain ⟨hTt1, hIt1, hpt1, hKt1⟩ := top_fr2 hT hT.1 fr0 (by decide) hT.2.2.1
  obtain ⟨mc1, ms1, re1, w, ⟨ρ, hA1, hr_1⟩, hrun1⟩ := a_readingsAt hTt1 (d + 2) a1 (by omega)
  refine hR0 (0 + mc1) (0 + ms1) (Nat.le_add_right _ _) (Nat.le_add_right _ _) (c_obj hO2 (zcall_i mc1 ms1 (Nat.le_refl _) (Nat.le_refl _) (hrun1 _ ?_)))
  obtain ⟨hT, hI1, hK1, hx1, hm1, hs1⟩ := hA1
  have fr3 := wfR_rf [51, 52] ρ w
  rcases hr_1 with rfl | ⟨z1, rfl, hz1⟩
  · skip
    refine (?_ : R (_, _, .null :: [], w, 0 + mc1, 0 + ms1))
    iterate 3 refine hR (?_ : R (_, _, _, _, _, _))
    refine hR (t_c (-2) (by decide) ?_)
    obtain ⟨hTf4, hIf4, hpf4, hKf4⟩ := top_fr2 hT hT.1 fr3 (by decide) hT.2.2.1
    exact hR (zret_i rfl (Nat.le_refl _) trivial ⟨⟨_, hTf4, fun l m h => hIf4 _ _ (hI1 _ _ (hIt1 _ _ (h))), (KEEP2_tr hKt1 (KEEP2_tr hK1 hKf4)), hx1, by omega, by omega⟩, _, rfl⟩)
  · skip
    refine (?_ : R (_, _, (.ref z1) :: [], w, 0 + mc1, 0 + ms1))
    iterate 4 refine hR (?_ : R (_, _, _, _, _, _))
    obtain ⟨z0_6, z2_6, z3_6, hO6, hk6_0, hk6_1, hk6_2, hk6_3, hk6_4⟩ := CI_o50 hT.1 hz1
    refine hR (c_obj hO6 (zcall_i 0 0 (Nat.le_refl _) (Nat.le_refl _) (c_markUnmade _ z1 hT.1 hz1 _ fun w5 hw5 g5 => ?_)))
    have fr7 := wfR_tr fr3 g5 (by decide)
    have hO8 := (g5.2 z1 (by rw [hz1]; decide)).trans hO6
    refine (?_ : R (_, _, [], w5, 0 + mc1, 0 + ms1))
    have aw9 := AWK_fr hT.1 g5 hT.2.2.1 (by decide)
    refine hR (?_ : R (_, _, _, _, _, _))
    refine hR (k_eq (by omega) (fun hc10 => ?_) (fun hc10 => ?_))
    · skip
      refine hR (?_ : R (_, _, _, _, _, _))
      refine hR (c_obj hO8 (zcall_i 0 0 (Nat.le_refl _) (Nat.le_refl _) (c_marked _ z1 hw5 hz1 _ fun v11 => ?_)))
      refine (?_ : R (_, _, (.int (Int32.ofInt v11)) :: [], w5, 0 + mc1, 0 + ms1))
      obtain ⟨hTf13, hIf13, hpf13, hKf13⟩ := top_fr2 hT hw5 fr7 (by decide) aw9
      exact hR (zret_i rfl (Nat.le_refl _) trivial ⟨⟨_, hTf13, fun l m h => hIf13 _ _ (hI1 _ _ (hIt1 _ _ (h))), (KEEP2_tr hKt1 (KEEP2_tr hK1 hKf13)), hx1, by omega, by omega⟩, _, rfl⟩)
    refine hR (?_ : R (_, _, _, _, _, _))
    refine hR (c_obj hO8 (zcall_i 0 0 (Nat.le_refl _) (Nat.le_refl _) (c_leastMarked _ z1 hw5 hz1 _ fun v14 => ?_)))
    refine (?_ : R (_, _, (.int (Int32.ofInt v14)) :: [], w5, 0 + mc1, 0 + ms1))
    refine hR (?_ : R (_, _, _, _, _, _))
    obtain ⟨hTf16, hIf16, hpf16, hKf16⟩ := top_fr2 hT hw5 fr7 (by decide) aw9
    exact hR (zret_i rfl (Nat.le_refl _) trivial ⟨⟨_, hTf16, fun l m h => hIf16 _ _ (hI1 _ _ (hIt1 _ _ (h))), (KEEP2_tr hKt1 (KEEP2_tr hK1 hKf16)), hx1, by omega, by omega⟩, _, rfl⟩)
theorem k_nearest {ρ : Nat → Nat} {w : zW} (hT : TOP ρ w) (d : Nat) (a1 a2 a3 a4 : Int) (hr0 : -2147483648 ≤ a1 ∧ a1 ≤ 2147483647) (hr1 : -2147483648 ≤ a2 ∧ a2 ≤ 2147483647) (hr2 : -2147483648 ≤ a3 ∧ a3 ≤ 2147483647) (hr3 : -2147483648 ≤ a4 ∧ a4 ≤ 2147483647) : DET zTab (d + 6) iX11_nearest [.ref 0, .int (Int32.ofInt a1), .int (Int32.ofInt a2), .int (Int32.ofInt a3), .int (Int32.ofInt a4)] w (PB ρ w) := by
  refine z_rel (M := kX11_nearest) _ rfl (Nat.le_of_ble_eq_true rfl) fun R hR0 => ?_
  have hR : ∀ {pc : Nat} {L : zL} {S : List Value} {w1 : zW} {k n : Nat}, zsc (zCl zTab (d + 5)) (d + 5) kX11_nearest none zTab k n (PB ρ w k n) pc L S w1 k n R → R (pc, L, S, w1, k, n) := fun h => hR0 _ _ (Nat.le_refl _) (Nat.le_refl _) h
  have fr0 := wfR_rf [51, 60, 61, 62, 63, 64] ρ w
  iterate 2 refine hR (?_ : R (_, _, _, _, _, _))
  obtain ⟨y6_2, y7_2, hO2, hk2_0, hk2_1, hk2_2, hk2_3, hk2_4, hk2_5, hk2_6, hk2_7⟩ := CI_o1 hT.1 hT.2.1
  obtain ⟨hTt1, hIt1, hpt1, hKt1⟩ := top_fr2 hT hT.1 fr0 (by decide) hT.2.2.1
  obtain ⟨mc1, ms1, re1, w, ⟨ρ, hA1, hr_1⟩, hrun1⟩ := a_readingsAt hTt1 (d + 2) a1 (by omega)
  refine hR0 (0 + mc1) (0 + ms1) (Nat.le_add_right _ _) (Nat.le_add_right _ _) (c_obj hO2 (zcall_i mc1 ms1 (Nat.le_refl _) (Nat.le_refl _) (hrun1 _ ?_)))
  obtain ⟨hT, hI1, hK1, hx1, hm1, hs1⟩ := hA1
  have fr3 := wfR_rf [51, 60, 61, 62, 63, 64] ρ w
  rcases hr_1 with rfl | ⟨z1, rfl, hz1⟩
  · skip
    refine (?_ : R (_, _, .null :: [], w, 0 + mc1, 0 + ms1))
    iterate 4 refine hR (?_ : R (_, _, _, _, _, _))
    obtain ⟨hTf4, hIf4, hpf4, hKf4⟩ := top_fr2 hT hT.1 fr3 (by decide) hT.2.2.1
    exact hR (zret_i rfl (Nat.le_refl _) trivial ⟨⟨_, hTf4, fun l m h => hIf4 _ _ (hI1 _ _ (hIt1 _ _ (h))), (KEEP2_tr hKt1 (KEEP2_tr hK1 hKf4)), hx1, by omega, by omega⟩, _, rfl⟩)
  · skip
    refine (?_ : R (_, _, (.ref z1) :: [], w, 0 + mc1, 0 + ms1))
    iterate 4 refine hR (?_ : R (_, _, _, _, _, _))
    refine hR (zcall_i 0 0 (Nat.le_refl _) (Nat.le_refl _) (c_isText _ _ a2 (by omega) _ fun v5 hp7 => ?_))
    refine (?_ : R (_, _, (.int (Int32.ofInt v5)) :: [], w, 0 + mc1, 0 + ms1))
    refine hR (k_eq (by omega) (fun hc8 => ?_) (fun hc8 => ?_))
    · skip
      refine hR (?_ : R (_, _, _, _, _, _))
      obtain ⟨hTf9, hIf9, hpf9, hKf9⟩ := top_fr2 hT hT.1 fr3 (by decide) hT.2.2.1
      exact hR (zret_i rfl (Nat.le_refl _) trivial ⟨⟨_, hTf9, fun l m h => hIf9 _ _ (hI1 _ _ (hIt1 _ _ (h))), (KEEP2_tr hKt1 (KEEP2_tr hK1 hKf9)), hx1, by omega, by omega⟩, _, rfl⟩)
    refine hR (?_ : R (_, _, _, _, _, _))
    refine hR (zcall_i 0 0 (Nat.le_refl _) (Nat.le_refl _) (c_isText _ _ a3 (by omega) _ fun v10 hp12 => ?_))
    refine (?_ : R (_, _, (.int (Int32.ofInt v10)) :: [], w, 0 + mc1, 0 + ms1))
    refine hR (k_ne (by omega) (fun hc13 => ?_) (fun hc13 => ?_))
    rotate_left
    · skip
      refine hR (?_ : R (_, _, _, _, _, _))
      obtain ⟨hTf37, hIf37, hpf37, hKf37⟩ := top_fr2 hT hT.1 fr3 (by decide) hT.2.2.1
      exact hR (zret_i rfl (Nat.le_refl _) trivial ⟨⟨_, hTf37, fun l m h => hIf37 _ _ (hI1 _ _ (hIt1 _ _ (h))), (KEEP2_tr hKt1 (KEEP2_tr hK1 hKf37)), hx1, by omega, by omega⟩, _, rfl⟩)
    iterate 2 refine hR (?_ : R (_, _, _, _, _, _))
    obtain ⟨y6_15, y7_15, hO15, hk15_0, hk15_1, hk15_2, hk15_3, hk15_4, hk15_5, hk15_6, hk15_7⟩ := CI_o1 hT.1 hT.2.1
    obtain ⟨hTt14, hIt14, hpt14, hKt14⟩ := top_fr2 hT hT.1 fr3 (by decide) hT.2.2.1
    obtain ⟨mc14, ms14, re14, w, ⟨ρ, z14, hA14, hre14, hz14⟩, hrun14⟩ := a_walkAt hTt14 (d + 2) 0 (by omega)
    subst hre14
    refine hR0 (0 + mc1 + mc14) (0 + ms1 + ms14) (Nat.le_add_right _ _) (Nat.le_add_right _ _) (c_obj hO15 (zcall_i mc14 ms14 (Nat.le_refl _) (Nat.le_refl _) (hrun14 _ ?_)))
    obtain ⟨hT, hI14, hK14, hx14, hm14, hs14⟩ := hA14
    have hl16 : ρ z1 = 50 := (hx14 z1 (by rw [hz1]; decide)).trans hz1
    have fr17 := wfR_rf [51, 60, 61, 62, 63, 64] ρ w
    refine (?_ : R (_, _, (.ref z14) :: [], w, 0 + mc1 + mc14, 0 + ms1 + ms14))
    iterate 5 refine hR (?_ : R (_, _, _, _, _, _))
    obtain ⟨z0_21, z2_21, z3_21, hO21, hk21_0, hk21_1, hk21_2, hk21_3, hk21_4⟩ := CI_o50 hT.1 hl16
    refine hR (c_obj hO21 (zcall_i 0 0 (Nat.le_refl _) (Nat.le_refl _) (c_all _ z1 hT.1 hl16 _ fun v18 hp20 => ?_)))
    refine (?_ : R (_, _, (.int (Int32.ofInt v18)) :: (.int (Int32.ofInt a2)) :: (.ref z1) :: (.ref z14) :: [], w, 0 + mc1 + mc14, 0 + ms1 + ms14))
    refine hR (?_ : R (_, _, _, _, _, _))
    obtain ⟨x0_24, hO24, hk24_0, hk24_1, hk24_2, hk24_3, hk24_4⟩ := CI_o60 hT.1 hz14
    refine hR (c_obj hO24 (zcall_i 0 0 (Nat.le_refl _) (Nat.le_refl _) (c_goA _ z14 z1 a2 v18 ((-1)) hT.1 hz14 hl16 hT.2.2.1 (by omega) (by omega) (by omega) _ fun w22 hw22 g22 hp23 => ?_)))
    have fr25 := wfR_tr fr17 g22 (by decide)
    have hO26 := (g22.2 z1 (by rw [hl16]; decide)).trans hO21
    refine (?_ : R (_, _, [], w22, 0 + mc1 + mc14, 0 + ms1 + ms14))
    iterate 2 refine hR (?_ : R (_, _, _, _, _, _))
    obtain ⟨x0_30, hO30, hk30_0, hk30_1, hk30_2, hk30_3, hk30_4⟩ := CI_o60 hw22 hz14
    refine hR (c_obj hO30 (zcall_i 0 0 (Nat.le_refl _) (Nat.le_refl _) (c_nearestTo _ z14 a3 hw22 hz14 (by omega) _ fun v27 hp29 => ?_)))
    refine (?_ : R (_, _, (.int (Int32.ofInt v27)) :: [], w22, 0 + mc1 + mc14, 0 + ms1 + ms14))
    iterate 2 refine hR (?_ : R (_, _, _, _, _, _))
    refine hR (k_eq (by omega) (fun hc31 => ?_) (fun hc31 => ?_))
    rotate_left
    · skip
      iterate 2 refine hR (?_ : R (_, _, _, _, _, _))
      obtain ⟨hTf36, hIf36, hpf36, hKf36⟩ := top_fr2 hT hw22 fr25 (by decide) hp23
      exact hR (zret_i rfl (Nat.le_refl _) trivial ⟨⟨_, hTf36, fun l m h => hIf36 _ _ (hI14 _ _ (hIt14 _ _ (hI1 _ _ (hIt1 _ _ (h))))), (KEEP2_tr hKt1 (KEEP2_tr hK1 (KEEP2_tr hKt14 (KEEP2_tr hK14 hKf36)))), (EXT_tr hx1 hx14), by omega, by omega⟩, _, rfl⟩)
    iterate 2 refine hR (?_ : R (_, _, _, _, _, _))
    refine hR (zcall_i 0 0 (Nat.le_refl _) (Nat.le_refl _) (c_driftOf _ _ v27 a3 (by omega) (by omega) _ fun v32 hp34 => ?_))
    refine (?_ : R (_, _, (.int (Int32.ofInt v32)) :: [], w22, 0 + mc1 + mc14, 0 + ms1 + ms14))
    obtain ⟨hTf35, hIf35, hpf35, hKf35⟩ := top_fr2 hT hw22 fr25 (by decide) hp23
    exact hR (zret_i rfl (Nat.le_refl _) trivial ⟨⟨_, hTf35, fun l m h => hIf35 _ _ (hI14 _ _ (hIt14 _ _ (hI1 _ _ (hIt1 _ _ (h))))), (KEEP2_tr hKt1 (KEEP2_tr hK1 (KEEP2_tr hKt14 (KEEP2_tr hK14 hKf35)))), (EXT_tr hx1 hx14), by omega, by omega⟩, _, rfl⟩)
theorem k_settles {ρ : Nat → Nat} {w : zW} (hT : TOP ρ w) (d : Nat) (a1 a2 a3 : Int) (hr0 : -2147483648 ≤ a1 ∧ a1 ≤ 2147483647) (hr1 : -2147483648 ≤ a2 ∧ a2 ≤ 2147483647) (hr2 : -2147483648 ≤ a3 ∧ a3 ≤ 2147483647) : DET zTab (d + 7) iX11_settles [.ref 0, .int (Int32.ofInt a1), .int (Int32.ofInt a2), .int (Int32.ofInt a3)] w (PB ρ w) := by
  refine z_rel (M := kX11_settles) _ rfl (Nat.le_of_ble_eq_true rfl) fun R hR0 => ?_
  have hR : ∀ {pc : Nat} {L : zL} {S : List Value} {w1 : zW} {k n : Nat}, zsc (zCl zTab (d + 6)) (d + 6) kX11_settles none zTab k n (PB ρ w k n) pc L S w1 k n R → R (pc, L, S, w1, k, n) := fun h => hR0 _ _ (Nat.le_refl _) (Nat.le_refl _) h
  have fr0 := wfR_rf [51, 60, 61, 62, 63, 64] ρ w
  iterate 2 refine hR (?_ : R (_, _, _, _, _, _))
  obtain ⟨y6_2, y7_2, hO2, hk2_0, hk2_1, hk2_2, hk2_3, hk2_4, hk2_5, hk2_6, hk2_7⟩ := CI_o1 hT.1 hT.2.1
  obtain ⟨hTt1, hIt1, hpt1, hKt1⟩ := top_fr2 hT hT.1 fr0 (by decide) hT.2.2.1
  obtain ⟨mc1, ms1, re1, w, ⟨ρ, hA1, hr_1⟩, hrun1⟩ := a_readingsAt hTt1 (d + 3) a1 (by omega)
  refine hR0 (0 + mc1) (0 + ms1) (Nat.le_add_right _ _) (Nat.le_add_right _ _) (c_obj hO2 (zcall_i mc1 ms1 (Nat.le_refl _) (Nat.le_refl _) (hrun1 _ ?_)))
  obtain ⟨hT, hI1, hK1, hx1, hm1, hs1⟩ := hA1
  have fr3 := wfR_rf [51, 60, 61, 62, 63, 64] ρ w
  rcases hr_1 with rfl | ⟨z1, rfl, hz1⟩
  · skip
    refine (?_ : R (_, _, .null :: [], w, 0 + mc1, 0 + ms1))
    iterate 4 refine hR (?_ : R (_, _, _, _, _, _))
    obtain ⟨hTf4, hIf4, hpf4, hKf4⟩ := top_fr2 hT hT.1 fr3 (by decide) hT.2.2.1
    exact hR (zret_i rfl (Nat.le_refl _) trivial ⟨⟨_, hTf4, fun l m h => hIf4 _ _ (hI1 _ _ (hIt1 _ _ (h))), (KEEP2_tr hKt1 (KEEP2_tr hK1 hKf4)), hx1, by omega, by omega⟩, _, rfl⟩)
  · skip
    refine (?_ : R (_, _, (.ref z1) :: [], w, 0 + mc1, 0 + ms1))
    iterate 4 refine hR (?_ : R (_, _, _, _, _, _))
    refine hR (zcall_i 0 0 (Nat.le_refl _) (Nat.le_refl _) (c_isText _ _ a2 (by omega) _ fun v5 hp7 => ?_))
    refine (?_ : R (_, _, (.int (Int32.ofInt v5)) :: [], w, 0 + mc1, 0 + ms1))
    refine hR (k_ne (by omega) (fun hc8 => ?_) (fun hc8 => ?_))
    rotate_left
    · skip
      refine hR (?_ : R (_, _, _, _, _, _))
      obtain ⟨hTf36, hIf36, hpf36, hKf36⟩ := top_fr2 hT hT.1 fr3 (by decide) hT.2.2.1
      exact hR (zret_i rfl (Nat.le_refl _) trivial ⟨⟨_, hTf36, fun l m h => hIf36 _ _ (hI1 _ _ (hIt1 _ _ (h))), (KEEP2_tr hKt1 (KEEP2_tr hK1 hKf36)), hx1, by omega, by omega⟩, _, rfl⟩)
    iterate 2 refine hR (?_ : R (_, _, _, _, _, _))
    obtain ⟨y6_10, y7_10, hO10, hk10_0, hk10_1, hk10_2, hk10_3, hk10_4, hk10_5, hk10_6, hk10_7⟩ := CI_o1 hT.1 hT.2.1
    obtain ⟨hTt9, hIt9, hpt9, hKt9⟩ := top_fr2 hT hT.1 fr3 (by decide) hT.2.2.1
    obtain ⟨mc9, ms9, re9, w, ⟨ρ, z9, hA9, hre9, hz9⟩, hrun9⟩ := a_walkAt hTt9 (d + 3) 0 (by omega)
    subst hre9
    refine hR0 (0 + mc1 + mc9) (0 + ms1 + ms9) (Nat.le_add_right _ _) (Nat.le_add_right _ _) (c_obj hO10 (zcall_i mc9 ms9 (Nat.le_refl _) (Nat.le_refl _) (hrun9 _ ?_)))
    obtain ⟨hT, hI9, hK9, hx9, hm9, hs9⟩ := hA9
    have hl11 : ρ z1 = 50 := (hx9 z1 (by rw [hz1]; decide)).trans hz1
    have fr12 := wfR_rf [51, 60, 61, 62, 63, 64] ρ w
    refine (?_ : R (_, _, (.ref z9) :: [], w, 0 + mc1 + mc9, 0 + ms1 + ms9))
    iterate 5 refine hR (?_ : R (_, _, _, _, _, _))
    obtain ⟨z0_16, z2_16, z3_16, hO16, hk16_0, hk16_1, hk16_2, hk16_3, hk16_4⟩ := CI_o50 hT.1 hl11
    refine hR (c_obj hO16 (zcall_i 0 0 (Nat.le_refl _) (Nat.le_refl _) (c_all _ z1 hT.1 hl11 _ fun v13 hp15 => ?_)))
    refine (?_ : R (_, _, (.int (Int32.ofInt v13)) :: (.int (Int32.ofInt a2)) :: (.ref z1) :: (.ref z9) :: [], w, 0 + mc1 + mc9, 0 + ms1 + ms9))
    refine hR (?_ : R (_, _, _, _, _, _))
    obtain ⟨x0_19, hO19, hk19_0, hk19_1, hk19_2, hk19_3, hk19_4⟩ := CI_o60 hT.1 hz9
    refine hR (c_obj hO19 (zcall_i 0 0 (Nat.le_refl _) (Nat.le_refl _) (c_goA _ z9 z1 a2 v13 ((-1)) hT.1 hz9 hl11 hT.2.2.1 (by omega) (by omega) (by omega) _ fun w17 hw17 g17 hp18 => ?_)))
    have fr20 := wfR_tr fr12 g17 (by decide)
    have hO21 := (g17.2 z1 (by rw [hl11]; decide)).trans hO16
    refine (?_ : R (_, _, [], w17, 0 + mc1 + mc9, 0 + ms1 + ms9))
    iterate 2 refine hR (?_ : R (_, _, _, _, _, _))
    obtain ⟨x0_25, hO25, hk25_0, hk25_1, hk25_2, hk25_3, hk25_4⟩ := CI_o60 hw17 hz9
    refine hR (c_obj hO25 (zcall_i 0 0 (Nat.le_refl _) (Nat.le_refl _) (c_firstSettled _ z9 z1 hw17 hz9 hl11 _ fun v22 w23 hw23 g23 hp24 => ?_)))
    have fr26 := wfR_tr fr20 g23 (by decide)
    have hO27 := (g23.2 z1 (by rw [hl11]; decide)).trans hO21
    have hO28 := (g23.2 z9 (by rw [hz9]; decide)).trans hO25
    refine (?_ : R (_, _, (.int (Int32.ofInt v22)) :: [], w23, 0 + mc1 + mc9, 0 + ms1 + ms9))
    have aw29 := AWK_fr hw17 g23 hp18 (by decide)
    iterate 2 refine hR (?_ : R (_, _, _, _, _, _))
    refine hR (k_ne (by omega) (fun hc30 => ?_) (fun hc30 => ?_))
    · skip
      iterate 2 refine hR (?_ : R (_, _, _, _, _, _))
      obtain ⟨hTf31, hIf31, hpf31, hKf31⟩ := top_fr2 hT hw23 fr26 (by decide) aw29
      exact hR (zret_i rfl (Nat.le_refl _) trivial ⟨⟨_, hTf31, fun l m h => hIf31 _ _ (hI9 _ _ (hIt9 _ _ (hI1 _ _ (hIt1 _ _ (h))))), (KEEP2_tr hKt1 (KEEP2_tr hK1 (KEEP2_tr hKt9 (KEEP2_tr hK9 hKf31)))), (EXT_tr hx1 hx9), by omega, by omega⟩, _, rfl⟩)
    iterate 2 refine hR (?_ : R (_, _, _, _, _, _))
    refine hR (j_ne (by omega) (by omega) (fun hc32 => ?_) (fun hc32 => ?_))
    rotate_left
    · skip
      iterate 2 refine hR (?_ : R (_, _, _, _, _, _))
      obtain ⟨hTf35, hIf35, hpf35, hKf35⟩ := top_fr2 hT hw23 fr26 (by decide) aw29
      exact hR (zret_i rfl (Nat.le_refl _) trivial ⟨⟨_, hTf35, fun l m h => hIf35 _ _ (hI9 _ _ (hIt9 _ _ (hI1 _ _ (hIt1 _ _ (h))))), (KEEP2_tr hKt1 (KEEP2_tr hK1 (KEEP2_tr hKt9 (KEEP2_tr hK9 hKf35)))), (EXT_tr hx1 hx9), by omega, by omega⟩, _, rfl⟩)
    refine hR (?_ : R (_, _, _, _, _, _))
    refine hR (c_get hO28 rfl ?_)
    refine hR (?_ : R (_, _, _, _, _, _))
    refine hR (c_ald hw23 (by rw [hk25_2]; rfl) (by omega) (by omega) (Nat.le_of_ble_eq_true rfl) fun v33 lv33 uv33 => ?_)
    obtain ⟨hTf34, hIf34, hpf34, hKf34⟩ := top_fr2 hT hw23 fr26 (by decide) aw29
    exact hR (zret_i rfl (Nat.le_refl _) trivial ⟨⟨_, hTf34, fun l m h => hIf34 _ _ (hI9 _ _ (hIt9 _ _ (hI1 _ _ (hIt1 _ _ (h))))), (KEEP2_tr hKt1 (KEEP2_tr hK1 (KEEP2_tr hKt9 (KEEP2_tr hK9 hKf34)))), (EXT_tr hx1 hx9), by omega, by omega⟩, _, rfl⟩)
theorem k_joined {ρ : Nat → Nat} {w : zW} (hT : TOP ρ w) (d : Nat) (a1 a2 a3 a4 : Int) (hr0 : -2147483648 ≤ a1 ∧ a1 ≤ 2147483647) (hr1 : -2147483648 ≤ a2 ∧ a2 ≤ 2147483647) (hr2 : -2147483648 ≤ a3 ∧ a3 ≤ 2147483647) (hr3 : -2147483648 ≤ a4 ∧ a4 ≤ 2147483647) : DET zTab (d + 6) iX11_joined [.ref 0, .int (Int32.ofInt a1), .int (Int32.ofInt a2), .int (Int32.ofInt a3), .int (Int32.ofInt a4)] w (PB ρ w) := by
  refine z_rel (M := kX11_joined) _ rfl (Nat.le_of_ble_eq_true rfl) fun R hR0 => ?_
  have hR : ∀ {pc : Nat} {L : zL} {S : List Value} {w1 : zW} {k n : Nat}, zsc (zCl zTab (d + 5)) (d + 5) kX11_joined none zTab k n (PB ρ w k n) pc L S w1 k n R → R (pc, L, S, w1, k, n) := fun h => hR0 _ _ (Nat.le_refl _) (Nat.le_refl _) h
  have fr0 := wfR_rf [51, 60, 61, 62, 63, 64] ρ w
  iterate 2 refine hR (?_ : R (_, _, _, _, _, _))
  obtain ⟨y6_2, y7_2, hO2, hk2_0, hk2_1, hk2_2, hk2_3, hk2_4, hk2_5, hk2_6, hk2_7⟩ := CI_o1 hT.1 hT.2.1
  obtain ⟨hTt1, hIt1, hpt1, hKt1⟩ := top_fr2 hT hT.1 fr0 (by decide) hT.2.2.1
  obtain ⟨mc1, ms1, re1, w, ⟨ρ, hA1, hr_1⟩, hrun1⟩ := a_readingsAt hTt1 (d + 2) a1 (by omega)
  refine hR0 (0 + mc1) (0 + ms1) (Nat.le_add_right _ _) (Nat.le_add_right _ _) (c_obj hO2 (zcall_i mc1 ms1 (Nat.le_refl _) (Nat.le_refl _) (hrun1 _ ?_)))
  obtain ⟨hT, hI1, hK1, hx1, hm1, hs1⟩ := hA1
  have fr3 := wfR_rf [51, 60, 61, 62, 63, 64] ρ w
  rcases hr_1 with rfl | ⟨z1, rfl, hz1⟩
  · skip
    refine (?_ : R (_, _, .null :: [], w, 0 + mc1, 0 + ms1))
    iterate 4 refine hR (?_ : R (_, _, _, _, _, _))
    obtain ⟨hTf4, hIf4, hpf4, hKf4⟩ := top_fr2 hT hT.1 fr3 (by decide) hT.2.2.1
    exact hR (zret_i rfl (Nat.le_refl _) trivial ⟨⟨_, hTf4, fun l m h => hIf4 _ _ (hI1 _ _ (hIt1 _ _ (h))), (KEEP2_tr hKt1 (KEEP2_tr hK1 hKf4)), hx1, by omega, by omega⟩, _, rfl⟩)
  · skip
    refine (?_ : R (_, _, (.ref z1) :: [], w, 0 + mc1, 0 + ms1))
    iterate 4 refine hR (?_ : R (_, _, _, _, _, _))
    refine hR (zcall_i 0 0 (Nat.le_refl _) (Nat.le_refl _) (c_isText _ _ a2 (by omega) _ fun v5 hp7 => ?_))
    refine (?_ : R (_, _, (.int (Int32.ofInt v5)) :: [], w, 0 + mc1, 0 + ms1))
    refine hR (k_eq (by omega) (fun hc8 => ?_) (fun hc8 => ?_))
    · skip
      refine hR (?_ : R (_, _, _, _, _, _))
      obtain ⟨hTf9, hIf9, hpf9, hKf9⟩ := top_fr2 hT hT.1 fr3 (by decide) hT.2.2.1
      exact hR (zret_i rfl (Nat.le_refl _) trivial ⟨⟨_, hTf9, fun l m h => hIf9 _ _ (hI1 _ _ (hIt1 _ _ (h))), (KEEP2_tr hKt1 (KEEP2_tr hK1 hKf9)), hx1, by omega, by omega⟩, _, rfl⟩)
    refine hR (?_ : R (_, _, _, _, _, _))
    refine hR (zcall_i 0 0 (Nat.le_refl _) (Nat.le_refl _) (c_isText _ _ a3 (by omega) _ fun v10 hp12 => ?_))
    refine (?_ : R (_, _, (.int (Int32.ofInt v10)) :: [], w, 0 + mc1, 0 + ms1))
    refine hR (k_ne (by omega) (fun hc13 => ?_) (fun hc13 => ?_))
    rotate_left
    · skip
      refine hR (?_ : R (_, _, _, _, _, _))
      obtain ⟨hTf52, hIf52, hpf52, hKf52⟩ := top_fr2 hT hT.1 fr3 (by decide) hT.2.2.1
      exact hR (zret_i rfl (Nat.le_refl _) trivial ⟨⟨_, hTf52, fun l m h => hIf52 _ _ (hI1 _ _ (hIt1 _ _ (h))), (KEEP2_tr hKt1 (KEEP2_tr hK1 hKf52)), hx1, by omega, by omega⟩, _, rfl⟩)
    iterate 2 refine hR (?_ : R (_, _, _, _, _, _))
    obtain ⟨y6_15, y7_15, hO15, hk15_0, hk15_1, hk15_2, hk15_3, hk15_4, hk15_5, hk15_6, hk15_7⟩ := CI_o1 hT.1 hT.2.1
    obtain ⟨hTt14, hIt14, hpt14, hKt14⟩ := top_fr2 hT hT.1 fr3 (by decide) hT.2.2.1
    obtain ⟨mc14, ms14, re14, w, ⟨ρ, z14, hA14, hre14, hz14⟩, hrun14⟩ := a_walkAt hTt14 (d + 2) 0 (by omega)
    subst hre14
    refine hR0 (0 + mc1 + mc14) (0 + ms1 + ms14) (Nat.le_add_right _ _) (Nat.le_add_right _ _) (c_obj hO15 (zcall_i mc14 ms14 (Nat.le_refl _) (Nat.le_refl _) (hrun14 _ ?_)))
    obtain ⟨hT, hI14, hK14, hx14, hm14, hs14⟩ := hA14
    have hl16 : ρ z1 = 50 := (hx14 z1 (by rw [hz1]; decide)).trans hz1
    have fr17 := wfR_rf [51, 60, 61, 62, 63, 64] ρ w
    refine (?_ : R (_, _, (.ref z14) :: [], w, 0 + mc1 + mc14, 0 + ms1 + ms14))
    iterate 3 refine hR (?_ : R (_, _, _, _, _, _))
    obtain ⟨y6_19, y7_19, hO19, hk19_0, hk19_1, hk19_2, hk19_3, hk19_4, hk19_5, hk19_6, hk19_7⟩ := CI_o1 hT.1 hT.2.1
    obtain ⟨hTt18, hIt18, hpt18, hKt18⟩ := top_fr2 hT hT.1 fr17 (by decide) hT.2.2.1
    obtain ⟨mc18, ms18, re18, w, ⟨ρ, z18, hA18, hre18, hz18⟩, hrun18⟩ := a_walkAt hTt18 (d + 2) 1 (by omega)
    subst hre18
    refine hR0 (0 + mc1 + mc14 + mc18) (0 + ms1 + ms14 + ms18) (Nat.le_add_right _ _) (Nat.le_add_right _ _) (c_obj hO19 (zcall_i mc18 ms18 (Nat.le_refl _) (Nat.le_refl _) (hrun18 _ ?_)))
    obtain ⟨hT, hI18, hK18, hx18, hm18, hs18⟩ := hA18
    have hl20 : ρ z1 = 50 := (hx18 z1 (by rw [hl16]; decide)).trans hl16
    have hl21 : ρ z14 = 60 := (hx18 z14 (by rw [hz14]; decide)).trans hz14
    have fr22 := wfR_rf [51, 60, 61, 62, 63, 64] ρ w
    refine (?_ : R (_, _, (.ref z18) :: [], w, 0 + mc1 + mc14 + mc18, 0 + ms1 + ms14 + ms18))
    iterate 5 refine hR (?_ : R (_, _, _, _, _, _))
    obtain ⟨z0_26, z2_26, z3_26, hO26, hk26_0, hk26_1, hk26_2, hk26_3, hk26_4⟩ := CI_o50 hT.1 hl20
    refine hR (c_obj hO26 (zcall_i 0 0 (Nat.le_refl _) (Nat.le_refl _) (c_all _ z1 hT.1 hl20 _ fun v23 hp25 => ?_)))
    refine (?_ : R (_, _, (.int (Int32.ofInt v23)) :: (.int (Int32.ofInt a2)) :: (.ref z1) :: (.ref z14) :: [], w, 0 + mc1 + mc14 + mc18, 0 + ms1 + ms14 + ms18))
    refine hR (?_ : R (_, _, _, _, _, _))
    obtain ⟨x0_29, hO29, hk29_0, hk29_1, hk29_2, hk29_3, hk29_4⟩ := CI_o60 hT.1 hl21
    refine hR (c_obj hO29 (zcall_i 0 0 (Nat.le_refl _) (Nat.le_refl _) (c_goA _ z14 z1 a2 v23 ((-1)) hT.1 hl21 hl20 hT.2.2.1 (by omega) (by omega) (by omega) _ fun w27 hw27 g27 hp28 => ?_)))
    have fr30 := wfR_tr fr22 g27 (by decide)
    have hO31 := (g27.2 z1 (by rw [hl20]; decide)).trans hO26
    refine (?_ : R (_, _, [], w27, 0 + mc1 + mc14 + mc18, 0 + ms1 + ms14 + ms18))
    iterate 4 refine hR (?_ : R (_, _, _, _, _, _))
    refine hR (c_obj hO31 (zcall_i 0 0 (Nat.le_refl _) (Nat.le_refl _) (c_all _ z1 hw27 hl20 _ fun v32 hp34 => ?_)))
    refine (?_ : R (_, _, (.int (Int32.ofInt v32)) :: (.int (Int32.ofInt a3)) :: (.ref z1) :: (.ref z18) :: [], w27, 0 + mc1 + mc14 + mc18, 0 + ms1 + ms14 + ms18))
    refine hR (?_ : R (_, _, _, _, _, _))
    obtain ⟨x0_37, hO37, hk37_0, hk37_1, hk37_2, hk37_3, hk37_4⟩ := CI_o60 hw27 hz18
    refine hR (c_obj hO37 (zcall_i 0 0 (Nat.le_refl _) (Nat.le_refl _) (c_goA _ z18 z1 a3 v32 ((-1)) hw27 hz18 hl20 hp28 (by omega) (by omega) (by omega) _ fun w35 hw35 g35 hp36 => ?_)))
    have fr38 := wfR_tr fr30 g35 (by decide)
    have hO39 := (g35.2 z1 (by rw [hl20]; decide)).trans hO31
    refine (?_ : R (_, _, [], w35, 0 + mc1 + mc14 + mc18, 0 + ms1 + ms14 + ms18))
    iterate 2 refine hR (?_ : R (_, _, _, _, _, _))
    obtain ⟨x0_43, hO43, hk43_0, hk43_1, hk43_2, hk43_3, hk43_4⟩ := CI_o60 hw35 hl21
    refine hR (c_obj hO43 (zcall_i 0 0 (Nat.le_refl _) (Nat.le_refl _) (c_meeting _ z14 z18 hw35 hl21 hz18 _ fun v40 hp42 => ?_)))
    refine (?_ : R (_, _, (.int (Int32.ofInt v40)) :: [], w35, 0 + mc1 + mc14 + mc18, 0 + ms1 + ms14 + ms18))
    iterate 2 refine hR (?_ : R (_, _, _, _, _, _))
    refine hR (k_ne (by omega) (fun hc44 => ?_) (fun hc44 => ?_))
    · skip
      refine hR (?_ : R (_, _, _, _, _, _))
      obtain ⟨hTf45, hIf45, hpf45, hKf45⟩ := top_fr2 hT hw35 fr38 (by decide) hp36
      exact hR (zret_i rfl (Nat.le_refl _) trivial ⟨⟨_, hTf45, fun l m h => hIf45 _ _ (hI18 _ _ (hIt18 _ _ (hI14 _ _ (hIt14 _ _ (hI1 _ _ (hIt1 _ _ (h))))))), (KEEP2_tr hKt1 (KEEP2_tr hK1 (KEEP2_tr hKt14 (KEEP2_tr hK14 (KEEP2_tr hKt18 (KEEP2_tr hK18 hKf45)))))), (EXT_tr hx1 (EXT_tr hx14 hx18)), by omega, by omega⟩, _, rfl⟩)
    iterate 2 refine hR (?_ : R (_, _, _, _, _, _))
    refine hR (j_ne (by omega) (by omega) (fun hc46 => ?_) (fun hc46 => ?_))
    rotate_left
    · skip
      refine hR (?_ : R (_, _, _, _, _, _))
      obtain ⟨hTf51, hIf51, hpf51, hKf51⟩ := top_fr2 hT hw35 fr38 (by decide) hp36
      exact hR (zret_i rfl (Nat.le_refl _) trivial ⟨⟨_, hTf51, fun l m h => hIf51 _ _ (hI18 _ _ (hIt18 _ _ (hI14 _ _ (hIt14 _ _ (hI1 _ _ (hIt1 _ _ (h))))))), (KEEP2_tr hKt1 (KEEP2_tr hK1 (KEEP2_tr hKt14 (KEEP2_tr hK14 (KEEP2_tr hKt18 (KEEP2_tr hK18 hKf51)))))), (EXT_tr hx1 (EXT_tr hx14 hx18)), by omega, by omega⟩, _, rfl⟩)
    refine hR (?_ : R (_, _, _, _, _, _))
    refine hR (c_get hO43 rfl ?_)
    refine hR (?_ : R (_, _, _, _, _, _))
    refine hR (c_ald hw35 (by rw [hk43_2]; rfl) (by omega) (by omega) (Nat.le_of_ble_eq_true rfl) fun v47 lv47 uv47 => ?_)
    refine hR (?_ : R (_, _, _, _, _, _))
    obtain ⟨x0_48, hO48, hk48_0, hk48_1, hk48_2, hk48_3, hk48_4⟩ := CI_o60 hw35 hz18
    refine hR (c_get hO48 rfl ?_)
    refine hR (?_ : R (_, _, _, _, _, _))
    refine hR (c_ald hw35 (by rw [hk48_2]; rfl) (by omega) (by omega) (Nat.le_of_ble_eq_true rfl) fun v49 lv49 uv49 => ?_)
    refine hR (t_add ?_)
    obtain ⟨hTf50, hIf50, hpf50, hKf50⟩ := top_fr2 hT hw35 fr38 (by decide) hp36
    exact hR (zret_i rfl (Nat.le_refl _) trivial ⟨⟨_, hTf50, fun l m h => hIf50 _ _ (hI18 _ _ (hIt18 _ _ (hI14 _ _ (hIt14 _ _ (hI1 _ _ (hIt1 _ _ (h))))))), (KEEP2_tr hKt1 (KEEP2_tr hK1 (KEEP2_tr hKt14 (KEEP2_tr hK14 (KEEP2_tr hKt18 (KEEP2_tr hK18 hKf50)))))), (EXT_tr hx1 (EXT_tr hx14 hx18)), by omega, by omega⟩, _, rfl⟩)
theorem k_circles {ρ : Nat → Nat} {w : zW} (hT : TOP ρ w) (d : Nat) (a1 a2 : Int) (hr0 : -2147483648 ≤ a1 ∧ a1 ≤ 2147483647) (hr1 : -2147483648 ≤ a2 ∧ a2 ≤ 2147483647) : DET zTab (d + 8) iX11_circles [.ref 0, .int (Int32.ofInt a1), .int (Int32.ofInt a2)] w (PB ρ w) := by
  refine z_rel (M := kX11_circles) _ rfl (Nat.le_of_ble_eq_true rfl) fun R hR0 => ?_
  have hR : ∀ {pc : Nat} {L : zL} {S : List Value} {w1 : zW} {k n : Nat}, zsc (zCl zTab (d + 7)) (d + 7) kX11_circles none zTab k n (PB ρ w k n) pc L S w1 k n R → R (pc, L, S, w1, k, n) := fun h => hR0 _ _ (Nat.le_refl _) (Nat.le_refl _) h
  have fr0 := wfR_rf [51, 80, 85, 86, 87, 88, 89, 90] ρ w
  iterate 2 refine hR (?_ : R (_, _, _, _, _, _))
  obtain ⟨y6_2, y7_2, hO2, hk2_0, hk2_1, hk2_2, hk2_3, hk2_4, hk2_5, hk2_6, hk2_7⟩ := CI_o1 hT.1 hT.2.1
  obtain ⟨hTt1, hIt1, hpt1, hKt1⟩ := top_fr2 hT hT.1 fr0 (by decide) hT.2.2.1
  obtain ⟨mc1, ms1, re1, w, ⟨ρ, hA1, hr_1⟩, hrun1⟩ := a_readingsAt hTt1 (d + 4) a1 (by omega)
  refine hR0 (0 + mc1) (0 + ms1) (Nat.le_add_right _ _) (Nat.le_add_right _ _) (c_obj hO2 (zcall_i mc1 ms1 (Nat.le_refl _) (Nat.le_refl _) (hrun1 _ ?_)))
  obtain ⟨hT, hI1, hK1, hx1, hm1, hs1⟩ := hA1
  have fr3 := wfR_rf [51, 80, 85, 86, 87, 88, 89, 90] ρ w
  rcases hr_1 with rfl | ⟨z1, rfl, hz1⟩
  · skip
    refine (?_ : R (_, _, .null :: [], w, 0 + mc1, 0 + ms1))
    iterate 4 refine hR (?_ : R (_, _, _, _, _, _))
    obtain ⟨hTf4, hIf4, hpf4, hKf4⟩ := top_fr2 hT hT.1 fr3 (by decide) hT.2.2.1
    exact hR (zret_i rfl (Nat.le_refl _) trivial ⟨⟨_, hTf4, fun l m h => hIf4 _ _ (hI1 _ _ (hIt1 _ _ (h))), (KEEP2_tr hKt1 (KEEP2_tr hK1 hKf4)), hx1, by omega, by omega⟩, _, rfl⟩)
  · skip
    refine (?_ : R (_, _, (.ref z1) :: [], w, 0 + mc1, 0 + ms1))
    iterate 5 refine hR (?_ : R (_, _, _, _, _, _))
    refine hR (j_eq (by omega) (by omega) (fun hc5 => ?_) (fun hc5 => ?_))
    · skip
      refine hR (?_ : R (_, _, _, _, _, _))
      obtain ⟨y6_7, y7_7, hO7, hk7_0, hk7_1, hk7_2, hk7_3, hk7_4, hk7_5, hk7_6, hk7_7⟩ := CI_o1 hT.1 hT.2.1
      obtain ⟨hTt6, hIt6, hpt6, hKt6⟩ := top_fr2 hT hT.1 fr3 (by decide) hT.2.2.1
      obtain ⟨mc6, ms6, re6, w, ⟨ρ, z6, hA6, hre6, hz6⟩, hrun6⟩ := a_ringsThere hTt6 (d + 4)
      subst hre6
      refine hR0 (0 + mc1 + mc6) (0 + ms1 + ms6) (Nat.le_add_right _ _) (Nat.le_add_right _ _) (c_obj hO7 (zcall_i mc6 ms6 (Nat.le_refl _) (Nat.le_refl _) (hrun6 _ ?_)))
      obtain ⟨hT, hI6, hK6, hx6, hm6, hs6⟩ := hA6
      have hl8 : ρ z1 = 50 := (hx6 z1 (by rw [hz1]; decide)).trans hz1
      have fr9 := wfR_rf [51, 80, 85, 86, 87, 88, 89, 90] ρ w
      refine (?_ : R (_, _, (.ref z6) :: [], w, 0 + mc1 + mc6, 0 + ms1 + ms6))
      iterate 3 refine hR (?_ : R (_, _, _, _, _, _))
      obtain ⟨x1_11, x2_11, x3_11, x4_11, x5_11, hO11, hk11_0, hk11_1, hk11_2, hk11_3, hk11_4, hk11_5, hk11_6, hk11_7, hk11_8, hk11_9, hk11_10, hk11_11, hk11_12, hk11_13, hk11_14⟩ := CI_o80 hT.1 hz6
      refine hR (c_obj hO11 (zcall_i 0 0 (Nat.le_refl _) (Nat.le_refl _) (c_findCircles _ z6 z1 hT.1 hz6 hl8 _ fun w10 hw10 g10 => ?_)))
      have fr12 := wfR_tr fr9 g10 (by decide)
      refine (?_ : R (_, _, [], w10, 0 + mc1 + mc6, 0 + ms1 + ms6))
      have aw13 := AWK_fr hT.1 g10 hT.2.2.1 (by decide)
      iterate 2 refine hR (?_ : R (_, _, _, _, _, _))
      refine hR (j_ne (by omega) (by omega) (fun hc => by omega) (fun _ => ?_))
      refine hR (?_ : R (_, _, _, _, _, _))
      obtain ⟨x1_14, x2_14, x3_14, x4_14, x5_14, hO14, hk14_0, hk14_1, hk14_2, hk14_3, hk14_4, hk14_5, hk14_6, hk14_7, hk14_8, hk14_9, hk14_10, hk14_11, hk14_12, hk14_13, hk14_14⟩ := CI_o80 hw10 hz6
      refine hR (c_get hO14 rfl ?_)
      obtain ⟨hTf15, hIf15, hpf15, hKf15⟩ := top_fr2 hT hw10 fr12 (by decide) aw13
      exact hR (zret_i rfl (Nat.le_refl _) trivial ⟨⟨_, hTf15, fun l m h => hIf15 _ _ (hI6 _ _ (hIt6 _ _ (hI1 _ _ (hIt1 _ _ (h))))), (KEEP2_tr hKt1 (KEEP2_tr hK1 (KEEP2_tr hKt6 (KEEP2_tr hK6 hKf15)))), (EXT_tr hx1 hx6), by omega, by omega⟩, _, rfl⟩)
    refine hR (?_ : R (_, _, _, _, _, _))
    refine hR (t_c (-2) (by decide) ?_)
    refine hR (j_eq (by omega) (by omega) (fun hc16 => ?_) (fun hc16 => ?_))
    · skip
      refine hR (?_ : R (_, _, _, _, _, _))
      obtain ⟨y6_18, y7_18, hO18, hk18_0, hk18_1, hk18_2, hk18_3, hk18_4, hk18_5, hk18_6, hk18_7⟩ := CI_o1 hT.1 hT.2.1
      obtain ⟨hTt17, hIt17, hpt17, hKt17⟩ := top_fr2 hT hT.1 fr3 (by decide) hT.2.2.1
      obtain ⟨mc17, ms17, re17, w, ⟨ρ, z17, hA17, hre17, hz17⟩, hrun17⟩ := a_ringsThere hTt17 (d + 4)
      subst hre17
      refine hR0 (0 + mc1 + mc17) (0 + ms1 + ms17) (Nat.le_add_right _ _) (Nat.le_add_right _ _) (c_obj hO18 (zcall_i mc17 ms17 (Nat.le_refl _) (Nat.le_refl _) (hrun17 _ ?_)))
      obtain ⟨hT, hI17, hK17, hx17, hm17, hs17⟩ := hA17
      have hl19 : ρ z1 = 50 := (hx17 z1 (by rw [hz1]; decide)).trans hz1
      have fr20 := wfR_rf [51, 80, 85, 86, 87, 88, 89, 90] ρ w
      refine (?_ : R (_, _, (.ref z17) :: [], w, 0 + mc1 + mc17, 0 + ms1 + ms17))
      iterate 3 refine hR (?_ : R (_, _, _, _, _, _))
      obtain ⟨x1_22, x2_22, x3_22, x4_22, x5_22, hO22, hk22_0, hk22_1, hk22_2, hk22_3, hk22_4, hk22_5, hk22_6, hk22_7, hk22_8, hk22_9, hk22_10, hk22_11, hk22_12, hk22_13, hk22_14⟩ := CI_o80 hT.1 hz17
      refine hR (c_obj hO22 (zcall_i 0 0 (Nat.le_refl _) (Nat.le_refl _) (c_findCircles _ z17 z1 hT.1 hz17 hl19 _ fun w21 hw21 g21 => ?_)))
      have fr23 := wfR_tr fr20 g21 (by decide)
      refine (?_ : R (_, _, [], w21, 0 + mc1 + mc17, 0 + ms1 + ms17))
      have aw24 := AWK_fr hT.1 g21 hT.2.2.1 (by decide)
      iterate 2 refine hR (?_ : R (_, _, _, _, _, _))
      refine hR (j_ne (by omega) (by omega) (fun _ => ?_) (fun hc => by omega))
      refine hR (?_ : R (_, _, _, _, _, _))
      refine hR (t_c (-2) (by decide) ?_)
      refine hR (j_ne (by omega) (by omega) (fun hc => by omega) (fun _ => ?_))
      refine hR (?_ : R (_, _, _, _, _, _))
      obtain ⟨x1_25, x2_25, x3_25, x4_25, x5_25, hO25, hk25_0, hk25_1, hk25_2, hk25_3, hk25_4, hk25_5, hk25_6, hk25_7, hk25_8, hk25_9, hk25_10, hk25_11, hk25_12, hk25_13, hk25_14⟩ := CI_o80 hw21 hz17
      refine hR (c_get hO25 rfl ?_)
      refine hR (?_ : R (_, _, _, _, _, _))
      obtain ⟨hTf26, hIf26, hpf26, hKf26⟩ := top_fr2 hT hw21 fr23 (by decide) aw24
      exact hR (zret_i rfl (Nat.le_refl _) trivial ⟨⟨_, hTf26, fun l m h => hIf26 _ _ (hI17 _ _ (hIt17 _ _ (hI1 _ _ (hIt1 _ _ (h))))), (KEEP2_tr hKt1 (KEEP2_tr hK1 (KEEP2_tr hKt17 (KEEP2_tr hK17 hKf26)))), (EXT_tr hx1 hx17), by omega, by omega⟩, _, rfl⟩)
    refine hR (?_ : R (_, _, _, _, _, _))
    refine hR (zcall_i 0 0 (Nat.le_refl _) (Nat.le_refl _) (c_isText _ _ a2 (by omega) _ fun v27 hp29 => ?_))
    refine (?_ : R (_, _, (.int (Int32.ofInt v27)) :: [], w, 0 + mc1, 0 + ms1))
    refine hR (k_ne (by omega) (fun hc30 => ?_) (fun hc30 => ?_))
    rotate_left
    · skip
      refine hR (?_ : R (_, _, _, _, _, _))
      obtain ⟨hTf42, hIf42, hpf42, hKf42⟩ := top_fr2 hT hT.1 fr3 (by decide) hT.2.2.1
      exact hR (zret_i rfl (Nat.le_refl _) trivial ⟨⟨_, hTf42, fun l m h => hIf42 _ _ (hI1 _ _ (hIt1 _ _ (h))), (KEEP2_tr hKt1 (KEEP2_tr hK1 hKf42)), hx1, by omega, by omega⟩, _, rfl⟩)
    refine hR (?_ : R (_, _, _, _, _, _))
    obtain ⟨y6_32, y7_32, hO32, hk32_0, hk32_1, hk32_2, hk32_3, hk32_4, hk32_5, hk32_6, hk32_7⟩ := CI_o1 hT.1 hT.2.1
    obtain ⟨hTt31, hIt31, hpt31, hKt31⟩ := top_fr2 hT hT.1 fr3 (by decide) hT.2.2.1
    obtain ⟨mc31, ms31, re31, w, ⟨ρ, z31, hA31, hre31, hz31⟩, hrun31⟩ := a_ringsThere hTt31 (d + 4)
    subst hre31
    refine hR0 (0 + mc1 + mc31) (0 + ms1 + ms31) (Nat.le_add_right _ _) (Nat.le_add_right _ _) (c_obj hO32 (zcall_i mc31 ms31 (Nat.le_refl _) (Nat.le_refl _) (hrun31 _ ?_)))
    obtain ⟨hT, hI31, hK31, hx31, hm31, hs31⟩ := hA31
    have hl33 : ρ z1 = 50 := (hx31 z1 (by rw [hz1]; decide)).trans hz1
    have fr34 := wfR_rf [51, 80, 85, 86, 87, 88, 89, 90] ρ w
    refine (?_ : R (_, _, (.ref z31) :: [], w, 0 + mc1 + mc31, 0 + ms1 + ms31))
    iterate 3 refine hR (?_ : R (_, _, _, _, _, _))
    obtain ⟨x1_36, x2_36, x3_36, x4_36, x5_36, hO36, hk36_0, hk36_1, hk36_2, hk36_3, hk36_4, hk36_5, hk36_6, hk36_7, hk36_8, hk36_9, hk36_10, hk36_11, hk36_12, hk36_13, hk36_14⟩ := CI_o80 hT.1 hz31
    refine hR (c_obj hO36 (zcall_i 0 0 (Nat.le_refl _) (Nat.le_refl _) (c_findCircles _ z31 z1 hT.1 hz31 hl33 _ fun w35 hw35 g35 => ?_)))
    have fr37 := wfR_tr fr34 g35 (by decide)
    refine (?_ : R (_, _, [], w35, 0 + mc1 + mc31, 0 + ms1 + ms31))
    have aw38 := AWK_fr hT.1 g35 hT.2.2.1 (by decide)
    iterate 2 refine hR (?_ : R (_, _, _, _, _, _))
    refine hR (j_ne (by omega) (by omega) (fun _ => ?_) (fun hc => by omega))
    refine hR (?_ : R (_, _, _, _, _, _))
    refine hR (t_c (-2) (by decide) ?_)
    refine hR (j_ne (by omega) (by omega) (fun _ => ?_) (fun hc => by omega))
    refine hR (?_ : R (_, _, _, _, _, _))
    obtain ⟨x1_39, x2_39, x3_39, x4_39, x5_39, hO39, hk39_0, hk39_1, hk39_2, hk39_3, hk39_4, hk39_5, hk39_6, hk39_7, hk39_8, hk39_9, hk39_10, hk39_11, hk39_12, hk39_13, hk39_14⟩ := CI_o80 hw35 hz31
    refine hR (c_get hO39 rfl ?_)
    refine hR (?_ : R (_, _, _, _, _, _))
    refine hR (c_ald hw35 (by rw [hk39_14]; rfl) (by omega) (by omega) (Nat.le_of_ble_eq_true rfl) fun v40 lv40 uv40 => ?_)
    obtain ⟨hTf41, hIf41, hpf41, hKf41⟩ := top_fr2 hT hw35 fr37 (by decide) aw38
    exact hR (zret_i rfl (Nat.le_refl _) trivial ⟨⟨_, hTf41, fun l m h => hIf41 _ _ (hI31 _ _ (hIt31 _ _ (hI1 _ _ (hIt1 _ _ (h))))), (KEEP2_tr hKt1 (KEEP2_tr hK1 (KEEP2_tr hKt31 (KEEP2_tr hK31 hKf41)))), (EXT_tr hx1 hx31), by omega, by omega⟩, _, rfl⟩)
