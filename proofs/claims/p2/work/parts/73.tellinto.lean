/-! TEXT. -/
theorem rls_19 {r0 r : Nat} (h : r ∈ rls r0) (h1 : r0 ≠ 19) : r ≠ 19 ∧ r ≠ 25 ∧ r ≠ 26 := by
  unfold rls at h
  split at h
  all_goals first | (exact absurd rfl h1) | (simp only [List.mem_cons, List.not_mem_nil, or_false] at h; omega) | (cases h)
def to20 (ρ : Nat → Nat) (n : Nat) : Nat → Nat := fun x => if x = n then 20 else if x = n + 3 then 23 else if x = n + 4 then 24 else ρ x
theorem to20_n {ρ : Nat → Nat} {n x : Nat} (h : x ≠ n ∧ x ≠ n + 3 ∧ x ≠ n + 4) : to20 ρ n x = ρ x := by
  unfold to20
  rw [if_neg h.1, if_neg h.2.1, if_neg h.2.2]
theorem CI_to20 {σ : Nat → Nat} {w : zW} {n : Nat} (hw : CI σ w) (hn : σ n = 19) (hR : REL w (n + 3)) : CI (to20 σ n) w := by
  obtain ⟨x0, x1, x2, hO, a0, a1, a2, b1, b2, b3, b4⟩ := CI_o19 hw hn
  have e0 : to20 σ n n = 20 := if_pos rfl
  have e3 : to20 σ n (n + 3) = 23 := by unfold to20; rw [if_neg (by omega), if_pos rfl]
  have e4 : to20 σ n (n + 4) = 24 := by unfold to20; rw [if_neg (by omega), if_neg (by omega), if_pos rfl]
  have hk : ∀ x r, σ x = r → r ≠ 19 → r ≠ 25 → r ≠ 26 → to20 σ n x = r := by
    intro x r e h1 h2 h3
    refine (to20_n ⟨fun e' => ?_, fun e' => ?_, fun e' => ?_⟩).trans e
    · rw [e', hn] at e; exact h1 e.symm
    · rw [e', b3] at e; exact h2 e.symm
    · rw [e', b4] at e; exact h3 e.symm
  refine ⟨fun q hq => ?_, fun q hq => ?_, fun q hq => ?_⟩
  · by_cases q0 : q = n
    · subst q0
      refine ⟨_, hO, ?_⟩
      unfold rOK
      rw [e0]
      exact ⟨x0, x1, x2, rfl, a0, a1, a2, hk _ _ b1 (by decide) (by decide) (by decide), hk _ _ b2 (by decide) (by decide) (by decide), e3, e4⟩
    · by_cases q3 : q = n + 3
      · subst q3
        obtain ⟨g, h1, h2⟩ := CI_ar hw (q := n + 3) (by rw [b3]; rfl)
        refine ⟨_, h1, ?_⟩
        unfold rOK
        rw [e3]
        exact ⟨g, rfl, h2⟩
      · by_cases q4 : q = n + 4
        · subst q4
          obtain ⟨g, h1, h2⟩ := CI_ar hw (q := n + 4) (by rw [b4]; rfl)
          refine ⟨_, h1, ?_⟩
          unfold rOK
          rw [e4]
          exact ⟨g, rfl, h2⟩
        · have eq : to20 σ n q = σ q := to20_n ⟨q0, q3, q4⟩
          by_cases e19 : σ q = 19
          · obtain ⟨y0, y1, y2, hO', c0, c1, c2, d1, d2, d3, d4⟩ := CI_o19 hw e19
            refine ⟨_, hO', ?_⟩
            unfold rOK
            rw [eq, e19]
            refine ⟨y0, y1, y2, rfl, c0, c1, c2, hk _ _ d1 (by decide) (by decide) (by decide), hk _ _ d2 (by decide) (by decide) (by decide), (to20_n ⟨fun e => ?_, by omega, fun e => ?_⟩).trans d3, (to20_n ⟨fun e => ?_, fun e => ?_, by omega⟩).trans d4⟩
            · rw [e, hn] at d3; omega
            · rw [e, b4] at d3; omega
            · rw [e, hn] at d4; omega
            · rw [e, b3] at d4; omega
          · obtain ⟨c, h1, h2⟩ := hw.1 q hq
            refine ⟨c, h1, rOK_map eq (fun x r hr ex => ?_) h2⟩
            have hr' : r ≠ 19 ∧ r ≠ 25 ∧ r ≠ 26 := by
              rcases hr with hr | ⟨ti, len, hr⟩
              · exact rls_19 hr e19
              · have := rRf_12 hr; omega
            exact hk x r ex hr'.1 hr'.2.1 hr'.2.2
  · exact hk q 0 (hw.2.1 q hq) (by decide) (by decide) (by decide)
  · by_cases q3 : q = n + 3
    · subst q3
      obtain ⟨gk, gn, h1, h2, h3⟩ := hR
      exact ⟨e4, gk, gn, h1, h2, h3⟩
    · have hq' : σ q = 23 := by
        by_cases q0 : q = n
        · rw [q0, e0] at hq; cases hq
        · by_cases q4 : q = n + 4
          · rw [q4, e4] at hq; cases hq
          · exact (to20_n ⟨q0, q3, q4⟩).symm.trans hq
      obtain ⟨h1, h2⟩ := hw.2.2 q hq'
      exact ⟨hk _ _ h1 (by decide) (by decide) (by decide), h2⟩
/-- the same cells, other roles -/
theorem top_rol {σ τ : Nat → Nat} {w : zW} (hT : TOP σ w) (hc : CI τ w) (h0 : τ 0 = 1) (h6 : ∀ q, τ q = 60 → σ q = 60) (hm : ∀ q, 14 ≤ q → q ≤ 44 → τ q = 0) : TOP τ w := ⟨hc, h0, fun q hq => hT.2.2.1 q (h6 q hq), hm, hT.2.2.2.2⟩
def PT (w : zW) (mc ms : Nat) (r : Option Value) (w' : zW) : Prop := (∃ σ, TOP σ w') ∧ (∀ l m, IM w l m → IM w' l m) ∧ KEEP w w' ∧ mc ≤ 20 ∧ ms + phi w' ≤ phi w + 200 ∧ ∃ v : Int, (v = 0 ∨ v = 1) ∧ r = some (.int (Int32.ofInt v))
/-- a store into a row of what is told -/
theorem top_told {σ : Nat → Nat} {w1 w2 : zW} {q0 : Nat} (hT : TOP σ w1) (hc : CI σ w2) (f : wfr q0 w1 w2) (hq : 3 ≤ σ q0 ∧ σ q0 ≤ 7) : TOP σ w2 ∧ (∀ l m, IM w1 l m → IM w2 l m) ∧ phi w2 = phi w1 ∧ KEEP w1 w2 := by
  have hf : wfR [3, 4, 5, 6, 7] σ w1 w2 := wfR_st (wfR_rf _ _ _) f (by simp only [List.mem_cons, List.not_mem_nil, or_false]; omega)
  exact top_fr hT hc hf (by decide) (AWK_fr hT.1 hf hT.2.2.1 (by decide))
theorem a_tellInto {ρ : Nat → Nat} {w : zW} (hT : TOP ρ w) (d : Nat) (a1 a2 a3 : Int) (h1 : 0 ≤ a1 ∧ a1 ≤ 2) (h2 : 0 ≤ a2 ∧ a2 ≤ 1) (h3 : 0 ≤ a3 ∧ a3 ≤ 600) : DET zTab (d + 9) iX11_tellInto [.ref 0, .int (Int32.ofInt a1), .int (Int32.ofInt a2), .int (Int32.ofInt a3)] w (PT w) := by
  have hs : a1 = 0 ∨ a1 = 1 ∨ a1 = 2 := by omega
  rcases hs with hs | hs | hs
  · skip
    refine det_of (mc := 5) (ms := 56) ?_
    refine zCl_i (M := kX11_tellInto) rfl (Nat.le_of_ble_eq_true rfl) fun R hR => ?_
    refine hR (?_ : R (_, _, _, _, _, _))
    refine hR (t_pc (pc2 := 28) (by rw [zti (e := a1) (by omega) (by omega)]; show (((1 : Nat) : Int) + Op.lookupswitch.offset [(0, 27), (1, 71)] 115 a1).toNat = 28; simp only [Op.lookupswitch.offset_cons]; (repeat' split) <;> first | omega | rfl) ?_)
    iterate 2 refine hR (?_ : R (_, _, _, _, _, _))
    refine hR (zcall_i 4 49 (Nat.le_of_ble_eq_true rfl) (Nat.le_of_ble_eq_true rfl) (n_Book hT.1 _ _ fun σ w1 hc1 g1 hl1 hr1 hn1 hRL => ?_))
    refine (?_ : R (_, _, .ref w.length :: [], w1, 5, 56))
    obtain ⟨hT1, hI1, hp1, hK1, hx1⟩ := top_gro hT hc1 g1 (fun q a b => absurd b (hn1 q a))
    obtain ⟨z6, z7, k0, s1, s7, s8, s9, s12, s13, -⟩ := top_o hT1
    obtain ⟨x1, x2, x3, hO, u1, -, -, -, u2, u3, u4, u5⟩ := CI_o2 hc1 s1
    obtain ⟨t0, t1, t2, t3, t4, t5, t6, t7, hU, -⟩ := CI_o9 hc1 s8
    iterate 2 refine hR (?_ : R (_, _, _, _, _, _))
    refine hR (c_get k0 rfl ?_)
    refine hR (?_ : R (_, _, _, _, _, _))
    refine hR (c_get k0 rfl ?_)
    refine hR (c_get hO rfl ?_)
    iterate 2 refine hR (?_ : R (_, _, _, _, _, _))
    refine hR (c_obj hU (zcall_i 0 0 (Nat.le_of_ble_eq_true rfl) (Nat.le_of_ble_eq_true rfl) (c_tell_b _ 8 2 w.length a3 hc1 s8 u1 hr1 h3 hRL _ fun v w2 hw2 f2 hv hRL2 => ?_)))
    refine (?_ : R (_, _, .int (Int32.ofInt v) :: [], w2, 5, 56))
    obtain ⟨hT2, hI2, hp2, hK2⟩ := top_fr hT1 hw2 f2 (by decide) (AWK_fr hc1 f2 hT1.2.2.1 (by decide))
    refine hR (k_eq (by omega) (fun hc => ?_) (fun hc => ?_))
    · refine hR (?_ : R (_, _, _, _, _, _))
      exact hR (zret_i rfl (Nat.le_refl _) (Or.inl rfl) ⟨⟨σ, hT2⟩, fun l m h => hI2 l m (hI1 l m h), KEEP_tr hK1 hK2, by omega, by omega, 0, Or.inl rfl, rfl⟩)
    · skip
      have hRL3 := hRL2.resolve_left hc
      have hN2 : σ w.length = 19 := hr1
      have hc2 := CI_to20 hw2 hr1 hRL3
      obtain ⟨-, -, -, -, -, -, -, m1, m2, m3, m4⟩ := CI_o19 hw2 hr1
      have h45 : 45 ≤ w.length := hT.2.2.2.2
      have lo : ∀ q, q < 45 → to20 σ w.length q = σ q := fun q hq => to20_n ⟨by omega, by omega, by omega⟩
      have hT3 : TOP (to20 σ w.length) w2 := top_rol hT2 hc2 ((lo 0 (by omega)).trans hT2.2.1) (fun q hq => by unfold to20 at hq; (repeat' split at hq) <;> first | cases hq | exact hq) (fun q a b => (lo q (by omega)).trans (hT2.2.2.2.1 q a b))
      have s3 : to20 σ w.length w.length = 20 := if_pos rfl
      have ua : to20 σ w.length 4 = 5 := (lo 4 (by omega)).trans u3
      obtain ⟨z6', z7', k02, s1', -⟩ := top_o hT3
      obtain ⟨y1, y2, y3, hO2, -⟩ := CI_o2 hc2 s1'
      obtain ⟨g, hg, -⟩ := CI_rf hc2 (q := 4) (by rw [ua]; rfl) (by rw [ua]; rfl)
      obtain ⟨_, _, _, hN, -⟩ := CI_o20 hc2 s3
      refine hR (?_ : R (_, _, _, _, _, _))
      refine hR (c_get k02 rfl ?_)
      refine hR (c_get hO2 rfl ?_)
      iterate 2 refine hR (?_ : R (_, _, _, _, _, _))
      refine hR (c_rst hc2 (by rw [ua]; rfl) (by rw [ua]; rfl) rfl ⟨by rw [ua]; decide, by rw [ua]; decide⟩ hg s3 hN (by omega) (by omega) (Nat.le_of_ble_eq_true rfl) fun w3 hc3 f3 hg3 => ?_)
      obtain ⟨hT4, hI4, hp4, hK4⟩ := top_told hT3 hc3 f3 (by rw [ua]; decide)
      refine hR (?_ : R (_, _, _, _, _, _))
      exact hR (zret_i rfl (Nat.le_refl _) (Or.inr rfl) ⟨⟨_, hT4⟩, fun l m h => hI4 l m (hI2 l m (hI1 l m h)), KEEP_tr hK1 (KEEP_tr hK2 hK4), by omega, by omega, 1, Or.inr rfl, rfl⟩)
  · skip
    refine det_of (mc := 4) (ms := 124) ?_
    refine zCl_i (M := kX11_tellInto) rfl (Nat.le_of_ble_eq_true rfl) fun R hR => ?_
    refine hR (?_ : R (_, _, _, _, _, _))
    refine hR (t_pc (pc2 := 72) (by rw [zti (e := a1) (by omega) (by omega)]; show (((1 : Nat) : Int) + Op.lookupswitch.offset [(0, 27), (1, 71)] 115 a1).toNat = 72; simp only [Op.lookupswitch.offset_cons]; (repeat' split) <;> first | omega | rfl) ?_)
    iterate 2 refine hR (?_ : R (_, _, _, _, _, _))
    refine hR (zcall_i 3 120 (Nat.le_of_ble_eq_true rfl) (Nat.le_of_ble_eq_true rfl) (n_Year hT.1 _ _ fun σ w1 hc1 g1 hl1 hr1 hn1 => ?_))
    refine (?_ : R (_, _, .ref w.length :: [], w1, 4, 124))
    obtain ⟨hT1, hI1, hp1, hK1, hx1⟩ := top_gro hT hc1 g1 (fun q a b => absurd b (hn1 q a))
    obtain ⟨z6, z7, k0, s1, s7, s8, s9, s12, s13, -⟩ := top_o hT1
    obtain ⟨x1, x2, x3, hO, u1, -, -, -, u2, u3, u4, u5⟩ := CI_o2 hc1 s1
    obtain ⟨t0, t1, t2, t3, t4, t5, t6, t7, hU, -⟩ := CI_o9 hc1 s8
    iterate 2 refine hR (?_ : R (_, _, _, _, _, _))
    refine hR (c_get k0 rfl ?_)
    refine hR (?_ : R (_, _, _, _, _, _))
    refine hR (c_get k0 rfl ?_)
    refine hR (c_get hO rfl ?_)
    iterate 2 refine hR (?_ : R (_, _, _, _, _, _))
    refine hR (c_obj hU (zcall_i 0 0 (Nat.le_of_ble_eq_true rfl) (Nat.le_of_ble_eq_true rfl) (c_tell_y _ 8 2 w.length a3 hc1 s8 u1 hr1 h3 _ fun v w2 hw2 f2 hv => ?_)))
    refine (?_ : R (_, _, .int (Int32.ofInt v) :: [], w2, 4, 124))
    obtain ⟨hT2, hI2, hp2, hK2⟩ := top_fr hT1 hw2 f2 (by decide) (AWK_fr hc1 f2 hT1.2.2.1 (by decide))
    refine hR (k_eq (by omega) (fun hc => ?_) (fun hc => ?_))
    · refine hR (?_ : R (_, _, _, _, _, _))
      exact hR (zret_i rfl (Nat.le_refl _) (Or.inl rfl) ⟨⟨σ, hT2⟩, fun l m h => hI2 l m (hI1 l m h), KEEP_tr hK1 hK2, by omega, by omega, 0, Or.inl rfl, rfl⟩)
    · skip
      have hT3 : TOP σ w2 := hT2
      have hc2 := hw2
      have s3 := hr1
      have ua : σ 5 = 6 := u4
      obtain ⟨z6', z7', k02, s1', -⟩ := top_o hT3
      obtain ⟨y1, y2, y3, hO2, -⟩ := CI_o2 hc2 s1'
      obtain ⟨g, hg, -⟩ := CI_rf hc2 (q := 5) (by rw [ua]; rfl) (by rw [ua]; rfl)
      obtain ⟨_, hN, -⟩ := CI_o30 hc2 s3
      refine hR (?_ : R (_, _, _, _, _, _))
      refine hR (c_get k02 rfl ?_)
      refine hR (c_get hO2 rfl ?_)
      iterate 2 refine hR (?_ : R (_, _, _, _, _, _))
      refine hR (c_rst hc2 (by rw [ua]; rfl) (by rw [ua]; rfl) rfl ⟨by rw [ua]; decide, by rw [ua]; decide⟩ hg s3 hN (by omega) (by omega) (Nat.le_of_ble_eq_true rfl) fun w3 hc3 f3 hg3 => ?_)
      obtain ⟨hT4, hI4, hp4, hK4⟩ := top_told hT3 hc3 f3 (by rw [ua]; decide)
      refine hR (?_ : R (_, _, _, _, _, _))
      exact hR (zret_i rfl (Nat.le_refl _) (Or.inr rfl) ⟨⟨_, hT4⟩, fun l m h => hI4 l m (hI2 l m (hI1 l m h)), KEEP_tr hK1 (KEEP_tr hK2 hK4), by omega, by omega, 1, Or.inr rfl, rfl⟩)
  · skip
    refine det_of (mc := 3) (ms := 15) ?_
    refine zCl_i (M := kX11_tellInto) rfl (Nat.le_of_ble_eq_true rfl) fun R hR => ?_
    refine hR (?_ : R (_, _, _, _, _, _))
    refine hR (t_pc (pc2 := 116) (by rw [zti (e := a1) (by omega) (by omega)]; show (((1 : Nat) : Int) + Op.lookupswitch.offset [(0, 27), (1, 71)] 115 a1).toNat = 116; simp only [Op.lookupswitch.offset_cons]; (repeat' split) <;> first | omega | rfl) ?_)
    iterate 2 refine hR (?_ : R (_, _, _, _, _, _))
    refine hR (zcall_i 2 12 (Nat.le_of_ble_eq_true rfl) (Nat.le_of_ble_eq_true rfl) (n_Sight hT.1 _ _ fun σ w1 hc1 g1 hl1 hr1 hn1 => ?_))
    refine (?_ : R (_, _, .ref w.length :: [], w1, 3, 15))
    obtain ⟨hT1, hI1, hp1, hK1, hx1⟩ := top_gro hT hc1 g1 (fun q a b => absurd b (hn1 q a))
    obtain ⟨z6, z7, k0, s1, s7, s8, s9, s12, s13, -⟩ := top_o hT1
    obtain ⟨x1, x2, x3, hO, u1, -, -, -, u2, u3, u4, u5⟩ := CI_o2 hc1 s1
    obtain ⟨t0, t1, t2, t3, t4, t5, t6, t7, hU, -⟩ := CI_o9 hc1 s8
    iterate 2 refine hR (?_ : R (_, _, _, _, _, _))
    refine hR (c_get k0 rfl ?_)
    refine hR (?_ : R (_, _, _, _, _, _))
    refine hR (c_get k0 rfl ?_)
    refine hR (c_get hO rfl ?_)
    iterate 2 refine hR (?_ : R (_, _, _, _, _, _))
    refine hR (c_obj hU (zcall_i 0 0 (Nat.le_of_ble_eq_true rfl) (Nat.le_of_ble_eq_true rfl) (c_tell_s _ 8 2 w.length a3 hc1 s8 u1 hr1 h3 _ fun v w2 hw2 f2 hv => ?_)))
    refine (?_ : R (_, _, .int (Int32.ofInt v) :: [], w2, 3, 15))
    obtain ⟨hT2, hI2, hp2, hK2⟩ := top_fr hT1 hw2 f2 (by decide) (AWK_fr hc1 f2 hT1.2.2.1 (by decide))
    refine hR (k_eq (by omega) (fun hc => ?_) (fun hc => ?_))
    · refine hR (?_ : R (_, _, _, _, _, _))
      exact hR (zret_i rfl (Nat.le_refl _) (Or.inl rfl) ⟨⟨σ, hT2⟩, fun l m h => hI2 l m (hI1 l m h), KEEP_tr hK1 hK2, by omega, by omega, 0, Or.inl rfl, rfl⟩)
    · skip
      have hT3 : TOP σ w2 := hT2
      have hc2 := hw2
      have s3 := hr1
      have ua : σ 6 = 7 := u5
      obtain ⟨z6', z7', k02, s1', -⟩ := top_o hT3
      obtain ⟨y1, y2, y3, hO2, -⟩ := CI_o2 hc2 s1'
      obtain ⟨g, hg, -⟩ := CI_rf hc2 (q := 6) (by rw [ua]; rfl) (by rw [ua]; rfl)
      obtain ⟨_, hN, -⟩ := CI_o40 hc2 s3
      refine hR (?_ : R (_, _, _, _, _, _))
      refine hR (c_get k02 rfl ?_)
      refine hR (c_get hO2 rfl ?_)
      iterate 2 refine hR (?_ : R (_, _, _, _, _, _))
      refine hR (c_rst hc2 (by rw [ua]; rfl) (by rw [ua]; rfl) rfl ⟨by rw [ua]; decide, by rw [ua]; decide⟩ hg s3 hN (by omega) (by omega) (Nat.le_of_ble_eq_true rfl) fun w3 hc3 f3 hg3 => ?_)
      obtain ⟨hT4, hI4, hp4, hK4⟩ := top_told hT3 hc3 f3 (by rw [ua]; decide)
      refine hR (?_ : R (_, _, _, _, _, _))
      exact hR (zret_i rfl (Nat.le_refl _) (Or.inr rfl) ⟨⟨_, hT4⟩, fun l m h => hI4 l m (hI2 l m (hI1 l m h)), KEEP_tr hK1 (KEEP_tr hK2 hK4), by omega, by omega, 1, Or.inr rfl, rfl⟩)
