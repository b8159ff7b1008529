section AB
variable {C : zCT} {mc ms : Nat} {L : zL} {w : zW} {k n np a : Nat} {K : zS → Prop} {q : Nat} {t : List Value}
theorem t_abs1 {v1 : Value} (h : zvt w q a fun _ a' => zif (zrm t) (zcall C a' [.ref q, v1] t w k n mc ms np L K)) : zif (Nat.ble (11 - 10) (List.length (v1 :: .ref q :: t))) (z1r (List.drop (11 - 10) (v1 :: .ref q :: t)) fun q t => zvt w q a fun _ a' => zif (zrm t) (zcall C a' (.ref q :: (List.take (11 - 10) (v1 :: .ref q :: t)).reverse) t w k n mc ms np L K)) := by
  rw [show (11 : Nat) - 10 = 1 from rfl]
  exact h
theorem t_abs2 {v2 v1 : Value} (h : zvt w q a fun _ a' => zif (zrm t) (zcall C a' [.ref q, v1, v2] t w k n mc ms np L K)) : zif (Nat.ble (12 - 10) (List.length (v2 :: v1 :: .ref q :: t))) (z1r (List.drop (12 - 10) (v2 :: v1 :: .ref q :: t)) fun q t => zvt w q a fun _ a' => zif (zrm t) (zcall C a' (.ref q :: (List.take (12 - 10) (v2 :: v1 :: .ref q :: t)).reverse) t w k n mc ms np L K)) := by
  rw [show (12 : Nat) - 10 = 2 from rfl]
  exact h
theorem t_abs3 {v3 v2 v1 : Value} (h : zvt w q a fun _ a' => zif (zrm t) (zcall C a' [.ref q, v1, v2, v3] t w k n mc ms np L K)) : zif (Nat.ble (13 - 10) (List.length (v3 :: v2 :: v1 :: .ref q :: t))) (z1r (List.drop (13 - 10) (v3 :: v2 :: v1 :: .ref q :: t)) fun q t => zvt w q a fun _ a' => zif (zrm t) (zcall C a' (.ref q :: (List.take (13 - 10) (v3 :: v2 :: v1 :: .ref q :: t)).reverse) t w k n mc ms np L K)) := by
  rw [show (13 : Nat) - 10 = 3 from rfl]
  exact h
end AB
theorem c_tellLine_b {ρ : Nat → Nat} {w : zW} (d : Nat) (q p : Nat) (hw : CI ρ w) (hρq : ρ q = 9) (hρp : ρ p = 19) (hr0 : TE ρ w q (fun l a s v f => (0 ≤ s ∧ s ≤ a ∧ a ≤ l ∧ l ≤ 600) ∧ (f ≠ 0 ∨ REL w (p + 3)))) (Q : zQ) (h : ∀ (v : Int) (w' : zW), CI ρ w' → wfR [9, 19, 21, 22, 25, 26] ρ w w' → (v = 0 ∨ v = 1) → (TE ρ w' q (fun l a s x f => (0 ≤ s ∧ s ≤ a ∧ a ≤ l ∧ l ≤ 600) ∧ (v = 0 ∨ f ≠ 0 ∨ REL w' (p + 3)))) → Q (some (.int (Int32.ofInt v))) w') : zCl zTab (d + 7) iX7_tellLine [.ref q, .ref p] w 0 0 Q := by
  refine zCl_i (M := kX7_tellLine) rfl (Nat.le_of_ble_eq_true rfl) fun R hR => ?_
  have fr0 := wfR_rf [9, 19, 21, 22, 25, 26] ρ w
  obtain ⟨t_1, l_1, a_1, k_1, s_1, v_1, f_1, c_1, hT1, ht1, hTr1, hTp1⟩ := hr0
  obtain ⟨hTp1, hX1⟩ := hTp1
  (try dsimp only at hTp1)
  obtain ⟨x0_2, x1_2, x2_2, hO2, hk2_0, hk2_1, hk2_2, hk2_3, hk2_4, hk2_5, hk2_6⟩ := CI_o19 hw hρp
  refine hR (?_ : R (_, _, _, _, _, _))
  refine hR (c_get hT1 rfl ?_)
  refine hR (?_ : R (_, _, _, _, _, _))
  refine hR (j_ne (by omega) (by omega) (fun hc3 => ?_) (fun hc3 => ?_))
  · skip
    iterate 4 refine hR (?_ : R (_, _, _, _, _, _))
    refine hR (j_ne (by omega) (by omega) (fun hc => by omega) (fun _ => ?_))
    refine hR (?_ : R (_, _, _, _, _, _))
    exact hR (zret_i rfl (Nat.le_refl _) (zbo (by omega)) (h _ _ hw fr0 (by omega) (te_of hT1 ht1 (by omega) ⟨by omega, Or.inl (by omega)⟩)))
  iterate 2 refine hR (?_ : R (_, _, _, _, _, _))
  refine hR (t_abs1 (c_vt0 hO2 ?_))
  refine zcall_i 0 0 (Nat.le_of_ble_eq_true rfl) (Nat.le_of_ble_eq_true rfl) (c_lineOf_b _ p q hw hρp hρq (te_of hT1 ht1 (by omega) (by (try dsimp only); omega)) _ fun v4 hp6 => ?_)
  refine (?_ : R (_, _, (.int (Int32.ofInt v4)) :: [], w, 0, 0))
  iterate 4 refine hR (?_ : R (_, _, _, _, _, _))
  refine hR (j_ne (by omega) (by omega) (fun hc7 => ?_) (fun hc7 => ?_))
  rotate_left
  · skip
    refine hR (?_ : R (_, _, _, _, _, _))
    exact hR (zret_i rfl (Nat.le_refl _) (zbo (by omega)) (h _ _ hw fr0 (by omega) (te_of hT1 ht1 (by omega) ⟨by omega, Or.inl (by omega)⟩)))
  iterate 3 refine hR (?_ : R (_, _, _, _, _, _))
  refine hR (t_abs2 (c_vt0 hO2 ?_))
  refine zcall_i 0 0 (Nat.le_of_ble_eq_true rfl) (Nat.le_of_ble_eq_true rfl) (c_beginLine_b _ p q v4 hw hρp hρq (by omega) (te_of hT1 ht1 (by omega) ⟨by omega, hX1⟩) _ fun w8 hw8 g8 hp9 => ?_)
  have fr10 := wfR_tr fr0 g8 (by decide)
  refine (?_ : R (_, _, [], w8, 0, 0))
  obtain ⟨t_11, l_11, a_11, k_11, s_11, v_11, f_11, c_11, hT11, ht11, hTr11, hTp11⟩ := hp9
  obtain ⟨hTp11, hX11⟩ := hTp11
  (try dsimp only at hTp11)
  refine hR (?_ : R (_, _, _, _, _, _))
  refine hR (c_obj hT11 (zcall_i 0 0 (Nat.le_of_ble_eq_true rfl) (Nat.le_of_ble_eq_true rfl) (c_advance _ q f_11 hw8 hρq (te_of hT11 ht11 (by omega) (by (try dsimp only); omega)) _ fun w12 hw12 g12 hp13 => ?_)))
  have fr14 := wfR_tr fr10 g12 (by decide)
  refine (?_ : R (_, _, [], w12, 0, 0))
  obtain ⟨t_15, l_15, a_15, k_15, s_15, v_15, f_15, c_15, hT15, ht15, hTr15, hTp15⟩ := hp13
  (try dsimp only at hTp15)
  obtain ⟨x0_16, x1_16, x2_16, hO16, hk16_0, hk16_1, hk16_2, hk16_3, hk16_4, hk16_5, hk16_6⟩ := CI_o19 hw12 hρp
  have X17 := ln_ff (f' := f_15) (LN_fr (g12.2 p (by rw [hρp]; decide)) (g12.2 (p + 2) (by rw [hk16_4]; decide)) (g12.2 (p + 3) (by rw [hk16_5]; decide)) (g12.2 (p + 4) (by rw [hk16_6]; decide)) hX11) (by omega)
  iterate 2 refine hR (?_ : R (_, _, _, _, _, _))
  refine hR (t_abs1 (c_vt0 hO16 ?_))
  refine zcall_i 0 0 (Nat.le_of_ble_eq_true rfl) (Nat.le_of_ble_eq_true rfl) (c_mostNumbers_b _ p v4 hw12 hρp (by omega) _ fun v18 hp20 => ?_)
  refine (?_ : R (_, _, (.int (Int32.ofInt v18)) :: [], w12, 0, 0))
  iterate 3 refine hR (?_ : R (_, _, _, _, _, _))
  have lp44 : ∀ (N : Nat) (nu : Int) (w_44 : zW), (CI ρ w_44) → (wfR [9, 19, 21, 22, 25, 26] ρ w w_44) → (0 ≤ nu ∧ nu ≤ 600) → (TE ρ w_44 q (fun l a s v f => (0 ≤ s ∧ s ≤ a ∧ a ≤ l ∧ l ≤ 600) ∧ LN w_44 p v4 nu f)) → (601 - nu < N) → R (44, [some (.ref q), some (.ref p), some (.int (Int32.ofInt v4)), some (.int (Int32.ofInt v18)), some (.int (Int32.ofInt nu))], [], w_44, 0, 0) := by
    intro N
    induction N with
    | zero => intros; omega
    | succ N ih44 =>
      intro nu w_44 hw_44 fr_44 hf0_44 hp0_44 hN44
      obtain ⟨t_21, l_21, a_21, k_21, s_21, v_21, f_21, c_21, hT21, ht21, hTr21, hTp21⟩ := hp0_44
      obtain ⟨hTp21, hX21⟩ := hTp21
      (try dsimp only at hTp21)
      iterate 2 refine hR (?_ : R (_, _, _, _, _, _))
      refine hR (j_ge (by omega) (by omega) (fun hc22 => ?_) (fun hc22 => ?_))
      · skip
        iterate 3 refine hR (?_ : R (_, _, _, _, _, _))
        obtain ⟨x0_26, x1_26, x2_26, hO26, hk26_0, hk26_1, hk26_2, hk26_3, hk26_4, hk26_5, hk26_6⟩ := CI_o19 hw_44 hρp
        refine hR (t_abs1 (c_vt0 hO26 ?_))
        refine zcall_i 0 0 (Nat.le_of_ble_eq_true rfl) (Nat.le_of_ble_eq_true rfl) (c_fewestNumbers_b _ p v4 hw_44 hρp (by omega) _ fun v23 hp25 => ?_)
        refine (?_ : R (_, _, (.int (Int32.ofInt v23)) :: (.int (Int32.ofInt nu)) :: [], w_44, 0, 0))
        refine hR (j_lt (by omega) (by omega) (fun hc27 => ?_) (fun hc27 => ?_))
        · skip
          refine hR (?_ : R (_, _, _, _, _, _))
          exact hR (zret_i rfl (Nat.le_refl _) (zbo (by omega)) (h _ _ hw_44 fr_44 (by omega) (te_of hT21 ht21 (by omega) ⟨by omega, Or.inl (by omega)⟩)))
        refine hR (?_ : R (_, _, _, _, _, _))
        refine hR (c_get hT21 rfl ?_)
        refine hR (?_ : R (_, _, _, _, _, _))
        refine hR (j_eq (by omega) (by omega) (fun hc28 => ?_) (fun hc28 => ?_))
        rotate_left
        · skip
          refine hR (?_ : R (_, _, _, _, _, _))
          exact hR (zret_i rfl (Nat.le_refl _) (zbo (by omega)) (h _ _ hw_44 fr_44 (by omega) (te_of hT21 ht21 (by omega) ⟨by omega, Or.inl (by omega)⟩)))
        refine hR (?_ : R (_, _, _, _, _, _))
        refine hR (c_obj hT21 (zcall_i 0 0 (Nat.le_of_ble_eq_true rfl) (Nat.le_of_ble_eq_true rfl) (c_advance _ q f_21 hw_44 hρq (te_of hT21 ht21 (by omega) (by (try dsimp only); omega)) _ fun w29 hw29 g29 hp30 => ?_)))
        have fr31 := wfR_tr fr_44 g29 (by decide)
        have hO32 := (g29.2 p (by rw [hρp]; decide)).trans hO26
        refine (?_ : R (_, _, [], w29, 0, 0))
        obtain ⟨t_33, l_33, a_33, k_33, s_33, v_33, f_33, c_33, hT33, ht33, hTr33, hTp33⟩ := hp30
        (try dsimp only at hTp33)
        have X34 := ln_ff (f' := f_33) (LN_fr (g29.2 p (by rw [hρp]; decide)) (g29.2 (p + 2) (by rw [hk26_4]; decide)) (g29.2 (p + 3) (by rw [hk26_5]; decide)) (g29.2 (p + 4) (by rw [hk26_6]; decide)) hX21) (by omega)
        refine hR (?_ : R (_, _, _, _, _, _))
        exact hR (zret_i rfl (Nat.le_refl _) (zbo (by omega)) (h _ _ hw29 fr31 (by omega) (te_of hT33 ht33 (by omega) ⟨by omega, Or.inr (ln_end X34 (by omega))⟩)))
      refine hR (?_ : R (_, _, _, _, _, _))
      refine hR (c_get hT21 rfl ?_)
      refine hR (?_ : R (_, _, _, _, _, _))
      refine hR (j_ne (by omega) (by omega) (fun hc35 => ?_) (fun hc35 => ?_))
      rotate_left
      · skip
        iterate 4 refine hR (?_ : R (_, _, _, _, _, _))
        obtain ⟨x0_50, x1_50, x2_50, hO50, hk50_0, hk50_1, hk50_2, hk50_3, hk50_4, hk50_5, hk50_6⟩ := CI_o19 hw_44 hρp
        refine hR (t_abs3 (c_vt0 hO50 ?_))
        refine zcall_i 0 0 (Nat.le_of_ble_eq_true rfl) (Nat.le_of_ble_eq_true rfl) (c_takeNumber_b _ p q v4 nu hw_44 hρp hρq (by omega) (by omega) (te_of hT21 ht21 (by omega) ⟨by omega, hX21⟩) _ fun w48 hw48 g48 hp49 => ?_)
        have fr51 := wfR_tr fr_44 g48 (by decide)
        refine (?_ : R (_, _, [], w48, 0, 0))
        obtain ⟨t_52, l_52, a_52, k_52, s_52, v_52, f_52, c_52, hT52, ht52, hTr52, hTp52⟩ := hp49
        obtain ⟨hTp52, hX52⟩ := hTp52
        (try dsimp only at hTp52)
        refine hR (t_inc ?_)
        refine hR (?_ : R (_, _, _, _, _, _))
        refine hR (c_obj hT52 (zcall_i 0 0 (Nat.le_of_ble_eq_true rfl) (Nat.le_of_ble_eq_true rfl) (c_advance _ q f_52 hw48 hρq (te_of hT52 ht52 (by omega) (by (try dsimp only); omega)) _ fun w53 hw53 g53 hp54 => ?_)))
        have fr55 := wfR_tr fr51 g53 (by decide)
        refine (?_ : R (_, _, [], w53, 0, 0))
        obtain ⟨t_56, l_56, a_56, k_56, s_56, v_56, f_56, c_56, hT56, ht56, hTr56, hTp56⟩ := hp54
        (try dsimp only at hTp56)
        obtain ⟨x0_57, x1_57, x2_57, hO57, hk57_0, hk57_1, hk57_2, hk57_3, hk57_4, hk57_5, hk57_6⟩ := CI_o19 hw53 hρp
        have X58 := ln_ff (f' := f_56) (LN_fr (g53.2 p (by rw [hρp]; decide)) (g53.2 (p + 2) (by rw [hk57_4]; decide)) (g53.2 (p + 3) (by rw [hk57_5]; decide)) (g53.2 (p + 4) (by rw [hk57_6]; decide)) hX52) (by omega)
        refine hR (?_ : R (_, _, _, _, _, _))
        exact ih44 _ _ hw53 fr55 (by omega) (te_of hT56 ht56 (by omega) ⟨by omega, X58⟩) (by omega)
      iterate 3 refine hR (?_ : R (_, _, _, _, _, _))
      obtain ⟨x0_39, x1_39, x2_39, hO39, hk39_0, hk39_1, hk39_2, hk39_3, hk39_4, hk39_5, hk39_6⟩ := CI_o19 hw_44 hρp
      refine hR (t_abs1 (c_vt0 hO39 ?_))
      refine zcall_i 0 0 (Nat.le_of_ble_eq_true rfl) (Nat.le_of_ble_eq_true rfl) (c_fewestNumbers_b _ p v4 hw_44 hρp (by omega) _ fun v36 hp38 => ?_)
      refine (?_ : R (_, _, (.int (Int32.ofInt v36)) :: (.int (Int32.ofInt nu)) :: [], w_44, 0, 0))
      refine hR (j_lt (by omega) (by omega) (fun hc40 => ?_) (fun hc40 => ?_))
      · skip
        refine hR (?_ : R (_, _, _, _, _, _))
        exact hR (zret_i rfl (Nat.le_refl _) (zbo (by omega)) (h _ _ hw_44 fr_44 (by omega) (te_of hT21 ht21 (by omega) ⟨by omega, Or.inl (by omega)⟩)))
      refine hR (?_ : R (_, _, _, _, _, _))
      refine hR (c_get hT21 rfl ?_)
      refine hR (?_ : R (_, _, _, _, _, _))
      refine hR (j_eq (by omega) (by omega) (fun hc41 => ?_) (fun hc41 => ?_))
      rotate_left
      · skip
        refine hR (?_ : R (_, _, _, _, _, _))
        exact hR (zret_i rfl (Nat.le_refl _) (zbo (by omega)) (h _ _ hw_44 fr_44 (by omega) (te_of hT21 ht21 (by omega) ⟨by omega, Or.inl (by omega)⟩)))
      refine hR (?_ : R (_, _, _, _, _, _))
      refine hR (c_obj hT21 (zcall_i 0 0 (Nat.le_of_ble_eq_true rfl) (Nat.le_of_ble_eq_true rfl) (c_advance _ q f_21 hw_44 hρq (te_of hT21 ht21 (by omega) (by (try dsimp only); omega)) _ fun w42 hw42 g42 hp43 => ?_)))
      have fr44 := wfR_tr fr_44 g42 (by decide)
      have hO45 := (g42.2 p (by rw [hρp]; decide)).trans hO39
      refine (?_ : R (_, _, [], w42, 0, 0))
      obtain ⟨t_46, l_46, a_46, k_46, s_46, v_46, f_46, c_46, hT46, ht46, hTr46, hTp46⟩ := hp43
      (try dsimp only at hTp46)
      have X47 := ln_ff (f' := f_46) (LN_fr (g42.2 p (by rw [hρp]; decide)) (g42.2 (p + 2) (by rw [hk39_4]; decide)) (g42.2 (p + 3) (by rw [hk39_5]; decide)) (g42.2 (p + 4) (by rw [hk39_6]; decide)) hX21) (by omega)
      refine hR (?_ : R (_, _, _, _, _, _))
      exact hR (zret_i rfl (Nat.le_refl _) (zbo (by omega)) (h _ _ hw42 fr44 (by omega) (te_of hT46 ht46 (by omega) ⟨by omega, Or.inr (ln_end X47 (by omega))⟩)))
  exact lp44 400000000 _ _ hw12 fr14 (by omega) (te_of hT15 ht15 (by omega) ⟨by omega, X17⟩) (by omega)
theorem c_tellLine_y {ρ : Nat → Nat} {w : zW} (d : Nat) (q p : Nat) (hw : CI ρ w) (hρq : ρ q = 9) (hρp : ρ p = 30) (hr0 : TE ρ w q (fun l a s v f => 0 ≤ s ∧ s ≤ a ∧ a ≤ l ∧ l ≤ 600)) (Q : zQ) (h : ∀ (v : Int) (w' : zW), CI ρ w' → wfR [9, 30, 31, 32, 33] ρ w w' → (v = 0 ∨ v = 1) → (TE ρ w' q (fun l a s x f => (0 ≤ s ∧ s ≤ a ∧ a ≤ l ∧ l ≤ 600))) → Q (some (.int (Int32.ofInt v))) w') : zCl zTab (d + 7) iX7_tellLine [.ref q, .ref p] w 0 0 Q := by
  refine zCl_i (M := kX7_tellLine) rfl (Nat.le_of_ble_eq_true rfl) fun R hR => ?_
  have fr0 := wfR_rf [9, 30, 31, 32, 33] ρ w
  obtain ⟨t_1, l_1, a_1, k_1, s_1, v_1, f_1, c_1, hT1, ht1, hTr1, hTp1⟩ := hr0
  (try dsimp only at hTp1)
  obtain ⟨x0_2, hO2, hk2_0, hk2_1, hk2_2, hk2_3⟩ := CI_o30 hw hρp
  refine hR (?_ : R (_, _, _, _, _, _))
  refine hR (c_get hT1 rfl ?_)
  refine hR (?_ : R (_, _, _, _, _, _))
  refine hR (j_ne (by omega) (by omega) (fun hc3 => ?_) (fun hc3 => ?_))
  · skip
    iterate 4 refine hR (?_ : R (_, _, _, _, _, _))
    refine hR (j_ne (by omega) (by omega) (fun hc => by omega) (fun _ => ?_))
    refine hR (?_ : R (_, _, _, _, _, _))
    exact hR (zret_i rfl (Nat.le_refl _) (zbo (by omega)) (h _ _ hw fr0 (by omega) (te_of hT1 ht1 (by omega) (by (try dsimp only); omega))))
  iterate 2 refine hR (?_ : R (_, _, _, _, _, _))
  refine hR (t_abs1 (c_vt9 hO2 ?_))
  refine zcall_i 0 0 (Nat.le_of_ble_eq_true rfl) (Nat.le_of_ble_eq_true rfl) (c_lineOf_y _ p q hw hρp hρq (te_of hT1 ht1 (by omega) (by (try dsimp only); omega)) _ fun v4 hp6 => ?_)
  refine (?_ : R (_, _, (.int (Int32.ofInt v4)) :: [], w, 0, 0))
  iterate 4 refine hR (?_ : R (_, _, _, _, _, _))
  refine hR (j_ne (by omega) (by omega) (fun hc7 => ?_) (fun hc7 => ?_))
  rotate_left
  · skip
    refine hR (?_ : R (_, _, _, _, _, _))
    exact hR (zret_i rfl (Nat.le_refl _) (zbo (by omega)) (h _ _ hw fr0 (by omega) (te_of hT1 ht1 (by omega) (by (try dsimp only); omega))))
  iterate 3 refine hR (?_ : R (_, _, _, _, _, _))
  refine hR (t_abs2 (c_vt9 hO2 ?_))
  refine zcall_i 0 0 (Nat.le_of_ble_eq_true rfl) (Nat.le_of_ble_eq_true rfl) (c_beginLine_y _ p q v4 hw hρp hρq (by omega) (te_of hT1 ht1 (by omega) (by (try dsimp only); omega)) _ fun w8 hw8 g8 hp9 => ?_)
  have fr10 := wfR_tr fr0 g8 (by decide)
  refine (?_ : R (_, _, [], w8, 0, 0))
  obtain ⟨t_11, l_11, a_11, k_11, s_11, v_11, f_11, c_11, hT11, ht11, hTr11, hTp11⟩ := hp9
  (try dsimp only at hTp11)
  refine hR (?_ : R (_, _, _, _, _, _))
  refine hR (c_obj hT11 (zcall_i 0 0 (Nat.le_of_ble_eq_true rfl) (Nat.le_of_ble_eq_true rfl) (c_advance _ q f_11 hw8 hρq (te_of hT11 ht11 (by omega) (by (try dsimp only); omega)) _ fun w12 hw12 g12 hp13 => ?_)))
  have fr14 := wfR_tr fr10 g12 (by decide)
  refine (?_ : R (_, _, [], w12, 0, 0))
  obtain ⟨t_15, l_15, a_15, k_15, s_15, v_15, f_15, c_15, hT15, ht15, hTr15, hTp15⟩ := hp13
  (try dsimp only at hTp15)
  iterate 2 refine hR (?_ : R (_, _, _, _, _, _))
  obtain ⟨x0_19, hO19, hk19_0, hk19_1, hk19_2, hk19_3⟩ := CI_o30 hw12 hρp
  refine hR (t_abs1 (c_vt9 hO19 ?_))
  refine zcall_i 0 0 (Nat.le_of_ble_eq_true rfl) (Nat.le_of_ble_eq_true rfl) (c_mostNumbers_y _ p v4 hw12 hρp (by omega) _ fun v16 hp18 => ?_)
  refine (?_ : R (_, _, (.int (Int32.ofInt v16)) :: [], w12, 0, 0))
  iterate 3 refine hR (?_ : R (_, _, _, _, _, _))
  have lp44 : ∀ (N : Nat) (nu : Int) (w_44 : zW), (CI ρ w_44) → (wfR [9, 30, 31, 32, 33] ρ w w_44) → (0 ≤ nu ∧ nu ≤ 600) → (TE ρ w_44 q (fun l a s v f => 0 ≤ s ∧ s ≤ a ∧ a ≤ l ∧ l ≤ 600)) → (601 - nu < N) → R (44, [some (.ref q), some (.ref p), some (.int (Int32.ofInt v4)), some (.int (Int32.ofInt v16)), some (.int (Int32.ofInt nu))], [], w_44, 0, 0) := by
    intro N
    induction N with
    | zero => intros; omega
    | succ N ih44 =>
      intro nu w_44 hw_44 fr_44 hf0_44 hp0_44 hN44
      obtain ⟨t_20, l_20, a_20, k_20, s_20, v_20, f_20, c_20, hT20, ht20, hTr20, hTp20⟩ := hp0_44
      (try dsimp only at hTp20)
      iterate 2 refine hR (?_ : R (_, _, _, _, _, _))
      refine hR (j_ge (by omega) (by omega) (fun hc21 => ?_) (fun hc21 => ?_))
      · skip
        iterate 3 refine hR (?_ : R (_, _, _, _, _, _))
        obtain ⟨x0_25, hO25, hk25_0, hk25_1, hk25_2, hk25_3⟩ := CI_o30 hw_44 hρp
        refine hR (t_abs1 (c_vt9 hO25 ?_))
        refine zcall_i 0 0 (Nat.le_of_ble_eq_true rfl) (Nat.le_of_ble_eq_true rfl) (c_fewestNumbers_y _ p v4 hw_44 hρp (by omega) _ fun v22 hp24 => ?_)
        refine (?_ : R (_, _, (.int (Int32.ofInt v22)) :: (.int (Int32.ofInt nu)) :: [], w_44, 0, 0))
        refine hR (j_lt (by omega) (by omega) (fun hc26 => ?_) (fun hc26 => ?_))
        · skip
          refine hR (?_ : R (_, _, _, _, _, _))
          exact hR (zret_i rfl (Nat.le_refl _) (zbo (by omega)) (h _ _ hw_44 fr_44 (by omega) (te_of hT20 ht20 (by omega) (by (try dsimp only); omega))))
        refine hR (?_ : R (_, _, _, _, _, _))
        refine hR (c_get hT20 rfl ?_)
        refine hR (?_ : R (_, _, _, _, _, _))
        refine hR (j_eq (by omega) (by omega) (fun hc27 => ?_) (fun hc27 => ?_))
        rotate_left
        · skip
          refine hR (?_ : R (_, _, _, _, _, _))
          exact hR (zret_i rfl (Nat.le_refl _) (zbo (by omega)) (h _ _ hw_44 fr_44 (by omega) (te_of hT20 ht20 (by omega) (by (try dsimp only); omega))))
        refine hR (?_ : R (_, _, _, _, _, _))
        refine hR (c_obj hT20 (zcall_i 0 0 (Nat.le_of_ble_eq_true rfl) (Nat.le_of_ble_eq_true rfl) (c_advance _ q f_20 hw_44 hρq (te_of hT20 ht20 (by omega) (by (try dsimp only); omega)) _ fun w28 hw28 g28 hp29 => ?_)))
        have fr30 := wfR_tr fr_44 g28 (by decide)
        have hO31 := (g28.2 p (by rw [hρp]; decide)).trans hO25
        refine (?_ : R (_, _, [], w28, 0, 0))
        obtain ⟨t_32, l_32, a_32, k_32, s_32, v_32, f_32, c_32, hT32, ht32, hTr32, hTp32⟩ := hp29
        (try dsimp only at hTp32)
        refine hR (?_ : R (_, _, _, _, _, _))
        exact hR (zret_i rfl (Nat.le_refl _) (zbo (by omega)) (h _ _ hw28 fr30 (by omega) (te_of hT32 ht32 (by omega) (by (try dsimp only); omega))))
      refine hR (?_ : R (_, _, _, _, _, _))
      refine hR (c_get hT20 rfl ?_)
      refine hR (?_ : R (_, _, _, _, _, _))
      refine hR (j_ne (by omega) (by omega) (fun hc33 => ?_) (fun hc33 => ?_))
      rotate_left
      · skip
        iterate 4 refine hR (?_ : R (_, _, _, _, _, _))
        obtain ⟨x0_47, hO47, hk47_0, hk47_1, hk47_2, hk47_3⟩ := CI_o30 hw_44 hρp
        refine hR (t_abs3 (c_vt9 hO47 ?_))
        refine zcall_i 0 0 (Nat.le_of_ble_eq_true rfl) (Nat.le_of_ble_eq_true rfl) (c_takeNumber_y _ p q v4 nu hw_44 hρp hρq (by omega) (by omega) (te_of hT20 ht20 (by omega) (by (try dsimp only); omega)) _ fun w45 hw45 g45 hp46 => ?_)
        have fr48 := wfR_tr fr_44 g45 (by decide)
        have hO49 := (g45.2 p (by rw [hρp]; decide)).trans hO47
        refine (?_ : R (_, _, [], w45, 0, 0))
        obtain ⟨t_50, l_50, a_50, k_50, s_50, v_50, f_50, c_50, hT50, ht50, hTr50, hTp50⟩ := hp46
        (try dsimp only at hTp50)
        refine hR (t_inc ?_)
        refine hR (?_ : R (_, _, _, _, _, _))
        refine hR (c_obj hT50 (zcall_i 0 0 (Nat.le_of_ble_eq_true rfl) (Nat.le_of_ble_eq_true rfl) (c_advance _ q f_50 hw45 hρq (te_of hT50 ht50 (by omega) (by (try dsimp only); omega)) _ fun w51 hw51 g51 hp52 => ?_)))
        have fr53 := wfR_tr fr48 g51 (by decide)
        have hO54 := (g51.2 p (by rw [hρp]; decide)).trans hO49
        refine (?_ : R (_, _, [], w51, 0, 0))
        obtain ⟨t_55, l_55, a_55, k_55, s_55, v_55, f_55, c_55, hT55, ht55, hTr55, hTp55⟩ := hp52
        (try dsimp only at hTp55)
        refine hR (?_ : R (_, _, _, _, _, _))
        exact ih44 _ _ hw51 fr53 (by omega) (te_of hT55 ht55 (by omega) (by (try dsimp only); omega)) (by omega)
      iterate 3 refine hR (?_ : R (_, _, _, _, _, _))
      obtain ⟨x0_37, hO37, hk37_0, hk37_1, hk37_2, hk37_3⟩ := CI_o30 hw_44 hρp
      refine hR (t_abs1 (c_vt9 hO37 ?_))
      refine zcall_i 0 0 (Nat.le_of_ble_eq_true rfl) (Nat.le_of_ble_eq_true rfl) (c_fewestNumbers_y _ p v4 hw_44 hρp (by omega) _ fun v34 hp36 => ?_)
      refine (?_ : R (_, _, (.int (Int32.ofInt v34)) :: (.int (Int32.ofInt nu)) :: [], w_44, 0, 0))
      refine hR (j_lt (by omega) (by omega) (fun hc38 => ?_) (fun hc38 => ?_))
      · skip
        refine hR (?_ : R (_, _, _, _, _, _))
        exact hR (zret_i rfl (Nat.le_refl _) (zbo (by omega)) (h _ _ hw_44 fr_44 (by omega) (te_of hT20 ht20 (by omega) (by (try dsimp only); omega))))
      refine hR (?_ : R (_, _, _, _, _, _))
      refine hR (c_get hT20 rfl ?_)
      refine hR (?_ : R (_, _, _, _, _, _))
      refine hR (j_eq (by omega) (by omega) (fun hc39 => ?_) (fun hc39 => ?_))
      rotate_left
      · skip
        refine hR (?_ : R (_, _, _, _, _, _))
        exact hR (zret_i rfl (Nat.le_refl _) (zbo (by omega)) (h _ _ hw_44 fr_44 (by omega) (te_of hT20 ht20 (by omega) (by (try dsimp only); omega))))
      refine hR (?_ : R (_, _, _, _, _, _))
      refine hR (c_obj hT20 (zcall_i 0 0 (Nat.le_of_ble_eq_true rfl) (Nat.le_of_ble_eq_true rfl) (c_advance _ q f_20 hw_44 hρq (te_of hT20 ht20 (by omega) (by (try dsimp only); omega)) _ fun w40 hw40 g40 hp41 => ?_)))
      have fr42 := wfR_tr fr_44 g40 (by decide)
      have hO43 := (g40.2 p (by rw [hρp]; decide)).trans hO37
      refine (?_ : R (_, _, [], w40, 0, 0))
      obtain ⟨t_44, l_44, a_44, k_44, s_44, v_44, f_44, c_44, hT44, ht44, hTr44, hTp44⟩ := hp41
      (try dsimp only at hTp44)
      refine hR (?_ : R (_, _, _, _, _, _))
      exact hR (zret_i rfl (Nat.le_refl _) (zbo (by omega)) (h _ _ hw40 fr42 (by omega) (te_of hT44 ht44 (by omega) (by (try dsimp only); omega))))
  exact lp44 400000000 _ _ hw12 fr14 (by omega) (te_of hT15 ht15 (by omega) (by (try dsimp only); omega)) (by omega)
theorem c_tellLine_s {ρ : Nat → Nat} {w : zW} (d : Nat) (q p : Nat) (hw : CI ρ w) (hρq : ρ q = 9) (hρp : ρ p = 40) (hr0 : TE ρ w q (fun l a s v f => 0 ≤ s ∧ s ≤ a ∧ a ≤ l ∧ l ≤ 600)) (Q : zQ) (h : ∀ (v : Int) (w' : zW), CI ρ w' → wfR [9, 40, 41, 42] ρ w w' → (v = 0 ∨ v = 1) → (TE ρ w' q (fun l a s x f => (0 ≤ s ∧ s ≤ a ∧ a ≤ l ∧ l ≤ 600))) → Q (some (.int (Int32.ofInt v))) w') : zCl zTab (d + 7) iX7_tellLine [.ref q, .ref p] w 0 0 Q := by
  refine zCl_i (M := kX7_tellLine) rfl (Nat.le_of_ble_eq_true rfl) fun R hR => ?_
  have fr0 := wfR_rf [9, 40, 41, 42] ρ w
  obtain ⟨t_1, l_1, a_1, k_1, s_1, v_1, f_1, c_1, hT1, ht1, hTr1, hTp1⟩ := hr0
  (try dsimp only at hTp1)
  obtain ⟨x0_2, hO2, hk2_0, hk2_1, hk2_2⟩ := CI_o40 hw hρp
  refine hR (?_ : R (_, _, _, _, _, _))
  refine hR (c_get hT1 rfl ?_)
  refine hR (?_ : R (_, _, _, _, _, _))
  refine hR (j_ne (by omega) (by omega) (fun hc3 => ?_) (fun hc3 => ?_))
  · skip
    iterate 4 refine hR (?_ : R (_, _, _, _, _, _))
    refine hR (j_ne (by omega) (by omega) (fun hc => by omega) (fun _ => ?_))
    refine hR (?_ : R (_, _, _, _, _, _))
    exact hR (zret_i rfl (Nat.le_refl _) (zbo (by omega)) (h _ _ hw fr0 (by omega) (te_of hT1 ht1 (by omega) (by (try dsimp only); omega))))
  iterate 2 refine hR (?_ : R (_, _, _, _, _, _))
  refine hR (t_abs1 (c_vt5 hO2 ?_))
  refine zcall_i 0 0 (Nat.le_of_ble_eq_true rfl) (Nat.le_of_ble_eq_true rfl) (c_lineOf_s _ p q hw hρp hρq (te_of hT1 ht1 (by omega) (by (try dsimp only); omega)) _ fun v4 hp6 => ?_)
  refine (?_ : R (_, _, (.int (Int32.ofInt v4)) :: [], w, 0, 0))
  iterate 4 refine hR (?_ : R (_, _, _, _, _, _))
  refine hR (j_ne (by omega) (by omega) (fun hc7 => ?_) (fun hc7 => ?_))
  rotate_left
  · skip
    refine hR (?_ : R (_, _, _, _, _, _))
    exact hR (zret_i rfl (Nat.le_refl _) (zbo (by omega)) (h _ _ hw fr0 (by omega) (te_of hT1 ht1 (by omega) (by (try dsimp only); omega))))
  iterate 3 refine hR (?_ : R (_, _, _, _, _, _))
  refine hR (t_abs2 (c_vt5 hO2 ?_))
  refine zcall_i 0 0 (Nat.le_of_ble_eq_true rfl) (Nat.le_of_ble_eq_true rfl) (c_beginLine_s _ p q v4 hw hρp hρq (by omega) (te_of hT1 ht1 (by omega) (by (try dsimp only); omega)) _ fun w8 hw8 g8 hp9 => ?_)
  have fr10 := wfR_tr fr0 g8 (by decide)
  refine (?_ : R (_, _, [], w8, 0, 0))
  obtain ⟨t_11, l_11, a_11, k_11, s_11, v_11, f_11, c_11, hT11, ht11, hTr11, hTp11⟩ := hp9
  (try dsimp only at hTp11)
  refine hR (?_ : R (_, _, _, _, _, _))
  refine hR (c_obj hT11 (zcall_i 0 0 (Nat.le_of_ble_eq_true rfl) (Nat.le_of_ble_eq_true rfl) (c_advance _ q f_11 hw8 hρq (te_of hT11 ht11 (by omega) (by (try dsimp only); omega)) _ fun w12 hw12 g12 hp13 => ?_)))
  have fr14 := wfR_tr fr10 g12 (by decide)
  refine (?_ : R (_, _, [], w12, 0, 0))
  obtain ⟨t_15, l_15, a_15, k_15, s_15, v_15, f_15, c_15, hT15, ht15, hTr15, hTp15⟩ := hp13
  (try dsimp only at hTp15)
  iterate 2 refine hR (?_ : R (_, _, _, _, _, _))
  obtain ⟨x0_19, hO19, hk19_0, hk19_1, hk19_2⟩ := CI_o40 hw12 hρp
  refine hR (t_abs1 (c_vt5 hO19 ?_))
  refine zcall_i 0 0 (Nat.le_of_ble_eq_true rfl) (Nat.le_of_ble_eq_true rfl) (c_mostNumbers_s _ p v4 hw12 hρp (by omega) _ fun v16 hp18 => ?_)
  refine (?_ : R (_, _, (.int (Int32.ofInt v16)) :: [], w12, 0, 0))
  iterate 3 refine hR (?_ : R (_, _, _, _, _, _))
  have lp44 : ∀ (N : Nat) (nu : Int) (w_44 : zW), (CI ρ w_44) → (wfR [9, 40, 41, 42] ρ w w_44) → (0 ≤ nu ∧ nu ≤ 600) → (TE ρ w_44 q (fun l a s v f => 0 ≤ s ∧ s ≤ a ∧ a ≤ l ∧ l ≤ 600)) → (601 - nu < N) → R (44, [some (.ref q), some (.ref p), some (.int (Int32.ofInt v4)), some (.int (Int32.ofInt v16)), some (.int (Int32.ofInt nu))], [], w_44, 0, 0) := by
    intro N
    induction N with
    | zero => intros; omega
    | succ N ih44 =>
      intro nu w_44 hw_44 fr_44 hf0_44 hp0_44 hN44
      obtain ⟨t_20, l_20, a_20, k_20, s_20, v_20, f_20, c_20, hT20, ht20, hTr20, hTp20⟩ := hp0_44
      (try dsimp only at hTp20)
      iterate 2 refine hR (?_ : R (_, _, _, _, _, _))
      refine hR (j_ge (by omega) (by omega) (fun hc21 => ?_) (fun hc21 => ?_))
      · skip
        iterate 3 refine hR (?_ : R (_, _, _, _, _, _))
        obtain ⟨x0_25, hO25, hk25_0, hk25_1, hk25_2⟩ := CI_o40 hw_44 hρp
        refine hR (t_abs1 (c_vt5 hO25 ?_))
        refine zcall_i 0 0 (Nat.le_of_ble_eq_true rfl) (Nat.le_of_ble_eq_true rfl) (c_fewestNumbers_s _ p v4 hw_44 hρp (by omega) _ fun v22 hp24 => ?_)
        refine (?_ : R (_, _, (.int (Int32.ofInt v22)) :: (.int (Int32.ofInt nu)) :: [], w_44, 0, 0))
        refine hR (j_lt (by omega) (by omega) (fun hc26 => ?_) (fun hc26 => ?_))
        · skip
          refine hR (?_ : R (_, _, _, _, _, _))
          exact hR (zret_i rfl (Nat.le_refl _) (zbo (by omega)) (h _ _ hw_44 fr_44 (by omega) (te_of hT20 ht20 (by omega) (by (try dsimp only); omega))))
        refine hR (?_ : R (_, _, _, _, _, _))
        refine hR (c_get hT20 rfl ?_)
        refine hR (?_ : R (_, _, _, _, _, _))
        refine hR (j_eq (by omega) (by omega) (fun hc27 => ?_) (fun hc27 => ?_))
        rotate_left
        · skip
          refine hR (?_ : R (_, _, _, _, _, _))
          exact hR (zret_i rfl (Nat.le_refl _) (zbo (by omega)) (h _ _ hw_44 fr_44 (by omega) (te_of hT20 ht20 (by omega) (by (try dsimp only); omega))))
        refine hR (?_ : R (_, _, _, _, _, _))
        refine hR (c_obj hT20 (zcall_i 0 0 (Nat.le_of_ble_eq_true rfl) (Nat.le_of_ble_eq_true rfl) (c_advance _ q f_20 hw_44 hρq (te_of hT20 ht20 (by omega) (by (try dsimp only); omega)) _ fun w28 hw28 g28 hp29 => ?_)))
        have fr30 := wfR_tr fr_44 g28 (by decide)
        have hO31 := (g28.2 p (by rw [hρp]; decide)).trans hO25
        refine (?_ : R (_, _, [], w28, 0, 0))
        obtain ⟨t_32, l_32, a_32, k_32, s_32, v_32, f_32, c_32, hT32, ht32, hTr32, hTp32⟩ := hp29
        (try dsimp only at hTp32)
        refine hR (?_ : R (_, _, _, _, _, _))
        exact hR (zret_i rfl (Nat.le_refl _) (zbo (by omega)) (h _ _ hw28 fr30 (by omega) (te_of hT32 ht32 (by omega) (by (try dsimp only); omega))))
      refine hR (?_ : R (_, _, _, _, _, _))
      refine hR (c_get hT20 rfl ?_)
      refine hR (?_ : R (_, _, _, _, _, _))
      refine hR (j_ne (by omega) (by omega) (fun hc33 => ?_) (fun hc33 => ?_))
      rotate_left
      · skip
        iterate 4 refine hR (?_ : R (_, _, _, _, _, _))
        obtain ⟨x0_47, hO47, hk47_0, hk47_1, hk47_2⟩ := CI_o40 hw_44 hρp
        refine hR (t_abs3 (c_vt5 hO47 ?_))
        refine zcall_i 0 0 (Nat.le_of_ble_eq_true rfl) (Nat.le_of_ble_eq_true rfl) (c_takeNumber_s _ p q v4 nu hw_44 hρp hρq (by omega) (by omega) (te_of hT20 ht20 (by omega) (by (try dsimp only); omega)) _ fun w45 hw45 g45 hp46 => ?_)
        have fr48 := wfR_tr fr_44 g45 (by decide)
        have hO49 := (g45.2 p (by rw [hρp]; decide)).trans hO47
        refine (?_ : R (_, _, [], w45, 0, 0))
        obtain ⟨t_50, l_50, a_50, k_50, s_50, v_50, f_50, c_50, hT50, ht50, hTr50, hTp50⟩ := hp46
        (try dsimp only at hTp50)
        refine hR (t_inc ?_)
        refine hR (?_ : R (_, _, _, _, _, _))
        refine hR (c_obj hT50 (zcall_i 0 0 (Nat.le_of_ble_eq_true rfl) (Nat.le_of_ble_eq_true rfl) (c_advance _ q f_50 hw45 hρq (te_of hT50 ht50 (by omega) (by (try dsimp only); omega)) _ fun w51 hw51 g51 hp52 => ?_)))
        have fr53 := wfR_tr fr48 g51 (by decide)
        have hO54 := (g51.2 p (by rw [hρp]; decide)).trans hO49
        refine (?_ : R (_, _, [], w51, 0, 0))
        obtain ⟨t_55, l_55, a_55, k_55, s_55, v_55, f_55, c_55, hT55, ht55, hTr55, hTp55⟩ := hp52
        (try dsimp only at hTp55)
        refine hR (?_ : R (_, _, _, _, _, _))
        exact ih44 _ _ hw51 fr53 (by omega) (te_of hT55 ht55 (by omega) (by (try dsimp only); omega)) (by omega)
      iterate 3 refine hR (?_ : R (_, _, _, _, _, _))
      obtain ⟨x0_37, hO37, hk37_0, hk37_1, hk37_2⟩ := CI_o40 hw_44 hρp
      refine hR (t_abs1 (c_vt5 hO37 ?_))
      refine zcall_i 0 0 (Nat.le_of_ble_eq_true rfl) (Nat.le_of_ble_eq_true rfl) (c_fewestNumbers_s _ p v4 hw_44 hρp (by omega) _ fun v34 hp36 => ?_)
      refine (?_ : R (_, _, (.int (Int32.ofInt v34)) :: (.int (Int32.ofInt nu)) :: [], w_44, 0, 0))
      refine hR (j_lt (by omega) (by omega) (fun hc38 => ?_) (fun hc38 => ?_))
      · skip
        refine hR (?_ : R (_, _, _, _, _, _))
        exact hR (zret_i rfl (Nat.le_refl _) (zbo (by omega)) (h _ _ hw_44 fr_44 (by omega) (te_of hT20 ht20 (by omega) (by (try dsimp only); omega))))
      refine hR (?_ : R (_, _, _, _, _, _))
      refine hR (c_get hT20 rfl ?_)
      refine hR (?_ : R (_, _, _, _, _, _))
      refine hR (j_eq (by omega) (by omega) (fun hc39 => ?_) (fun hc39 => ?_))
      rotate_left
      · skip
        refine hR (?_ : R (_, _, _, _, _, _))
        exact hR (zret_i rfl (Nat.le_refl _) (zbo (by omega)) (h _ _ hw_44 fr_44 (by omega) (te_of hT20 ht20 (by omega) (by (try dsimp only); omega))))
      refine hR (?_ : R (_, _, _, _, _, _))
      refine hR (c_obj hT20 (zcall_i 0 0 (Nat.le_of_ble_eq_true rfl) (Nat.le_of_ble_eq_true rfl) (c_advance _ q f_20 hw_44 hρq (te_of hT20 ht20 (by omega) (by (try dsimp only); omega)) _ fun w40 hw40 g40 hp41 => ?_)))
      have fr42 := wfR_tr fr_44 g40 (by decide)
      have hO43 := (g40.2 p (by rw [hρp]; decide)).trans hO37
      refine (?_ : R (_, _, [], w40, 0, 0))
      obtain ⟨t_44, l_44, a_44, k_44, s_44, v_44, f_44, c_44, hT44, ht44, hTr44, hTp44⟩ := hp41
      (try dsimp only at hTp44)
      refine hR (?_ : R (_, _, _, _, _, _))
      exact hR (zret_i rfl (Nat.le_refl _) (zbo (by omega)) (h _ _ hw40 fr42 (by omega) (te_of hT44 ht44 (by omega) (by (try dsimp only); omega))))
  exact lp44 400000000 _ _ hw12 fr14 (by omega) (te_of hT15 ht15 (by omega) (by (try dsimp only); omega)) (by omega)
theorem c_tell_b {ρ : Nat → Nat} {w : zW} (d : Nat) (q t p : Nat) (a1 : Int) (hw : CI ρ w) (hρq : ρ q = 9) (hρt : ρ t = 3) (hρp : ρ p = 19) (hr0 : 0 ≤ a1 ∧ a1 ≤ 600) (hr1 : REL w (p + 3)) (Q : zQ) (h : ∀ (v : Int) (w' : zW), CI ρ w' → wfR [9, 19, 21, 22, 25, 26] ρ w w' → (v = 0 ∨ v = 1) → (v = 0 ∨ REL w' (p + 3)) → Q (some (.int (Int32.ofInt v))) w') : zCl zTab (d + 8) iX7_tell [.ref q, .ref t, .int (Int32.ofInt a1), .ref p] w 0 0 Q := by
  refine zCl_i (M := kX7_tell) rfl (Nat.le_of_ble_eq_true rfl) fun R hR => ?_
  have fr0 := wfR_rf [9, 19, 21, 22, 25, 26] ρ w
  obtain ⟨x0_1, x1_1, x2_1, hO1, hk1_0, hk1_1, hk1_2, hk1_3, hk1_4, hk1_5, hk1_6⟩ := CI_o19 hw hρp
  have hX0 : (0 : Int) ≠ 0 ∨ REL w (p + 3) := Or.inr hr1
  iterate 2 refine hR (?_ : R (_, _, _, _, _, _))
  obtain ⟨y0_2, x1_2, x2_2, x3_2, x4_2, x5_2, x6_2, x7_2, hO2, hk2_0, hk2_1, hk2_2, hk2_3, hk2_4, hk2_5, hk2_6, hk2_7⟩ := CI_o9 hw hρq
  refine hR (c_put hO2 rfl rfl fun w3 f3 hO3 => ?_)
  have hw3 := CI_w9 hw hρq f3 (y0 := some t) hO3 ⟨(fun z h => by cases h; exact hρt), ⟨by omega, by omega⟩, ⟨by omega, by omega⟩, ⟨by omega, by omega⟩, ⟨by omega, by omega⟩, ⟨by omega, by omega⟩, ⟨by omega, by omega⟩, ⟨by omega, by omega⟩⟩
  have fr4 := wfR_st fr0 f3 (by rw [hρq]; decide)
  have hn5 := nn_of hO3
  have hO6 := (f3.2 p (rne hρp hρq (by decide))).trans hO1
  have X7 := rel_fr (f3.2 (p + 3) (rne hk1_5 hρq (by decide))) (f3.2 (p + 4) (rne hk1_6 hρq (by decide))) hX0
  iterate 2 refine hR (?_ : R (_, _, _, _, _, _))
  refine hR (c_put hO3 rfl rfl fun w8 f8 hO8 => ?_)
  have hw8 := CI_w9 hw3 hρq f8 (y0 := some t) hO8 ⟨(fun z h => by cases h; exact hρt), ⟨by omega, by omega⟩, ⟨by omega, by omega⟩, ⟨by omega, by omega⟩, ⟨by omega, by omega⟩, ⟨by omega, by omega⟩, ⟨by omega, by omega⟩, ⟨by omega, by omega⟩⟩
  have fr9 := wfR_st fr4 f8 (by rw [hρq]; decide)
  have hn10 := nn_of hO8
  have hO11 := (f8.2 p (rne hρp hρq (by decide))).trans hO6
  have X12 := rel_fr (f8.2 (p + 3) (rne hk1_5 hρq (by decide))) (f8.2 (p + 4) (rne hk1_6 hρq (by decide))) X7
  iterate 2 refine hR (?_ : R (_, _, _, _, _, _))
  refine hR (c_put hO8 rfl rfl fun w13 f13 hO13 => ?_)
  have hw13 := CI_w9 hw8 hρq f13 (y0 := some t) hO13 ⟨(fun z h => by cases h; exact hρt), ⟨by omega, by omega⟩, ⟨by omega, by omega⟩, ⟨by omega, by omega⟩, ⟨by omega, by omega⟩, ⟨by omega, by omega⟩, ⟨by omega, by omega⟩, ⟨by omega, by omega⟩⟩
  have fr14 := wfR_st fr9 f13 (by rw [hρq]; decide)
  have hn15 := nn_of hO13
  have hO16 := (f13.2 p (rne hρp hρq (by decide))).trans hO11
  have X17 := rel_fr (f13.2 (p + 3) (rne hk1_5 hρq (by decide))) (f13.2 (p + 4) (rne hk1_6 hρq (by decide))) X12
  iterate 2 refine hR (?_ : R (_, _, _, _, _, _))
  refine hR (c_put hO13 rfl rfl fun w18 f18 hO18 => ?_)
  have hw18 := CI_w9 hw13 hρq f18 (y0 := some t) hO18 ⟨(fun z h => by cases h; exact hρt), ⟨by omega, by omega⟩, ⟨by omega, by omega⟩, ⟨by omega, by omega⟩, ⟨by omega, by omega⟩, ⟨by omega, by omega⟩, ⟨by omega, by omega⟩, ⟨by omega, by omega⟩⟩
  have fr19 := wfR_st fr14 f18 (by rw [hρq]; decide)
  have hn20 := nn_of hO18
  have hO21 := (f18.2 p (rne hρp hρq (by decide))).trans hO16
  have X22 := rel_fr (f18.2 (p + 3) (rne hk1_5 hρq (by decide))) (f18.2 (p + 4) (rne hk1_6 hρq (by decide))) X17
  iterate 2 refine hR (?_ : R (_, _, _, _, _, _))
  refine hR (c_put hO18 rfl rfl fun w23 f23 hO23 => ?_)
  have hw23 := CI_w9 hw18 hρq f23 (y0 := some t) hO23 ⟨(fun z h => by cases h; exact hρt), ⟨by omega, by omega⟩, ⟨by omega, by omega⟩, ⟨by omega, by omega⟩, ⟨by omega, by omega⟩, ⟨by omega, by omega⟩, ⟨by omega, by omega⟩, ⟨by omega, by omega⟩⟩
  have fr24 := wfR_st fr19 f23 (by rw [hρq]; decide)
  have hn25 := nn_of hO23
  have hO26 := (f23.2 p (rne hρp hρq (by decide))).trans hO21
  have X27 := rel_fr (f23.2 (p + 3) (rne hk1_5 hρq (by decide))) (f23.2 (p + 4) (rne hk1_6 hρq (by decide))) X22
  refine hR (?_ : R (_, _, _, _, _, _))
  refine hR (c_obj hO23 (zcall_i 0 0 (Nat.le_of_ble_eq_true rfl) (Nat.le_of_ble_eq_true rfl) (c_advance _ q 0 hw23 hρq (te_of hO23 hρt (by omega) (by (try dsimp only); omega)) _ fun w28 hw28 g28 hp29 => ?_)))
  have fr30 := wfR_tr fr24 g28 (by decide)
  have hO31 := (g28.2 p (by rw [hρp]; decide)).trans hO26
  refine (?_ : R (_, _, [], w28, 0, 0))
  obtain ⟨t_32, l_32, a_32, k_32, s_32, v_32, f_32, c_32, hT32, ht32, hTr32, hTp32⟩ := hp29
  (try dsimp only at hTp32)
  have X33 : f_32 ≠ 0 ∨ REL w28 (p + 3) := Or.inr ((rel_fr (g28.2 (p + 3) (by rw [hk1_5]; decide)) (g28.2 (p + 4) (by rw [hk1_6]; decide)) X27).resolve_left (by omega))
  iterate 2 refine hR (?_ : R (_, _, _, _, _, _))
  have lp32 : ∀ (N : Nat) (it : Int) (w_32 : zW), (CI ρ w_32) → (wfR [9, 19, 21, 22, 25, 26] ρ w w_32) → (0 ≤ it ∧ it ≤ 601) → (TE ρ w_32 q (fun l a s v f => (0 ≤ s ∧ s ≤ a ∧ a ≤ l ∧ l ≤ 600) ∧ (f ≠ 0 ∨ REL w_32 (p + 3)))) → (602 - it < N) → R (32, [some (.ref q), some (.ref t), some (.int (Int32.ofInt a1)), some (.ref p), some (.int (Int32.ofInt it))], [], w_32, 0, 0) := by
    intro N
    induction N with
    | zero => intros; omega
    | succ N ih32 =>
      intro it w_32 hw_32 fr_32 hf0_32 hp0_32 hN32
      obtain ⟨t_34, l_34, a_34, k_34, s_34, v_34, f_34, c_34, hT34, ht34, hTr34, hTp34⟩ := hp0_32
      obtain ⟨hTp34, hX34⟩ := hTp34
      (try dsimp only at hTp34)
      refine hR (?_ : R (_, _, _, _, _, _))
      refine hR (t_c 600 (by decide) ?_)
      refine hR (j_gt (by omega) (by omega) (fun hc35 => ?_) (fun hc35 => ?_))
      · skip
        refine hR (?_ : R (_, _, _, _, _, _))
        refine hR (c_get hT34 rfl ?_)
        refine hR (k_ne (by omega) (fun hc36 => ?_) (fun hc36 => ?_))
        · skip
          refine hR (?_ : R (_, _, _, _, _, _))
          exact hR (zret_i rfl (Nat.le_refl _) (zbo (by omega)) (h _ _ hw_32 fr_32 (by omega) (Or.inl (by omega))))
        iterate 2 refine hR (?_ : R (_, _, _, _, _, _))
        exact hR (zret_i rfl (Nat.le_refl _) (zbo (by omega)) (h _ _ hw_32 fr_32 (by omega) (Or.inr (hX34.resolve_left (by omega)))))
      refine hR (?_ : R (_, _, _, _, _, _))
      refine hR (c_get hT34 rfl ?_)
      refine hR (k_eq (by omega) (fun hc37 => ?_) (fun hc37 => ?_))
      · skip
        refine hR (?_ : R (_, _, _, _, _, _))
        refine hR (c_get hT34 rfl ?_)
        refine hR (k_ne (by omega) (fun hc38 => ?_) (fun hc38 => ?_))
        · skip
          refine hR (?_ : R (_, _, _, _, _, _))
          exact hR (zret_i rfl (Nat.le_refl _) (zbo (by omega)) (h _ _ hw_32 fr_32 (by omega) (Or.inl (by omega))))
        iterate 2 refine hR (?_ : R (_, _, _, _, _, _))
        exact hR (zret_i rfl (Nat.le_refl _) (zbo (by omega)) (h _ _ hw_32 fr_32 (by omega) (Or.inr (hX34.resolve_left (by omega)))))
      iterate 2 refine hR (?_ : R (_, _, _, _, _, _))
      refine hR (c_obj hT34 (zcall_i 0 0 (Nat.le_of_ble_eq_true rfl) (Nat.le_of_ble_eq_true rfl) (c_tellLine_b _ q p hw_32 hρq hρp (te_of hT34 ht34 (by omega) ⟨by omega, hX34⟩) _ fun v39 w40 hw40 g40 hp41 hp42 => ?_)))
      have fr43 := wfR_tr fr_32 g40 (by decide)
      refine (?_ : R (_, _, (.int (Int32.ofInt v39)) :: [], w40, 0, 0))
      obtain ⟨t_44, l_44, a_44, k_44, s_44, v_44, f_44, c_44, hT44, ht44, hTr44, hTp44⟩ := hp42
      obtain ⟨hTp44, hX44⟩ := hTp44
      (try dsimp only at hTp44)
      refine hR (k_ne (by omega) (fun hc45 => ?_) (fun hc45 => ?_))
      · skip
        have X46 := hX44.resolve_left (by omega)
        refine hR (t_inc ?_)
        refine hR (?_ : R (_, _, _, _, _, _))
        exact ih32 _ _ hw40 fr43 (by omega) (te_of hT44 ht44 (by omega) ⟨by omega, X46⟩) (by omega)
      iterate 2 refine hR (?_ : R (_, _, _, _, _, _))
      refine hR (c_put hT44 rfl rfl fun w47 f47 hO47 => ?_)
      have hw47 := CI_w9 hw40 hρq f47 (y0 := some t_44) hO47 ⟨(fun z h => by cases h; exact ht44), ⟨by omega, by omega⟩, ⟨by omega, by omega⟩, ⟨by omega, by omega⟩, ⟨by omega, by omega⟩, ⟨by omega, by omega⟩, ⟨by omega, by omega⟩, ⟨by omega, by omega⟩⟩
      have fr48 := wfR_st fr43 f47 (by rw [hρq]; decide)
      iterate 2 refine hR (?_ : R (_, _, _, _, _, _))
      refine hR (c_get hO47 rfl ?_)
      refine hR (c_put hO47 rfl rfl fun w49 f49 hO49 => ?_)
      have hw49 := CI_w9 hw47 hρq f49 (y0 := some t_44) hO49 ⟨(fun z h => by cases h; exact ht44), ⟨by omega, by omega⟩, ⟨by omega, by omega⟩, ⟨by omega, by omega⟩, ⟨by omega, by omega⟩, ⟨by omega, by omega⟩, ⟨by omega, by omega⟩, ⟨by omega, by omega⟩⟩
      have fr50 := wfR_st fr48 f49 (by rw [hρq]; decide)
      refine hR (?_ : R (_, _, _, _, _, _))
      exact hR (zret_i rfl (Nat.le_refl _) (zbo (by omega)) (h _ _ hw49 fr50 (by omega) (Or.inl (by omega))))
  exact lp32 400000000 _ _ hw28 fr30 (by omega) (te_of hT32 ht32 (by omega) ⟨by omega, X33⟩) (by omega)
theorem c_tell_y {ρ : Nat → Nat} {w : zW} (d : Nat) (q t p : Nat) (a1 : Int) (hw : CI ρ w) (hρq : ρ q = 9) (hρt : ρ t = 3) (hρp : ρ p = 30) (hr0 : 0 ≤ a1 ∧ a1 ≤ 600) (Q : zQ) (h : ∀ (v : Int) (w' : zW), CI ρ w' → wfR [9, 30, 31, 32, 33] ρ w w' → (v = 0 ∨ v = 1) → Q (some (.int (Int32.ofInt v))) w') : zCl zTab (d + 8) iX7_tell [.ref q, .ref t, .int (Int32.ofInt a1), .ref p] w 0 0 Q := by
  refine zCl_i (M := kX7_tell) rfl (Nat.le_of_ble_eq_true rfl) fun R hR => ?_
  have fr0 := wfR_rf [9, 30, 31, 32, 33] ρ w
  obtain ⟨x0_1, hO1, hk1_0, hk1_1, hk1_2, hk1_3⟩ := CI_o30 hw hρp
  iterate 2 refine hR (?_ : R (_, _, _, _, _, _))
  obtain ⟨y0_2, x1_2, x2_2, x3_2, x4_2, x5_2, x6_2, x7_2, hO2, hk2_0, hk2_1, hk2_2, hk2_3, hk2_4, hk2_5, hk2_6, hk2_7⟩ := CI_o9 hw hρq
  refine hR (c_put hO2 rfl rfl fun w3 f3 hO3 => ?_)
  have hw3 := CI_w9 hw hρq f3 (y0 := some t) hO3 ⟨(fun z h => by cases h; exact hρt), ⟨by omega, by omega⟩, ⟨by omega, by omega⟩, ⟨by omega, by omega⟩, ⟨by omega, by omega⟩, ⟨by omega, by omega⟩, ⟨by omega, by omega⟩, ⟨by omega, by omega⟩⟩
  have fr4 := wfR_st fr0 f3 (by rw [hρq]; decide)
  have hn5 := nn_of hO3
  have hO6 := (f3.2 p (rne hρp hρq (by decide))).trans hO1
  iterate 2 refine hR (?_ : R (_, _, _, _, _, _))
  refine hR (c_put hO3 rfl rfl fun w7 f7 hO7 => ?_)
  have hw7 := CI_w9 hw3 hρq f7 (y0 := some t) hO7 ⟨(fun z h => by cases h; exact hρt), ⟨by omega, by omega⟩, ⟨by omega, by omega⟩, ⟨by omega, by omega⟩, ⟨by omega, by omega⟩, ⟨by omega, by omega⟩, ⟨by omega, by omega⟩, ⟨by omega, by omega⟩⟩
  have fr8 := wfR_st fr4 f7 (by rw [hρq]; decide)
  have hn9 := nn_of hO7
  have hO10 := (f7.2 p (rne hρp hρq (by decide))).trans hO6
  iterate 2 refine hR (?_ : R (_, _, _, _, _, _))
  refine hR (c_put hO7 rfl rfl fun w11 f11 hO11 => ?_)
  have hw11 := CI_w9 hw7 hρq f11 (y0 := some t) hO11 ⟨(fun z h => by cases h; exact hρt), ⟨by omega, by omega⟩, ⟨by omega, by omega⟩, ⟨by omega, by omega⟩, ⟨by omega, by omega⟩, ⟨by omega, by omega⟩, ⟨by omega, by omega⟩, ⟨by omega, by omega⟩⟩
  have fr12 := wfR_st fr8 f11 (by rw [hρq]; decide)
  have hn13 := nn_of hO11
  have hO14 := (f11.2 p (rne hρp hρq (by decide))).trans hO10
  iterate 2 refine hR (?_ : R (_, _, _, _, _, _))
  refine hR (c_put hO11 rfl rfl fun w15 f15 hO15 => ?_)
  have hw15 := CI_w9 hw11 hρq f15 (y0 := some t) hO15 ⟨(fun z h => by cases h; exact hρt), ⟨by omega, by omega⟩, ⟨by omega, by omega⟩, ⟨by omega, by omega⟩, ⟨by omega, by omega⟩, ⟨by omega, by omega⟩, ⟨by omega, by omega⟩, ⟨by omega, by omega⟩⟩
  have fr16 := wfR_st fr12 f15 (by rw [hρq]; decide)
  have hn17 := nn_of hO15
  have hO18 := (f15.2 p (rne hρp hρq (by decide))).trans hO14
  iterate 2 refine hR (?_ : R (_, _, _, _, _, _))
  refine hR (c_put hO15 rfl rfl fun w19 f19 hO19 => ?_)
  have hw19 := CI_w9 hw15 hρq f19 (y0 := some t) hO19 ⟨(fun z h => by cases h; exact hρt), ⟨by omega, by omega⟩, ⟨by omega, by omega⟩, ⟨by omega, by omega⟩, ⟨by omega, by omega⟩, ⟨by omega, by omega⟩, ⟨by omega, by omega⟩, ⟨by omega, by omega⟩⟩
  have fr20 := wfR_st fr16 f19 (by rw [hρq]; decide)
  have hn21 := nn_of hO19
  have hO22 := (f19.2 p (rne hρp hρq (by decide))).trans hO18
  refine hR (?_ : R (_, _, _, _, _, _))
  refine hR (c_obj hO19 (zcall_i 0 0 (Nat.le_of_ble_eq_true rfl) (Nat.le_of_ble_eq_true rfl) (c_advance _ q 0 hw19 hρq (te_of hO19 hρt (by omega) (by (try dsimp only); omega)) _ fun w23 hw23 g23 hp24 => ?_)))
  have fr25 := wfR_tr fr20 g23 (by decide)
  have hO26 := (g23.2 p (by rw [hρp]; decide)).trans hO22
  refine (?_ : R (_, _, [], w23, 0, 0))
  obtain ⟨t_27, l_27, a_27, k_27, s_27, v_27, f_27, c_27, hT27, ht27, hTr27, hTp27⟩ := hp24
  (try dsimp only at hTp27)
  iterate 2 refine hR (?_ : R (_, _, _, _, _, _))
  have lp32 : ∀ (N : Nat) (it : Int) (w_32 : zW), (CI ρ w_32) → (wfR [9, 30, 31, 32, 33] ρ w w_32) → (0 ≤ it ∧ it ≤ 601) → (TE ρ w_32 q (fun l a s v f => 0 ≤ s ∧ s ≤ a ∧ a ≤ l ∧ l ≤ 600)) → (602 - it < N) → R (32, [some (.ref q), some (.ref t), some (.int (Int32.ofInt a1)), some (.ref p), some (.int (Int32.ofInt it))], [], w_32, 0, 0) := by
    intro N
    induction N with
    | zero => intros; omega
    | succ N ih32 =>
      intro it w_32 hw_32 fr_32 hf0_32 hp0_32 hN32
      obtain ⟨t_28, l_28, a_28, k_28, s_28, v_28, f_28, c_28, hT28, ht28, hTr28, hTp28⟩ := hp0_32
      (try dsimp only at hTp28)
      refine hR (?_ : R (_, _, _, _, _, _))
      refine hR (t_c 600 (by decide) ?_)
      refine hR (j_gt (by omega) (by omega) (fun hc29 => ?_) (fun hc29 => ?_))
      · skip
        refine hR (?_ : R (_, _, _, _, _, _))
        refine hR (c_get hT28 rfl ?_)
        refine hR (k_ne (by omega) (fun hc30 => ?_) (fun hc30 => ?_))
        · skip
          refine hR (?_ : R (_, _, _, _, _, _))
          exact hR (zret_i rfl (Nat.le_refl _) (zbo (by omega)) (h _ _ hw_32 fr_32 (by omega)))
        iterate 2 refine hR (?_ : R (_, _, _, _, _, _))
        exact hR (zret_i rfl (Nat.le_refl _) (zbo (by omega)) (h _ _ hw_32 fr_32 (by omega)))
      refine hR (?_ : R (_, _, _, _, _, _))
      refine hR (c_get hT28 rfl ?_)
      refine hR (k_eq (by omega) (fun hc31 => ?_) (fun hc31 => ?_))
      · skip
        refine hR (?_ : R (_, _, _, _, _, _))
        refine hR (c_get hT28 rfl ?_)
        refine hR (k_ne (by omega) (fun hc32 => ?_) (fun hc32 => ?_))
        · skip
          refine hR (?_ : R (_, _, _, _, _, _))
          exact hR (zret_i rfl (Nat.le_refl _) (zbo (by omega)) (h _ _ hw_32 fr_32 (by omega)))
        iterate 2 refine hR (?_ : R (_, _, _, _, _, _))
        exact hR (zret_i rfl (Nat.le_refl _) (zbo (by omega)) (h _ _ hw_32 fr_32 (by omega)))
      iterate 2 refine hR (?_ : R (_, _, _, _, _, _))
      refine hR (c_obj hT28 (zcall_i 0 0 (Nat.le_of_ble_eq_true rfl) (Nat.le_of_ble_eq_true rfl) (c_tellLine_y _ q p hw_32 hρq hρp (te_of hT28 ht28 (by omega) (by (try dsimp only); omega)) _ fun v33 w34 hw34 g34 hp35 hp36 => ?_)))
      have fr37 := wfR_tr fr_32 g34 (by decide)
      refine (?_ : R (_, _, (.int (Int32.ofInt v33)) :: [], w34, 0, 0))
      obtain ⟨t_38, l_38, a_38, k_38, s_38, v_38, f_38, c_38, hT38, ht38, hTr38, hTp38⟩ := hp36
      (try dsimp only at hTp38)
      refine hR (k_ne (by omega) (fun hc39 => ?_) (fun hc39 => ?_))
      · skip
        refine hR (t_inc ?_)
        refine hR (?_ : R (_, _, _, _, _, _))
        exact ih32 _ _ hw34 fr37 (by omega) (te_of hT38 ht38 (by omega) (by (try dsimp only); omega)) (by omega)
      iterate 2 refine hR (?_ : R (_, _, _, _, _, _))
      refine hR (c_put hT38 rfl rfl fun w40 f40 hO40 => ?_)
      have hw40 := CI_w9 hw34 hρq f40 (y0 := some t_38) hO40 ⟨(fun z h => by cases h; exact ht38), ⟨by omega, by omega⟩, ⟨by omega, by omega⟩, ⟨by omega, by omega⟩, ⟨by omega, by omega⟩, ⟨by omega, by omega⟩, ⟨by omega, by omega⟩, ⟨by omega, by omega⟩⟩
      have fr41 := wfR_st fr37 f40 (by rw [hρq]; decide)
      iterate 2 refine hR (?_ : R (_, _, _, _, _, _))
      refine hR (c_get hO40 rfl ?_)
      refine hR (c_put hO40 rfl rfl fun w42 f42 hO42 => ?_)
      have hw42 := CI_w9 hw40 hρq f42 (y0 := some t_38) hO42 ⟨(fun z h => by cases h; exact ht38), ⟨by omega, by omega⟩, ⟨by omega, by omega⟩, ⟨by omega, by omega⟩, ⟨by omega, by omega⟩, ⟨by omega, by omega⟩, ⟨by omega, by omega⟩, ⟨by omega, by omega⟩⟩
      have fr43 := wfR_st fr41 f42 (by rw [hρq]; decide)
      refine hR (?_ : R (_, _, _, _, _, _))
      exact hR (zret_i rfl (Nat.le_refl _) (zbo (by omega)) (h _ _ hw42 fr43 (by omega)))
  exact lp32 400000000 _ _ hw23 fr25 (by omega) (te_of hT27 ht27 (by omega) (by (try dsimp only); omega)) (by omega)
theorem c_tell_s {ρ : Nat → Nat} {w : zW} (d : Nat) (q t p : Nat) (a1 : Int) (hw : CI ρ w) (hρq : ρ q = 9) (hρt : ρ t = 3) (hρp : ρ p = 40) (hr0 : 0 ≤ a1 ∧ a1 ≤ 600) (Q : zQ) (h : ∀ (v : Int) (w' : zW), CI ρ w' → wfR [9, 40, 41, 42] ρ w w' → (v = 0 ∨ v = 1) → Q (some (.int (Int32.ofInt v))) w') : zCl zTab (d + 8) iX7_tell [.ref q, .ref t, .int (Int32.ofInt a1), .ref p] w 0 0 Q := by
  refine zCl_i (M := kX7_tell) rfl (Nat.le_of_ble_eq_true rfl) fun R hR => ?_
  have fr0 := wfR_rf [9, 40, 41, 42] ρ w
  obtain ⟨x0_1, hO1, hk1_0, hk1_1, hk1_2⟩ := CI_o40 hw hρp
  iterate 2 refine hR (?_ : R (_, _, _, _, _, _))
  obtain ⟨y0_2, x1_2, x2_2, x3_2, x4_2, x5_2, x6_2, x7_2, hO2, hk2_0, hk2_1, hk2_2, hk2_3, hk2_4, hk2_5, hk2_6, hk2_7⟩ := CI_o9 hw hρq
  refine hR (c_put hO2 rfl rfl fun w3 f3 hO3 => ?_)
  have hw3 := CI_w9 hw hρq f3 (y0 := some t) hO3 ⟨(fun z h => by cases h; exact hρt), ⟨by omega, by omega⟩, ⟨by omega, by omega⟩, ⟨by omega, by omega⟩, ⟨by omega, by omega⟩, ⟨by omega, by omega⟩, ⟨by omega, by omega⟩, ⟨by omega, by omega⟩⟩
  have fr4 := wfR_st fr0 f3 (by rw [hρq]; decide)
  have hn5 := nn_of hO3
  have hO6 := (f3.2 p (rne hρp hρq (by decide))).trans hO1
  iterate 2 refine hR (?_ : R (_, _, _, _, _, _))
  refine hR (c_put hO3 rfl rfl fun w7 f7 hO7 => ?_)
  have hw7 := CI_w9 hw3 hρq f7 (y0 := some t) hO7 ⟨(fun z h => by cases h; exact hρt), ⟨by omega, by omega⟩, ⟨by omega, by omega⟩, ⟨by omega, by omega⟩, ⟨by omega, by omega⟩, ⟨by omega, by omega⟩, ⟨by omega, by omega⟩, ⟨by omega, by omega⟩⟩
  have fr8 := wfR_st fr4 f7 (by rw [hρq]; decide)
  have hn9 := nn_of hO7
  have hO10 := (f7.2 p (rne hρp hρq (by decide))).trans hO6
  iterate 2 refine hR (?_ : R (_, _, _, _, _, _))
  refine hR (c_put hO7 rfl rfl fun w11 f11 hO11 => ?_)
  have hw11 := CI_w9 hw7 hρq f11 (y0 := some t) hO11 ⟨(fun z h => by cases h; exact hρt), ⟨by omega, by omega⟩, ⟨by omega, by omega⟩, ⟨by omega, by omega⟩, ⟨by omega, by omega⟩, ⟨by omega, by omega⟩, ⟨by omega, by omega⟩, ⟨by omega, by omega⟩⟩
  have fr12 := wfR_st fr8 f11 (by rw [hρq]; decide)
  have hn13 := nn_of hO11
  have hO14 := (f11.2 p (rne hρp hρq (by decide))).trans hO10
  iterate 2 refine hR (?_ : R (_, _, _, _, _, _))
  refine hR (c_put hO11 rfl rfl fun w15 f15 hO15 => ?_)
  have hw15 := CI_w9 hw11 hρq f15 (y0 := some t) hO15 ⟨(fun z h => by cases h; exact hρt), ⟨by omega, by omega⟩, ⟨by omega, by omega⟩, ⟨by omega, by omega⟩, ⟨by omega, by omega⟩, ⟨by omega, by omega⟩, ⟨by omega, by omega⟩, ⟨by omega, by omega⟩⟩
  have fr16 := wfR_st fr12 f15 (by rw [hρq]; decide)
  have hn17 := nn_of hO15
  have hO18 := (f15.2 p (rne hρp hρq (by decide))).trans hO14
  iterate 2 refine hR (?_ : R (_, _, _, _, _, _))
  refine hR (c_put hO15 rfl rfl fun w19 f19 hO19 => ?_)
  have hw19 := CI_w9 hw15 hρq f19 (y0 := some t) hO19 ⟨(fun z h => by cases h; exact hρt), ⟨by omega, by omega⟩, ⟨by omega, by omega⟩, ⟨by omega, by omega⟩, ⟨by omega, by omega⟩, ⟨by omega, by omega⟩, ⟨by omega, by omega⟩, ⟨by omega, by omega⟩⟩
  have fr20 := wfR_st fr16 f19 (by rw [hρq]; decide)
  have hn21 := nn_of hO19
  have hO22 := (f19.2 p (rne hρp hρq (by decide))).trans hO18
  refine hR (?_ : R (_, _, _, _, _, _))
  refine hR (c_obj hO19 (zcall_i 0 0 (Nat.le_of_ble_eq_true rfl) (Nat.le_of_ble_eq_true rfl) (c_advance _ q 0 hw19 hρq (te_of hO19 hρt (by omega) (by (try dsimp only); omega)) _ fun w23 hw23 g23 hp24 => ?_)))
  have fr25 := wfR_tr fr20 g23 (by decide)
  have hO26 := (g23.2 p (by rw [hρp]; decide)).trans hO22
  refine (?_ : R (_, _, [], w23, 0, 0))
  obtain ⟨t_27, l_27, a_27, k_27, s_27, v_27, f_27, c_27, hT27, ht27, hTr27, hTp27⟩ := hp24
  (try dsimp only at hTp27)
  iterate 2 refine hR (?_ : R (_, _, _, _, _, _))
  have lp32 : ∀ (N : Nat) (it : Int) (w_32 : zW), (CI ρ w_32) → (wfR [9, 40, 41, 42] ρ w w_32) → (0 ≤ it ∧ it ≤ 601) → (TE ρ w_32 q (fun l a s v f => 0 ≤ s ∧ s ≤ a ∧ a ≤ l ∧ l ≤ 600)) → (602 - it < N) → R (32, [some (.ref q), some (.ref t), some (.int (Int32.ofInt a1)), some (.ref p), some (.int (Int32.ofInt it))], [], w_32, 0, 0) := by
    intro N
    induction N with
    | zero => intros; omega
    | succ N ih32 =>
      intro it w_32 hw_32 fr_32 hf0_32 hp0_32 hN32
      obtain ⟨t_28, l_28, a_28, k_28, s_28, v_28, f_28, c_28, hT28, ht28, hTr28, hTp28⟩ := hp0_32
      (try dsimp only at hTp28)
      refine hR (?_ : R (_, _, _, _, _, _))
      refine hR (t_c 600 (by decide) ?_)
      refine hR (j_gt (by omega) (by omega) (fun hc29 => ?_) (fun hc29 => ?_))
      · skip
        refine hR (?_ : R (_, _, _, _, _, _))
        refine hR (c_get hT28 rfl ?_)
        refine hR (k_ne (by omega) (fun hc30 => ?_) (fun hc30 => ?_))
        · skip
          refine hR (?_ : R (_, _, _, _, _, _))
          exact hR (zret_i rfl (Nat.le_refl _) (zbo (by omega)) (h _ _ hw_32 fr_32 (by omega)))
        iterate 2 refine hR (?_ : R (_, _, _, _, _, _))
        exact hR (zret_i rfl (Nat.le_refl _) (zbo (by omega)) (h _ _ hw_32 fr_32 (by omega)))
      refine hR (?_ : R (_, _, _, _, _, _))
      refine hR (c_get hT28 rfl ?_)
      refine hR (k_eq (by omega) (fun hc31 => ?_) (fun hc31 => ?_))
      · skip
        refine hR (?_ : R (_, _, _, _, _, _))
        refine hR (c_get hT28 rfl ?_)
        refine hR (k_ne (by omega) (fun hc32 => ?_) (fun hc32 => ?_))
        · skip
          refine hR (?_ : R (_, _, _, _, _, _))
          exact hR (zret_i rfl (Nat.le_refl _) (zbo (by omega)) (h _ _ hw_32 fr_32 (by omega)))
        iterate 2 refine hR (?_ : R (_, _, _, _, _, _))
        exact hR (zret_i rfl (Nat.le_refl _) (zbo (by omega)) (h _ _ hw_32 fr_32 (by omega)))
      iterate 2 refine hR (?_ : R (_, _, _, _, _, _))
      refine hR (c_obj hT28 (zcall_i 0 0 (Nat.le_of_ble_eq_true rfl) (Nat.le_of_ble_eq_true rfl) (c_tellLine_s _ q p hw_32 hρq hρp (te_of hT28 ht28 (by omega) (by (try dsimp only); omega)) _ fun v33 w34 hw34 g34 hp35 hp36 => ?_)))
      have fr37 := wfR_tr fr_32 g34 (by decide)
      refine (?_ : R (_, _, (.int (Int32.ofInt v33)) :: [], w34, 0, 0))
      obtain ⟨t_38, l_38, a_38, k_38, s_38, v_38, f_38, c_38, hT38, ht38, hTr38, hTp38⟩ := hp36
      (try dsimp only at hTp38)
      refine hR (k_ne (by omega) (fun hc39 => ?_) (fun hc39 => ?_))
      · skip
        refine hR (t_inc ?_)
        refine hR (?_ : R (_, _, _, _, _, _))
        exact ih32 _ _ hw34 fr37 (by omega) (te_of hT38 ht38 (by omega) (by (try dsimp only); omega)) (by omega)
      iterate 2 refine hR (?_ : R (_, _, _, _, _, _))
      refine hR (c_put hT38 rfl rfl fun w40 f40 hO40 => ?_)
      have hw40 := CI_w9 hw34 hρq f40 (y0 := some t_38) hO40 ⟨(fun z h => by cases h; exact ht38), ⟨by omega, by omega⟩, ⟨by omega, by omega⟩, ⟨by omega, by omega⟩, ⟨by omega, by omega⟩, ⟨by omega, by omega⟩, ⟨by omega, by omega⟩, ⟨by omega, by omega⟩⟩
      have fr41 := wfR_st fr37 f40 (by rw [hρq]; decide)
      iterate 2 refine hR (?_ : R (_, _, _, _, _, _))
      refine hR (c_get hO40 rfl ?_)
      refine hR (c_put hO40 rfl rfl fun w42 f42 hO42 => ?_)
      have hw42 := CI_w9 hw40 hρq f42 (y0 := some t_38) hO42 ⟨(fun z h => by cases h; exact ht38), ⟨by omega, by omega⟩, ⟨by omega, by omega⟩, ⟨by omega, by omega⟩, ⟨by omega, by omega⟩, ⟨by omega, by omega⟩, ⟨by omega, by omega⟩, ⟨by omega, by omega⟩⟩
      have fr43 := wfR_st fr41 f42 (by rw [hρq]; decide)
      refine hR (?_ : R (_, _, _, _, _, _))
      exact hR (zret_i rfl (Nat.le_refl _) (zbo (by omega)) (h _ _ hw42 fr43 (by omega)))
  exact lp32 400000000 _ _ hw23 fr25 (by omega) (te_of hT27 ht27 (by omega) (by (try dsimp only); omega)) (by omega)
