def sB : Nat → Int
  | 0 => 0 | 1 => 1 | 2 => 6 | 3 => 31 | 4 => 156 | 5 => 781 | 6 => 3906 | 7 => 9367 | 8 => 14828 | _ => 20289
def sC : Nat → Int
  | 0 => 1 | 1 => 5 | 2 => 25 | 3 => 125 | 4 => 625 | 5 => 3125 | _ => 5461
def okS (l s0 s1 : Int) : Prop := 0 ≤ s0 ∧ s0 ≤ s1 ∧ s1 ≤ 25750 ∧ s0 ≤ sB l.toNat ∧ s1 - s0 ≤ sC l.toNat
theorem okS_s {l s0 s1 v : Int} (h : okS l s0 s1) (hl : 0 ≤ l ∧ l ≤ 8) (h1 : s1 ≤ v ∧ v ≤ 25750 ∧ v - s1 ≤ 5 * (s1 - s0)) (h2 : v - s1 ≤ 5461) : okS (l + 1) s1 v := by
  obtain ⟨a, b, c, d, e⟩ := h
  have hd : l = 0 ∨ l = 1 ∨ l = 2 ∨ l = 3 ∨ l = 4 ∨ l = 5 ∨ l = 6 ∨ l = 7 ∨ l = 8 := by omega
  refine ⟨by omega, by omega, by omega, ?_, ?_⟩
  · rcases hd with rfl | rfl | rfl | rfl | rfl | rfl | rfl | rfl | rfl
    · change s0 ≤ 0 at d; change s1 - s0 ≤ 1 at e; show s1 ≤ 1; omega
    · change s0 ≤ 1 at d; change s1 - s0 ≤ 5 at e; show s1 ≤ 6; omega
    · change s0 ≤ 6 at d; change s1 - s0 ≤ 25 at e; show s1 ≤ 31; omega
    · change s0 ≤ 31 at d; change s1 - s0 ≤ 125 at e; show s1 ≤ 156; omega
    · change s0 ≤ 156 at d; change s1 - s0 ≤ 625 at e; show s1 ≤ 781; omega
    · change s0 ≤ 781 at d; change s1 - s0 ≤ 3125 at e; show s1 ≤ 3906; omega
    · change s0 ≤ 3906 at d; change s1 - s0 ≤ 5461 at e; show s1 ≤ 9367; omega
    · change s0 ≤ 9367 at d; change s1 - s0 ≤ 5461 at e; show s1 ≤ 14828; omega
    · change s0 ≤ 14828 at d; change s1 - s0 ≤ 5461 at e; show s1 ≤ 20289; omega
  · rcases hd with rfl | rfl | rfl | rfl | rfl | rfl | rfl | rfl | rfl
    · change s1 - s0 ≤ 1 at e; show v - s1 ≤ 5; omega
    · change s1 - s0 ≤ 5 at e; show v - s1 ≤ 25; omega
    · change s1 - s0 ≤ 25 at e; show v - s1 ≤ 125; omega
    · change s1 - s0 ≤ 125 at e; show v - s1 ≤ 625; omega
    · change s1 - s0 ≤ 625 at e; show v - s1 ≤ 3125; omega
    · exact h2
    · exact h2
    · exact h2
    · exact h2
theorem okS_b {l s0 s1 : Int} (h : okS l s0 s1) (hl : 0 ≤ l ∧ l ≤ 9) : 0 ≤ s0 ∧ s0 ≤ 25749 := by
  obtain ⟨a, b, c, d, e⟩ := h
  refine ⟨a, ?_⟩
  have hd : l = 0 ∨ l = 1 ∨ l = 2 ∨ l = 3 ∨ l = 4 ∨ l = 5 ∨ l = 6 ∨ l = 7 ∨ l = 8 ∨ l = 9 := by omega
  rcases hd with rfl | rfl | rfl | rfl | rfl | rfl | rfl | rfl | rfl | rfl
  · change s0 ≤ 0 at d; omega
  · change s0 ≤ 1 at d; omega
  · change s0 ≤ 6 at d; omega
  · change s0 ≤ 31 at d; omega
  · change s0 ≤ 156 at d; omega
  · change s0 ≤ 781 at d; omega
  · change s0 ≤ 3906 at d; omega
  · change s0 ≤ 9367 at d; omega
  · change s0 ≤ 14828 at d; omega
  · change s0 ≤ 20289 at d; omega
def SPI (w : zW) (p : Nat) (l : Int) : Prop := ∃ gs : Nat → Int32, zix w (p + 1) = some (.inl (1, 11, .inl gs)) ∧ okS l (gs l.toNat).toInt (gs (l + 1).toNat).toInt
theorem SPI_eq {w w1 : zW} {p : Nat} {l : Int} (e : zix w1 (p + 1) = zix w (p + 1)) (h : SPI w p l) : SPI w1 p l := by
  obtain ⟨g, a, b⟩ := h
  exact ⟨g, e.trans a, b⟩
theorem spi_b {w1 w2 : zW} {p : Nat} {g g2 : Nat → Int32} (ha : zix w1 (p + 1) = some (.inl (1, 11, .inl (upd g (0 : Int).toNat (Int32.ofInt 0))))) (hg : zix w1 (p + 1) = some (.inl (1, 11, .inl g2))) (hb : zix w2 (p + 1) = some (.inl (1, 11, .inl (upd g2 (1 : Int).toNat (Int32.ofInt 0))))) : SPI w2 p 0 := by
  rw [ha] at hg
  cases hg
  refine ⟨_, hb, ?_⟩
  have e1 : ∀ G : Nat → Int32, (upd (upd G (0 : Int).toNat (Int32.ofInt 0)) (1 : Int).toNat (Int32.ofInt 0) (0 : Int).toNat).toInt = 0 := fun G => by show (Int32.ofInt 0).toInt = 0; decide
  have e2 : ∀ G : Nat → Int32, (upd (upd G (0 : Int).toNat (Int32.ofInt 0)) (1 : Int).toNat (Int32.ofInt 0) ((0 : Int) + 1).toNat).toInt = 0 := fun G => by show (Int32.ofInt 0).toInt = 0; decide
  rw [e1, e2]
  exact ⟨by omega, by omega, by omega, Int.le_refl _, by decide⟩
theorem spi_c {w w2 : zW} {p : Nat} {g2 : Nat → Int32} (h : SPI w p 0) (hg : zix w (p + 1) = some (.inl (1, 11, .inl g2))) (hb : zix w2 (p + 1) = some (.inl (1, 11, .inl (upd g2 (1 : Int).toNat (Int32.ofInt 1))))) : SPI w2 p 0 := by
  obtain ⟨g, a, b, c, d, e, f⟩ := h
  rw [a] at hg
  cases hg
  refine ⟨_, hb, ?_⟩
  change (g2 0).toInt ≤ 0 at e
  change 0 ≤ (g2 0).toInt at b
  have e1 : (upd g2 (1 : Int).toNat (Int32.ofInt 1) (0 : Int).toNat) = g2 0 := rfl
  have e2 : (upd g2 (1 : Int).toNat (Int32.ofInt 1) ((0 : Int) + 1).toNat).toInt = 1 := by show (Int32.ofInt 1).toInt = 1; decide
  rw [e1, e2]
  refine ⟨by omega, by omega, by omega, ?_, ?_⟩
  · show (g2 0).toInt ≤ 0; omega
  · show 1 - (g2 0).toInt ≤ 1; omega
theorem spi_s {w w2 : zW} {p : Nat} {l v : Int} {gs g2 : Nat → Int32} (hl : 0 ≤ l ∧ l ≤ 8) (hB : zix w (p + 1) = some (.inl (1, 11, .inl gs))) (hS : okS l (gs l.toNat).toInt (gs (l + 1).toNat).toInt) (h1 : (gs (l + 1).toNat).toInt ≤ v ∧ v ≤ 25750 ∧ v - (gs (l + 1).toNat).toInt ≤ 5 * ((gs (l + 1).toNat).toInt - (gs l.toNat).toInt)) (h2 : v - (gs (l + 1).toNat).toInt ≤ 5461) (hg : zix w (p + 1) = some (.inl (1, 11, .inl g2))) (hs : zix w2 (p + 1) = some (.inl (1, 11, .inl (upd g2 (l + 2).toNat (Int32.ofInt v))))) : SPI w2 p (l + 1) := by
  rw [hB] at hg
  cases hg
  refine ⟨_, hs, ?_⟩
  have h3 := hS.1
  have h4 := hS.2.1
  rw [pk_un (by omega), show (l + 1 + 1).toNat = (l + 2).toNat by congr 1; omega, pk_us, zti (by omega) (by omega)]
  exact okS_s hS hl h1 h2
/-- the last level begins within the row -/
def SPN (w : zW) (p : Nat) : Prop := ∃ (n : Int) (y : Value) (fs : List Value) (gs : Nat → Int32), zix w p = some (.inr (2, y :: .int (Int32.ofInt n) :: fs)) ∧ (0 ≤ n ∧ n ≤ 9) ∧ zix w (p + 1) = some (.inl (1, 11, .inl gs)) ∧ 0 ≤ (gs n.toNat).toInt ∧ (gs n.toNat).toInt ≤ 25749
theorem spn_of {w : zW} {p : Nat} {n l : Int} {y : Value} {fs : List Value} (hO : zix w p = some (.inr (2, y :: .int (Int32.ofInt n) :: fs))) (h : SPI w p l) (hn : 0 ≤ n ∧ n ≤ 9) (e : l = n) : SPN w p := by
  subst e
  obtain ⟨g, a, b⟩ := h
  exact ⟨l, y, fs, g, hO, hn, a, okS_b b hn⟩
theorem SPN_eq {w w1 : zW} {p : Nat} (e0 : zix w1 p = zix w p) (e1 : zix w1 (p + 1) = zix w (p + 1)) (h : SPN w p) : SPN w1 p := by
  obtain ⟨n, y, fs, g, a, b, c, d⟩ := h
  exact ⟨n, y, fs, g, e0.trans a, b, e1.trans c, d⟩
theorem spn_at {w : zW} {p : Nat} {x : Int} {y : Value} {fs : List Value} (h : SPN w p) (hO : zix w p = some (.inr (2, y :: .int (Int32.ofInt x) :: fs))) (hx : 0 ≤ x ∧ x ≤ 9) : ∃ gs : Nat → Int32, zix w (p + 1) = some (.inl (1, 11, .inl gs)) ∧ 0 ≤ (gs x.toNat).toInt ∧ (gs x.toNat).toInt ≤ 25749 := by
  obtain ⟨n, y2, fs2, g, a, b, c, d⟩ := h
  rw [hO] at a
  have e : Int32.ofInt x = Int32.ofInt n := by
    injection a with e1
    injection e1 with e2
    injection e2 with _ e3
    injection e3 with _ e4
    injection e4 with e5
    injection e5
  have e2 := (zeq_o ⟨by omega, by omega⟩ ⟨by omega, by omega⟩).mp e
  subst e2
  exact ⟨g, c, d⟩
theorem c_spread {ρ : Nat → Nat} {w : zW} (d : Nat) (p rd : Nat) (a1 a2 a3 : Int) (hw : CI ρ w) (hρp : ρ p = 70) (hρrd : ρ rd = 50) (hr0 : 0 ≤ a1 ∧ a1 ≤ 9) (hr1 : -2147483648 ≤ a2 ∧ a2 ≤ 2147483647) (hr2 : -2147483648 ≤ a3 ∧ a3 ≤ 2147483647) (Q : zQ) (h : ∀ (w' : zW), CI ρ w' → wfR [51, 70, 71, 73, 74, 76] ρ w w' → nn w' p → (SPN w' p) → Q (none) w') : zCl zTab (d + 6) iX2_spread [.ref p, .ref rd, .int (Int32.ofInt a1), .int (Int32.ofInt a2), .int (Int32.ofInt a3)] w 0 0 Q := by
  refine zCl_i (M := kX2_spread) rfl (Nat.le_of_ble_eq_true rfl) fun R hR => ?_
  have fr0 := wfR_rf [51, 70, 71, 73, 74, 76] ρ w
  iterate 2 refine hR (?_ : R (_, _, _, _, _, _))
  obtain ⟨y0_1, x1_1, x2_1, x3_1, hO1, hk1_0, hk1_1, hk1_2, hk1_3, hk1_4, hk1_5, hk1_6, hk1_7, hk1_8, hk1_9⟩ := CI_o70 hw hρp
  refine hR (c_put hO1 rfl rfl fun w2 f2 hO2 => ?_)
  have hw2 := CI_w70 hw hρp f2 (y0 := some rd) hO2 ⟨(fun z h => by cases h; exact hρrd), ⟨by omega, by omega⟩, ⟨by omega, by omega⟩, ⟨by omega, by omega⟩, hk1_4, hk1_5, hk1_6, hk1_7, hk1_8, hk1_9⟩
  have fr3 := wfR_st fr0 f2 (by rw [hρp]; decide)
  have hn4 := nn_of hO2
  iterate 2 refine hR (?_ : R (_, _, _, _, _, _))
  refine hR (c_put hO2 rfl rfl fun w5 f5 hO5 => ?_)
  have hw5 := CI_w70 hw2 hρp f5 (y0 := some rd) hO5 ⟨(fun z h => by cases h; exact hρrd), ⟨by omega, by omega⟩, ⟨by omega, by omega⟩, ⟨by omega, by omega⟩, hk1_4, hk1_5, hk1_6, hk1_7, hk1_8, hk1_9⟩
  have fr6 := wfR_st fr3 f5 (by rw [hρp]; decide)
  have hn7 := nn_of hO5
  iterate 2 refine hR (?_ : R (_, _, _, _, _, _))
  refine hR (c_put hO5 rfl rfl fun w8 f8 hO8 => ?_)
  have hw8 := CI_w70 hw5 hρp f8 (y0 := some rd) hO8 ⟨(fun z h => by cases h; exact hρrd), ⟨by omega, by omega⟩, ⟨by omega, by omega⟩, ⟨by omega, by omega⟩, hk1_4, hk1_5, hk1_6, hk1_7, hk1_8, hk1_9⟩
  have fr9 := wfR_st fr6 f8 (by rw [hρp]; decide)
  have hn10 := nn_of hO8
  iterate 2 refine hR (?_ : R (_, _, _, _, _, _))
  refine hR (c_put hO8 rfl rfl fun w11 f11 hO11 => ?_)
  have hw11 := CI_w70 hw8 hρp f11 (y0 := some rd) hO11 ⟨(fun z h => by cases h; exact hρrd), ⟨by omega, by omega⟩, ⟨by omega, by omega⟩, ⟨by omega, by omega⟩, hk1_4, hk1_5, hk1_6, hk1_7, hk1_8, hk1_9⟩
  have fr12 := wfR_st fr9 f11 (by rw [hρp]; decide)
  have hn13 := nn_of hO11
  refine hR (?_ : R (_, _, _, _, _, _))
  refine hR (c_get hO11 rfl ?_)
  iterate 2 refine hR (?_ : R (_, _, _, _, _, _))
  obtain ⟨ge15, hge15, hBe15⟩ := CI_ar hw11 (q := p + 1) (by rw [hk1_4]; rfl)
  refine hR (c_astE hw11 hge15 hBe15 (by rw [hk1_4]; rfl) ⟨by rw [hk1_4]; decide, by rw [hk1_4]; decide⟩ (by omega) (by omega) (by omega) (by omega) (Nat.le_of_ble_eq_true rfl) fun w14 hw14 f14 hs14 hb14 => ?_)
  have fr16 := wfR_st fr12 f14 (by rw [hk1_4]; decide)
  have hn17 := nn_eq (f14.2 p (rne hρp hk1_4 (by decide))) hn13
  have hO18 := (f14.2 p (rne hρp hk1_4 (by decide))).trans hO11
  refine hR (?_ : R (_, _, _, _, _, _))
  refine hR (c_get hO18 rfl ?_)
  iterate 2 refine hR (?_ : R (_, _, _, _, _, _))
  obtain ⟨ge20, hge20, hBe20⟩ := CI_ar hw14 (q := p + 1) (by rw [hk1_4]; rfl)
  refine hR (c_astE hw14 hge20 hBe20 (by rw [hk1_4]; rfl) ⟨by rw [hk1_4]; decide, by rw [hk1_4]; decide⟩ (by omega) (by omega) (by omega) (by omega) (Nat.le_of_ble_eq_true rfl) fun w19 hw19 f19 hs19 hb19 => ?_)
  have fr21 := wfR_st fr16 f19 (by rw [hk1_4]; decide)
  have hn22 := nn_eq (f19.2 p (rne hρp hk1_4 (by decide))) hn17
  have hO23 := (f19.2 p (rne hρp hk1_4 (by decide))).trans hO18
  have S24 := spi_b hs14 hge20 hs19
  iterate 3 refine hR (?_ : R (_, _, _, _, _, _))
  obtain ⟨z0_25, z2_25, z3_25, hO25, hk25_0, hk25_1, hk25_2, hk25_3, hk25_4⟩ := CI_o50 hw19 hρrd
  refine hR (c_get hO25 rfl ?_)
  obtain ⟨x0_26, x1_26, x2_26, hO26, hk26_0, hk26_1, hk26_2, hk26_3, hk26_4, hk26_5, hk26_6⟩ := CI_o20 hw19 hk25_0
  refine hR (c_get hO26 rfl ?_)
  refine hR (c_obj hO23 (zcall_i 0 0 (Nat.le_of_ble_eq_true rfl) (Nat.le_of_ble_eq_true rfl) (c_isWanted _ p 0 x0_26 hw19 hρp (by omega) (by omega) _ fun v27 hp29 => ?_)))
  refine (?_ : R (_, _, (.int (Int32.ofInt v27)) :: [], w19, 0, 0))
  refine hR (k_eq (by omega) (fun hc30 => ?_) (fun hc30 => ?_))
  · skip
    iterate 2 refine hR (?_ : R (_, _, _, _, _, _))
    have lp80 : ∀ (N : Nat) (l : Int) (w_80 : zW), (CI ρ w_80) → (wfR [51, 70, 71, 73, 74, 76] ρ w w_80) → (zix w_80 p = some (.inr (2, [.ref rd, .int (Int32.ofInt a1), .int (Int32.ofInt a2), .int (Int32.ofInt a3), .ref (p + 1), .ref (p + 2), .ref (p + 3), .ref (p + 4), .ref (p + 5), .ref (p + 6)]))) → (zix w_80 rd = some (.inr (3, [.ref z0_25, .ref (rd + 1), .ref z2_25, .ref z3_25]))) → (zix w_80 z0_25 = some (.inr (0, [.int (Int32.ofInt x0_26), .int (Int32.ofInt x1_26), .int (Int32.ofInt x2_26), .ref (z0_25 + 1), .ref (z0_25 + 2), .ref (z0_25 + 3), .ref (z0_25 + 4)]))) → (nn w_80 p) → (0 ≤ l ∧ l ≤ 9) → (l ≤ a1) → (SPI w_80 p l) → (10 - l < N) → R (80, [some (.ref p), some (.ref rd), some (.int (Int32.ofInt a1)), some (.int (Int32.ofInt a2)), some (.int (Int32.ofInt a3)), some (.int (Int32.ofInt l))], [], w_80, 0, 0) := by
      intro N
      induction N with
      | zero => intros; omega
      | succ N ih80 =>
        intro l w_80 hw_80 fr_80 hOp_80 hOrd_80 hOz0_25_80 hnp_80 hf0_80 hp0_80 hp1_80 hN80
        iterate 2 refine hR (?_ : R (_, _, _, _, _, _))
        refine hR (c_get hOp_80 rfl ?_)
        refine hR (j_ge (by omega) (by omega) (fun hc31 => ?_) (fun hc31 => ?_))
        · skip
          exact hR (zret_i rfl (Nat.le_refl _) rfl (h _ hw_80 fr_80 hnp_80 (spn_of hOp_80 hp1_80 (by omega) (by omega))))
        refine hR (?_ : R (_, _, _, _, _, _))
        refine hR (c_get hOp_80 rfl ?_)
        iterate 2 refine hR (?_ : R (_, _, _, _, _, _))
        refine hR (t_add ?_)
        iterate 2 refine hR (?_ : R (_, _, _, _, _, _))
        obtain ⟨gs, hS1, hS2⟩ := hp1_80
        refine hR (c_obj hOp_80 (zcall_i 0 0 (Nat.le_of_ble_eq_true rfl) (Nat.le_of_ble_eq_true rfl) (c_fillBehind _ p l _ _ gs hw_80 hρp hnp_80 (by omega) hS1 rfl rfl ⟨hS2.1, hS2.2.1, hS2.2.2.1⟩ _ fun v32 w33 hw33 g33 hp34 hp35 => ?_)))
        have fr36 := wfR_tr fr_80 g33 (by decide)
        have hn37 := nn_eq (g33.2 p (by rw [hρp]; decide)) hnp_80
        have hO38 := (g33.2 p (by rw [hρp]; decide)).trans hOp_80
        have hO39 := (g33.2 rd (by rw [hρrd]; decide)).trans hOrd_80
        have hO40 := (g33.2 z0_25 (by rw [hk25_0]; decide)).trans hOz0_25_80
        refine (?_ : R (_, _, (.int (Int32.ofInt v32)) :: (.int (Int32.ofInt (l + 2))) :: (.ref (p + 1)) :: [], w33, 0, 0))
        have hS3 := (g33.2 (p + 1) (by rw [hk1_4]; decide)).trans hS1
        have hS4 := hS2.1
        have hS5 := hS2.2.1
        obtain ⟨ge42, hge42, hBe42⟩ := CI_ar hw33 (q := p + 1) (by rw [hk1_4]; rfl)
        refine hR (c_astE hw33 hge42 hBe42 (by rw [hk1_4]; rfl) ⟨by rw [hk1_4]; decide, by rw [hk1_4]; decide⟩ (by omega) (by omega) (by omega) (by omega) (Nat.le_of_ble_eq_true rfl) fun w41 hw41 f41 hs41 hb41 => ?_)
        have fr43 := wfR_st fr36 f41 (by rw [hk1_4]; decide)
        have hn44 := nn_eq (f41.2 p (rne hρp hk1_4 (by decide))) hn37
        have hO45 := (f41.2 p (rne hρp hk1_4 (by decide))).trans hO38
        have hO46 := (f41.2 rd (rne hρrd hk1_4 (by decide))).trans hO39
        have hO47 := (f41.2 z0_25 (rne hk25_0 hk1_4 (by decide))).trans hO40
        have S48 := spi_s (by omega) hS3 hS2 hp34 hp35 hge42 hs41
        iterate 3 refine hR (?_ : R (_, _, _, _, _, _))
        refine hR (t_add ?_)
        refine hR (c_obj hO45 (zcall_i 0 0 (Nat.le_of_ble_eq_true rfl) (Nat.le_of_ble_eq_true rfl) (c_forget _ p (l + 1) hw41 hρp (by omega) _ fun w49 hw49 g49 => ?_)))
        have fr50 := wfR_tr fr43 g49 (by decide)
        have hn51 := nn_eq (g49.2 p (by rw [hρp]; decide)) hn44
        have hO52 := (g49.2 p (by rw [hρp]; decide)).trans hO45
        have hO53 := (g49.2 rd (by rw [hρrd]; decide)).trans hO46
        have hO54 := (g49.2 z0_25 (by rw [hk25_0]; decide)).trans hO47
        refine (?_ : R (_, _, [], w49, 0, 0))
        have S55 := SPI_eq (g49.2 (p + 1) (by rw [hk1_4]; decide)) S48
        refine hR (t_inc ?_)
        refine hR (?_ : R (_, _, _, _, _, _))
        exact ih80 _ _ hw49 fr50 hO52 hO53 hO54 hn51 (by omega) (by omega) S55 (by omega)
    exact lp80 400000000 _ _ hw19 fr21 hO23 hO25 hO26 hn22 (by omega) (by omega) S24 (by omega)
  refine hR (?_ : R (_, _, _, _, _, _))
  refine hR (c_get hO23 rfl ?_)
  iterate 2 refine hR (?_ : R (_, _, _, _, _, _))
  refine hR (c_get hO25 rfl ?_)
  refine hR (c_get hO26 rfl ?_)
  refine hR (c_ast hw19 (by rw [hk1_6]; rfl) ⟨by rw [hk1_6]; decide, by rw [hk1_6]; decide⟩ (by omega) (by omega) (by omega) (by omega) (by omega) (by omega) (Nat.le_of_ble_eq_true rfl) fun w56 hw56 f56 => ?_)
  have fr57 := wfR_st fr21 f56 (by rw [hk1_6]; decide)
  have hn58 := nn_eq (f56.2 p (rne hρp hk1_6 (by decide))) hn22
  have hO59 := (f56.2 p (rne hρp hk1_6 (by decide))).trans hO23
  have hO60 := (f56.2 rd (rne hρrd hk1_6 (by decide))).trans hO25
  have hO61 := (f56.2 z0_25 (rne hk25_0 hk1_6 (by decide))).trans hO26
  have S62 := SPI_eq (f56.2 (p + 1) (by omega)) S24
  refine hR (?_ : R (_, _, _, _, _, _))
  refine hR (c_get hO59 rfl ?_)
  iterate 2 refine hR (?_ : R (_, _, _, _, _, _))
  refine hR (c_astx hw56 (by rw [hk1_7]; rfl) ⟨by rw [hk1_7]; decide, by rw [hk1_7]; decide⟩ (by omega) (by omega) (Nat.le_of_ble_eq_true rfl) fun w63 hw63 f63 => ?_)
  have fr64 := wfR_st fr57 f63 (by rw [hk1_7]; decide)
  have hn65 := nn_eq (f63.2 p (rne hρp hk1_7 (by decide))) hn58
  have hO66 := (f63.2 p (rne hρp hk1_7 (by decide))).trans hO59
  have hO67 := (f63.2 rd (rne hρrd hk1_7 (by decide))).trans hO60
  have hO68 := (f63.2 z0_25 (rne hk25_0 hk1_7 (by decide))).trans hO61
  have S69 := SPI_eq (f63.2 (p + 1) (by omega)) S62
  refine hR (?_ : R (_, _, _, _, _, _))
  refine hR (c_get hO66 rfl ?_)
  iterate 2 refine hR (?_ : R (_, _, _, _, _, _))
  obtain ⟨ge71, hge71, hBe71⟩ := CI_ar hw63 (q := p + 1) (by rw [hk1_4]; rfl)
  refine hR (c_astE hw63 hge71 hBe71 (by rw [hk1_4]; rfl) ⟨by rw [hk1_4]; decide, by rw [hk1_4]; decide⟩ (by omega) (by omega) (by omega) (by omega) (Nat.le_of_ble_eq_true rfl) fun w70 hw70 f70 hs70 hb70 => ?_)
  have fr72 := wfR_st fr64 f70 (by rw [hk1_4]; decide)
  have hn73 := nn_eq (f70.2 p (rne hρp hk1_4 (by decide))) hn65
  have hO74 := (f70.2 p (rne hρp hk1_4 (by decide))).trans hO66
  have hO75 := (f70.2 rd (rne hρrd hk1_4 (by decide))).trans hO67
  have hO76 := (f70.2 z0_25 (rne hk25_0 hk1_4 (by decide))).trans hO68
  have S77 := spi_c S69 hge71 hs70
  iterate 2 refine hR (?_ : R (_, _, _, _, _, _))
  have lp80 : ∀ (N : Nat) (l : Int) (w_80 : zW), (CI ρ w_80) → (wfR [51, 70, 71, 73, 74, 76] ρ w w_80) → (zix w_80 p = some (.inr (2, [.ref rd, .int (Int32.ofInt a1), .int (Int32.ofInt a2), .int (Int32.ofInt a3), .ref (p + 1), .ref (p + 2), .ref (p + 3), .ref (p + 4), .ref (p + 5), .ref (p + 6)]))) → (zix w_80 rd = some (.inr (3, [.ref z0_25, .ref (rd + 1), .ref z2_25, .ref z3_25]))) → (zix w_80 z0_25 = some (.inr (0, [.int (Int32.ofInt x0_26), .int (Int32.ofInt x1_26), .int (Int32.ofInt x2_26), .ref (z0_25 + 1), .ref (z0_25 + 2), .ref (z0_25 + 3), .ref (z0_25 + 4)]))) → (nn w_80 p) → (0 ≤ l ∧ l ≤ 9) → (l ≤ a1) → (SPI w_80 p l) → (10 - l < N) → R (80, [some (.ref p), some (.ref rd), some (.int (Int32.ofInt a1)), some (.int (Int32.ofInt a2)), some (.int (Int32.ofInt a3)), some (.int (Int32.ofInt l))], [], w_80, 0, 0) := by
    intro N
    induction N with
    | zero => intros; omega
    | succ N ih80 =>
      intro l w_80 hw_80 fr_80 hOp_80 hOrd_80 hOz0_25_80 hnp_80 hf0_80 hp0_80 hp1_80 hN80
      iterate 2 refine hR (?_ : R (_, _, _, _, _, _))
      refine hR (c_get hOp_80 rfl ?_)
      refine hR (j_ge (by omega) (by omega) (fun hc78 => ?_) (fun hc78 => ?_))
      · skip
        exact hR (zret_i rfl (Nat.le_refl _) rfl (h _ hw_80 fr_80 hnp_80 (spn_of hOp_80 hp1_80 (by omega) (by omega))))
      refine hR (?_ : R (_, _, _, _, _, _))
      refine hR (c_get hOp_80 rfl ?_)
      iterate 2 refine hR (?_ : R (_, _, _, _, _, _))
      refine hR (t_add ?_)
      iterate 2 refine hR (?_ : R (_, _, _, _, _, _))
      obtain ⟨gs, hS1, hS2⟩ := hp1_80
      refine hR (c_obj hOp_80 (zcall_i 0 0 (Nat.le_of_ble_eq_true rfl) (Nat.le_of_ble_eq_true rfl) (c_fillBehind _ p l _ _ gs hw_80 hρp hnp_80 (by omega) hS1 rfl rfl ⟨hS2.1, hS2.2.1, hS2.2.2.1⟩ _ fun v79 w80 hw80 g80 hp81 hp82 => ?_)))
      have fr83 := wfR_tr fr_80 g80 (by decide)
      have hn84 := nn_eq (g80.2 p (by rw [hρp]; decide)) hnp_80
      have hO85 := (g80.2 p (by rw [hρp]; decide)).trans hOp_80
      have hO86 := (g80.2 rd (by rw [hρrd]; decide)).trans hOrd_80
      have hO87 := (g80.2 z0_25 (by rw [hk25_0]; decide)).trans hOz0_25_80
      refine (?_ : R (_, _, (.int (Int32.ofInt v79)) :: (.int (Int32.ofInt (l + 2))) :: (.ref (p + 1)) :: [], w80, 0, 0))
      have hS3 := (g80.2 (p + 1) (by rw [hk1_4]; decide)).trans hS1
      have hS4 := hS2.1
      have hS5 := hS2.2.1
      obtain ⟨ge89, hge89, hBe89⟩ := CI_ar hw80 (q := p + 1) (by rw [hk1_4]; rfl)
      refine hR (c_astE hw80 hge89 hBe89 (by rw [hk1_4]; rfl) ⟨by rw [hk1_4]; decide, by rw [hk1_4]; decide⟩ (by omega) (by omega) (by omega) (by omega) (Nat.le_of_ble_eq_true rfl) fun w88 hw88 f88 hs88 hb88 => ?_)
      have fr90 := wfR_st fr83 f88 (by rw [hk1_4]; decide)
      have hn91 := nn_eq (f88.2 p (rne hρp hk1_4 (by decide))) hn84
      have hO92 := (f88.2 p (rne hρp hk1_4 (by decide))).trans hO85
      have hO93 := (f88.2 rd (rne hρrd hk1_4 (by decide))).trans hO86
      have hO94 := (f88.2 z0_25 (rne hk25_0 hk1_4 (by decide))).trans hO87
      have S95 := spi_s (by omega) hS3 hS2 hp81 hp82 hge89 hs88
      iterate 3 refine hR (?_ : R (_, _, _, _, _, _))
      refine hR (t_add ?_)
      refine hR (c_obj hO92 (zcall_i 0 0 (Nat.le_of_ble_eq_true rfl) (Nat.le_of_ble_eq_true rfl) (c_forget _ p (l + 1) hw88 hρp (by omega) _ fun w96 hw96 g96 => ?_)))
      have fr97 := wfR_tr fr90 g96 (by decide)
      have hn98 := nn_eq (g96.2 p (by rw [hρp]; decide)) hn91
      have hO99 := (g96.2 p (by rw [hρp]; decide)).trans hO92
      have hO100 := (g96.2 rd (by rw [hρrd]; decide)).trans hO93
      have hO101 := (g96.2 z0_25 (by rw [hk25_0]; decide)).trans hO94
      refine (?_ : R (_, _, [], w96, 0, 0))
      have S102 := SPI_eq (g96.2 (p + 1) (by rw [hk1_4]; decide)) S95
      refine hR (t_inc ?_)
      refine hR (?_ : R (_, _, _, _, _, _))
      exact ih80 _ _ hw96 fr97 hO99 hO100 hO101 hn98 (by omega) (by omega) S102 (by omega)
  exact lp80 400000000 _ _ hw70 fr72 hO74 hO75 hO76 hn73 (by omega) (by omega) S77 (by omega)
theorem c_bestEnd {ρ : Nat → Nat} {w : zW} (d : Nat) (p : Nat) (a1 : Int) (hw : CI ρ w) (hρp : ρ p = 70) (hr0 : SPN w p) (hr1 : 0 ≤ a1 ∧ a1 ≤ 1) (Q : zQ) (h : ∀ (v : Int), (-2147483648 ≤ v ∧ v ≤ 2147483647) → Q (some (.int (Int32.ofInt v))) w) : zCl zTab (d + 2) iX2_bestEnd [.ref p, .int (Int32.ofInt a1)] w 0 0 Q := by
  refine zCl_i (M := kX2_bestEnd) rfl (Nat.le_of_ble_eq_true rfl) fun R hR => ?_
  have fr0 := wfR_rf [] ρ w
  refine hR (?_ : R (_, _, _, _, _, _))
  obtain ⟨y0_1, x1_1, x2_1, x3_1, hO1, hk1_0, hk1_1, hk1_2, hk1_3, hk1_4, hk1_5, hk1_6, hk1_7, hk1_8, hk1_9⟩ := CI_o70 hw hρp
  refine hR (c_get hO1 rfl ?_)
  refine hR (?_ : R (_, _, _, _, _, _))
  refine hR (c_get hO1 rfl ?_)
  refine hR (?_ : R (_, _, _, _, _, _))
  refine hR (c_get hO1 rfl ?_)
  obtain ⟨gse3, hSe3, hTe3⟩ := spn_at hr0 hO1 (by omega)
  refine hR (c_aldE hSe3 (by omega) (by omega) (Nat.le_of_ble_eq_true rfl) fun v2 e3 rv2 => ?_)
  rw [← e3] at hTe3
  refine hR (c_ald hw (by rw [hk1_8]; rfl) (by omega) (by omega) (Nat.le_of_ble_eq_true rfl) fun v4 lv4 uv4 => ?_)
  iterate 2 refine hR (?_ : R (_, _, _, _, _, _))
  refine hR (c_get hO1 rfl ?_)
  refine hR (?_ : R (_, _, _, _, _, _))
  refine hR (c_get hO1 rfl ?_)
  obtain ⟨gse6, hSe6, hTe6⟩ := spn_at hr0 hO1 (by omega)
  refine hR (c_aldE hSe6 (by omega) (by omega) (Nat.le_of_ble_eq_true rfl) fun v5 e6 rv5 => ?_)
  rw [← e6] at hTe6
  refine hR (?_ : R (_, _, _, _, _, _))
  refine hR (t_add ?_)
  refine hR (?_ : R (_, _, _, _, _, _))
  have lp27 : ∀ (N : Nat) (be : Int) (x : Int), (-2147483648 ≤ be ∧ be ≤ 2147483647) → (0 ≤ x ∧ x ≤ 25750) → (25751 - x < N) → R (27, [some (.ref p), some (.int (Int32.ofInt a1)), some (.int (Int32.ofInt be)), some (.int (Int32.ofInt x))], [], w, 0, 0) := by
    intro N
    induction N with
    | zero => intros; omega
    | succ N ih27 =>
      intro be x hf0_27 hf1_27 hN27
      iterate 2 refine hR (?_ : R (_, _, _, _, _, _))
      refine hR (c_get hO1 rfl ?_)
      refine hR (?_ : R (_, _, _, _, _, _))
      refine hR (c_get hO1 rfl ?_)
      refine hR (?_ : R (_, _, _, _, _, _))
      refine hR (t_add ?_)
      refine hR (c_ald hw (by rw [hk1_4]; rfl) (by omega) (by omega) (Nat.le_of_ble_eq_true rfl) fun v7 lv7 uv7 => ?_)
      refine hR (j_ge (by omega) (by omega) (fun hc8 => ?_) (fun hc8 => ?_))
      · skip
        refine hR (?_ : R (_, _, _, _, _, _))
        exact hR (zret_i rfl (Nat.le_refl _) trivial (h _ (by omega)))
      refine hR (?_ : R (_, _, _, _, _, _))
      refine hR (k_eq (by omega) (fun hc9 => ?_) (fun hc9 => ?_))
      · skip
        iterate 2 refine hR (?_ : R (_, _, _, _, _, _))
        refine hR (c_get hO1 rfl ?_)
        refine hR (?_ : R (_, _, _, _, _, _))
        refine hR (c_ald hw (by rw [hk1_8]; rfl) (by omega) (by omega) (Nat.le_of_ble_eq_true rfl) fun v10 lv10 uv10 => ?_)
        refine hR (t_o fun v11 rv11 => ?_)
        refine hR (?_ : R (_, _, _, _, _, _))
        refine hR (t_inc ?_)
        refine hR (?_ : R (_, _, _, _, _, _))
        exact ih27 _ _ (by omega) (by omega) (by omega)
      iterate 2 refine hR (?_ : R (_, _, _, _, _, _))
      refine hR (c_get hO1 rfl ?_)
      refine hR (?_ : R (_, _, _, _, _, _))
      refine hR (c_ald hw (by rw [hk1_8]; rfl) (by omega) (by omega) (Nat.le_of_ble_eq_true rfl) fun v12 lv12 uv12 => ?_)
      refine hR (t_o fun v13 rv13 => ?_)
      iterate 2 refine hR (?_ : R (_, _, _, _, _, _))
      refine hR (t_inc ?_)
      refine hR (?_ : R (_, _, _, _, _, _))
      exact ih27 _ _ (by omega) (by omega) (by omega)
  exact lp27 400000000 _ _ (by omega) (by omega) (by omega)
