/-! THE REFERENCE READS A TEXT. -/
theorem relB_rfc : ∀ {X : tpB} {f c : Int} {T : Nat → Int32}, RELB X f c T → X.1 = f ∧ (X.1 ≠ 0 → X.2.1 = c)
  | (_, _, _, _, _, _, _, _, _), _, _, _, h => h.1
theorem relY_rfc : ∀ {X : tpY} {f c : Int} {T : Nat → Int32}, RELY X f c T → X.1 = f ∧ (X.1 ≠ 0 → X.2.1 = c)
  | (_, _, _, _, _, _), _, _, _, h => h.1
theorem relS_rfc : ∀ {X : tpS} {f c : Int} {T : Nat → Int32}, RELS X f c T → X.1 = f ∧ (X.1 ≠ 0 → X.2.1 = c)
  | (_, _, _, _, _), _, _, _, h => h.1
noncomputable def bIni : tpB → Prop
  | (f, c, x0, x1, x2, g1, g2, g3, g4) => f = 0 ∧ x0 = 0 ∧ x1 = 0 ∧ (∀ i : Int, 0 ≤ i → i < 4 → tBy g1 i = i) ∧ ∀ i : Int, tBy g2 i = 0 ∧ tBy g3 i = 0 ∧ tBy g4 i = 0
noncomputable def yIni : tpY → Prop
  | (f, c, x0, g1, g2, g3) => f = 0 ∧ x0 = 0
noncomputable def sIni : tpS → Prop
  | (f, c, x0, g1, g2) => f = 0 ∧ x0 = 0
theorem relB_i {c' : Int} {T : Nat → Int32} (hT : ∀ j : Int, 0 ≤ j → j < 121 → tBy T j = if 2 ≤ j ∧ j ≤ 5 then j - 2 else 0) : ∀ {x : tpB}, bIni x → RELB x 0 c' T
  | (f, c, x0, x1, x2, g1, g2, g3, g4), h => by
    obtain ⟨rfl, rfl, rfl, h1, h2⟩ := h
    refine ⟨⟨rfl, fun z => absurd rfl z⟩, ⟨?_, by omega, by omega⟩, fun i a b => ?_, fun _ => ⟨?_, fun i a b => ?_, fun i k a b c d => ?_⟩⟩
    · rw [hT 1 (by omega) (by omega)]; decide
    · rw [hT _ (by omega) (by omega), if_neg (by omega), (h2 i).1]; omega
    · rw [hT 0 (by omega) (by omega)]; decide
    · rw [hT _ (by omega) (by omega), if_pos (by omega), h1 i a b]; omega
    · rw [hT _ (by omega) (by omega), hT _ (by omega) (by omega), if_neg (by omega), if_neg (by omega), (h2 _).2.1, (h2 _).2.2]
      exact ⟨rfl, rfl, fun _ => rfl⟩
theorem relY_i {c' : Int} {T : Nat → Int32} (hT : ∀ j : Int, 0 ≤ j → j < 121 → tBy T j = 0) : ∀ {x : tpY}, yIni x → RELY x 0 c' T
  | (f, c, x0, g1, g2, g3), h => by
    obtain ⟨rfl, rfl⟩ := h
    exact ⟨⟨rfl, fun z => absurd rfl z⟩, ⟨(hT 0 (by omega) (by omega)).symm, by omega, by omega⟩, fun _ i a b => by omega⟩
theorem relS_i {c' : Int} {T : Nat → Int32} (hT : ∀ j : Int, 0 ≤ j → j < 121 → tBy T j = 0) : ∀ {x : tpS}, sIni x → RELS x 0 c' T
  | (f, c, x0, g1, g2), h => by
    obtain ⟨rfl, rfl⟩ := h
    exact ⟨⟨rfl, fun z => absurd rfl z⟩, ⟨(hT 0 (by omega) (by omega)).symm, by omega, by omega⟩, fun _ i a b => by omega⟩
theorem bIni_0 : ∀ {x : tpB}, bIni x → x.1 = 0
  | (_, _, _, _, _, _, _, _, _), h => h.1
theorem yIni_0 : ∀ {x : tpY}, yIni x → x.1 = 0
  | (_, _, _, _, _, _), h => h.1
theorem sIni_0 : ∀ {x : tpS}, sIni x → x.1 = 0
  | (_, _, _, _, _), h => h.1
theorem tl_bd {g : Nat → Int32} {n : Int} {α : Type} {ln : Int → Int} {bg : Int → Int → α → α} {tk : Int → Int → Int → Int → α → α} {ms fw : Int → Int} {a : Int} {x : α} (h0 : 0 ≤ a) (h1 : a ≤ n) : 0 ≤ (tlF g n ln bg tk ms fw a x).2.1 ∧ (tlF g n ln bg tk ms fw a x).2.1 ≤ n := by
  have hs := tS_b (g := g) h0 h1
  have he := tE_b (g := g) h0 h1
  unfold tlF
  split
  · unfold tlG tlH
    have hb := nmF_b2 (g := g) (n := n) (tk := tk (ln (tkW g n a))) (ms (ln (tkW g n a))).toNat 0 (tE g n a) (bg (ln (tkW g n a)) (tS g n a) x) (by omega) (by omega)
    generalize nmF g n (tk (ln (tkW g n a))) (ms (ln (tkW g n a))).toNat 0 (tE g n a) (bg (ln (tkW g n a)) (tS g n a) x) = r at hb ⊢
    have hs2 := tS_b (g := g) (n := n) (a := r.2.1) (by omega) (by omega)
    have he2 := tE_b (g := g) (n := n) (a := r.2.1) (by omega) (by omega)
    split
    · show 0 ≤ r.2.1 ∧ r.2.1 ≤ n
      omega
    · show 0 ≤ tE g n r.2.1 ∧ tE g n r.2.1 ≤ n
      omega
  · exact ⟨h0, h1⟩
theorem te_bd {g : Nat → Int32} {n : Int} {α : Type} {tl : Int → α → Bool × Int × α} (ht : ∀ (a : Int) (x : α), 0 ≤ a → a ≤ n → 0 ≤ (tl a x).2.1 ∧ (tl a x).2.1 ≤ n) : ∀ (m : Nat) (a : Int) (x : α), 0 ≤ a → a ≤ n → 0 ≤ (teF g n tl m a x).2.1 ∧ (teF g n tl m a x).2.1 ≤ n
  | 0, a, x, h0, h1 => ⟨h0, h1⟩
  | m + 1, a, x, h0, h1 => by
    have hb := ht a x h0 h1
    unfold teF
    by_cases hk : tK g n a = 0
    · rw [if_pos hk]
      exact ⟨h0, h1⟩
    · rw [if_neg hk]
      generalize tl a x = r at hb ⊢
      obtain ⟨b, a', x'⟩ := r
      cases b with
      | true => exact te_bd ht m a' x' hb.1 hb.2
      | false => exact hb
/-- a text read: it is told, it has a FAULT, or it ends wrong -/
noncomputable def RTP {α : Type} (fo co : α → Int) (g : Nat → Int32) (n : Int) (E : Bool × Int × α) (v : Int) (H P : Nat → Int32) (REL : α → Prop) : Prop :=
  (v = 1 ∧ ∃ b X, E = (true, b, X) ∧ fo X = 0 ∧ REL X ∧ tBy H 0 = 0 ∧ tBy P 0 = -1) ∨ (v = 0 ∧ ∃ b X, E = (true, b, X) ∧ fo X ≠ 0 ∧ tBy H 0 = fo X ∧ tBy P 0 = co X) ∨ (v = 0 ∧ ∃ b X, E = (false, b, X) ∧ tBy H 0 = 1 ∧ tBy P 0 = tS g n b)
set_option maxHeartbeats 4000000 in
theorem x_readTextB (w : zW) (d : Nat) (f0 f9 f10 f11 f12 f13 f15 f16 f17 f20 f21 f22 f23 f26 f28 f31 f32 f33 f38 f41 f44 : Int) (x14 : Int64) (g15 g g17 g18 g23 g24 : Nat → Int32) (f c x0 x1 x2 : Int) (g1 g2 g3 g4 : Nat → Int32) (hK0 : zix w 14 = some (.inr (11, [.int (Int32.ofInt f0), .ref 15, .ref 16, .ref 17, .ref 18, .ref 19, .ref 20, .ref 21, .ref 22, .int (Int32.ofInt f9), .int (Int32.ofInt f10), .int (Int32.ofInt f11), .int (Int32.ofInt f12), .int (Int32.ofInt f13), .long x14, .int (Int32.ofInt f15), .int (Int32.ofInt f16), .int (Int32.ofInt f17), .ref 23, .ref 24, .int (Int32.ofInt f20), .int (Int32.ofInt f21), .int (Int32.ofInt f22), .int (Int32.ofInt f23), .ref 25, .ref 26, .int (Int32.ofInt f26), .ref 27, .int (Int32.ofInt f28), .ref 28, .ref 29, .int (Int32.ofInt f31), .int (Int32.ofInt f32), .int (Int32.ofInt f33), .ref 30, .ref 31, .ref 32, .ref 33, .int (Int32.ofInt f38), .ref 34, .ref 35, .int (Int32.ofInt f41), .ref 36, .ref 37, .int (Int32.ofInt f44), .ref 38, .ref 39, .ref 40, .ref 41, .ref 42, .ref 43, .ref 44]))) (hK1 : zix w 15 = some (.inl (0, 2400, .inl g15))) (hK2 : zix w 17 = some (.inl (1, 4, .inl g17))) (hK3 : zix w 18 = some (.inl (1, 4, .inl g18))) (hK4 : zix w 23 = some (.inl (1, 121, .inl g23))) (hK5 : zix w 24 = some (.inl (1, 3, .inl g24))) (hr0 : 0 ≤ f10 ∧ f10 ≤ 600) (hr1 : ∀ i : Int, 0 ≤ i → i < f10 → tBy g15 i = tBy g i ∧ -128 ≤ tBy g i ∧ tBy g i ≤ 127) (hr2 : (-2147483648 ≤ f17 ∧ f17 ≤ 2147483647)) (hr3 : bIni (f, c, x0, x1, x2, g1, g2, g3, g4)) (Q : zQ) (h : ∀ (v : Int) (a' x' f' c' y15 : Int) (z' : Int64) (H' P' T' R' : Nat → Int32) (w' : zW), wfM (fun j => j ≠ 14 ∧ j ≠ 17 ∧ j ≠ 18 ∧ j ≠ 23 ∧ j ≠ 24) w w' → zix w' 14 = some (.inr (11, [.int (Int32.ofInt f0), .ref 15, .ref 16, .ref 17, .ref 18, .ref 19, .ref 20, .ref 21, .ref 22, .int (Int32.ofInt (tE g f10 a')), .int (Int32.ofInt f10), .int (Int32.ofInt (tS g f10 a')), .int (Int32.ofInt (rK (tK g f10 a'))), .int (Int32.ofInt x'), .long z', .int (Int32.ofInt y15), .int (Int32.ofInt f'), .int (Int32.ofInt c'), .ref 23, .ref 24, .int (Int32.ofInt f20), .int (Int32.ofInt f21), .int (Int32.ofInt f22), .int (Int32.ofInt f23), .ref 25, .ref 26, .int (Int32.ofInt f26), .ref 27, .int (Int32.ofInt f28), .ref 28, .ref 29, .int (Int32.ofInt f31), .int (Int32.ofInt f32), .int (Int32.ofInt f33), .ref 30, .ref 31, .ref 32, .ref 33, .int (Int32.ofInt f38), .ref 34, .ref 35, .int (Int32.ofInt f41), .ref 36, .ref 37, .int (Int32.ofInt f44), .ref 38, .ref 39, .ref 40, .ref 41, .ref 42, .ref 43, .ref 44])) → zix w' 17 = some (.inl (1, 4, .inl H')) → zix w' 18 = some (.inl (1, 4, .inl P')) → zix w' 23 = some (.inl (1, 121, .inl T')) → zix w' 24 = some (.inl (1, 3, .inl R')) → (RTP (fun X : tpB => X.1) (fun X : tpB => X.2.1) g f10 (teF g f10 (tlB g f10) 601 0 (f, c, x0, x1, x2, g1, g2, g3, g4)) v H' P' (fun X => RELB X f' c' T')) → (∀ i : Int, 1 ≤ i → tBy H' i = tBy g17 i ∧ tBy P' i = tBy g18 i) → ((v = 0 ∨ v = 1) ∧ r32 f' ∧ r32 c') → Q (some (.int (Int32.ofInt v))) w') : zCl zTab (d + 9) iX12_readText [.ref 14, .int (Int32.ofInt 0)] w 0 0 Q := by
  refine zCl_i (M := kX12_readText) rfl (Nat.le_of_ble_eq_true rfl) fun R hR => ?_
  have fr0 : wfM (fun j => j ≠ 14 ∧ j ≠ 17 ∧ j ≠ 18 ∧ j ≠ 23 ∧ j ≠ 24) w w := wfM_rf _ w
  have nX0 : FX (∀ j : Nat, (j ≠ 14 ∧ j ≠ 17 ∧ j ≠ 18 ∧ j ≠ 23 ∧ j ≠ 24) → j ≠ 14) := fun j hj => by omega
  have nX1 : FX (∀ j : Nat, (j ≠ 14 ∧ j ≠ 17 ∧ j ≠ 18 ∧ j ≠ 23 ∧ j ≠ 24) → (j ≠ 14)) := fun j hj => by omega
  have nX2 : FX (∀ j : Nat, (j ≠ 14 ∧ j ≠ 17 ∧ j ≠ 18 ∧ j ≠ 23 ∧ j ≠ 24) → (j ≠ 14 ∧ j ≠ 23 ∧ j ≠ 24)) := fun j hj => by omega
  have nX3 : FX (∀ j : Nat, (j ≠ 14 ∧ j ≠ 17 ∧ j ≠ 18 ∧ j ≠ 23 ∧ j ≠ 24) → j ≠ 17) := fun j hj => by omega
  have nX4 : FX (∀ j : Nat, (j ≠ 14 ∧ j ≠ 17 ∧ j ≠ 18 ∧ j ≠ 23 ∧ j ≠ 24) → j ≠ 18) := fun j hj => by omega
  have nX5 : FX (∀ j : Nat, (j ≠ 14 ∧ j ≠ 17 ∧ j ≠ 18 ∧ j ≠ 23 ∧ j ≠ 24) → j ≠ 23) := fun j hj => by omega
  iterate 2 refine hR (?_ : R (_, _, _, _, _, _))
  have lp2 : ∀ (N : Nat) (kk : Int) (T2 : Nat → Int32) (w_2 : zW), (wfM (fun j => j ≠ 14 ∧ j ≠ 17 ∧ j ≠ 18 ∧ j ≠ 23 ∧ j ≠ 24) w w_2) → (zix w_2 14 = some (.inr (11, [.int (Int32.ofInt f0), .ref 15, .ref 16, .ref 17, .ref 18, .ref 19, .ref 20, .ref 21, .ref 22, .int (Int32.ofInt f9), .int (Int32.ofInt f10), .int (Int32.ofInt f11), .int (Int32.ofInt f12), .int (Int32.ofInt f13), .long x14, .int (Int32.ofInt f15), .int (Int32.ofInt f16), .int (Int32.ofInt f17), .ref 23, .ref 24, .int (Int32.ofInt f20), .int (Int32.ofInt f21), .int (Int32.ofInt f22), .int (Int32.ofInt f23), .ref 25, .ref 26, .int (Int32.ofInt f26), .ref 27, .int (Int32.ofInt f28), .ref 28, .ref 29, .int (Int32.ofInt f31), .int (Int32.ofInt f32), .int (Int32.ofInt f33), .ref 30, .ref 31, .ref 32, .ref 33, .int (Int32.ofInt f38), .ref 34, .ref 35, .int (Int32.ofInt f41), .ref 36, .ref 37, .int (Int32.ofInt f44), .ref 38, .ref 39, .ref 40, .ref 41, .ref 42, .ref 43, .ref 44]))) → (zix w_2 15 = some (.inl (0, 2400, .inl g15))) → (zix w_2 17 = some (.inl (1, 4, .inl g17))) → (zix w_2 18 = some (.inl (1, 4, .inl g18))) → (zix w_2 23 = some (.inl (1, 121, .inl T2))) → (zix w_2 24 = some (.inl (1, 3, .inl g24))) → (0 ≤ kk ∧ kk ≤ 121) → (∀ j : Int, 0 ≤ j → j < kk → tBy T2 j = if 2 ≤ j ∧ j ≤ 5 then j - 2 else 0) → (122 - kk < N) → R (2, [some (.ref 14), some (.int (Int32.ofInt 0)), some (.int (Int32.ofInt kk))], [], w_2, 0, 0) := by
    intro N
    induction N with
    | zero => intros; omega
    | succ N ih2 =>
      intro kk T2 w_2 fr_2 hC14_2 hC15_2 hC17_2 hC18_2 hC23_2 hC24_2 hf0_2 hp0_2 hN2
      refine hR (?_ : R (_, _, _, _, _, _))
      refine hR (t_c 121 (by decide) ?_)
      refine hR (j_ge (by omega) (by omega) (fun hc1 => ?_) (fun hc1 => ?_))
      rotate_left
      · skip
        refine hR (?_ : R (_, _, _, _, _, _))
        refine hR (c_get hC14_2 rfl ?_)
        iterate 2 refine hR (?_ : R (_, _, _, _, _, _))
        refine hR (k_ne (by omega) (fun hc => by omega) (fun _ => ?_))
        iterate 3 refine hR (?_ : R (_, _, _, _, _, _))
        refine hR (zcall_i 0 0 (Nat.le_of_ble_eq_true rfl) (Nat.le_of_ble_eq_true rfl) (m_in _ kk 2 5 _ (by omega) (by omega) (by omega) _ fun v93 hp94 => ?_))
        refine (?_ : R (_, _, .int (Int32.ofInt v93) :: .int (Int32.ofInt kk) :: .ref 23 :: [], w_2, 0, 0))
        refine hR (k_eq (by omega) (fun hc95 => ?_) (fun hc95 => ?_))
        · skip
          refine hR (?_ : R (_, _, _, _, _, _))
          refine hR (x_ast hC23_2 (by omega) (by omega) (Nat.le_of_ble_eq_true rfl) fun w96 ff96 hC96 => ?_)
          have fr97 := wfM_st fr_2 ff96 nX5
          have hC98 := (ff96.2 14 (by (try dsimp only); decide)).trans hC14_2
          have hC99 := (ff96.2 15 (by (try dsimp only); decide)).trans hC15_2
          have hC100 := (ff96.2 17 (by (try dsimp only); decide)).trans hC17_2
          have hC101 := (ff96.2 18 (by (try dsimp only); decide)).trans hC18_2
          have hC102 := (ff96.2 24 (by (try dsimp only); decide)).trans hC24_2
          refine hR (t_inc ?_)
          refine hR (?_ : R (_, _, _, _, _, _))
          exact ih2 _ _ _ fr97 hC98 hC99 hC100 hC101 hC96 hC102 (by omega) (fun j h0 h1 => by rw [zup (by omega)]; by_cases c1 : j = kk; (· rw [if_pos (by omega), if_neg (by omega)]); rw [if_neg (by omega)]; exact hp0_2 j h0 (by omega)) (by omega)
        iterate 2 refine hR (?_ : R (_, _, _, _, _, _))
        refine hR (t_sub ?_)
        refine hR (?_ : R (_, _, _, _, _, _))
        refine hR (x_ast hC23_2 (by omega) (by omega) (Nat.le_of_ble_eq_true rfl) fun w103 ff103 hC103 => ?_)
        have fr104 := wfM_st fr_2 ff103 nX5
        have hC105 := (ff103.2 14 (by (try dsimp only); decide)).trans hC14_2
        have hC106 := (ff103.2 15 (by (try dsimp only); decide)).trans hC15_2
        have hC107 := (ff103.2 17 (by (try dsimp only); decide)).trans hC17_2
        have hC108 := (ff103.2 18 (by (try dsimp only); decide)).trans hC18_2
        have hC109 := (ff103.2 24 (by (try dsimp only); decide)).trans hC24_2
        refine hR (t_inc ?_)
        refine hR (?_ : R (_, _, _, _, _, _))
        exact ih2 _ _ _ fr104 hC105 hC106 hC107 hC108 hC103 hC109 (by omega) (fun j h0 h1 => by rw [zup (by omega)]; by_cases c1 : j = kk; (· rw [if_pos (by omega), if_pos (by omega)]; omega); rw [if_neg (by omega)]; exact hp0_2 j h0 (by omega)) (by omega)
      have hT0 : ∀ j : Int, 0 ≤ j → j < 121 → tBy T2 j = if 2 ≤ j ∧ j ≤ 5 then j - 2 else 0 := fun j h0 h1 => hp0_2 j h0 (by omega)
      have hrel := relB_i (c' := f17) hT0 hr3
      iterate 2 refine hR (?_ : R (_, _, _, _, _, _))
      refine hR (c_put hC14_2 rfl rfl fun w2 ff2 hC2 => ?_)
      have fr3 := wfM_st fr_2 ff2 nX0
      have hC4 := (ff2.2 15 (by (try dsimp only); decide)).trans hC15_2
      have hC5 := (ff2.2 17 (by (try dsimp only); decide)).trans hC17_2
      have hC6 := (ff2.2 18 (by (try dsimp only); decide)).trans hC18_2
      have hC7 := (ff2.2 23 (by (try dsimp only); decide)).trans hC23_2
      have hC8 := (ff2.2 24 (by (try dsimp only); decide)).trans hC24_2
      replace hC2 : zix w2 14 = some (.inr (11, [.int (Int32.ofInt f0), .ref 15, .ref 16, .ref 17, .ref 18, .ref 19, .ref 20, .ref 21, .ref 22, .int (Int32.ofInt 0), .int (Int32.ofInt f10), .int (Int32.ofInt f11), .int (Int32.ofInt f12), .int (Int32.ofInt f13), .long x14, .int (Int32.ofInt f15), .int (Int32.ofInt f16), .int (Int32.ofInt f17), .ref 23, .ref 24, .int (Int32.ofInt f20), .int (Int32.ofInt f21), .int (Int32.ofInt f22), .int (Int32.ofInt f23), .ref 25, .ref 26, .int (Int32.ofInt f26), .ref 27, .int (Int32.ofInt f28), .ref 28, .ref 29, .int (Int32.ofInt f31), .int (Int32.ofInt f32), .int (Int32.ofInt f33), .ref 30, .ref 31, .ref 32, .ref 33, .int (Int32.ofInt f38), .ref 34, .ref 35, .int (Int32.ofInt f41), .ref 36, .ref 37, .int (Int32.ofInt f44), .ref 38, .ref 39, .ref 40, .ref 41, .ref 42, .ref 43, .ref 44])) := hC2
      iterate 2 refine hR (?_ : R (_, _, _, _, _, _))
      refine hR (c_put hC2 rfl rfl fun w9 ff9 hC9 => ?_)
      have fr10 := wfM_st fr3 ff9 nX0
      have hC11 := (ff9.2 15 (by (try dsimp only); decide)).trans hC4
      have hC12 := (ff9.2 17 (by (try dsimp only); decide)).trans hC5
      have hC13 := (ff9.2 18 (by (try dsimp only); decide)).trans hC6
      have hC14 := (ff9.2 23 (by (try dsimp only); decide)).trans hC7
      have hC15 := (ff9.2 24 (by (try dsimp only); decide)).trans hC8
      replace hC9 : zix w9 14 = some (.inr (11, [.int (Int32.ofInt f0), .ref 15, .ref 16, .ref 17, .ref 18, .ref 19, .ref 20, .ref 21, .ref 22, .int (Int32.ofInt 0), .int (Int32.ofInt f10), .int (Int32.ofInt f11), .int (Int32.ofInt f12), .int (Int32.ofInt f13), .long x14, .int (Int32.ofInt f15), .int (Int32.ofInt 0), .int (Int32.ofInt f17), .ref 23, .ref 24, .int (Int32.ofInt f20), .int (Int32.ofInt f21), .int (Int32.ofInt f22), .int (Int32.ofInt f23), .ref 25, .ref 26, .int (Int32.ofInt f26), .ref 27, .int (Int32.ofInt f28), .ref 28, .ref 29, .int (Int32.ofInt f31), .int (Int32.ofInt f32), .int (Int32.ofInt f33), .ref 30, .ref 31, .ref 32, .ref 33, .int (Int32.ofInt f38), .ref 34, .ref 35, .int (Int32.ofInt f41), .ref 36, .ref 37, .int (Int32.ofInt f44), .ref 38, .ref 39, .ref 40, .ref 41, .ref 42, .ref 43, .ref 44])) := hC9
      refine hR (?_ : R (_, _, _, _, _, _))
      refine hR (c_obj hC9 (zcall_i 0 0 (Nat.le_of_ble_eq_true rfl) (Nat.le_of_ble_eq_true rfl) (x_token _ _ _ _ _ _ _ _ _ _ _ _ _ _ _ _ _ _ _ _ _ _ _ _ _ _ hC9 hC11 (by omega) hr1 _ fun y9_16 y11_17 y12_18 y13_19 y14_20 w21 gg22 hC23 hp24 => ?_)))
      have fr25 := wfM_tr fr10 gg22 nX1
      have hC26 := (gg22.2 15 (by (try dsimp only); decide)).trans hC11
      have hC27 := (gg22.2 17 (by (try dsimp only); decide)).trans hC12
      have hC28 := (gg22.2 18 (by (try dsimp only); decide)).trans hC13
      have hC29 := (gg22.2 23 (by (try dsimp only); decide)).trans hC14
      have hC30 := (gg22.2 24 (by (try dsimp only); decide)).trans hC15
      obtain ⟨rfl, rfl, rfl, hx31, hw32⟩ := hp24
      refine (?_ : R (_, _, [], w21, 0, 0))
      iterate 2 refine hR (?_ : R (_, _, _, _, _, _))
      refine hR (c_obj hC23 (zcall_i 0 0 (Nat.le_of_ble_eq_true rfl) (Nat.le_of_ble_eq_true rfl) (x_linesB _ _ _ _ _ _ _ _ _ _ _ _ _ _ _ _ _ _ _ _ _ _ _ _ _ _ _ _ _ _ _ _ _ _ _ hC23 hC26 hC29 hC30 (by omega) hr1 hx31 (by omega) hrel hw32 _ fun v33 a'_34 x'_35 f'_36 c'_37 y15_38 z'_39 T'_40 R'_41 w42 gg43 hC44 hC45 hC46 hp47 hp48 => ?_)))
      have fr49 := wfM_tr fr25 gg43 nX2
      have hC50 := (gg43.2 15 (by (try dsimp only); decide)).trans hC26
      have hC51 := (gg43.2 17 (by (try dsimp only); decide)).trans hC27
      have hC52 := (gg43.2 18 (by (try dsimp only); decide)).trans hC28
      refine (?_ : R (_, _, .int (Int32.ofInt v33) :: [], w42, 0, 0))
      have hge : v33 = 1 → 0 ≤ f'_36 := fun e => by rcases hp47 with ⟨q, b, X, q2, q3⟩ | ⟨q, _⟩; (· have hz := teF_p (g := g) (n := f10) (tl := tlB g f10) (P := fun x : tpB => 0 ≤ x.1) (fun a x h => tlF_p bBeg_g bTake_g h) 601 0 (f, c, x0, x1, x2, g1, g2, g3, g4) (by rw [bIni_0 hr3]; exact Int.le_refl 0); rw [q2] at hz; have hz2 : 0 ≤ X.1 := hz; have := (relB_rfc q3).1; omega); exact absurd q (by omega)
      have hbd := hp48
      have hyb : v33 = 0 → 0 ≤ y15_38 ∧ y15_38 ≤ 600 := fun e => by rcases hp47 with ⟨q, _⟩ | ⟨q, b, X, q2, q3⟩; (· exact absurd q (by omega)); have hz := te_bd (g := g) (n := f10) (tl := tlB g f10) (fun a x h0 h1 => tl_bd h0 h1) 601 0 (f, c, x0, x1, x2, g1, g2, g3, g4) (by omega) (by omega); rw [q2] at hz; have hz2 : 0 ≤ b ∧ b ≤ f10 := hz; have := tS_b (g := g) (n := f10) (a := b) hz2.1 hz2.2; omega
      iterate 2 refine hR (?_ : R (_, _, _, _, _, _))
      refine hR (c_get hC44 rfl ?_)
      iterate 2 refine hR (?_ : R (_, _, _, _, _, _))
      refine hR (k_eq (by omega) (fun hc53 => ?_) (fun hc53 => ?_))
      · skip
        refine hR (?_ : R (_, _, _, _, _, _))
        refine hR (x_ast hC51 (by omega) (by omega) (Nat.le_of_ble_eq_true rfl) fun w54 ff54 hC54 => ?_)
        have fr55 := wfM_st fr49 ff54 nX3
        have hC56 := (ff54.2 14 (by (try dsimp only); decide)).trans hC44
        have hC57 := (ff54.2 15 (by (try dsimp only); decide)).trans hC50
        have hC58 := (ff54.2 18 (by (try dsimp only); decide)).trans hC52
        have hC59 := (ff54.2 23 (by (try dsimp only); decide)).trans hC45
        have hC60 := (ff54.2 24 (by (try dsimp only); decide)).trans hC46
        refine hR (?_ : R (_, _, _, _, _, _))
        refine hR (c_get hC56 rfl ?_)
        iterate 2 refine hR (?_ : R (_, _, _, _, _, _))
        refine hR (k_ne (by omega) (fun hc => by omega) (fun _ => ?_))
        refine hR (?_ : R (_, _, _, _, _, _))
        refine hR (c_get hC56 rfl ?_)
        refine hR (?_ : R (_, _, _, _, _, _))
        refine hR (x_ast hC58 (by omega) (by omega) (Nat.le_of_ble_eq_true rfl) fun w61 ff61 hC61 => ?_)
        have fr62 := wfM_st fr55 ff61 nX4
        have hC63 := (ff61.2 14 (by (try dsimp only); decide)).trans hC56
        have hC64 := (ff61.2 15 (by (try dsimp only); decide)).trans hC57
        have hC65 := (ff61.2 17 (by (try dsimp only); decide)).trans hC54
        have hC66 := (ff61.2 23 (by (try dsimp only); decide)).trans hC59
        have hC67 := (ff61.2 24 (by (try dsimp only); decide)).trans hC60
        have e17 : tBy (upd g17 (0 : Int).toNat (Int32.ofInt 1)) 0 = 1 := (zup (by omega) 0).trans (if_pos rfl)
        refine hR (?_ : R (_, _, _, _, _, _))
        refine hR (c_get hC63 rfl ?_)
        refine hR (?_ : R (_, _, _, _, _, _))
        refine hR (c_aldE hC65 (by omega) (by omega) (Nat.le_of_ble_eq_true rfl) fun v68 ev68 rv68 => ?_)
        replace ev68 : v68 = tBy (upd g17 (0 : Int).toNat (Int32.ofInt 1)) 0 := ev68
        subst ev68
        refine hR (k_ne (by omega) (fun _ => ?_) (fun hc => by omega))
        refine hR (?_ : R (_, _, _, _, _, _))
        exact hR (zret_i rfl (Nat.le_refl _) (zbo (by omega)) (h _ _ _ _ _ _ _ _ _ _ _ _ fr62 hC63 hC65 hC61 hC66 hC67 (by rcases hp47 with ⟨q, _⟩ | ⟨q, b, X, q2, q3⟩; (· exact absurd q (by omega)); exact Or.inr (Or.inr ⟨rfl, b, X, q2, ((zup (by omega) 0).trans (if_pos rfl)), ((zup (by omega) 0).trans (if_pos rfl)).trans q3⟩)) (fun i hi => ⟨(zup (by omega) i).trans (if_neg (by omega)), (zup (by omega) i).trans (if_neg (by omega))⟩) (by omega)))
      refine hR (?_ : R (_, _, _, _, _, _))
      refine hR (c_get hC44 rfl ?_)
      refine hR (?_ : R (_, _, _, _, _, _))
      refine hR (x_ast hC51 (by omega) (by omega) (Nat.le_of_ble_eq_true rfl) fun w69 ff69 hC69 => ?_)
      have fr70 := wfM_st fr49 ff69 nX3
      have hC71 := (ff69.2 14 (by (try dsimp only); decide)).trans hC44
      have hC72 := (ff69.2 15 (by (try dsimp only); decide)).trans hC50
      have hC73 := (ff69.2 18 (by (try dsimp only); decide)).trans hC52
      have hC74 := (ff69.2 23 (by (try dsimp only); decide)).trans hC45
      have hC75 := (ff69.2 24 (by (try dsimp only); decide)).trans hC46
      refine hR (?_ : R (_, _, _, _, _, _))
      refine hR (c_get hC71 rfl ?_)
      iterate 2 refine hR (?_ : R (_, _, _, _, _, _))
      refine hR (k_ne (by omega) (fun _ => ?_) (fun hc => by omega))
      refine hR (?_ : R (_, _, _, _, _, _))
      refine hR (c_get hC71 rfl ?_)
      refine hR (k_le (by omega) (fun hc76 => ?_) (fun hc76 => ?_))
      · skip
        refine hR (?_ : R (_, _, _, _, _, _))
        refine hR (x_ast hC73 (by omega) (by omega) (Nat.le_of_ble_eq_true rfl) fun w77 ff77 hC77 => ?_)
        have fr78 := wfM_st fr70 ff77 nX4
        have hC79 := (ff77.2 14 (by (try dsimp only); decide)).trans hC71
        have hC80 := (ff77.2 15 (by (try dsimp only); decide)).trans hC72
        have hC81 := (ff77.2 17 (by (try dsimp only); decide)).trans hC69
        have hC82 := (ff77.2 23 (by (try dsimp only); decide)).trans hC74
        have hC83 := (ff77.2 24 (by (try dsimp only); decide)).trans hC75
        have e17 : tBy (upd g17 (0 : Int).toNat (Int32.ofInt f'_36)) 0 = f'_36 := (zup (by omega) 0).trans (if_pos rfl)
        refine hR (?_ : R (_, _, _, _, _, _))
        refine hR (c_get hC79 rfl ?_)
        refine hR (?_ : R (_, _, _, _, _, _))
        refine hR (c_aldE hC81 (by omega) (by omega) (Nat.le_of_ble_eq_true rfl) fun v84 ev84 rv84 => ?_)
        replace ev84 : v84 = tBy (upd g17 (0 : Int).toNat (Int32.ofInt f'_36)) 0 := ev84
        subst ev84
        refine hR (k_ne (by omega) (fun hc => by omega) (fun _ => ?_))
        iterate 2 refine hR (?_ : R (_, _, _, _, _, _))
        exact hR (zret_i rfl (Nat.le_refl _) (zbo (by omega)) (h _ _ _ _ _ _ _ _ _ _ _ _ fr78 hC79 hC81 hC77 hC82 hC83 (by rcases hp47 with ⟨q, b, X, q2, q3⟩ | ⟨q, _⟩; (· have hf := relB_rfc q3; have hF : f'_36 = 0 := (by have := hge (by omega); omega); exact Or.inl ⟨rfl, b, X, q2, hf.1.trans hF, q3, ((zup (by omega) 0).trans (if_pos rfl)).trans hF, ((zup (by omega) 0).trans (if_pos rfl))⟩); exact absurd q (by omega)) (fun i hi => ⟨(zup (by omega) i).trans (if_neg (by omega)), (zup (by omega) i).trans (if_neg (by omega))⟩) (by omega)))
      refine hR (?_ : R (_, _, _, _, _, _))
      refine hR (c_get hC71 rfl ?_)
      refine hR (?_ : R (_, _, _, _, _, _))
      refine hR (x_ast hC73 (by omega) (by omega) (Nat.le_of_ble_eq_true rfl) fun w85 ff85 hC85 => ?_)
      have fr86 := wfM_st fr70 ff85 nX4
      have hC87 := (ff85.2 14 (by (try dsimp only); decide)).trans hC71
      have hC88 := (ff85.2 15 (by (try dsimp only); decide)).trans hC72
      have hC89 := (ff85.2 17 (by (try dsimp only); decide)).trans hC69
      have hC90 := (ff85.2 23 (by (try dsimp only); decide)).trans hC74
      have hC91 := (ff85.2 24 (by (try dsimp only); decide)).trans hC75
      have e17 : tBy (upd g17 (0 : Int).toNat (Int32.ofInt f'_36)) 0 = f'_36 := (zup (by omega) 0).trans (if_pos rfl)
      refine hR (?_ : R (_, _, _, _, _, _))
      refine hR (c_get hC87 rfl ?_)
      refine hR (?_ : R (_, _, _, _, _, _))
      refine hR (c_aldE hC89 (by omega) (by omega) (Nat.le_of_ble_eq_true rfl) fun v92 ev92 rv92 => ?_)
      replace ev92 : v92 = tBy (upd g17 (0 : Int).toNat (Int32.ofInt f'_36)) 0 := ev92
      subst ev92
      refine hR (k_ne (by omega) (fun _ => ?_) (fun hc => by omega))
      refine hR (?_ : R (_, _, _, _, _, _))
      exact hR (zret_i rfl (Nat.le_refl _) (zbo (by omega)) (h _ _ _ _ _ _ _ _ _ _ _ _ fr86 hC87 hC89 hC85 hC90 hC91 (by rcases hp47 with ⟨q, b, X, q2, q3⟩ | ⟨q, _⟩; (· have hf := relB_rfc q3; exact Or.inr (Or.inl ⟨rfl, b, X, q2, fun zz => absurd (hf.1.symm.trans zz) (by omega), ((zup (by omega) 0).trans (if_pos rfl)).trans hf.1.symm, ((zup (by omega) 0).trans (if_pos rfl)).trans (hf.2 (by rw [hf.1]; omega)).symm⟩)); exact absurd q (by omega)) (fun i hi => ⟨(zup (by omega) i).trans (if_neg (by omega)), (zup (by omega) i).trans (if_neg (by omega))⟩) (by omega)))
  exact lp2 400000000 _ _ _ fr0 hK0 hK1 hK2 hK3 hK4 hK5 (by omega) (fun j h0 h1 => absurd h1 (by omega)) (by omega)
set_option maxHeartbeats 4000000 in
theorem x_readTextY (w : zW) (d : Nat) (f0 f9 f10 f11 f12 f13 f15 f16 f17 f20 f21 f22 f23 f26 f28 f31 f32 f33 f38 f41 f44 : Int) (x14 : Int64) (g15 g g17 g18 g23 g24 : Nat → Int32) (f c x0 : Int) (g1 g2 g3 : Nat → Int32) (hK0 : zix w 14 = some (.inr (11, [.int (Int32.ofInt f0), .ref 15, .ref 16, .ref 17, .ref 18, .ref 19, .ref 20, .ref 21, .ref 22, .int (Int32.ofInt f9), .int (Int32.ofInt f10), .int (Int32.ofInt f11), .int (Int32.ofInt f12), .int (Int32.ofInt f13), .long x14, .int (Int32.ofInt f15), .int (Int32.ofInt f16), .int (Int32.ofInt f17), .ref 23, .ref 24, .int (Int32.ofInt f20), .int (Int32.ofInt f21), .int (Int32.ofInt f22), .int (Int32.ofInt f23), .ref 25, .ref 26, .int (Int32.ofInt f26), .ref 27, .int (Int32.ofInt f28), .ref 28, .ref 29, .int (Int32.ofInt f31), .int (Int32.ofInt f32), .int (Int32.ofInt f33), .ref 30, .ref 31, .ref 32, .ref 33, .int (Int32.ofInt f38), .ref 34, .ref 35, .int (Int32.ofInt f41), .ref 36, .ref 37, .int (Int32.ofInt f44), .ref 38, .ref 39, .ref 40, .ref 41, .ref 42, .ref 43, .ref 44]))) (hK1 : zix w 15 = some (.inl (0, 2400, .inl g15))) (hK2 : zix w 17 = some (.inl (1, 4, .inl g17))) (hK3 : zix w 18 = some (.inl (1, 4, .inl g18))) (hK4 : zix w 23 = some (.inl (1, 121, .inl g23))) (hK5 : zix w 24 = some (.inl (1, 3, .inl g24))) (hr0 : 0 ≤ f10 ∧ f10 ≤ 600) (hr1 : ∀ i : Int, 0 ≤ i → i < f10 → tBy g15 i = tBy g i ∧ -128 ≤ tBy g i ∧ tBy g i ≤ 127) (hr2 : (-2147483648 ≤ f17 ∧ f17 ≤ 2147483647)) (hr3 : yIni (f, c, x0, g1, g2, g3)) (Q : zQ) (h : ∀ (v : Int) (a' x' f' c' y15 : Int) (z' : Int64) (H' P' T' R' : Nat → Int32) (w' : zW), wfM (fun j => j ≠ 14 ∧ j ≠ 17 ∧ j ≠ 18 ∧ j ≠ 23 ∧ j ≠ 24) w w' → zix w' 14 = some (.inr (11, [.int (Int32.ofInt f0), .ref 15, .ref 16, .ref 17, .ref 18, .ref 19, .ref 20, .ref 21, .ref 22, .int (Int32.ofInt (tE g f10 a')), .int (Int32.ofInt f10), .int (Int32.ofInt (tS g f10 a')), .int (Int32.ofInt (rK (tK g f10 a'))), .int (Int32.ofInt x'), .long z', .int (Int32.ofInt y15), .int (Int32.ofInt f'), .int (Int32.ofInt c'), .ref 23, .ref 24, .int (Int32.ofInt f20), .int (Int32.ofInt f21), .int (Int32.ofInt f22), .int (Int32.ofInt f23), .ref 25, .ref 26, .int (Int32.ofInt f26), .ref 27, .int (Int32.ofInt f28), .ref 28, .ref 29, .int (Int32.ofInt f31), .int (Int32.ofInt f32), .int (Int32.ofInt f33), .ref 30, .ref 31, .ref 32, .ref 33, .int (Int32.ofInt f38), .ref 34, .ref 35, .int (Int32.ofInt f41), .ref 36, .ref 37, .int (Int32.ofInt f44), .ref 38, .ref 39, .ref 40, .ref 41, .ref 42, .ref 43, .ref 44])) → zix w' 17 = some (.inl (1, 4, .inl H')) → zix w' 18 = some (.inl (1, 4, .inl P')) → zix w' 23 = some (.inl (1, 121, .inl T')) → zix w' 24 = some (.inl (1, 3, .inl R')) → (RTP (fun X : tpY => X.1) (fun X : tpY => X.2.1) g f10 (teF g f10 (tlY g f10) 601 0 (f, c, x0, g1, g2, g3)) v H' P' (fun X => RELY X f' c' T')) → (∀ i : Int, 1 ≤ i → tBy H' i = tBy g17 i ∧ tBy P' i = tBy g18 i) → ((v = 0 ∨ v = 1) ∧ r32 f' ∧ r32 c') → Q (some (.int (Int32.ofInt v))) w') : zCl zTab (d + 8) iX12_readText [.ref 14, .int (Int32.ofInt 1)] w 0 0 Q := by
  refine zCl_i (M := kX12_readText) rfl (Nat.le_of_ble_eq_true rfl) fun R hR => ?_
  have fr0 : wfM (fun j => j ≠ 14 ∧ j ≠ 17 ∧ j ≠ 18 ∧ j ≠ 23 ∧ j ≠ 24) w w := wfM_rf _ w
  have nX0 : FX (∀ j : Nat, (j ≠ 14 ∧ j ≠ 17 ∧ j ≠ 18 ∧ j ≠ 23 ∧ j ≠ 24) → j ≠ 14) := fun j hj => by omega
  have nX1 : FX (∀ j : Nat, (j ≠ 14 ∧ j ≠ 17 ∧ j ≠ 18 ∧ j ≠ 23 ∧ j ≠ 24) → (j ≠ 14)) := fun j hj => by omega
  have nX2 : FX (∀ j : Nat, (j ≠ 14 ∧ j ≠ 17 ∧ j ≠ 18 ∧ j ≠ 23 ∧ j ≠ 24) → (j ≠ 14 ∧ j ≠ 23 ∧ j ≠ 24)) := fun j hj => by omega
  have nX3 : FX (∀ j : Nat, (j ≠ 14 ∧ j ≠ 17 ∧ j ≠ 18 ∧ j ≠ 23 ∧ j ≠ 24) → j ≠ 17) := fun j hj => by omega
  have nX4 : FX (∀ j : Nat, (j ≠ 14 ∧ j ≠ 17 ∧ j ≠ 18 ∧ j ≠ 23 ∧ j ≠ 24) → j ≠ 18) := fun j hj => by omega
  have nX5 : FX (∀ j : Nat, (j ≠ 14 ∧ j ≠ 17 ∧ j ≠ 18 ∧ j ≠ 23 ∧ j ≠ 24) → j ≠ 23) := fun j hj => by omega
  iterate 2 refine hR (?_ : R (_, _, _, _, _, _))
  have lp2 : ∀ (N : Nat) (kk : Int) (T2 : Nat → Int32) (w_2 : zW), (wfM (fun j => j ≠ 14 ∧ j ≠ 17 ∧ j ≠ 18 ∧ j ≠ 23 ∧ j ≠ 24) w w_2) → (zix w_2 14 = some (.inr (11, [.int (Int32.ofInt f0), .ref 15, .ref 16, .ref 17, .ref 18, .ref 19, .ref 20, .ref 21, .ref 22, .int (Int32.ofInt f9), .int (Int32.ofInt f10), .int (Int32.ofInt f11), .int (Int32.ofInt f12), .int (Int32.ofInt f13), .long x14, .int (Int32.ofInt f15), .int (Int32.ofInt f16), .int (Int32.ofInt f17), .ref 23, .ref 24, .int (Int32.ofInt f20), .int (Int32.ofInt f21), .int (Int32.ofInt f22), .int (Int32.ofInt f23), .ref 25, .ref 26, .int (Int32.ofInt f26), .ref 27, .int (Int32.ofInt f28), .ref 28, .ref 29, .int (Int32.ofInt f31), .int (Int32.ofInt f32), .int (Int32.ofInt f33), .ref 30, .ref 31, .ref 32, .ref 33, .int (Int32.ofInt f38), .ref 34, .ref 35, .int (Int32.ofInt f41), .ref 36, .ref 37, .int (Int32.ofInt f44), .ref 38, .ref 39, .ref 40, .ref 41, .ref 42, .ref 43, .ref 44]))) → (zix w_2 15 = some (.inl (0, 2400, .inl g15))) → (zix w_2 17 = some (.inl (1, 4, .inl g17))) → (zix w_2 18 = some (.inl (1, 4, .inl g18))) → (zix w_2 23 = some (.inl (1, 121, .inl T2))) → (zix w_2 24 = some (.inl (1, 3, .inl g24))) → (0 ≤ kk ∧ kk ≤ 121) → (∀ j : Int, 0 ≤ j → j < kk → tBy T2 j = 0) → (122 - kk < N) → R (2, [some (.ref 14), some (.int (Int32.ofInt 1)), some (.int (Int32.ofInt kk))], [], w_2, 0, 0) := by
    intro N
    induction N with
    | zero => intros; omega
    | succ N ih2 =>
      intro kk T2 w_2 fr_2 hC14_2 hC15_2 hC17_2 hC18_2 hC23_2 hC24_2 hf0_2 hp0_2 hN2
      refine hR (?_ : R (_, _, _, _, _, _))
      refine hR (t_c 121 (by decide) ?_)
      refine hR (j_ge (by omega) (by omega) (fun hc1 => ?_) (fun hc1 => ?_))
      rotate_left
      · skip
        refine hR (?_ : R (_, _, _, _, _, _))
        refine hR (c_get hC14_2 rfl ?_)
        iterate 2 refine hR (?_ : R (_, _, _, _, _, _))
        refine hR (k_ne (by omega) (fun _ => ?_) (fun hc => by omega))
        refine hR (?_ : R (_, _, _, _, _, _))
        refine hR (x_ast hC23_2 (by omega) (by omega) (Nat.le_of_ble_eq_true rfl) fun w93 ff93 hC93 => ?_)
        have fr94 := wfM_st fr_2 ff93 nX5
        have hC95 := (ff93.2 14 (by (try dsimp only); decide)).trans hC14_2
        have hC96 := (ff93.2 15 (by (try dsimp only); decide)).trans hC15_2
        have hC97 := (ff93.2 17 (by (try dsimp only); decide)).trans hC17_2
        have hC98 := (ff93.2 18 (by (try dsimp only); decide)).trans hC18_2
        have hC99 := (ff93.2 24 (by (try dsimp only); decide)).trans hC24_2
        refine hR (t_inc ?_)
        refine hR (?_ : R (_, _, _, _, _, _))
        exact ih2 _ _ _ fr94 hC95 hC96 hC97 hC98 hC93 hC99 (by omega) (fun j h0 h1 => by rw [zup (by omega)]; by_cases c1 : j = kk; (· rw [if_pos (by omega)]); rw [if_neg (by omega)]; exact hp0_2 j h0 (by omega)) (by omega)
      have hT0 : ∀ j : Int, 0 ≤ j → j < 121 → tBy T2 j = 0 := fun j h0 h1 => hp0_2 j h0 (by omega)
      have hrel := relY_i (c' := f17) hT0 hr3
      iterate 2 refine hR (?_ : R (_, _, _, _, _, _))
      refine hR (c_put hC14_2 rfl rfl fun w2 ff2 hC2 => ?_)
      have fr3 := wfM_st fr_2 ff2 nX0
      have hC4 := (ff2.2 15 (by (try dsimp only); decide)).trans hC15_2
      have hC5 := (ff2.2 17 (by (try dsimp only); decide)).trans hC17_2
      have hC6 := (ff2.2 18 (by (try dsimp only); decide)).trans hC18_2
      have hC7 := (ff2.2 23 (by (try dsimp only); decide)).trans hC23_2
      have hC8 := (ff2.2 24 (by (try dsimp only); decide)).trans hC24_2
      replace hC2 : zix w2 14 = some (.inr (11, [.int (Int32.ofInt f0), .ref 15, .ref 16, .ref 17, .ref 18, .ref 19, .ref 20, .ref 21, .ref 22, .int (Int32.ofInt 0), .int (Int32.ofInt f10), .int (Int32.ofInt f11), .int (Int32.ofInt f12), .int (Int32.ofInt f13), .long x14, .int (Int32.ofInt f15), .int (Int32.ofInt f16), .int (Int32.ofInt f17), .ref 23, .ref 24, .int (Int32.ofInt f20), .int (Int32.ofInt f21), .int (Int32.ofInt f22), .int (Int32.ofInt f23), .ref 25, .ref 26, .int (Int32.ofInt f26), .ref 27, .int (Int32.ofInt f28), .ref 28, .ref 29, .int (Int32.ofInt f31), .int (Int32.ofInt f32), .int (Int32.ofInt f33), .ref 30, .ref 31, .ref 32, .ref 33, .int (Int32.ofInt f38), .ref 34, .ref 35, .int (Int32.ofInt f41), .ref 36, .ref 37, .int (Int32.ofInt f44), .ref 38, .ref 39, .ref 40, .ref 41, .ref 42, .ref 43, .ref 44])) := hC2
      iterate 2 refine hR (?_ : R (_, _, _, _, _, _))
      refine hR (c_put hC2 rfl rfl fun w9 ff9 hC9 => ?_)
      have fr10 := wfM_st fr3 ff9 nX0
      have hC11 := (ff9.2 15 (by (try dsimp only); decide)).trans hC4
      have hC12 := (ff9.2 17 (by (try dsimp only); decide)).trans hC5
      have hC13 := (ff9.2 18 (by (try dsimp only); decide)).trans hC6
      have hC14 := (ff9.2 23 (by (try dsimp only); decide)).trans hC7
      have hC15 := (ff9.2 24 (by (try dsimp only); decide)).trans hC8
      replace hC9 : zix w9 14 = some (.inr (11, [.int (Int32.ofInt f0), .ref 15, .ref 16, .ref 17, .ref 18, .ref 19, .ref 20, .ref 21, .ref 22, .int (Int32.ofInt 0), .int (Int32.ofInt f10), .int (Int32.ofInt f11), .int (Int32.ofInt f12), .int (Int32.ofInt f13), .long x14, .int (Int32.ofInt f15), .int (Int32.ofInt 0), .int (Int32.ofInt f17), .ref 23, .ref 24, .int (Int32.ofInt f20), .int (Int32.ofInt f21), .int (Int32.ofInt f22), .int (Int32.ofInt f23), .ref 25, .ref 26, .int (Int32.ofInt f26), .ref 27, .int (Int32.ofInt f28), .ref 28, .ref 29, .int (Int32.ofInt f31), .int (Int32.ofInt f32), .int (Int32.ofInt f33), .ref 30, .ref 31, .ref 32, .ref 33, .int (Int32.ofInt f38), .ref 34, .ref 35, .int (Int32.ofInt f41), .ref 36, .ref 37, .int (Int32.ofInt f44), .ref 38, .ref 39, .ref 40, .ref 41, .ref 42, .ref 43, .ref 44])) := hC9
      refine hR (?_ : R (_, _, _, _, _, _))
      refine hR (c_obj hC9 (zcall_i 0 0 (Nat.le_of_ble_eq_true rfl) (Nat.le_of_ble_eq_true rfl) (x_token _ _ _ _ _ _ _ _ _ _ _ _ _ _ _ _ _ _ _ _ _ _ _ _ _ _ hC9 hC11 (by omega) hr1 _ fun y9_16 y11_17 y12_18 y13_19 y14_20 w21 gg22 hC23 hp24 => ?_)))
      have fr25 := wfM_tr fr10 gg22 nX1
      have hC26 := (gg22.2 15 (by (try dsimp only); decide)).trans hC11
      have hC27 := (gg22.2 17 (by (try dsimp only); decide)).trans hC12
      have hC28 := (gg22.2 18 (by (try dsimp only); decide)).trans hC13
      have hC29 := (gg22.2 23 (by (try dsimp only); decide)).trans hC14
      have hC30 := (gg22.2 24 (by (try dsimp only); decide)).trans hC15
      obtain ⟨rfl, rfl, rfl, hx31, hw32⟩ := hp24
      refine (?_ : R (_, _, [], w21, 0, 0))
      iterate 2 refine hR (?_ : R (_, _, _, _, _, _))
      refine hR (c_obj hC23 (zcall_i 0 0 (Nat.le_of_ble_eq_true rfl) (Nat.le_of_ble_eq_true rfl) (x_linesY _ _ _ _ _ _ _ _ _ _ _ _ _ _ _ _ _ _ _ _ _ _ _ _ _ _ _ _ _ _ _ _ hC23 hC26 hC29 hC30 (by omega) hr1 hx31 (by omega) hrel hw32 _ fun v33 a'_34 x'_35 f'_36 c'_37 y15_38 z'_39 T'_40 R'_41 w42 gg43 hC44 hC45 hC46 hp47 hp48 => ?_)))
      have fr49 := wfM_tr fr25 gg43 nX2
      have hC50 := (gg43.2 15 (by (try dsimp only); decide)).trans hC26
      have hC51 := (gg43.2 17 (by (try dsimp only); decide)).trans hC27
      have hC52 := (gg43.2 18 (by (try dsimp only); decide)).trans hC28
      refine (?_ : R (_, _, .int (Int32.ofInt v33) :: [], w42, 0, 0))
      have hge : v33 = 1 → 0 ≤ f'_36 := fun e => by rcases hp47 with ⟨q, b, X, q2, q3⟩ | ⟨q, _⟩; (· have hz := teF_p (g := g) (n := f10) (tl := tlY g f10) (P := fun x : tpY => 0 ≤ x.1) (fun a x h => tlF_p yBeg_g yTake_g h) 601 0 (f, c, x0, g1, g2, g3) (by rw [yIni_0 hr3]; exact Int.le_refl 0); rw [q2] at hz; have hz2 : 0 ≤ X.1 := hz; have := (relY_rfc q3).1; omega); exact absurd q (by omega)
      have hbd := hp48
      have hyb : v33 = 0 → 0 ≤ y15_38 ∧ y15_38 ≤ 600 := fun e => by rcases hp47 with ⟨q, _⟩ | ⟨q, b, X, q2, q3⟩; (· exact absurd q (by omega)); have hz := te_bd (g := g) (n := f10) (tl := tlY g f10) (fun a x h0 h1 => tl_bd h0 h1) 601 0 (f, c, x0, g1, g2, g3) (by omega) (by omega); rw [q2] at hz; have hz2 : 0 ≤ b ∧ b ≤ f10 := hz; have := tS_b (g := g) (n := f10) (a := b) hz2.1 hz2.2; omega
      iterate 2 refine hR (?_ : R (_, _, _, _, _, _))
      refine hR (c_get hC44 rfl ?_)
      iterate 2 refine hR (?_ : R (_, _, _, _, _, _))
      refine hR (k_eq (by omega) (fun hc53 => ?_) (fun hc53 => ?_))
      · skip
        refine hR (?_ : R (_, _, _, _, _, _))
        refine hR (x_ast hC51 (by omega) (by omega) (Nat.le_of_ble_eq_true rfl) fun w54 ff54 hC54 => ?_)
        have fr55 := wfM_st fr49 ff54 nX3
        have hC56 := (ff54.2 14 (by (try dsimp only); decide)).trans hC44
        have hC57 := (ff54.2 15 (by (try dsimp only); decide)).trans hC50
        have hC58 := (ff54.2 18 (by (try dsimp only); decide)).trans hC52
        have hC59 := (ff54.2 23 (by (try dsimp only); decide)).trans hC45
        have hC60 := (ff54.2 24 (by (try dsimp only); decide)).trans hC46
        refine hR (?_ : R (_, _, _, _, _, _))
        refine hR (c_get hC56 rfl ?_)
        iterate 2 refine hR (?_ : R (_, _, _, _, _, _))
        refine hR (k_ne (by omega) (fun hc => by omega) (fun _ => ?_))
        refine hR (?_ : R (_, _, _, _, _, _))
        refine hR (c_get hC56 rfl ?_)
        refine hR (?_ : R (_, _, _, _, _, _))
        refine hR (x_ast hC58 (by omega) (by omega) (Nat.le_of_ble_eq_true rfl) fun w61 ff61 hC61 => ?_)
        have fr62 := wfM_st fr55 ff61 nX4
        have hC63 := (ff61.2 14 (by (try dsimp only); decide)).trans hC56
        have hC64 := (ff61.2 15 (by (try dsimp only); decide)).trans hC57
        have hC65 := (ff61.2 17 (by (try dsimp only); decide)).trans hC54
        have hC66 := (ff61.2 23 (by (try dsimp only); decide)).trans hC59
        have hC67 := (ff61.2 24 (by (try dsimp only); decide)).trans hC60
        have e17 : tBy (upd g17 (0 : Int).toNat (Int32.ofInt 1)) 0 = 1 := (zup (by omega) 0).trans (if_pos rfl)
        refine hR (?_ : R (_, _, _, _, _, _))
        refine hR (c_get hC63 rfl ?_)
        refine hR (?_ : R (_, _, _, _, _, _))
        refine hR (c_aldE hC65 (by omega) (by omega) (Nat.le_of_ble_eq_true rfl) fun v68 ev68 rv68 => ?_)
        replace ev68 : v68 = tBy (upd g17 (0 : Int).toNat (Int32.ofInt 1)) 0 := ev68
        subst ev68
        refine hR (k_ne (by omega) (fun _ => ?_) (fun hc => by omega))
        refine hR (?_ : R (_, _, _, _, _, _))
        exact hR (zret_i rfl (Nat.le_refl _) (zbo (by omega)) (h _ _ _ _ _ _ _ _ _ _ _ _ fr62 hC63 hC65 hC61 hC66 hC67 (by rcases hp47 with ⟨q, _⟩ | ⟨q, b, X, q2, q3⟩; (· exact absurd q (by omega)); exact Or.inr (Or.inr ⟨rfl, b, X, q2, ((zup (by omega) 0).trans (if_pos rfl)), ((zup (by omega) 0).trans (if_pos rfl)).trans q3⟩)) (fun i hi => ⟨(zup (by omega) i).trans (if_neg (by omega)), (zup (by omega) i).trans (if_neg (by omega))⟩) (by omega)))
      refine hR (?_ : R (_, _, _, _, _, _))
      refine hR (c_get hC44 rfl ?_)
      refine hR (?_ : R (_, _, _, _, _, _))
      refine hR (x_ast hC51 (by omega) (by omega) (Nat.le_of_ble_eq_true rfl) fun w69 ff69 hC69 => ?_)
      have fr70 := wfM_st fr49 ff69 nX3
      have hC71 := (ff69.2 14 (by (try dsimp only); decide)).trans hC44
      have hC72 := (ff69.2 15 (by (try dsimp only); decide)).trans hC50
      have hC73 := (ff69.2 18 (by (try dsimp only); decide)).trans hC52
      have hC74 := (ff69.2 23 (by (try dsimp only); decide)).trans hC45
      have hC75 := (ff69.2 24 (by (try dsimp only); decide)).trans hC46
      refine hR (?_ : R (_, _, _, _, _, _))
      refine hR (c_get hC71 rfl ?_)
      iterate 2 refine hR (?_ : R (_, _, _, _, _, _))
      refine hR (k_ne (by omega) (fun _ => ?_) (fun hc => by omega))
      refine hR (?_ : R (_, _, _, _, _, _))
      refine hR (c_get hC71 rfl ?_)
      refine hR (k_le (by omega) (fun hc76 => ?_) (fun hc76 => ?_))
      · skip
        refine hR (?_ : R (_, _, _, _, _, _))
        refine hR (x_ast hC73 (by omega) (by omega) (Nat.le_of_ble_eq_true rfl) fun w77 ff77 hC77 => ?_)
        have fr78 := wfM_st fr70 ff77 nX4
        have hC79 := (ff77.2 14 (by (try dsimp only); decide)).trans hC71
        have hC80 := (ff77.2 15 (by (try dsimp only); decide)).trans hC72
        have hC81 := (ff77.2 17 (by (try dsimp only); decide)).trans hC69
        have hC82 := (ff77.2 23 (by (try dsimp only); decide)).trans hC74
        have hC83 := (ff77.2 24 (by (try dsimp only); decide)).trans hC75
        have e17 : tBy (upd g17 (0 : Int).toNat (Int32.ofInt f'_36)) 0 = f'_36 := (zup (by omega) 0).trans (if_pos rfl)
        refine hR (?_ : R (_, _, _, _, _, _))
        refine hR (c_get hC79 rfl ?_)
        refine hR (?_ : R (_, _, _, _, _, _))
        refine hR (c_aldE hC81 (by omega) (by omega) (Nat.le_of_ble_eq_true rfl) fun v84 ev84 rv84 => ?_)
        replace ev84 : v84 = tBy (upd g17 (0 : Int).toNat (Int32.ofInt f'_36)) 0 := ev84
        subst ev84
        refine hR (k_ne (by omega) (fun hc => by omega) (fun _ => ?_))
        iterate 2 refine hR (?_ : R (_, _, _, _, _, _))
        exact hR (zret_i rfl (Nat.le_refl _) (zbo (by omega)) (h _ _ _ _ _ _ _ _ _ _ _ _ fr78 hC79 hC81 hC77 hC82 hC83 (by rcases hp47 with ⟨q, b, X, q2, q3⟩ | ⟨q, _⟩; (· have hf := relY_rfc q3; have hF : f'_36 = 0 := (by have := hge (by omega); omega); exact Or.inl ⟨rfl, b, X, q2, hf.1.trans hF, q3, ((zup (by omega) 0).trans (if_pos rfl)).trans hF, ((zup (by omega) 0).trans (if_pos rfl))⟩); exact absurd q (by omega)) (fun i hi => ⟨(zup (by omega) i).trans (if_neg (by omega)), (zup (by omega) i).trans (if_neg (by omega))⟩) (by omega)))
      refine hR (?_ : R (_, _, _, _, _, _))
      refine hR (c_get hC71 rfl ?_)
      refine hR (?_ : R (_, _, _, _, _, _))
      refine hR (x_ast hC73 (by omega) (by omega) (Nat.le_of_ble_eq_true rfl) fun w85 ff85 hC85 => ?_)
      have fr86 := wfM_st fr70 ff85 nX4
      have hC87 := (ff85.2 14 (by (try dsimp only); decide)).trans hC71
      have hC88 := (ff85.2 15 (by (try dsimp only); decide)).trans hC72
      have hC89 := (ff85.2 17 (by (try dsimp only); decide)).trans hC69
      have hC90 := (ff85.2 23 (by (try dsimp only); decide)).trans hC74
      have hC91 := (ff85.2 24 (by (try dsimp only); decide)).trans hC75
      have e17 : tBy (upd g17 (0 : Int).toNat (Int32.ofInt f'_36)) 0 = f'_36 := (zup (by omega) 0).trans (if_pos rfl)
      refine hR (?_ : R (_, _, _, _, _, _))
      refine hR (c_get hC87 rfl ?_)
      refine hR (?_ : R (_, _, _, _, _, _))
      refine hR (c_aldE hC89 (by omega) (by omega) (Nat.le_of_ble_eq_true rfl) fun v92 ev92 rv92 => ?_)
      replace ev92 : v92 = tBy (upd g17 (0 : Int).toNat (Int32.ofInt f'_36)) 0 := ev92
      subst ev92
      refine hR (k_ne (by omega) (fun _ => ?_) (fun hc => by omega))
      refine hR (?_ : R (_, _, _, _, _, _))
      exact hR (zret_i rfl (Nat.le_refl _) (zbo (by omega)) (h _ _ _ _ _ _ _ _ _ _ _ _ fr86 hC87 hC89 hC85 hC90 hC91 (by rcases hp47 with ⟨q, b, X, q2, q3⟩ | ⟨q, _⟩; (· have hf := relY_rfc q3; exact Or.inr (Or.inl ⟨rfl, b, X, q2, fun zz => absurd (hf.1.symm.trans zz) (by omega), ((zup (by omega) 0).trans (if_pos rfl)).trans hf.1.symm, ((zup (by omega) 0).trans (if_pos rfl)).trans (hf.2 (by rw [hf.1]; omega)).symm⟩)); exact absurd q (by omega)) (fun i hi => ⟨(zup (by omega) i).trans (if_neg (by omega)), (zup (by omega) i).trans (if_neg (by omega))⟩) (by omega)))
  exact lp2 400000000 _ _ _ fr0 hK0 hK1 hK2 hK3 hK4 hK5 (by omega) (fun j h0 h1 => absurd h1 (by omega)) (by omega)
set_option maxHeartbeats 4000000 in
theorem x_readTextS (w : zW) (d : Nat) (f0 f9 f10 f11 f12 f13 f15 f16 f17 f20 f21 f22 f23 f26 f28 f31 f32 f33 f38 f41 f44 : Int) (x14 : Int64) (g15 g g17 g18 g23 g24 : Nat → Int32) (f c x0 : Int) (g1 g2 : Nat → Int32) (hK0 : zix w 14 = some (.inr (11, [.int (Int32.ofInt f0), .ref 15, .ref 16, .ref 17, .ref 18, .ref 19, .ref 20, .ref 21, .ref 22, .int (Int32.ofInt f9), .int (Int32.ofInt f10), .int (Int32.ofInt f11), .int (Int32.ofInt f12), .int (Int32.ofInt f13), .long x14, .int (Int32.ofInt f15), .int (Int32.ofInt f16), .int (Int32.ofInt f17), .ref 23, .ref 24, .int (Int32.ofInt f20), .int (Int32.ofInt f21), .int (Int32.ofInt f22), .int (Int32.ofInt f23), .ref 25, .ref 26, .int (Int32.ofInt f26), .ref 27, .int (Int32.ofInt f28), .ref 28, .ref 29, .int (Int32.ofInt f31), .int (Int32.ofInt f32), .int (Int32.ofInt f33), .ref 30, .ref 31, .ref 32, .ref 33, .int (Int32.ofInt f38), .ref 34, .ref 35, .int (Int32.ofInt f41), .ref 36, .ref 37, .int (Int32.ofInt f44), .ref 38, .ref 39, .ref 40, .ref 41, .ref 42, .ref 43, .ref 44]))) (hK1 : zix w 15 = some (.inl (0, 2400, .inl g15))) (hK2 : zix w 17 = some (.inl (1, 4, .inl g17))) (hK3 : zix w 18 = some (.inl (1, 4, .inl g18))) (hK4 : zix w 23 = some (.inl (1, 121, .inl g23))) (hK5 : zix w 24 = some (.inl (1, 3, .inl g24))) (hr0 : 0 ≤ f10 ∧ f10 ≤ 600) (hr1 : ∀ i : Int, 0 ≤ i → i < f10 → tBy g15 i = tBy g i ∧ -128 ≤ tBy g i ∧ tBy g i ≤ 127) (hr2 : (-2147483648 ≤ f17 ∧ f17 ≤ 2147483647)) (hr3 : sIni (f, c, x0, g1, g2)) (Q : zQ) (h : ∀ (v : Int) (a' x' f' c' y15 : Int) (z' : Int64) (H' P' T' R' : Nat → Int32) (w' : zW), wfM (fun j => j ≠ 14 ∧ j ≠ 17 ∧ j ≠ 18 ∧ j ≠ 23 ∧ j ≠ 24) w w' → zix w' 14 = some (.inr (11, [.int (Int32.ofInt f0), .ref 15, .ref 16, .ref 17, .ref 18, .ref 19, .ref 20, .ref 21, .ref 22, .int (Int32.ofInt (tE g f10 a')), .int (Int32.ofInt f10), .int (Int32.ofInt (tS g f10 a')), .int (Int32.ofInt (rK (tK g f10 a'))), .int (Int32.ofInt x'), .long z', .int (Int32.ofInt y15), .int (Int32.ofInt f'), .int (Int32.ofInt c'), .ref 23, .ref 24, .int (Int32.ofInt f20), .int (Int32.ofInt f21), .int (Int32.ofInt f22), .int (Int32.ofInt f23), .ref 25, .ref 26, .int (Int32.ofInt f26), .ref 27, .int (Int32.ofInt f28), .ref 28, .ref 29, .int (Int32.ofInt f31), .int (Int32.ofInt f32), .int (Int32.ofInt f33), .ref 30, .ref 31, .ref 32, .ref 33, .int (Int32.ofInt f38), .ref 34, .ref 35, .int (Int32.ofInt f41), .ref 36, .ref 37, .int (Int32.ofInt f44), .ref 38, .ref 39, .ref 40, .ref 41, .ref 42, .ref 43, .ref 44])) → zix w' 17 = some (.inl (1, 4, .inl H')) → zix w' 18 = some (.inl (1, 4, .inl P')) → zix w' 23 = some (.inl (1, 121, .inl T')) → zix w' 24 = some (.inl (1, 3, .inl R')) → (RTP (fun X : tpS => X.1) (fun X : tpS => X.2.1) g f10 (teF g f10 (tlS g f10) 601 0 (f, c, x0, g1, g2)) v H' P' (fun X => RELS X f' c' T')) → (∀ i : Int, 1 ≤ i → tBy H' i = tBy g17 i ∧ tBy P' i = tBy g18 i) → ((v = 0 ∨ v = 1) ∧ r32 f' ∧ r32 c') → Q (some (.int (Int32.ofInt v))) w') : zCl zTab (d + 9) iX12_readText [.ref 14, .int (Int32.ofInt 2)] w 0 0 Q := by
  refine zCl_i (M := kX12_readText) rfl (Nat.le_of_ble_eq_true rfl) fun R hR => ?_
  have fr0 : wfM (fun j => j ≠ 14 ∧ j ≠ 17 ∧ j ≠ 18 ∧ j ≠ 23 ∧ j ≠ 24) w w := wfM_rf _ w
  have nX0 : FX (∀ j : Nat, (j ≠ 14 ∧ j ≠ 17 ∧ j ≠ 18 ∧ j ≠ 23 ∧ j ≠ 24) → j ≠ 14) := fun j hj => by omega
  have nX1 : FX (∀ j : Nat, (j ≠ 14 ∧ j ≠ 17 ∧ j ≠ 18 ∧ j ≠ 23 ∧ j ≠ 24) → (j ≠ 14)) := fun j hj => by omega
  have nX2 : FX (∀ j : Nat, (j ≠ 14 ∧ j ≠ 17 ∧ j ≠ 18 ∧ j ≠ 23 ∧ j ≠ 24) → (j ≠ 14 ∧ j ≠ 23 ∧ j ≠ 24)) := fun j hj => by omega
  have nX3 : FX (∀ j : Nat, (j ≠ 14 ∧ j ≠ 17 ∧ j ≠ 18 ∧ j ≠ 23 ∧ j ≠ 24) → j ≠ 17) := fun j hj => by omega
  have nX4 : FX (∀ j : Nat, (j ≠ 14 ∧ j ≠ 17 ∧ j ≠ 18 ∧ j ≠ 23 ∧ j ≠ 24) → j ≠ 18) := fun j hj => by omega
  have nX5 : FX (∀ j : Nat, (j ≠ 14 ∧ j ≠ 17 ∧ j ≠ 18 ∧ j ≠ 23 ∧ j ≠ 24) → j ≠ 23) := fun j hj => by omega
  iterate 2 refine hR (?_ : R (_, _, _, _, _, _))
  have lp2 : ∀ (N : Nat) (kk : Int) (T2 : Nat → Int32) (w_2 : zW), (wfM (fun j => j ≠ 14 ∧ j ≠ 17 ∧ j ≠ 18 ∧ j ≠ 23 ∧ j ≠ 24) w w_2) → (zix w_2 14 = some (.inr (11, [.int (Int32.ofInt f0), .ref 15, .ref 16, .ref 17, .ref 18, .ref 19, .ref 20, .ref 21, .ref 22, .int (Int32.ofInt f9), .int (Int32.ofInt f10), .int (Int32.ofInt f11), .int (Int32.ofInt f12), .int (Int32.ofInt f13), .long x14, .int (Int32.ofInt f15), .int (Int32.ofInt f16), .int (Int32.ofInt f17), .ref 23, .ref 24, .int (Int32.ofInt f20), .int (Int32.ofInt f21), .int (Int32.ofInt f22), .int (Int32.ofInt f23), .ref 25, .ref 26, .int (Int32.ofInt f26), .ref 27, .int (Int32.ofInt f28), .ref 28, .ref 29, .int (Int32.ofInt f31), .int (Int32.ofInt f32), .int (Int32.ofInt f33), .ref 30, .ref 31, .ref 32, .ref 33, .int (Int32.ofInt f38), .ref 34, .ref 35, .int (Int32.ofInt f41), .ref 36, .ref 37, .int (Int32.ofInt f44), .ref 38, .ref 39, .ref 40, .ref 41, .ref 42, .ref 43, .ref 44]))) → (zix w_2 15 = some (.inl (0, 2400, .inl g15))) → (zix w_2 17 = some (.inl (1, 4, .inl g17))) → (zix w_2 18 = some (.inl (1, 4, .inl g18))) → (zix w_2 23 = some (.inl (1, 121, .inl T2))) → (zix w_2 24 = some (.inl (1, 3, .inl g24))) → (0 ≤ kk ∧ kk ≤ 121) → (∀ j : Int, 0 ≤ j → j < kk → tBy T2 j = 0) → (122 - kk < N) → R (2, [some (.ref 14), some (.int (Int32.ofInt 2)), some (.int (Int32.ofInt kk))], [], w_2, 0, 0) := by
    intro N
    induction N with
    | zero => intros; omega
    | succ N ih2 =>
      intro kk T2 w_2 fr_2 hC14_2 hC15_2 hC17_2 hC18_2 hC23_2 hC24_2 hf0_2 hp0_2 hN2
      refine hR (?_ : R (_, _, _, _, _, _))
      refine hR (t_c 121 (by decide) ?_)
      refine hR (j_ge (by omega) (by omega) (fun hc1 => ?_) (fun hc1 => ?_))
      rotate_left
      · skip
        refine hR (?_ : R (_, _, _, _, _, _))
        refine hR (c_get hC14_2 rfl ?_)
        iterate 2 refine hR (?_ : R (_, _, _, _, _, _))
        refine hR (k_ne (by omega) (fun _ => ?_) (fun hc => by omega))
        refine hR (?_ : R (_, _, _, _, _, _))
        refine hR (x_ast hC23_2 (by omega) (by omega) (Nat.le_of_ble_eq_true rfl) fun w93 ff93 hC93 => ?_)
        have fr94 := wfM_st fr_2 ff93 nX5
        have hC95 := (ff93.2 14 (by (try dsimp only); decide)).trans hC14_2
        have hC96 := (ff93.2 15 (by (try dsimp only); decide)).trans hC15_2
        have hC97 := (ff93.2 17 (by (try dsimp only); decide)).trans hC17_2
        have hC98 := (ff93.2 18 (by (try dsimp only); decide)).trans hC18_2
        have hC99 := (ff93.2 24 (by (try dsimp only); decide)).trans hC24_2
        refine hR (t_inc ?_)
        refine hR (?_ : R (_, _, _, _, _, _))
        exact ih2 _ _ _ fr94 hC95 hC96 hC97 hC98 hC93 hC99 (by omega) (fun j h0 h1 => by rw [zup (by omega)]; by_cases c1 : j = kk; (· rw [if_pos (by omega)]); rw [if_neg (by omega)]; exact hp0_2 j h0 (by omega)) (by omega)
      have hT0 : ∀ j : Int, 0 ≤ j → j < 121 → tBy T2 j = 0 := fun j h0 h1 => hp0_2 j h0 (by omega)
      have hrel := relS_i (c' := f17) hT0 hr3
      iterate 2 refine hR (?_ : R (_, _, _, _, _, _))
      refine hR (c_put hC14_2 rfl rfl fun w2 ff2 hC2 => ?_)
      have fr3 := wfM_st fr_2 ff2 nX0
      have hC4 := (ff2.2 15 (by (try dsimp only); decide)).trans hC15_2
      have hC5 := (ff2.2 17 (by (try dsimp only); decide)).trans hC17_2
      have hC6 := (ff2.2 18 (by (try dsimp only); decide)).trans hC18_2
      have hC7 := (ff2.2 23 (by (try dsimp only); decide)).trans hC23_2
      have hC8 := (ff2.2 24 (by (try dsimp only); decide)).trans hC24_2
      replace hC2 : zix w2 14 = some (.inr (11, [.int (Int32.ofInt f0), .ref 15, .ref 16, .ref 17, .ref 18, .ref 19, .ref 20, .ref 21, .ref 22, .int (Int32.ofInt 0), .int (Int32.ofInt f10), .int (Int32.ofInt f11), .int (Int32.ofInt f12), .int (Int32.ofInt f13), .long x14, .int (Int32.ofInt f15), .int (Int32.ofInt f16), .int (Int32.ofInt f17), .ref 23, .ref 24, .int (Int32.ofInt f20), .int (Int32.ofInt f21), .int (Int32.ofInt f22), .int (Int32.ofInt f23), .ref 25, .ref 26, .int (Int32.ofInt f26), .ref 27, .int (Int32.ofInt f28), .ref 28, .ref 29, .int (Int32.ofInt f31), .int (Int32.ofInt f32), .int (Int32.ofInt f33), .ref 30, .ref 31, .ref 32, .ref 33, .int (Int32.ofInt f38), .ref 34, .ref 35, .int (Int32.ofInt f41), .ref 36, .ref 37, .int (Int32.ofInt f44), .ref 38, .ref 39, .ref 40, .ref 41, .ref 42, .ref 43, .ref 44])) := hC2
      iterate 2 refine hR (?_ : R (_, _, _, _, _, _))
      refine hR (c_put hC2 rfl rfl fun w9 ff9 hC9 => ?_)
      have fr10 := wfM_st fr3 ff9 nX0
      have hC11 := (ff9.2 15 (by (try dsimp only); decide)).trans hC4
      have hC12 := (ff9.2 17 (by (try dsimp only); decide)).trans hC5
      have hC13 := (ff9.2 18 (by (try dsimp only); decide)).trans hC6
      have hC14 := (ff9.2 23 (by (try dsimp only); decide)).trans hC7
      have hC15 := (ff9.2 24 (by (try dsimp only); decide)).trans hC8
      replace hC9 : zix w9 14 = some (.inr (11, [.int (Int32.ofInt f0), .ref 15, .ref 16, .ref 17, .ref 18, .ref 19, .ref 20, .ref 21, .ref 22, .int (Int32.ofInt 0), .int (Int32.ofInt f10), .int (Int32.ofInt f11), .int (Int32.ofInt f12), .int (Int32.ofInt f13), .long x14, .int (Int32.ofInt f15), .int (Int32.ofInt 0), .int (Int32.ofInt f17), .ref 23, .ref 24, .int (Int32.ofInt f20), .int (Int32.ofInt f21), .int (Int32.ofInt f22), .int (Int32.ofInt f23), .ref 25, .ref 26, .int (Int32.ofInt f26), .ref 27, .int (Int32.ofInt f28), .ref 28, .ref 29, .int (Int32.ofInt f31), .int (Int32.ofInt f32), .int (Int32.ofInt f33), .ref 30, .ref 31, .ref 32, .ref 33, .int (Int32.ofInt f38), .ref 34, .ref 35, .int (Int32.ofInt f41), .ref 36, .ref 37, .int (Int32.ofInt f44), .ref 38, .ref 39, .ref 40, .ref 41, .ref 42, .ref 43, .ref 44])) := hC9
      refine hR (?_ : R (_, _, _, _, _, _))
      refine hR (c_obj hC9 (zcall_i 0 0 (Nat.le_of_ble_eq_true rfl) (Nat.le_of_ble_eq_true rfl) (x_token _ _ _ _ _ _ _ _ _ _ _ _ _ _ _ _ _ _ _ _ _ _ _ _ _ _ hC9 hC11 (by omega) hr1 _ fun y9_16 y11_17 y12_18 y13_19 y14_20 w21 gg22 hC23 hp24 => ?_)))
      have fr25 := wfM_tr fr10 gg22 nX1
      have hC26 := (gg22.2 15 (by (try dsimp only); decide)).trans hC11
      have hC27 := (gg22.2 17 (by (try dsimp only); decide)).trans hC12
      have hC28 := (gg22.2 18 (by (try dsimp only); decide)).trans hC13
      have hC29 := (gg22.2 23 (by (try dsimp only); decide)).trans hC14
      have hC30 := (gg22.2 24 (by (try dsimp only); decide)).trans hC15
      obtain ⟨rfl, rfl, rfl, hx31, hw32⟩ := hp24
      refine (?_ : R (_, _, [], w21, 0, 0))
      iterate 2 refine hR (?_ : R (_, _, _, _, _, _))
      refine hR (c_obj hC23 (zcall_i 0 0 (Nat.le_of_ble_eq_true rfl) (Nat.le_of_ble_eq_true rfl) (x_linesS _ _ _ _ _ _ _ _ _ _ _ _ _ _ _ _ _ _ _ _ _ _ _ _ _ _ _ _ _ _ _ hC23 hC26 hC29 hC30 (by omega) hr1 hx31 (by omega) hrel hw32 _ fun v33 a'_34 x'_35 f'_36 c'_37 y15_38 z'_39 T'_40 R'_41 w42 gg43 hC44 hC45 hC46 hp47 hp48 => ?_)))
      have fr49 := wfM_tr fr25 gg43 nX2
      have hC50 := (gg43.2 15 (by (try dsimp only); decide)).trans hC26
      have hC51 := (gg43.2 17 (by (try dsimp only); decide)).trans hC27
      have hC52 := (gg43.2 18 (by (try dsimp only); decide)).trans hC28
      refine (?_ : R (_, _, .int (Int32.ofInt v33) :: [], w42, 0, 0))
      have hge : v33 = 1 → 0 ≤ f'_36 := fun e => by rcases hp47 with ⟨q, b, X, q2, q3⟩ | ⟨q, _⟩; (· have hz := teF_p (g := g) (n := f10) (tl := tlS g f10) (P := fun x : tpS => 0 ≤ x.1) (fun a x h => tlF_p sBeg_g (fun _ => sTake_g) h) 601 0 (f, c, x0, g1, g2) (by rw [sIni_0 hr3]; exact Int.le_refl 0); rw [q2] at hz; have hz2 : 0 ≤ X.1 := hz; have := (relS_rfc q3).1; omega); exact absurd q (by omega)
      have hbd := hp48
      have hyb : v33 = 0 → 0 ≤ y15_38 ∧ y15_38 ≤ 600 := fun e => by rcases hp47 with ⟨q, _⟩ | ⟨q, b, X, q2, q3⟩; (· exact absurd q (by omega)); have hz := te_bd (g := g) (n := f10) (tl := tlS g f10) (fun a x h0 h1 => tl_bd h0 h1) 601 0 (f, c, x0, g1, g2) (by omega) (by omega); rw [q2] at hz; have hz2 : 0 ≤ b ∧ b ≤ f10 := hz; have := tS_b (g := g) (n := f10) (a := b) hz2.1 hz2.2; omega
      iterate 2 refine hR (?_ : R (_, _, _, _, _, _))
      refine hR (c_get hC44 rfl ?_)
      iterate 2 refine hR (?_ : R (_, _, _, _, _, _))
      refine hR (k_eq (by omega) (fun hc53 => ?_) (fun hc53 => ?_))
      · skip
        refine hR (?_ : R (_, _, _, _, _, _))
        refine hR (x_ast hC51 (by omega) (by omega) (Nat.le_of_ble_eq_true rfl) fun w54 ff54 hC54 => ?_)
        have fr55 := wfM_st fr49 ff54 nX3
        have hC56 := (ff54.2 14 (by (try dsimp only); decide)).trans hC44
        have hC57 := (ff54.2 15 (by (try dsimp only); decide)).trans hC50
        have hC58 := (ff54.2 18 (by (try dsimp only); decide)).trans hC52
        have hC59 := (ff54.2 23 (by (try dsimp only); decide)).trans hC45
        have hC60 := (ff54.2 24 (by (try dsimp only); decide)).trans hC46
        refine hR (?_ : R (_, _, _, _, _, _))
        refine hR (c_get hC56 rfl ?_)
        iterate 2 refine hR (?_ : R (_, _, _, _, _, _))
        refine hR (k_ne (by omega) (fun hc => by omega) (fun _ => ?_))
        refine hR (?_ : R (_, _, _, _, _, _))
        refine hR (c_get hC56 rfl ?_)
        refine hR (?_ : R (_, _, _, _, _, _))
        refine hR (x_ast hC58 (by omega) (by omega) (Nat.le_of_ble_eq_true rfl) fun w61 ff61 hC61 => ?_)
        have fr62 := wfM_st fr55 ff61 nX4
        have hC63 := (ff61.2 14 (by (try dsimp only); decide)).trans hC56
        have hC64 := (ff61.2 15 (by (try dsimp only); decide)).trans hC57
        have hC65 := (ff61.2 17 (by (try dsimp only); decide)).trans hC54
        have hC66 := (ff61.2 23 (by (try dsimp only); decide)).trans hC59
        have hC67 := (ff61.2 24 (by (try dsimp only); decide)).trans hC60
        have e17 : tBy (upd g17 (0 : Int).toNat (Int32.ofInt 1)) 0 = 1 := (zup (by omega) 0).trans (if_pos rfl)
        refine hR (?_ : R (_, _, _, _, _, _))
        refine hR (c_get hC63 rfl ?_)
        refine hR (?_ : R (_, _, _, _, _, _))
        refine hR (c_aldE hC65 (by omega) (by omega) (Nat.le_of_ble_eq_true rfl) fun v68 ev68 rv68 => ?_)
        replace ev68 : v68 = tBy (upd g17 (0 : Int).toNat (Int32.ofInt 1)) 0 := ev68
        subst ev68
        refine hR (k_ne (by omega) (fun _ => ?_) (fun hc => by omega))
        refine hR (?_ : R (_, _, _, _, _, _))
        exact hR (zret_i rfl (Nat.le_refl _) (zbo (by omega)) (h _ _ _ _ _ _ _ _ _ _ _ _ fr62 hC63 hC65 hC61 hC66 hC67 (by rcases hp47 with ⟨q, _⟩ | ⟨q, b, X, q2, q3⟩; (· exact absurd q (by omega)); exact Or.inr (Or.inr ⟨rfl, b, X, q2, ((zup (by omega) 0).trans (if_pos rfl)), ((zup (by omega) 0).trans (if_pos rfl)).trans q3⟩)) (fun i hi => ⟨(zup (by omega) i).trans (if_neg (by omega)), (zup (by omega) i).trans (if_neg (by omega))⟩) (by omega)))
      refine hR (?_ : R (_, _, _, _, _, _))
      refine hR (c_get hC44 rfl ?_)
      refine hR (?_ : R (_, _, _, _, _, _))
      refine hR (x_ast hC51 (by omega) (by omega) (Nat.le_of_ble_eq_true rfl) fun w69 ff69 hC69 => ?_)
      have fr70 := wfM_st fr49 ff69 nX3
      have hC71 := (ff69.2 14 (by (try dsimp only); decide)).trans hC44
      have hC72 := (ff69.2 15 (by (try dsimp only); decide)).trans hC50
      have hC73 := (ff69.2 18 (by (try dsimp only); decide)).trans hC52
      have hC74 := (ff69.2 23 (by (try dsimp only); decide)).trans hC45
      have hC75 := (ff69.2 24 (by (try dsimp only); decide)).trans hC46
      refine hR (?_ : R (_, _, _, _, _, _))
      refine hR (c_get hC71 rfl ?_)
      iterate 2 refine hR (?_ : R (_, _, _, _, _, _))
      refine hR (k_ne (by omega) (fun _ => ?_) (fun hc => by omega))
      refine hR (?_ : R (_, _, _, _, _, _))
      refine hR (c_get hC71 rfl ?_)
      refine hR (k_le (by omega) (fun hc76 => ?_) (fun hc76 => ?_))
      · skip
        refine hR (?_ : R (_, _, _, _, _, _))
        refine hR (x_ast hC73 (by omega) (by omega) (Nat.le_of_ble_eq_true rfl) fun w77 ff77 hC77 => ?_)
        have fr78 := wfM_st fr70 ff77 nX4
        have hC79 := (ff77.2 14 (by (try dsimp only); decide)).trans hC71
        have hC80 := (ff77.2 15 (by (try dsimp only); decide)).trans hC72
        have hC81 := (ff77.2 17 (by (try dsimp only); decide)).trans hC69
        have hC82 := (ff77.2 23 (by (try dsimp only); decide)).trans hC74
        have hC83 := (ff77.2 24 (by (try dsimp only); decide)).trans hC75
        have e17 : tBy (upd g17 (0 : Int).toNat (Int32.ofInt f'_36)) 0 = f'_36 := (zup (by omega) 0).trans (if_pos rfl)
        refine hR (?_ : R (_, _, _, _, _, _))
        refine hR (c_get hC79 rfl ?_)
        refine hR (?_ : R (_, _, _, _, _, _))
        refine hR (c_aldE hC81 (by omega) (by omega) (Nat.le_of_ble_eq_true rfl) fun v84 ev84 rv84 => ?_)
        replace ev84 : v84 = tBy (upd g17 (0 : Int).toNat (Int32.ofInt f'_36)) 0 := ev84
        subst ev84
        refine hR (k_ne (by omega) (fun hc => by omega) (fun _ => ?_))
        iterate 2 refine hR (?_ : R (_, _, _, _, _, _))
        exact hR (zret_i rfl (Nat.le_refl _) (zbo (by omega)) (h _ _ _ _ _ _ _ _ _ _ _ _ fr78 hC79 hC81 hC77 hC82 hC83 (by rcases hp47 with ⟨q, b, X, q2, q3⟩ | ⟨q, _⟩; (· have hf := relS_rfc q3; have hF : f'_36 = 0 := (by have := hge (by omega); omega); exact Or.inl ⟨rfl, b, X, q2, hf.1.trans hF, q3, ((zup (by omega) 0).trans (if_pos rfl)).trans hF, ((zup (by omega) 0).trans (if_pos rfl))⟩); exact absurd q (by omega)) (fun i hi => ⟨(zup (by omega) i).trans (if_neg (by omega)), (zup (by omega) i).trans (if_neg (by omega))⟩) (by omega)))
      refine hR (?_ : R (_, _, _, _, _, _))
      refine hR (c_get hC71 rfl ?_)
      refine hR (?_ : R (_, _, _, _, _, _))
      refine hR (x_ast hC73 (by omega) (by omega) (Nat.le_of_ble_eq_true rfl) fun w85 ff85 hC85 => ?_)
      have fr86 := wfM_st fr70 ff85 nX4
      have hC87 := (ff85.2 14 (by (try dsimp only); decide)).trans hC71
      have hC88 := (ff85.2 15 (by (try dsimp only); decide)).trans hC72
      have hC89 := (ff85.2 17 (by (try dsimp only); decide)).trans hC69
      have hC90 := (ff85.2 23 (by (try dsimp only); decide)).trans hC74
      have hC91 := (ff85.2 24 (by (try dsimp only); decide)).trans hC75
      have e17 : tBy (upd g17 (0 : Int).toNat (Int32.ofInt f'_36)) 0 = f'_36 := (zup (by omega) 0).trans (if_pos rfl)
      refine hR (?_ : R (_, _, _, _, _, _))
      refine hR (c_get hC87 rfl ?_)
      refine hR (?_ : R (_, _, _, _, _, _))
      refine hR (c_aldE hC89 (by omega) (by omega) (Nat.le_of_ble_eq_true rfl) fun v92 ev92 rv92 => ?_)
      replace ev92 : v92 = tBy (upd g17 (0 : Int).toNat (Int32.ofInt f'_36)) 0 := ev92
      subst ev92
      refine hR (k_ne (by omega) (fun _ => ?_) (fun hc => by omega))
      refine hR (?_ : R (_, _, _, _, _, _))
      exact hR (zret_i rfl (Nat.le_refl _) (zbo (by omega)) (h _ _ _ _ _ _ _ _ _ _ _ _ fr86 hC87 hC89 hC85 hC90 hC91 (by rcases hp47 with ⟨q, b, X, q2, q3⟩ | ⟨q, _⟩; (· have hf := relS_rfc q3; exact Or.inr (Or.inl ⟨rfl, b, X, q2, fun zz => absurd (hf.1.symm.trans zz) (by omega), ((zup (by omega) 0).trans (if_pos rfl)).trans hf.1.symm, ((zup (by omega) 0).trans (if_pos rfl)).trans (hf.2 (by rw [hf.1]; omega)).symm⟩)); exact absurd q (by omega)) (fun i hi => ⟨(zup (by omega) i).trans (if_neg (by omega)), (zup (by omega) i).trans (if_neg (by omega))⟩) (by omega)))
  exact lp2 400000000 _ _ _ fr0 hK0 hK1 hK2 hK3 hK4 hK5 (by omega) (fun j h0 h1 => absurd h1 (by omega)) (by omega)
