/-! A TEXT TOLD, exactly. -/
theorem nmF_b2 {g : Nat → Int32} {n : Int} {α : Type} {tk : Int → Int → Int → α → α} : ∀ (m : Nat) (k a : Int) (x : α), 0 ≤ a → a ≤ n → a ≤ (nmF g n tk m k a x).2.1 ∧ (nmF g n tk m k a x).2.1 ≤ n
  | 0, k, a, x, h0, h1 => ⟨Int.le_refl _, h1⟩
  | m + 1, k, a, x, h0, h1 => by
    by_cases hk : tK g n a = 2
    · have e : nmF g n tk (m + 1) k a x = nmF g n tk m (k + 1) (tE g n a) (tk k (tV g n a) (tS g n a) x) := if_pos hk
      rw [e]
      have hs := tS_b (g := g) h0 h1
      have he := tE_b (g := g) h0 h1
      have := nmF_b2 (g := g) (n := n) (tk := tk) m (k + 1) (tE g n a) (tk k (tV g n a) (tS g n a) x) (by omega) (by omega)
      omega
    · have e : nmF g n tk (m + 1) k a x = (k, a, x) := if_neg hk
      rw [e]
      exact ⟨Int.le_refl _, h1⟩
theorem tl_gt {g : Nat → Int32} {n : Int} {α : Type} {ln : Int → Int} {bg : Int → Int → α → α} {tk : Int → Int → Int → Int → α → α} {ms fw : Int → Int} {a : Int} {x : α} (h0 : 0 ≤ a) (h1 : a ≤ n) : (tlF g n ln bg tk ms fw a x).1 = true → a < (tlF g n ln bg tk ms fw a x).2.1 := by
  have hs := tS_b (g := g) h0 h1
  have he := tE_b (g := g) h0 h1
  unfold tlF
  split
  · unfold tlG tlH
    have hb := nmF_b2 (g := g) (n := n) (tk := tk (ln (tkW g n a))) (ms (ln (tkW g n a))).toNat 0 (tE g n a) (bg (ln (tkW g n a)) (tS g n a) x) (by omega) (by omega)
    generalize nmF g n (tk (ln (tkW g n a))) (ms (ln (tkW g n a))).toNat 0 (tE g n a) (bg (ln (tkW g n a)) (tS g n a) x) = r at hb ⊢
    split
    · intro z
      exact absurd (show false = true from z) (by decide)
    · rename_i q
      intro _
      have h3 : tK g n r.2.1 = 3 := by
        rcases Int.lt_trichotomy (tK g n r.2.1) 3 with z | z | z
        · exact absurd (Or.inr (by omega)) q
        · exact z
        · exact absurd (Or.inr (by omega)) q
      have hn := tK_n (g := g) (n := n) (a := r.2.1) (by omega)
      have hs2 := tS_b (g := g) (n := n) (a := r.2.1) (by omega) (by omega)
      have he2 := tE_b (g := g) (n := n) (a := r.2.1) (by omega) (by omega)
      show a < tE g n r.2.1
      omega
  · intro z
    exact absurd (show false = true from z) (by decide)
set_option maxHeartbeats 8000000 in
theorem x_bTell (w : zW) (d : Nat) (p t q : Nat) (l : Int) (tv : Value) (l0 at0 k0 s0 v0 e0 d0 x0 x1 x2 : Int) (g g1 g2 g3 g4 : Nat → Int32) (hK0 : zix w p = some (.inr (6, [tv, .int (Int32.ofInt l0), .int (Int32.ofInt at0), .int (Int32.ofInt k0), .int (Int32.ofInt s0), .int (Int32.ofInt v0), .int (Int32.ofInt e0), .int (Int32.ofInt d0)]))) (hK1 : zix w t = some (.inl (0, 600, .inl g))) (hK2 : zix w q = some (.inr (0, [.int (Int32.ofInt x0), .int (Int32.ofInt x1), .int (Int32.ofInt x2), .ref (q + 1), .ref (q + 2), .ref (q + 3), .ref (q + 4)]))) (hK3 : zix w (q + 1) = some (.inl (1, 4, .inl g1))) (hK4 : zix w (q + 2) = some (.inl (1, 5, .inl g2))) (hK5 : zix w (q + 3) = some (.inl (1, 20, .inl g3))) (hK6 : zix w (q + 4) = some (.inl (1, 20, .inl g4))) (hr0 : p < q ∧ t < q ∧ p ≠ t) (hr1 : 0 ≤ l ∧ l ≤ 600) (hr2 : bOK (0, -1, x0, x1, x2, g1, g2, g3, g4)) (Q : zQ) (h : ∀ (v : Int) (a' x' f' c' x0' x1' x2' : Int) (g1' g2' g3' g4' : Nat → Int32) (w' : zW), wfM (fun j => j ≠ p ∧ (j < q ∨ q + 5 ≤ j)) w w' → zix w' p = some (.inr (6, [.ref t, .int (Int32.ofInt l), .int (Int32.ofInt (tE g l a')), .int (Int32.ofInt (tK g l a')), .int (Int32.ofInt (tS g l a')), .int (Int32.ofInt x'), .int (Int32.ofInt f'), .int (Int32.ofInt c')])) → zix w' q = some (.inr (0, [.int (Int32.ofInt x0'), .int (Int32.ofInt x1'), .int (Int32.ofInt x2'), .ref (q + 1), .ref (q + 2), .ref (q + 3), .ref (q + 4)])) → zix w' (q + 1) = some (.inl (1, 4, .inl g1')) → zix w' (q + 2) = some (.inl (1, 5, .inl g2')) → zix w' (q + 3) = some (.inl (1, 20, .inl g3')) → zix w' (q + 4) = some (.inl (1, 20, .inl g4')) → ((v = 1 ∧ teF g l (tlB g l) 601 0 (0, -1, x0, x1, x2, g1, g2, g3, g4) = (true, a', (f', c', x0', x1', x2', g1', g2', g3', g4')) ∧ f' = 0) ∨ (v = 0 ∧ teF g l (tlB g l) 601 0 (0, -1, x0, x1, x2, g1, g2, g3, g4) = (true, a', (f', c', x0', x1', x2', g1', g2', g3', g4')) ∧ f' ≠ 0) ∨ (v = 0 ∧ ∃ X, teF g l (tlB g l) 601 0 (0, -1, x0, x1, x2, g1, g2, g3, g4) = (false, a', X) ∧ f' = 1 ∧ c' = tS g l a')) → ((v = 0 ∨ v = 1) ∧ 0 ≤ a' ∧ a' ≤ l) → Q (some (.int (Int32.ofInt v))) w') : zCl zTab (d + 8) iX7_tell [.ref p, .ref t, .int (Int32.ofInt l), .ref q] w 0 0 Q := by
  refine zCl_i (M := kX7_tell) rfl (Nat.le_of_ble_eq_true rfl) fun R hR => ?_
  have fr0 : wfM (fun j => j ≠ p ∧ (j < q ∨ q + 5 ≤ j)) w w := wfM_rf _ w
  have hb1 := tS_b (g := g) (n := l) (a := 0) (by omega) (by omega)
  have hb2 := tE_b (g := g) (n := l) (a := 0) (by omega) (by omega)
  have hb3 := tK_r (g := g) (n := l) (a := 0)
  have nX0 : FX (∀ j : Nat, (j ≠ p ∧ (j < q ∨ q + 5 ≤ j)) → j ≠ p) := fun j hj => by omega
  have nX1 : FX (t ≠ p) := (show t ≠ p by omega)
  have nX2 : FX (q ≠ p) := (show q ≠ p by omega)
  have nX3 : FX ((q + 1) ≠ p) := (show (q + 1) ≠ p by omega)
  have nX4 : FX ((q + 2) ≠ p) := (show (q + 2) ≠ p by omega)
  have nX5 : FX ((q + 3) ≠ p) := (show (q + 3) ≠ p by omega)
  have nX6 : FX ((q + 4) ≠ p) := (show (q + 4) ≠ p by omega)
  have nX7 : FX (p ≠ t) := (show p ≠ t by omega)
  have nX8 : FX (∀ j : Nat, (j ≠ p ∧ (j < q ∨ q + 5 ≤ j)) → (j ≠ p)) := fun j hj => by omega
  have nX9 : FX (p < q ∧ t < q ∧ p ≠ t) := (show p < q ∧ t < q ∧ p ≠ t by omega)
  have nX10 : FX (∀ j : Nat, (j ≠ p ∧ (j < q ∨ q + 5 ≤ j)) → (j ≠ p ∧ (j < q ∨ q + 5 ≤ j))) := fun j hj => by omega
  have nX11 : FX (t ≠ p ∧ (t < q ∨ q + 5 ≤ t)) := (show t ≠ p ∧ (t < q ∨ q + 5 ≤ t) by omega)
  iterate 2 refine hR (?_ : R (_, _, _, _, _, _))
  refine hR (c_put hK0 rfl rfl fun w4 ff4 hC4 => ?_)
  have fr5 := wfM_st fr0 ff4 nX0
  have hC6 := (ff4.2 t nX1).trans hK1
  have hC7 := (ff4.2 q nX2).trans hK2
  have hC8 := (ff4.2 (q + 1) nX3).trans hK3
  have hC9 := (ff4.2 (q + 2) nX4).trans hK4
  have hC10 := (ff4.2 (q + 3) nX5).trans hK5
  have hC11 := (ff4.2 (q + 4) nX6).trans hK6
  replace hC4 : zix w4 p = some (.inr (6, [.ref t, .int (Int32.ofInt l0), .int (Int32.ofInt at0), .int (Int32.ofInt k0), .int (Int32.ofInt s0), .int (Int32.ofInt v0), .int (Int32.ofInt e0), .int (Int32.ofInt d0)])) := hC4
  iterate 2 refine hR (?_ : R (_, _, _, _, _, _))
  refine hR (c_put hC4 rfl rfl fun w12 ff12 hC12 => ?_)
  have fr13 := wfM_st fr5 ff12 nX0
  have hC14 := (ff12.2 t nX1).trans hC6
  have hC15 := (ff12.2 q nX2).trans hC7
  have hC16 := (ff12.2 (q + 1) nX3).trans hC8
  have hC17 := (ff12.2 (q + 2) nX4).trans hC9
  have hC18 := (ff12.2 (q + 3) nX5).trans hC10
  have hC19 := (ff12.2 (q + 4) nX6).trans hC11
  replace hC12 : zix w12 p = some (.inr (6, [.ref t, .int (Int32.ofInt l), .int (Int32.ofInt at0), .int (Int32.ofInt k0), .int (Int32.ofInt s0), .int (Int32.ofInt v0), .int (Int32.ofInt e0), .int (Int32.ofInt d0)])) := hC12
  iterate 2 refine hR (?_ : R (_, _, _, _, _, _))
  refine hR (c_put hC12 rfl rfl fun w20 ff20 hC20 => ?_)
  have fr21 := wfM_st fr13 ff20 nX0
  have hC22 := (ff20.2 t nX1).trans hC14
  have hC23 := (ff20.2 q nX2).trans hC15
  have hC24 := (ff20.2 (q + 1) nX3).trans hC16
  have hC25 := (ff20.2 (q + 2) nX4).trans hC17
  have hC26 := (ff20.2 (q + 3) nX5).trans hC18
  have hC27 := (ff20.2 (q + 4) nX6).trans hC19
  replace hC20 : zix w20 p = some (.inr (6, [.ref t, .int (Int32.ofInt l), .int (Int32.ofInt 0), .int (Int32.ofInt k0), .int (Int32.ofInt s0), .int (Int32.ofInt v0), .int (Int32.ofInt e0), .int (Int32.ofInt d0)])) := hC20
  iterate 2 refine hR (?_ : R (_, _, _, _, _, _))
  refine hR (c_put hC20 rfl rfl fun w28 ff28 hC28 => ?_)
  have fr29 := wfM_st fr21 ff28 nX0
  have hC30 := (ff28.2 t nX1).trans hC22
  have hC31 := (ff28.2 q nX2).trans hC23
  have hC32 := (ff28.2 (q + 1) nX3).trans hC24
  have hC33 := (ff28.2 (q + 2) nX4).trans hC25
  have hC34 := (ff28.2 (q + 3) nX5).trans hC26
  have hC35 := (ff28.2 (q + 4) nX6).trans hC27
  replace hC28 : zix w28 p = some (.inr (6, [.ref t, .int (Int32.ofInt l), .int (Int32.ofInt 0), .int (Int32.ofInt k0), .int (Int32.ofInt s0), .int (Int32.ofInt v0), .int (Int32.ofInt 0), .int (Int32.ofInt d0)])) := hC28
  iterate 2 refine hR (?_ : R (_, _, _, _, _, _))
  refine hR (c_put hC28 rfl rfl fun w36 ff36 hC36 => ?_)
  have fr37 := wfM_st fr29 ff36 nX0
  have hC38 := (ff36.2 t nX1).trans hC30
  have hC39 := (ff36.2 q nX2).trans hC31
  have hC40 := (ff36.2 (q + 1) nX3).trans hC32
  have hC41 := (ff36.2 (q + 2) nX4).trans hC33
  have hC42 := (ff36.2 (q + 3) nX5).trans hC34
  have hC43 := (ff36.2 (q + 4) nX6).trans hC35
  replace hC36 : zix w36 p = some (.inr (6, [.ref t, .int (Int32.ofInt l), .int (Int32.ofInt 0), .int (Int32.ofInt k0), .int (Int32.ofInt s0), .int (Int32.ofInt v0), .int (Int32.ofInt 0), .int (Int32.ofInt ((-1)))])) := hC36
  refine hR (?_ : R (_, _, _, _, _, _))
  refine hR (c_obj hC36 (zcall_i 0 0 (Nat.le_of_ble_eq_true rfl) (Nat.le_of_ble_eq_true rfl) (x_advance _ _ _ _ _ _ _ _ _ _ _ _ hC36 hC38 (show p ≠ t from nX7) (by omega) _ fun a'_44 k'_45 s'_46 x'_47 w48 gg49 hC50 hp51 => ?_)))
  have fr52 := wfM_tr fr37 gg49 nX8
  have hC53 := (gg49.2 t nX1).trans hC38
  have hC54 := (gg49.2 q nX2).trans hC39
  have hC55 := (gg49.2 (q + 1) nX3).trans hC40
  have hC56 := (gg49.2 (q + 2) nX4).trans hC41
  have hC57 := (gg49.2 (q + 3) nX5).trans hC42
  have hC58 := (gg49.2 (q + 4) nX6).trans hC43
  obtain ⟨rfl, rfl, rfl, hx59⟩ := hp51
  replace hx59 : FX _ := hx59
  refine (?_ : R (_, _, [], w48, 0, 0))
  iterate 2 refine hR (?_ : R (_, _, _, _, _, _))
  have lp32 : ∀ (N : Nat) (it : Int) (a2 xv f_2 c_2 x0_2 x1_2 x2_2 : Int) (g1_2 g2_2 g3_2 g4_2 : Nat → Int32) (w_32 : zW), (wfM (fun j => j ≠ p ∧ (j < q ∨ q + 5 ≤ j)) w w_32) → (zix w_32 p = some (.inr (6, [.ref t, .int (Int32.ofInt l), .int (Int32.ofInt (tE g l a2)), .int (Int32.ofInt (tK g l a2)), .int (Int32.ofInt (tS g l a2)), .int (Int32.ofInt xv), .int (Int32.ofInt f_2), .int (Int32.ofInt c_2)]))) → (zix w_32 t = some (.inl (0, 600, .inl g))) → (zix w_32 q = some (.inr (0, [.int (Int32.ofInt x0_2), .int (Int32.ofInt x1_2), .int (Int32.ofInt x2_2), .ref (q + 1), .ref (q + 2), .ref (q + 3), .ref (q + 4)]))) → (zix w_32 (q + 1) = some (.inl (1, 4, .inl g1_2))) → (zix w_32 (q + 2) = some (.inl (1, 5, .inl g2_2))) → (zix w_32 (q + 3) = some (.inl (1, 20, .inl g3_2))) → (zix w_32 (q + 4) = some (.inl (1, 20, .inl g4_2))) → (0 ≤ it ∧ it ≤ 601) → (teF g l (tlB g l) (601 - it).toNat a2 (f_2, c_2, x0_2, x1_2, x2_2, g1_2, g2_2, g3_2, g4_2) = teF g l (tlB g l) 601 0 (0, -1, x0, x1, x2, g1, g2, g3, g4)) → (tK g l a2 = 2 → xv = tV g l a2) → (0 ≤ a2 ∧ a2 ≤ l ∧ it ≤ a2) → (bOK (f_2, c_2, x0_2, x1_2, x2_2, g1_2, g2_2, g3_2, g4_2)) → (602 - it < N) → R (32, [some (.ref p), some (.ref t), some (.int (Int32.ofInt l)), some (.ref q), some (.int (Int32.ofInt it))], [], w_32, 0, 0) := by
    intro N
    induction N with
    | zero => intros; omega
    | succ N ih32 =>
      intro it a2 xv f_2 c_2 x0_2 x1_2 x2_2 g1_2 g2_2 g3_2 g4_2 w_32 fr_32 hCp_32 hCt_32 hCq_32 hCq1_32 hCq2_32 hCq3_32 hCq4_32 hf0_32 hp0_32 hp1_32 hp2_32 hp3_32 hN32
      have hb60 := tS_b (g := g) (n := l) (a := a2) (by omega) (by omega)
      have hb61 := tE_b (g := g) (n := l) (a := a2) (by omega) (by omega)
      have hb62 := tK_r (g := g) (n := l) (a := a2)
      have hfr : -2147483648 ≤ f_2 ∧ f_2 ≤ 2147483647 := hp3_32.1.1
      refine hR (?_ : R (_, _, _, _, _, _))
      refine hR (t_c 600 (by decide) ?_)
      refine hR (j_gt (by omega) (by omega) (fun hc => by omega) (fun _ => ?_))
      refine hR (?_ : R (_, _, _, _, _, _))
      refine hR (c_get hCp_32 rfl ?_)
      refine hR (k_eq (by omega) (fun hc63 => ?_) (fun hc63 => ?_))
      · skip
        refine hR (?_ : R (_, _, _, _, _, _))
        refine hR (c_get hCp_32 rfl ?_)
        refine hR (k_ne (by omega) (fun hc64 => ?_) (fun hc64 => ?_))
        · skip
          refine hR (?_ : R (_, _, _, _, _, _))
          exact hR (zret_i rfl (Nat.le_refl _) (zbo (by omega)) (h _ _ _ _ _ _ _ _ _ _ _ _ _ fr_32 hCp_32 hCq_32 hCq1_32 hCq2_32 hCq3_32 hCq4_32 (Or.inr (Or.inl ⟨rfl, hp0_32.symm.trans (teF_e (ms := 601) (Or.inr (by omega))), by omega⟩)) (by omega)))
        iterate 2 refine hR (?_ : R (_, _, _, _, _, _))
        exact hR (zret_i rfl (Nat.le_refl _) (zbo (by omega)) (h _ _ _ _ _ _ _ _ _ _ _ _ _ fr_32 hCp_32 hCq_32 hCq1_32 hCq2_32 hCq3_32 hCq4_32 (Or.inl ⟨rfl, hp0_32.symm.trans (teF_e (ms := 601) (Or.inr (by omega))), by omega⟩) (by omega)))
      iterate 2 refine hR (?_ : R (_, _, _, _, _, _))
      refine hR (c_obj hCp_32 (zcall_i 0 0 (Nat.le_of_ble_eq_true rfl) (Nat.le_of_ble_eq_true rfl) (x_bTellLine _ _ _ _ _ _ _ _ _ _ _ _ _ _ _ _ _ _ hCp_32 hCt_32 hCq_32 hCq1_32 hCq2_32 hCq3_32 hCq4_32 (show p < q ∧ t < q ∧ p ≠ t from nX9) (by omega) hp3_32 hp1_32 _ fun v65 a'_66 x'_67 f'_68 c'_69 x0'_70 x1'_71 x2'_72 g1'_73 g2'_74 g3'_75 g4'_76 w77 gg78 hC79 hC80 hC81 hC82 hC83 hC84 hp85 hp86 hp87 hp88 => ?_)))
      have fr89 := wfM_tr fr_32 gg78 nX10
      have hC90 := (gg78.2 t nX11).trans hCt_32
      refine (?_ : R (_, _, .int (Int32.ofInt v65) :: [], w77, 0, 0))
      have hgt : v65 = 1 → a2 < a'_66 := by have z := tl_gt (g := g) (n := l) (ln := lnB) (bg := bBeg) (tk := bTake) (ms := bMs) (fw := bFw) (a := a2) (x := (f_2, c_2, x0_2, x1_2, x2_2, g1_2, g2_2, g3_2, g4_2)) (by omega) (by omega); rw [show tlF g l lnB bBeg bTake bMs bFw a2 (f_2, c_2, x0_2, x1_2, x2_2, g1_2, g2_2, g3_2, g4_2) = (decide (v65 = 1), a'_66, (f'_68, c'_69, x0'_70, x1'_71, x2'_72, g1'_73, g2'_74, g3'_75, g4'_76)) from hp85] at z; exact fun e => z (decide_eq_true e)
      refine hR (k_ne (by omega) (fun hc91 => ?_) (fun hc91 => ?_))
      · skip
        refine hR (t_inc ?_)
        refine hR (?_ : R (_, _, _, _, _, _))
        exact ih32 _ _ _ _ _ _ _ _ _ _ _ _ _ fr89 hC79 hC90 hC80 hC81 hC82 hC83 hC84 (by omega) ((teF_s (ms := 601) (by omega) (by omega) (hp85.trans (by rw [decide_eq_true (show v65 = 1 by omega)]))).trans hp0_32) hp86 (by omega) hp88 (by omega)
      iterate 2 refine hR (?_ : R (_, _, _, _, _, _))
      refine hR (c_put hC79 rfl rfl fun w92 ff92 hC92 => ?_)
      have fr93 := wfM_st fr89 ff92 nX0
      have hC94 := (ff92.2 t nX1).trans hC90
      have hC95 := (ff92.2 q nX2).trans hC80
      have hC96 := (ff92.2 (q + 1) nX3).trans hC81
      have hC97 := (ff92.2 (q + 2) nX4).trans hC82
      have hC98 := (ff92.2 (q + 3) nX5).trans hC83
      have hC99 := (ff92.2 (q + 4) nX6).trans hC84
      replace hC92 : zix w92 p = some (.inr (6, [.ref t, .int (Int32.ofInt l), .int (Int32.ofInt (tE g l a'_66)), .int (Int32.ofInt (tK g l a'_66)), .int (Int32.ofInt (tS g l a'_66)), .int (Int32.ofInt x'_67), .int (Int32.ofInt 1), .int (Int32.ofInt c'_69)])) := hC92
      iterate 2 refine hR (?_ : R (_, _, _, _, _, _))
      refine hR (c_get hC92 rfl ?_)
      refine hR (c_put hC92 rfl rfl fun w100 ff100 hC100 => ?_)
      have fr101 := wfM_st fr93 ff100 nX0
      have hC102 := (ff100.2 t nX1).trans hC94
      have hC103 := (ff100.2 q nX2).trans hC95
      have hC104 := (ff100.2 (q + 1) nX3).trans hC96
      have hC105 := (ff100.2 (q + 2) nX4).trans hC97
      have hC106 := (ff100.2 (q + 3) nX5).trans hC98
      have hC107 := (ff100.2 (q + 4) nX6).trans hC99
      replace hC100 : zix w100 p = some (.inr (6, [.ref t, .int (Int32.ofInt l), .int (Int32.ofInt (tE g l a'_66)), .int (Int32.ofInt (tK g l a'_66)), .int (Int32.ofInt (tS g l a'_66)), .int (Int32.ofInt x'_67), .int (Int32.ofInt 1), .int (Int32.ofInt (tS g l a'_66))])) := hC100
      refine hR (?_ : R (_, _, _, _, _, _))
      exact hR (zret_i rfl (Nat.le_refl _) (zbo (by omega)) (h _ _ _ _ _ _ _ _ _ _ _ _ _ fr101 hC100 hC103 hC104 hC105 hC106 hC107 (Or.inr (Or.inr ⟨rfl, _, hp0_32.symm.trans (teF_f (ms := 601) (by omega) (by omega) (hp85.trans (by rw [decide_eq_false (show ¬ v65 = 1 by omega)]))), rfl, rfl⟩)) (by omega)))
  exact lp32 400000000 _ _ _ _ _ _ _ _ _ _ _ _ _ fr52 hC50 hC53 hC54 hC55 hC56 hC57 hC58 (by omega) (by rw [show ((601 : Int) - 0).toNat = 601 from rfl]) hx59 (by omega) hr2 (by omega)
set_option maxHeartbeats 8000000 in
theorem x_yTell (w : zW) (d : Nat) (p t q : Nat) (l : Int) (tv : Value) (l0 at0 k0 s0 v0 e0 d0 x0 : Int) (g g1 g2 g3 : Nat → Int32) (hK0 : zix w p = some (.inr (6, [tv, .int (Int32.ofInt l0), .int (Int32.ofInt at0), .int (Int32.ofInt k0), .int (Int32.ofInt s0), .int (Int32.ofInt v0), .int (Int32.ofInt e0), .int (Int32.ofInt d0)]))) (hK1 : zix w t = some (.inl (0, 600, .inl g))) (hK2 : zix w q = some (.inr (9, [.int (Int32.ofInt x0), .ref (q + 1), .ref (q + 2), .ref (q + 3)]))) (hK3 : zix w (q + 1) = some (.inl (1, 40, .inl g1))) (hK4 : zix w (q + 2) = some (.inl (1, 40, .inl g2))) (hK5 : zix w (q + 3) = some (.inl (1, 40, .inl g3))) (hr0 : p < q ∧ t < q ∧ p ≠ t) (hr1 : 0 ≤ l ∧ l ≤ 600) (hr2 : yOK (0, -1, x0, g1, g2, g3)) (Q : zQ) (h : ∀ (v : Int) (a' x' f' c' x0' : Int) (g1' g2' g3' : Nat → Int32) (w' : zW), wfM (fun j => j ≠ p ∧ (j < q ∨ q + 4 ≤ j)) w w' → zix w' p = some (.inr (6, [.ref t, .int (Int32.ofInt l), .int (Int32.ofInt (tE g l a')), .int (Int32.ofInt (tK g l a')), .int (Int32.ofInt (tS g l a')), .int (Int32.ofInt x'), .int (Int32.ofInt f'), .int (Int32.ofInt c')])) → zix w' q = some (.inr (9, [.int (Int32.ofInt x0'), .ref (q + 1), .ref (q + 2), .ref (q + 3)])) → zix w' (q + 1) = some (.inl (1, 40, .inl g1')) → zix w' (q + 2) = some (.inl (1, 40, .inl g2')) → zix w' (q + 3) = some (.inl (1, 40, .inl g3')) → ((v = 1 ∧ teF g l (tlY g l) 601 0 (0, -1, x0, g1, g2, g3) = (true, a', (f', c', x0', g1', g2', g3')) ∧ f' = 0) ∨ (v = 0 ∧ teF g l (tlY g l) 601 0 (0, -1, x0, g1, g2, g3) = (true, a', (f', c', x0', g1', g2', g3')) ∧ f' ≠ 0) ∨ (v = 0 ∧ ∃ X, teF g l (tlY g l) 601 0 (0, -1, x0, g1, g2, g3) = (false, a', X) ∧ f' = 1 ∧ c' = tS g l a')) → ((v = 0 ∨ v = 1) ∧ 0 ≤ a' ∧ a' ≤ l) → Q (some (.int (Int32.ofInt v))) w') : zCl zTab (d + 8) iX7_tell [.ref p, .ref t, .int (Int32.ofInt l), .ref q] w 0 0 Q := by
  refine zCl_i (M := kX7_tell) rfl (Nat.le_of_ble_eq_true rfl) fun R hR => ?_
  have fr0 : wfM (fun j => j ≠ p ∧ (j < q ∨ q + 4 ≤ j)) w w := wfM_rf _ w
  have hb1 := tS_b (g := g) (n := l) (a := 0) (by omega) (by omega)
  have hb2 := tE_b (g := g) (n := l) (a := 0) (by omega) (by omega)
  have hb3 := tK_r (g := g) (n := l) (a := 0)
  have nX0 : FX (∀ j : Nat, (j ≠ p ∧ (j < q ∨ q + 4 ≤ j)) → j ≠ p) := fun j hj => by omega
  have nX1 : FX (t ≠ p) := (show t ≠ p by omega)
  have nX2 : FX (q ≠ p) := (show q ≠ p by omega)
  have nX3 : FX ((q + 1) ≠ p) := (show (q + 1) ≠ p by omega)
  have nX4 : FX ((q + 2) ≠ p) := (show (q + 2) ≠ p by omega)
  have nX5 : FX ((q + 3) ≠ p) := (show (q + 3) ≠ p by omega)
  have nX6 : FX (p ≠ t) := (show p ≠ t by omega)
  have nX7 : FX (∀ j : Nat, (j ≠ p ∧ (j < q ∨ q + 4 ≤ j)) → (j ≠ p)) := fun j hj => by omega
  have nX8 : FX (p < q ∧ t < q ∧ p ≠ t) := (show p < q ∧ t < q ∧ p ≠ t by omega)
  have nX9 : FX (∀ j : Nat, (j ≠ p ∧ (j < q ∨ q + 4 ≤ j)) → (j ≠ p ∧ (j < q ∨ q + 4 ≤ j))) := fun j hj => by omega
  have nX10 : FX (t ≠ p ∧ (t < q ∨ q + 4 ≤ t)) := (show t ≠ p ∧ (t < q ∨ q + 4 ≤ t) by omega)
  iterate 2 refine hR (?_ : R (_, _, _, _, _, _))
  refine hR (c_put hK0 rfl rfl fun w4 ff4 hC4 => ?_)
  have fr5 := wfM_st fr0 ff4 nX0
  have hC6 := (ff4.2 t nX1).trans hK1
  have hC7 := (ff4.2 q nX2).trans hK2
  have hC8 := (ff4.2 (q + 1) nX3).trans hK3
  have hC9 := (ff4.2 (q + 2) nX4).trans hK4
  have hC10 := (ff4.2 (q + 3) nX5).trans hK5
  replace hC4 : zix w4 p = some (.inr (6, [.ref t, .int (Int32.ofInt l0), .int (Int32.ofInt at0), .int (Int32.ofInt k0), .int (Int32.ofInt s0), .int (Int32.ofInt v0), .int (Int32.ofInt e0), .int (Int32.ofInt d0)])) := hC4
  iterate 2 refine hR (?_ : R (_, _, _, _, _, _))
  refine hR (c_put hC4 rfl rfl fun w11 ff11 hC11 => ?_)
  have fr12 := wfM_st fr5 ff11 nX0
  have hC13 := (ff11.2 t nX1).trans hC6
  have hC14 := (ff11.2 q nX2).trans hC7
  have hC15 := (ff11.2 (q + 1) nX3).trans hC8
  have hC16 := (ff11.2 (q + 2) nX4).trans hC9
  have hC17 := (ff11.2 (q + 3) nX5).trans hC10
  replace hC11 : zix w11 p = some (.inr (6, [.ref t, .int (Int32.ofInt l), .int (Int32.ofInt at0), .int (Int32.ofInt k0), .int (Int32.ofInt s0), .int (Int32.ofInt v0), .int (Int32.ofInt e0), .int (Int32.ofInt d0)])) := hC11
  iterate 2 refine hR (?_ : R (_, _, _, _, _, _))
  refine hR (c_put hC11 rfl rfl fun w18 ff18 hC18 => ?_)
  have fr19 := wfM_st fr12 ff18 nX0
  have hC20 := (ff18.2 t nX1).trans hC13
  have hC21 := (ff18.2 q nX2).trans hC14
  have hC22 := (ff18.2 (q + 1) nX3).trans hC15
  have hC23 := (ff18.2 (q + 2) nX4).trans hC16
  have hC24 := (ff18.2 (q + 3) nX5).trans hC17
  replace hC18 : zix w18 p = some (.inr (6, [.ref t, .int (Int32.ofInt l), .int (Int32.ofInt 0), .int (Int32.ofInt k0), .int (Int32.ofInt s0), .int (Int32.ofInt v0), .int (Int32.ofInt e0), .int (Int32.ofInt d0)])) := hC18
  iterate 2 refine hR (?_ : R (_, _, _, _, _, _))
  refine hR (c_put hC18 rfl rfl fun w25 ff25 hC25 => ?_)
  have fr26 := wfM_st fr19 ff25 nX0
  have hC27 := (ff25.2 t nX1).trans hC20
  have hC28 := (ff25.2 q nX2).trans hC21
  have hC29 := (ff25.2 (q + 1) nX3).trans hC22
  have hC30 := (ff25.2 (q + 2) nX4).trans hC23
  have hC31 := (ff25.2 (q + 3) nX5).trans hC24
  replace hC25 : zix w25 p = some (.inr (6, [.ref t, .int (Int32.ofInt l), .int (Int32.ofInt 0), .int (Int32.ofInt k0), .int (Int32.ofInt s0), .int (Int32.ofInt v0), .int (Int32.ofInt 0), .int (Int32.ofInt d0)])) := hC25
  iterate 2 refine hR (?_ : R (_, _, _, _, _, _))
  refine hR (c_put hC25 rfl rfl fun w32 ff32 hC32 => ?_)
  have fr33 := wfM_st fr26 ff32 nX0
  have hC34 := (ff32.2 t nX1).trans hC27
  have hC35 := (ff32.2 q nX2).trans hC28
  have hC36 := (ff32.2 (q + 1) nX3).trans hC29
  have hC37 := (ff32.2 (q + 2) nX4).trans hC30
  have hC38 := (ff32.2 (q + 3) nX5).trans hC31
  replace hC32 : zix w32 p = some (.inr (6, [.ref t, .int (Int32.ofInt l), .int (Int32.ofInt 0), .int (Int32.ofInt k0), .int (Int32.ofInt s0), .int (Int32.ofInt v0), .int (Int32.ofInt 0), .int (Int32.ofInt ((-1)))])) := hC32
  refine hR (?_ : R (_, _, _, _, _, _))
  refine hR (c_obj hC32 (zcall_i 0 0 (Nat.le_of_ble_eq_true rfl) (Nat.le_of_ble_eq_true rfl) (x_advance _ _ _ _ _ _ _ _ _ _ _ _ hC32 hC34 (show p ≠ t from nX6) (by omega) _ fun a'_39 k'_40 s'_41 x'_42 w43 gg44 hC45 hp46 => ?_)))
  have fr47 := wfM_tr fr33 gg44 nX7
  have hC48 := (gg44.2 t nX1).trans hC34
  have hC49 := (gg44.2 q nX2).trans hC35
  have hC50 := (gg44.2 (q + 1) nX3).trans hC36
  have hC51 := (gg44.2 (q + 2) nX4).trans hC37
  have hC52 := (gg44.2 (q + 3) nX5).trans hC38
  obtain ⟨rfl, rfl, rfl, hx53⟩ := hp46
  replace hx53 : FX _ := hx53
  refine (?_ : R (_, _, [], w43, 0, 0))
  iterate 2 refine hR (?_ : R (_, _, _, _, _, _))
  have lp32 : ∀ (N : Nat) (it : Int) (a2 xv f_2 c_2 x0_2 : Int) (g1_2 g2_2 g3_2 : Nat → Int32) (w_32 : zW), (wfM (fun j => j ≠ p ∧ (j < q ∨ q + 4 ≤ j)) w w_32) → (zix w_32 p = some (.inr (6, [.ref t, .int (Int32.ofInt l), .int (Int32.ofInt (tE g l a2)), .int (Int32.ofInt (tK g l a2)), .int (Int32.ofInt (tS g l a2)), .int (Int32.ofInt xv), .int (Int32.ofInt f_2), .int (Int32.ofInt c_2)]))) → (zix w_32 t = some (.inl (0, 600, .inl g))) → (zix w_32 q = some (.inr (9, [.int (Int32.ofInt x0_2), .ref (q + 1), .ref (q + 2), .ref (q + 3)]))) → (zix w_32 (q + 1) = some (.inl (1, 40, .inl g1_2))) → (zix w_32 (q + 2) = some (.inl (1, 40, .inl g2_2))) → (zix w_32 (q + 3) = some (.inl (1, 40, .inl g3_2))) → (0 ≤ it ∧ it ≤ 601) → (teF g l (tlY g l) (601 - it).toNat a2 (f_2, c_2, x0_2, g1_2, g2_2, g3_2) = teF g l (tlY g l) 601 0 (0, -1, x0, g1, g2, g3)) → (tK g l a2 = 2 → xv = tV g l a2) → (0 ≤ a2 ∧ a2 ≤ l ∧ it ≤ a2) → (yOK (f_2, c_2, x0_2, g1_2, g2_2, g3_2)) → (602 - it < N) → R (32, [some (.ref p), some (.ref t), some (.int (Int32.ofInt l)), some (.ref q), some (.int (Int32.ofInt it))], [], w_32, 0, 0) := by
    intro N
    induction N with
    | zero => intros; omega
    | succ N ih32 =>
      intro it a2 xv f_2 c_2 x0_2 g1_2 g2_2 g3_2 w_32 fr_32 hCp_32 hCt_32 hCq_32 hCq1_32 hCq2_32 hCq3_32 hf0_32 hp0_32 hp1_32 hp2_32 hp3_32 hN32
      have hb54 := tS_b (g := g) (n := l) (a := a2) (by omega) (by omega)
      have hb55 := tE_b (g := g) (n := l) (a := a2) (by omega) (by omega)
      have hb56 := tK_r (g := g) (n := l) (a := a2)
      have hfr : -2147483648 ≤ f_2 ∧ f_2 ≤ 2147483647 := hp3_32.1
      refine hR (?_ : R (_, _, _, _, _, _))
      refine hR (t_c 600 (by decide) ?_)
      refine hR (j_gt (by omega) (by omega) (fun hc => by omega) (fun _ => ?_))
      refine hR (?_ : R (_, _, _, _, _, _))
      refine hR (c_get hCp_32 rfl ?_)
      refine hR (k_eq (by omega) (fun hc57 => ?_) (fun hc57 => ?_))
      · skip
        refine hR (?_ : R (_, _, _, _, _, _))
        refine hR (c_get hCp_32 rfl ?_)
        refine hR (k_ne (by omega) (fun hc58 => ?_) (fun hc58 => ?_))
        · skip
          refine hR (?_ : R (_, _, _, _, _, _))
          exact hR (zret_i rfl (Nat.le_refl _) (zbo (by omega)) (h _ _ _ _ _ _ _ _ _ _ fr_32 hCp_32 hCq_32 hCq1_32 hCq2_32 hCq3_32 (Or.inr (Or.inl ⟨rfl, hp0_32.symm.trans (teF_e (ms := 601) (Or.inr (by omega))), by omega⟩)) (by omega)))
        iterate 2 refine hR (?_ : R (_, _, _, _, _, _))
        exact hR (zret_i rfl (Nat.le_refl _) (zbo (by omega)) (h _ _ _ _ _ _ _ _ _ _ fr_32 hCp_32 hCq_32 hCq1_32 hCq2_32 hCq3_32 (Or.inl ⟨rfl, hp0_32.symm.trans (teF_e (ms := 601) (Or.inr (by omega))), by omega⟩) (by omega)))
      iterate 2 refine hR (?_ : R (_, _, _, _, _, _))
      refine hR (c_obj hCp_32 (zcall_i 0 0 (Nat.le_of_ble_eq_true rfl) (Nat.le_of_ble_eq_true rfl) (x_yTellLine _ _ _ _ _ _ _ _ _ _ _ _ _ _ _ hCp_32 hCt_32 hCq_32 hCq1_32 hCq2_32 hCq3_32 (show p < q ∧ t < q ∧ p ≠ t from nX8) (by omega) hp3_32 hp1_32 _ fun v59 a'_60 x'_61 f'_62 c'_63 x0'_64 g1'_65 g2'_66 g3'_67 w68 gg69 hC70 hC71 hC72 hC73 hC74 hp75 hp76 hp77 hp78 => ?_)))
      have fr79 := wfM_tr fr_32 gg69 nX9
      have hC80 := (gg69.2 t nX10).trans hCt_32
      refine (?_ : R (_, _, .int (Int32.ofInt v59) :: [], w68, 0, 0))
      have hgt : v59 = 1 → a2 < a'_60 := by have z := tl_gt (g := g) (n := l) (ln := lnY) (bg := yBeg) (tk := yTake) (ms := yMs) (fw := yMs) (a := a2) (x := (f_2, c_2, x0_2, g1_2, g2_2, g3_2)) (by omega) (by omega); rw [show tlF g l lnY yBeg yTake yMs yMs a2 (f_2, c_2, x0_2, g1_2, g2_2, g3_2) = (decide (v59 = 1), a'_60, (f'_62, c'_63, x0'_64, g1'_65, g2'_66, g3'_67)) from hp75] at z; exact fun e => z (decide_eq_true e)
      refine hR (k_ne (by omega) (fun hc81 => ?_) (fun hc81 => ?_))
      · skip
        refine hR (t_inc ?_)
        refine hR (?_ : R (_, _, _, _, _, _))
        exact ih32 _ _ _ _ _ _ _ _ _ _ fr79 hC70 hC80 hC71 hC72 hC73 hC74 (by omega) ((teF_s (ms := 601) (by omega) (by omega) (hp75.trans (by rw [decide_eq_true (show v59 = 1 by omega)]))).trans hp0_32) hp76 (by omega) hp78 (by omega)
      iterate 2 refine hR (?_ : R (_, _, _, _, _, _))
      refine hR (c_put hC70 rfl rfl fun w82 ff82 hC82 => ?_)
      have fr83 := wfM_st fr79 ff82 nX0
      have hC84 := (ff82.2 t nX1).trans hC80
      have hC85 := (ff82.2 q nX2).trans hC71
      have hC86 := (ff82.2 (q + 1) nX3).trans hC72
      have hC87 := (ff82.2 (q + 2) nX4).trans hC73
      have hC88 := (ff82.2 (q + 3) nX5).trans hC74
      replace hC82 : zix w82 p = some (.inr (6, [.ref t, .int (Int32.ofInt l), .int (Int32.ofInt (tE g l a'_60)), .int (Int32.ofInt (tK g l a'_60)), .int (Int32.ofInt (tS g l a'_60)), .int (Int32.ofInt x'_61), .int (Int32.ofInt 1), .int (Int32.ofInt c'_63)])) := hC82
      iterate 2 refine hR (?_ : R (_, _, _, _, _, _))
      refine hR (c_get hC82 rfl ?_)
      refine hR (c_put hC82 rfl rfl fun w89 ff89 hC89 => ?_)
      have fr90 := wfM_st fr83 ff89 nX0
      have hC91 := (ff89.2 t nX1).trans hC84
      have hC92 := (ff89.2 q nX2).trans hC85
      have hC93 := (ff89.2 (q + 1) nX3).trans hC86
      have hC94 := (ff89.2 (q + 2) nX4).trans hC87
      have hC95 := (ff89.2 (q + 3) nX5).trans hC88
      replace hC89 : zix w89 p = some (.inr (6, [.ref t, .int (Int32.ofInt l), .int (Int32.ofInt (tE g l a'_60)), .int (Int32.ofInt (tK g l a'_60)), .int (Int32.ofInt (tS g l a'_60)), .int (Int32.ofInt x'_61), .int (Int32.ofInt 1), .int (Int32.ofInt (tS g l a'_60))])) := hC89
      refine hR (?_ : R (_, _, _, _, _, _))
      exact hR (zret_i rfl (Nat.le_refl _) (zbo (by omega)) (h _ _ _ _ _ _ _ _ _ _ fr90 hC89 hC92 hC93 hC94 hC95 (Or.inr (Or.inr ⟨rfl, _, hp0_32.symm.trans (teF_f (ms := 601) (by omega) (by omega) (hp75.trans (by rw [decide_eq_false (show ¬ v59 = 1 by omega)]))), rfl, rfl⟩)) (by omega)))
  exact lp32 400000000 _ _ _ _ _ _ _ _ _ _ fr47 hC45 hC48 hC49 hC50 hC51 hC52 (by omega) (by rw [show ((601 : Int) - 0).toNat = 601 from rfl]) hx53 (by omega) hr2 (by omega)
set_option maxHeartbeats 8000000 in
theorem x_sTell (w : zW) (d : Nat) (p t q : Nat) (l : Int) (tv : Value) (l0 at0 k0 s0 v0 e0 d0 x0 : Int) (g g1 g2 : Nat → Int32) (hK0 : zix w p = some (.inr (6, [tv, .int (Int32.ofInt l0), .int (Int32.ofInt at0), .int (Int32.ofInt k0), .int (Int32.ofInt s0), .int (Int32.ofInt v0), .int (Int32.ofInt e0), .int (Int32.ofInt d0)]))) (hK1 : zix w t = some (.inl (0, 600, .inl g))) (hK2 : zix w q = some (.inr (5, [.int (Int32.ofInt x0), .ref (q + 1), .ref (q + 2)]))) (hK3 : zix w (q + 1) = some (.inl (1, 6, .inl g1))) (hK4 : zix w (q + 2) = some (.inl (1, 6, .inl g2))) (hr0 : p < q ∧ t < q ∧ p ≠ t) (hr1 : 0 ≤ l ∧ l ≤ 600) (hr2 : sOK (0, -1, x0, g1, g2)) (Q : zQ) (h : ∀ (v : Int) (a' x' f' c' x0' : Int) (g1' g2' : Nat → Int32) (w' : zW), wfM (fun j => j ≠ p ∧ (j < q ∨ q + 3 ≤ j)) w w' → zix w' p = some (.inr (6, [.ref t, .int (Int32.ofInt l), .int (Int32.ofInt (tE g l a')), .int (Int32.ofInt (tK g l a')), .int (Int32.ofInt (tS g l a')), .int (Int32.ofInt x'), .int (Int32.ofInt f'), .int (Int32.ofInt c')])) → zix w' q = some (.inr (5, [.int (Int32.ofInt x0'), .ref (q + 1), .ref (q + 2)])) → zix w' (q + 1) = some (.inl (1, 6, .inl g1')) → zix w' (q + 2) = some (.inl (1, 6, .inl g2')) → ((v = 1 ∧ teF g l (tlS g l) 601 0 (0, -1, x0, g1, g2) = (true, a', (f', c', x0', g1', g2')) ∧ f' = 0) ∨ (v = 0 ∧ teF g l (tlS g l) 601 0 (0, -1, x0, g1, g2) = (true, a', (f', c', x0', g1', g2')) ∧ f' ≠ 0) ∨ (v = 0 ∧ ∃ X, teF g l (tlS g l) 601 0 (0, -1, x0, g1, g2) = (false, a', X) ∧ f' = 1 ∧ c' = tS g l a')) → ((v = 0 ∨ v = 1) ∧ 0 ≤ a' ∧ a' ≤ l) → Q (some (.int (Int32.ofInt v))) w') : zCl zTab (d + 8) iX7_tell [.ref p, .ref t, .int (Int32.ofInt l), .ref q] w 0 0 Q := by
  refine zCl_i (M := kX7_tell) rfl (Nat.le_of_ble_eq_true rfl) fun R hR => ?_
  have fr0 : wfM (fun j => j ≠ p ∧ (j < q ∨ q + 3 ≤ j)) w w := wfM_rf _ w
  have hb1 := tS_b (g := g) (n := l) (a := 0) (by omega) (by omega)
  have hb2 := tE_b (g := g) (n := l) (a := 0) (by omega) (by omega)
  have hb3 := tK_r (g := g) (n := l) (a := 0)
  have nX0 : FX (∀ j : Nat, (j ≠ p ∧ (j < q ∨ q + 3 ≤ j)) → j ≠ p) := fun j hj => by omega
  have nX1 : FX (t ≠ p) := (show t ≠ p by omega)
  have nX2 : FX (q ≠ p) := (show q ≠ p by omega)
  have nX3 : FX ((q + 1) ≠ p) := (show (q + 1) ≠ p by omega)
  have nX4 : FX ((q + 2) ≠ p) := (show (q + 2) ≠ p by omega)
  have nX5 : FX (p ≠ t) := (show p ≠ t by omega)
  have nX6 : FX (∀ j : Nat, (j ≠ p ∧ (j < q ∨ q + 3 ≤ j)) → (j ≠ p)) := fun j hj => by omega
  have nX7 : FX (p < q ∧ t < q ∧ p ≠ t) := (show p < q ∧ t < q ∧ p ≠ t by omega)
  have nX8 : FX (∀ j : Nat, (j ≠ p ∧ (j < q ∨ q + 3 ≤ j)) → (j ≠ p ∧ (j < q ∨ q + 3 ≤ j))) := fun j hj => by omega
  have nX9 : FX (t ≠ p ∧ (t < q ∨ q + 3 ≤ t)) := (show t ≠ p ∧ (t < q ∨ q + 3 ≤ t) by omega)
  iterate 2 refine hR (?_ : R (_, _, _, _, _, _))
  refine hR (c_put hK0 rfl rfl fun w4 ff4 hC4 => ?_)
  have fr5 := wfM_st fr0 ff4 nX0
  have hC6 := (ff4.2 t nX1).trans hK1
  have hC7 := (ff4.2 q nX2).trans hK2
  have hC8 := (ff4.2 (q + 1) nX3).trans hK3
  have hC9 := (ff4.2 (q + 2) nX4).trans hK4
  replace hC4 : zix w4 p = some (.inr (6, [.ref t, .int (Int32.ofInt l0), .int (Int32.ofInt at0), .int (Int32.ofInt k0), .int (Int32.ofInt s0), .int (Int32.ofInt v0), .int (Int32.ofInt e0), .int (Int32.ofInt d0)])) := hC4
  iterate 2 refine hR (?_ : R (_, _, _, _, _, _))
  refine hR (c_put hC4 rfl rfl fun w10 ff10 hC10 => ?_)
  have fr11 := wfM_st fr5 ff10 nX0
  have hC12 := (ff10.2 t nX1).trans hC6
  have hC13 := (ff10.2 q nX2).trans hC7
  have hC14 := (ff10.2 (q + 1) nX3).trans hC8
  have hC15 := (ff10.2 (q + 2) nX4).trans hC9
  replace hC10 : zix w10 p = some (.inr (6, [.ref t, .int (Int32.ofInt l), .int (Int32.ofInt at0), .int (Int32.ofInt k0), .int (Int32.ofInt s0), .int (Int32.ofInt v0), .int (Int32.ofInt e0), .int (Int32.ofInt d0)])) := hC10
  iterate 2 refine hR (?_ : R (_, _, _, _, _, _))
  refine hR (c_put hC10 rfl rfl fun w16 ff16 hC16 => ?_)
  have fr17 := wfM_st fr11 ff16 nX0
  have hC18 := (ff16.2 t nX1).trans hC12
  have hC19 := (ff16.2 q nX2).trans hC13
  have hC20 := (ff16.2 (q + 1) nX3).trans hC14
  have hC21 := (ff16.2 (q + 2) nX4).trans hC15
  replace hC16 : zix w16 p = some (.inr (6, [.ref t, .int (Int32.ofInt l), .int (Int32.ofInt 0), .int (Int32.ofInt k0), .int (Int32.ofInt s0), .int (Int32.ofInt v0), .int (Int32.ofInt e0), .int (Int32.ofInt d0)])) := hC16
  iterate 2 refine hR (?_ : R (_, _, _, _, _, _))
  refine hR (c_put hC16 rfl rfl fun w22 ff22 hC22 => ?_)
  have fr23 := wfM_st fr17 ff22 nX0
  have hC24 := (ff22.2 t nX1).trans hC18
  have hC25 := (ff22.2 q nX2).trans hC19
  have hC26 := (ff22.2 (q + 1) nX3).trans hC20
  have hC27 := (ff22.2 (q + 2) nX4).trans hC21
  replace hC22 : zix w22 p = some (.inr (6, [.ref t, .int (Int32.ofInt l), .int (Int32.ofInt 0), .int (Int32.ofInt k0), .int (Int32.ofInt s0), .int (Int32.ofInt v0), .int (Int32.ofInt 0), .int (Int32.ofInt d0)])) := hC22
  iterate 2 refine hR (?_ : R (_, _, _, _, _, _))
  refine hR (c_put hC22 rfl rfl fun w28 ff28 hC28 => ?_)
  have fr29 := wfM_st fr23 ff28 nX0
  have hC30 := (ff28.2 t nX1).trans hC24
  have hC31 := (ff28.2 q nX2).trans hC25
  have hC32 := (ff28.2 (q + 1) nX3).trans hC26
  have hC33 := (ff28.2 (q + 2) nX4).trans hC27
  replace hC28 : zix w28 p = some (.inr (6, [.ref t, .int (Int32.ofInt l), .int (Int32.ofInt 0), .int (Int32.ofInt k0), .int (Int32.ofInt s0), .int (Int32.ofInt v0), .int (Int32.ofInt 0), .int (Int32.ofInt ((-1)))])) := hC28
  refine hR (?_ : R (_, _, _, _, _, _))
  refine hR (c_obj hC28 (zcall_i 0 0 (Nat.le_of_ble_eq_true rfl) (Nat.le_of_ble_eq_true rfl) (x_advance _ _ _ _ _ _ _ _ _ _ _ _ hC28 hC30 (show p ≠ t from nX5) (by omega) _ fun a'_34 k'_35 s'_36 x'_37 w38 gg39 hC40 hp41 => ?_)))
  have fr42 := wfM_tr fr29 gg39 nX6
  have hC43 := (gg39.2 t nX1).trans hC30
  have hC44 := (gg39.2 q nX2).trans hC31
  have hC45 := (gg39.2 (q + 1) nX3).trans hC32
  have hC46 := (gg39.2 (q + 2) nX4).trans hC33
  obtain ⟨rfl, rfl, rfl, hx47⟩ := hp41
  replace hx47 : FX _ := hx47
  refine (?_ : R (_, _, [], w38, 0, 0))
  iterate 2 refine hR (?_ : R (_, _, _, _, _, _))
  have lp32 : ∀ (N : Nat) (it : Int) (a2 xv f_2 c_2 x0_2 : Int) (g1_2 g2_2 : Nat → Int32) (w_32 : zW), (wfM (fun j => j ≠ p ∧ (j < q ∨ q + 3 ≤ j)) w w_32) → (zix w_32 p = some (.inr (6, [.ref t, .int (Int32.ofInt l), .int (Int32.ofInt (tE g l a2)), .int (Int32.ofInt (tK g l a2)), .int (Int32.ofInt (tS g l a2)), .int (Int32.ofInt xv), .int (Int32.ofInt f_2), .int (Int32.ofInt c_2)]))) → (zix w_32 t = some (.inl (0, 600, .inl g))) → (zix w_32 q = some (.inr (5, [.int (Int32.ofInt x0_2), .ref (q + 1), .ref (q + 2)]))) → (zix w_32 (q + 1) = some (.inl (1, 6, .inl g1_2))) → (zix w_32 (q + 2) = some (.inl (1, 6, .inl g2_2))) → (0 ≤ it ∧ it ≤ 601) → (teF g l (tlS g l) (601 - it).toNat a2 (f_2, c_2, x0_2, g1_2, g2_2) = teF g l (tlS g l) 601 0 (0, -1, x0, g1, g2)) → (tK g l a2 = 2 → xv = tV g l a2) → (0 ≤ a2 ∧ a2 ≤ l ∧ it ≤ a2) → (sOK (f_2, c_2, x0_2, g1_2, g2_2)) → (602 - it < N) → R (32, [some (.ref p), some (.ref t), some (.int (Int32.ofInt l)), some (.ref q), some (.int (Int32.ofInt it))], [], w_32, 0, 0) := by
    intro N
    induction N with
    | zero => intros; omega
    | succ N ih32 =>
      intro it a2 xv f_2 c_2 x0_2 g1_2 g2_2 w_32 fr_32 hCp_32 hCt_32 hCq_32 hCq1_32 hCq2_32 hf0_32 hp0_32 hp1_32 hp2_32 hp3_32 hN32
      have hb48 := tS_b (g := g) (n := l) (a := a2) (by omega) (by omega)
      have hb49 := tE_b (g := g) (n := l) (a := a2) (by omega) (by omega)
      have hb50 := tK_r (g := g) (n := l) (a := a2)
      have hfr : -2147483648 ≤ f_2 ∧ f_2 ≤ 2147483647 := hp3_32.1
      refine hR (?_ : R (_, _, _, _, _, _))
      refine hR (t_c 600 (by decide) ?_)
      refine hR (j_gt (by omega) (by omega) (fun hc => by omega) (fun _ => ?_))
      refine hR (?_ : R (_, _, _, _, _, _))
      refine hR (c_get hCp_32 rfl ?_)
      refine hR (k_eq (by omega) (fun hc51 => ?_) (fun hc51 => ?_))
      · skip
        refine hR (?_ : R (_, _, _, _, _, _))
        refine hR (c_get hCp_32 rfl ?_)
        refine hR (k_ne (by omega) (fun hc52 => ?_) (fun hc52 => ?_))
        · skip
          refine hR (?_ : R (_, _, _, _, _, _))
          exact hR (zret_i rfl (Nat.le_refl _) (zbo (by omega)) (h _ _ _ _ _ _ _ _ _ fr_32 hCp_32 hCq_32 hCq1_32 hCq2_32 (Or.inr (Or.inl ⟨rfl, hp0_32.symm.trans (teF_e (ms := 601) (Or.inr (by omega))), by omega⟩)) (by omega)))
        iterate 2 refine hR (?_ : R (_, _, _, _, _, _))
        exact hR (zret_i rfl (Nat.le_refl _) (zbo (by omega)) (h _ _ _ _ _ _ _ _ _ fr_32 hCp_32 hCq_32 hCq1_32 hCq2_32 (Or.inl ⟨rfl, hp0_32.symm.trans (teF_e (ms := 601) (Or.inr (by omega))), by omega⟩) (by omega)))
      iterate 2 refine hR (?_ : R (_, _, _, _, _, _))
      refine hR (c_obj hCp_32 (zcall_i 0 0 (Nat.le_of_ble_eq_true rfl) (Nat.le_of_ble_eq_true rfl) (x_sTellLine _ _ _ _ _ _ _ _ _ _ _ _ _ _ hCp_32 hCt_32 hCq_32 hCq1_32 hCq2_32 (show p < q ∧ t < q ∧ p ≠ t from nX7) (by omega) hp3_32 hp1_32 _ fun v53 a'_54 x'_55 f'_56 c'_57 x0'_58 g1'_59 g2'_60 w61 gg62 hC63 hC64 hC65 hC66 hp67 hp68 hp69 hp70 => ?_)))
      have fr71 := wfM_tr fr_32 gg62 nX8
      have hC72 := (gg62.2 t nX9).trans hCt_32
      refine (?_ : R (_, _, .int (Int32.ofInt v53) :: [], w61, 0, 0))
      have hgt : v53 = 1 → a2 < a'_54 := by have z := tl_gt (g := g) (n := l) (ln := lnS) (bg := sBeg) (tk := fun _ => sTake) (ms := fun _ => 600) (fw := fun _ => 1) (a := a2) (x := (f_2, c_2, x0_2, g1_2, g2_2)) (by omega) (by omega); rw [show tlF g l lnS sBeg (fun _ => sTake) (fun _ => 600) (fun _ => 1) a2 (f_2, c_2, x0_2, g1_2, g2_2) = (decide (v53 = 1), a'_54, (f'_56, c'_57, x0'_58, g1'_59, g2'_60)) from hp67] at z; exact fun e => z (decide_eq_true e)
      refine hR (k_ne (by omega) (fun hc73 => ?_) (fun hc73 => ?_))
      · skip
        refine hR (t_inc ?_)
        refine hR (?_ : R (_, _, _, _, _, _))
        exact ih32 _ _ _ _ _ _ _ _ _ fr71 hC63 hC72 hC64 hC65 hC66 (by omega) ((teF_s (ms := 601) (by omega) (by omega) (hp67.trans (by rw [decide_eq_true (show v53 = 1 by omega)]))).trans hp0_32) hp68 (by omega) hp70 (by omega)
      iterate 2 refine hR (?_ : R (_, _, _, _, _, _))
      refine hR (c_put hC63 rfl rfl fun w74 ff74 hC74 => ?_)
      have fr75 := wfM_st fr71 ff74 nX0
      have hC76 := (ff74.2 t nX1).trans hC72
      have hC77 := (ff74.2 q nX2).trans hC64
      have hC78 := (ff74.2 (q + 1) nX3).trans hC65
      have hC79 := (ff74.2 (q + 2) nX4).trans hC66
      replace hC74 : zix w74 p = some (.inr (6, [.ref t, .int (Int32.ofInt l), .int (Int32.ofInt (tE g l a'_54)), .int (Int32.ofInt (tK g l a'_54)), .int (Int32.ofInt (tS g l a'_54)), .int (Int32.ofInt x'_55), .int (Int32.ofInt 1), .int (Int32.ofInt c'_57)])) := hC74
      iterate 2 refine hR (?_ : R (_, _, _, _, _, _))
      refine hR (c_get hC74 rfl ?_)
      refine hR (c_put hC74 rfl rfl fun w80 ff80 hC80 => ?_)
      have fr81 := wfM_st fr75 ff80 nX0
      have hC82 := (ff80.2 t nX1).trans hC76
      have hC83 := (ff80.2 q nX2).trans hC77
      have hC84 := (ff80.2 (q + 1) nX3).trans hC78
      have hC85 := (ff80.2 (q + 2) nX4).trans hC79
      replace hC80 : zix w80 p = some (.inr (6, [.ref t, .int (Int32.ofInt l), .int (Int32.ofInt (tE g l a'_54)), .int (Int32.ofInt (tK g l a'_54)), .int (Int32.ofInt (tS g l a'_54)), .int (Int32.ofInt x'_55), .int (Int32.ofInt 1), .int (Int32.ofInt (tS g l a'_54))])) := hC80
      refine hR (?_ : R (_, _, _, _, _, _))
      exact hR (zret_i rfl (Nat.le_refl _) (zbo (by omega)) (h _ _ _ _ _ _ _ _ _ fr81 hC80 hC83 hC84 hC85 (Or.inr (Or.inr ⟨rfl, _, hp0_32.symm.trans (teF_f (ms := 601) (by omega) (by omega) (hp67.trans (by rw [decide_eq_false (show ¬ v53 = 1 by omega)]))), rfl, rfl⟩)) (by omega)))
  exact lp32 400000000 _ _ _ _ _ _ _ _ _ fr42 hC40 hC43 hC44 hC45 hC46 (by omega) (by rw [show ((601 : Int) - 0).toNat = 601 from rfl]) hx47 (by omega) hr2 (by omega)
