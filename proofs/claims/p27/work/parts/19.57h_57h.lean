/-! THE REFERENCE'S TEXT AND LINES, against the class's. -/
theorem zup {g : Nat → Int32} {i : Int} {e : Int} (h : r32 e) (j : Int) : tBy (upd g i.toNat (Int32.ofInt e)) j = if j.toNat = i.toNat then e else tBy g j := by
  unfold tBy upd
  split
  · rw [zti h.1 h.2]
  · rfl
theorem tBy_r (g : Nat → Int32) (i : Int) : r32 (tBy g i) := by
  have h1 := Int32.le_toInt (g i.toNat)
  have h2 := Int32.toInt_lt (g i.toNat)
  unfold tBy
  constructor
  · exact h1
  · omega
theorem wI_0 {f c lo hi v s : Int} (h : wI f c lo hi v s = 0) : f = 0 ∧ lo ≤ v ∧ v ≤ hi := by
  unfold wI at h
  split at h
  · exact ⟨h, by assumption⟩
  · exact absurd h (fW_0 (by omega))
/-- two FAULTS of one place, in both orders -/
theorem fW_sw {f c v s : Int} : wI (fW f c 3 s) (fC f c 3 s) 0 3 v s = fW (wI f c 0 3 v s) (wJ f c 0 3 v s) 3 s ∧ wJ (fW f c 3 s) (fC f c 3 s) 0 3 v s = fC (wI f c 0 3 v s) (wJ f c 0 3 v s) 3 s := by
  unfold wI wJ
  by_cases h : 0 ≤ v ∧ v ≤ 3
  · rw [if_pos h, if_pos h, if_pos h, if_pos h]; exact ⟨rfl, rfl⟩
  · rw [if_neg h, if_neg h, if_neg h, if_neg h]
    by_cases h2 : f = 0 ∨ s < c ∨ (s = c ∧ 2 < f)
    · have e2 := fW_y (wh := 2) h2
      have e3 := fW_n (f := 2) (c := s) (wh := 3) (s := s) (by omega)
      rw [e2.1, e2.2, e3.1, e3.2]
      by_cases h3 : f = 0 ∨ s < c ∨ (s = c ∧ 3 < f)
      · have e4 := fW_y (wh := 3) h3
        have e5 := fW_y (f := 3) (c := s) (wh := 2) (s := s) (by omega)
        rw [e4.1, e4.2]
        exact e5
      · have e4 := fW_n (wh := 3) h3
        rw [e4.1, e4.2]
        exact e2
    · have e2 := fW_n (wh := 2) h2
      have e3 := fW_n (f := f) (c := c) (wh := 3) (s := s) (by omega)
      rw [e2.1, e2.2, e3.1, e3.2]
      exact e2
/-- a word of a text taken: FAULT, place, the text's number -/
noncomputable def txT (k v s : Int) : Int × Int × Int → Int × Int × Int
  | (f, c, x) => if 6 ≤ k then (fW (wI f c 0 3 v s) (wJ f c 0 3 v s) 3 s, fC (wI f c 0 3 v s) (wJ f c 0 3 v s) 3 s, x)
    else if 0 ≤ v ∧ v ≤ 3 then (wI f c 0 3 v s, wJ f c 0 3 v s, 4 * x + 1 + v) else (wI f c 0 3 v s, wJ f c 0 3 v s, x)
theorem txT_d {k v s f c x : Int} : txT k v s (f, c, x) = if 6 ≤ k then (fW (wI f c 0 3 v s) (wJ f c 0 3 v s) 3 s, fC (wI f c 0 3 v s) (wJ f c 0 3 v s) 3 s, x) else if 0 ≤ v ∧ v ≤ 3 then (wI f c 0 3 v s, wJ f c 0 3 v s, 4 * x + 1 + v) else (wI f c 0 3 v s, wJ f c 0 3 v s, x) := rfl
theorem txT_6 {k v s f c x : Int} (h : 6 ≤ k) : txT k v s (f, c, x) = (wI (fW f c 3 s) (fC f c 3 s) 0 3 v s, wJ (fW f c 3 s) (fC f c 3 s) 0 3 v s, x) := by
  rw [fW_sw.1, fW_sw.2]
  exact if_pos h
theorem txT_5 {k v s f c x : Int} (h : k < 6) : txT k v s (f, c, x) = (wI f c 0 3 v s, wJ f c 0 3 v s, (txT k v s (f, c, x)).2.2) := by
  rw [txT_d, if_neg (by omega)]
  split <;> rfl
theorem txT_v {k v s f c x : Int} (h : k < 6) (hv : 0 ≤ v ∧ v ≤ 3) : (txT k v s (f, c, x)).2.2 = 4 * x + 1 + v := by
  rw [txT_d, if_neg (by omega), if_pos hv]
theorem tSh_i {n : Int} (h : 0 ≤ n ∧ n ≤ 6) : ((tSh n.toNat : Nat) : Int) ≤ 1365 ∧ (n < 6 → ((tSh (n + 1).toNat : Nat) : Int) = 4 * ((tSh n.toNat : Nat) : Int) + 1) := by
  have hn : n = 0 ∨ n = 1 ∨ n = 2 ∨ n = 3 ∨ n = 4 ∨ n = 5 ∨ n = 6 := by omega
  rcases hn with rfl | rfl | rfl | rfl | rfl | rfl | rfl <;> decide
noncomputable abbrev RFC (f c f' c' : Int) : Prop := f = f' ∧ (f ≠ 0 → c = c')
theorem rfc_W {f c f' c' wh s : Int} (h : RFC f c f' c') : RFC (fW f c wh s) (fC f c wh s) (fW f' c' wh s) (fC f' c' wh s) := by
  obtain ⟨rfl, h2⟩ := h
  by_cases h0 : f = 0
  · subst h0
    have a := fW_y (f := 0) (c := c) (wh := wh) (s := s) (Or.inl rfl)
    have b := fW_y (f := 0) (c := c') (wh := wh) (s := s) (Or.inl rfl)
    rw [a.1, a.2, b.1, b.2]
    exact ⟨rfl, fun _ => rfl⟩
  · have e := h2 h0
    subst e
    exact ⟨rfl, fun _ => rfl⟩
theorem rfc_I {f c f' c' lo hi v s : Int} (h : RFC f c f' c') : RFC (wI f c lo hi v s) (wJ f c lo hi v s) (wI f' c' lo hi v s) (wJ f' c' lo hi v s) := by
  unfold wI wJ
  split
  · exact h
  · exact rfc_W h
/-- the class's text line is the text's -/
theorem txT_B {k v s f c x0 : Int} {D : Int × Int × (Nat → Int32) × (Nat → Int32) × (Nat → Int32) × (Nat → Int32)} : bTake 5 k v s (f, c, x0, D) = ((txT k v s (f, c, x0)).1, (txT k v s (f, c, x0)).2.1, (txT k v s (f, c, x0)).2.2, D) := by
  obtain ⟨x1, x2, g1, g2, g3, g4⟩ := D
  unfold bTake txT
  dsimp only
  rw [if_neg (by omega)]
  by_cases h6 : 6 ≤ k
  · rw [if_pos ⟨rfl, h6⟩, if_pos h6]
  · rw [if_neg (by omega), if_neg h6]
    by_cases hv : 0 ≤ v ∧ v ≤ 3
    · rw [if_pos hv, if_pos hv]; rfl
    · rw [if_neg hv, if_neg hv]
theorem nm_B {g : Nat → Int32} {n : Int} {D : Int × Int × (Nat → Int32) × (Nat → Int32) × (Nat → Int32) × (Nat → Int32)} : ∀ (m : Nat) (k a f c x0 : Int), nmF g n (bTake 5) m k a (f, c, x0, D) = ((nmF g n txT m k a (f, c, x0)).1, (nmF g n txT m k a (f, c, x0)).2.1, (nmF g n txT m k a (f, c, x0)).2.2.1, (nmF g n txT m k a (f, c, x0)).2.2.2.1, (nmF g n txT m k a (f, c, x0)).2.2.2.2, D)
  | 0, k, a, f, c, x0 => rfl
  | m + 1, k, a, f, c, x0 => by
    by_cases h : tK g n a = 2
    · show (if _ then _ else _) = _
      rw [if_pos h, txT_B, nm_B m]
      have e : nmF g n txT (m + 1) k a (f, c, x0) = nmF g n txT m (k + 1) (tE g n a) (txT k (tV g n a) (tS g n a) (f, c, x0)) := if_pos h
      rw [e]
    · have e : nmF g n txT (m + 1) k a (f, c, x0) = (k, a, f, c, x0) := if_neg h
      rw [e]
      exact if_neg h
/-- FAULTS that are alike stay alike -/
theorem nm_rfc {g : Nat → Int32} {n : Int} : ∀ (m : Nat) (k a f c f' c' x : Int), RFC f c f' c' → (nmF g n txT m k a (f, c, x)).1 = (nmF g n txT m k a (f', c', x)).1 ∧ (nmF g n txT m k a (f, c, x)).2.1 = (nmF g n txT m k a (f', c', x)).2.1 ∧ RFC (nmF g n txT m k a (f, c, x)).2.2.1 (nmF g n txT m k a (f, c, x)).2.2.2.1 (nmF g n txT m k a (f', c', x)).2.2.1 (nmF g n txT m k a (f', c', x)).2.2.2.1 ∧ (nmF g n txT m k a (f, c, x)).2.2.2.2 = (nmF g n txT m k a (f', c', x)).2.2.2.2
  | 0, k, a, f, c, f', c', x, h => ⟨rfl, rfl, h, rfl⟩
  | m + 1, k, a, f, c, f', c', x, h => by
    by_cases hk : tK g n a = 2
    · have e : ∀ y, nmF g n txT (m + 1) k a y = nmF g n txT m (k + 1) (tE g n a) (txT k (tV g n a) (tS g n a) y) := fun y => if_pos hk
      rw [e, e]
      by_cases h6 : 6 ≤ k
      · rw [txT_6 h6, txT_6 h6]
        exact nm_rfc m _ _ _ _ _ _ _ (rfc_I (rfc_W h))
      · rw [txT_5 (by omega), txT_5 (f := f') (by omega)]
        have ex : (txT k (tV g n a) (tS g n a) (f, c, x)).2.2 = (txT k (tV g n a) (tS g n a) (f', c', x)).2.2 := by
          rw [txT_d, txT_d, if_neg h6, if_neg h6]
          split <;> rfl
        rw [ex]
        exact nm_rfc m _ _ _ _ _ _ _ (rfc_I h)
    · have e : ∀ y, nmF g n txT (m + 1) k a y = (k, a, y) := fun y => if_neg hk
      rw [e, e]
      exact ⟨rfl, rfl, h, rfl⟩
/-- a BOOK being told on both sides -/
noncomputable def RBD (x0 : Int) (g1 g2 g3 g4 T : Nat → Int32) : Prop := x0 = tBy T 0 ∧ (∀ i : Int, 0 ≤ i → i < 4 → tBy T (2 + i) = tBy g1 i) ∧ (∀ i k : Int, 0 ≤ i → i < 5 → 0 ≤ k → k < 4 → tBy T (11 + 8 * i + 2 * k) = tBy g3 (4 * i + k) ∧ tBy T (12 + 8 * i + 2 * k) = tBy g4 (4 * i + k) ∧ (tBy g2 i ≤ k → tBy g4 (4 * i + k) = 0))
noncomputable def RELB : tpB → Int → Int → (Nat → Int32) → Prop
  | (f, c, x0, x1, _, g1, g2, g3, g4), f', c', T => RFC f c f' c' ∧ (x1 = tBy T 1 ∧ 0 ≤ x1 ∧ x1 ≤ 5) ∧ (∀ i : Int, 0 ≤ i → i < 5 → tBy T (6 + i) = tBy g2 i ∧ 0 ≤ tBy g2 i ∧ tBy g2 i ≤ 4) ∧ (f = 0 → RBD x0 g1 g2 g3 g4 T)
/-- a line read: it is there with what it tells, or it ends wrong -/
noncomputable def LNP {α : Type} (g : Nat → Int32) (n fw : Int) (r : Int × Int × α) (v a' y : Int) (REL : α → Prop) : Prop :=
  (v = 1 ∧ ¬ r.1 < fw ∧ a' = r.2.1 ∧ REL r.2.2) ∨ (v = 0 ∧ r.1 < fw ∧ y = tS g n r.2.1)
theorem nm_0 {g : Nat → Int32} {n : Int} {α : Type} {tk : Int → Int → Int → α → α} {m k p : Int} {X : α} (hm : m = 0 ∨ tK g n p ≠ 2) : nmF g n tk m.toNat k p X = (k, p, X) := by
  rcases hm with rfl | h
  · rfl
  · cases m.toNat with
    | zero => rfl
    | succ m => exact if_neg h
theorem nm_1 {g : Nat → Int32} {n : Int} {α : Type} {tk : Int → Int → Int → α → α} {m k p : Int} {X : α} (hm : 1 ≤ m) (h : tK g n p = 2) : nmF g n tk m.toNat k p X = nmF g n tk (m - 1).toNat (k + 1) (tE g n p) (tk k (tV g n p) (tS g n p) X) := by
  rw [show m.toNat = (m - 1).toNat + 1 by omega]
  exact if_pos h
theorem bMs_v {L : Int} (h : 0 ≤ L ∧ L ≤ 3) : bMs L = 1 ∧ bFw L = 1 := by
  have e : bMs L = 1 := by unfold bMs; rw [if_neg (by omega), if_neg (by omega), if_neg (by omega)]
  refine ⟨e, ?_⟩
  unfold bFw
  rw [if_neg (by omega), e]
theorem bMs_4 : bMs 4 = 0 ∧ bFw 4 = 0 := by decide
theorem bMs_5 : bMs 5 = 600 ∧ bFw 5 = 0 := by decide
theorem bMs_6 : bMs 6 = 2 ∧ bFw 6 = 2 := by decide
theorem bMs_7 : bMs 7 = 0 ∧ bFw 7 = 0 := by decide
theorem bBeg_A {L s f c x0 x1 x2 : Int} {g1 g2 g3 g4 : Nat → Int32} (hL : L ≤ 4) (h : x1 - 1 < 0) : bBeg L s (f, c, x0, x1, x2, g1, g2, g3, g4) = (fW f c 4 s, fC f c 4 s, x0, x1, x2, g1, g2, g3, g4) := by
  unfold bBeg
  dsimp only
  rw [if_neg (by omega), if_neg (by omega), if_pos hL, if_pos h]
theorem bBeg_F {L s f c x0 x1 x2 : Int} {g1 g2 g3 g4 : Nat → Int32} (hL : L ≤ 4) (h : ¬ x1 - 1 < 0) (h4 : 4 ≤ tBy g2 (x1 - 1)) : bBeg L s (f, c, x0, x1, x2, g1, g2, g3, g4) = (fW f c 3 s, fC f c 3 s, x0, x1, x2, g1, g2, g3, g4) := by
  unfold bBeg
  dsimp only
  rw [if_neg (by omega), if_neg (by omega), if_pos hL, if_neg h, if_pos h4]
theorem bBeg_C {L s f c x0 x1 x2 : Int} {g1 g2 g3 g4 : Nat → Int32} (hL : L ≤ 4) (h : ¬ x1 - 1 < 0) (h4 : ¬ 4 ≤ tBy g2 (x1 - 1)) : bBeg L s (f, c, x0, x1, x2, g1, g2, g3, g4) = (f, c, x0, x1, x2, g1, upd g2 (x1 - 1).toNat (Int32.ofInt (tBy g2 (x1 - 1) + 1)), upd g3 ((x1 - 1) * 4 + tBy g2 (x1 - 1)).toNat (Int32.ofInt L), g4) := by
  unfold bBeg
  dsimp only
  rw [if_neg (by omega), if_neg (by omega), if_pos hL, if_neg h, if_neg h4]
/-- one NUMBER of a step taken: the FAULT -/
theorem bTake_1 {L v s f c lo hi x0 x1 x2 : Int} {g1 g2 g3 g4 : Nat → Int32} (hL : (L = 0 ∧ lo = 0 ∧ hi = 3) ∨ (1 ≤ L ∧ L ≤ 3 ∧ lo = 1 ∧ hi = 6)) : bTake L 0 v s (f, c, x0, x1, x2, g1, g2, g3, g4) = (wI f c lo hi v s, wJ f c lo hi v s, if (lo ≤ v ∧ v ≤ hi) ∧ 0 ≤ x1 - 1 ∧ 0 < tBy g2 (x1 - 1) then (x0, x1, x2, g1, g2, g3, upd g4 ((x1 - 1) * 4 + tBy g2 (x1 - 1) - 1).toNat (Int32.ofInt v)) else (x0, x1, x2, g1, g2, g3, g4)) := by
  have hk : bKp L 0 v (x0, x1, x2, g1, g2, g3, g4) = if 0 ≤ x1 - 1 ∧ 0 < tBy g2 (x1 - 1) then (x0, x1, x2, g1, g2, g3, upd g4 ((x1 - 1) * 4 + tBy g2 (x1 - 1) - 1).toNat (Int32.ofInt v)) else (x0, x1, x2, g1, g2, g3, g4) := by
    unfold bKp
    dsimp only
    rw [if_neg (by omega), if_neg (by omega), if_neg (by omega)]
  unfold bTake
  dsimp only
  rcases hL with ⟨rfl, rfl, rfl⟩ | ⟨h1, h2, rfl, rfl⟩
  · rw [if_neg (by omega), if_neg (by omega)]
    by_cases hv : 0 ≤ v ∧ v ≤ 3
    · rw [if_pos hv, hk]
      by_cases hq : 0 ≤ x1 - 1 ∧ 0 < tBy g2 (x1 - 1)
      · rw [if_pos hq, if_pos ⟨hv, hq⟩]
      · rw [if_neg hq, if_neg (fun z => hq z.2)]
    · rw [if_neg hv, if_neg (fun z => hv z.1)]
  · rw [if_pos (by omega)]
    by_cases hv : 1 ≤ v ∧ v ≤ 6
    · rw [if_pos hv, hk]
      by_cases hq : 0 ≤ x1 - 1 ∧ 0 < tBy g2 (x1 - 1)
      · rw [if_pos hq, if_pos ⟨hv, hq⟩]
      · rw [if_neg hq, if_neg (fun z => hq z.2)]
    · rw [if_neg hv, if_neg (fun z => hv z.1)]
/-- behind a FAULT only the counts are to be alike -/
theorem relB_f {f c f' c' x0 x1 x2 y0 y2 : Int} {g1 g2 g3 g4 k1 k3 k4 T : Nat → Int32} {e e' : Int} (h : RELB (f, c, x0, x1, x2, g1, g2, g3, g4) e e' T) (hf : RFC f' c' y0 y2) (h0 : f' ≠ 0) {z0 z2 : Int} : RELB (f', c', z0, x1, z2, k1, g2, k3, k4) y0 y2 T := ⟨hf, h.2.1, h.2.2.1, fun q => absurd q h0⟩
theorem relB_s {f c x0 x1 x2 lo hi v s f16 f17 : Int} {g1 g2 g3 g4 T k4 : Nat → Int32} (h : RELB (f, c, x0, x1, x2, g1, g2, g3, g4) f16 f17 T) (hF : f ≠ 0) (D : tdB) (hD : D = (x0, x1, x2, g1, g2, g3, k4)) : RELB (wI f c lo hi v s, wJ f c lo hi v s, D) (wI f16 f17 lo hi v s) (wJ f16 f17 lo hi v s) T := by
  subst hD
  exact relB_f h (rfc_I h.1) (fun q => hF (wI_0 q).1)
/-- a step's line, where there was a FAULT at its beginning -/
theorem relB_st {L lo hi v s2 F C : Int} {T : Nat → Int32} {x0 x1 x2 f c : Int} {g1 g2 g3 g4 : Nat → Int32} (hX : RELB (f, c, x0, x1, x2, g1, g2, g3, g4) F C T) (hf : f ≠ 0) (hL : (L = 0 ∧ lo = 0 ∧ hi = 3) ∨ (1 ≤ L ∧ L ≤ 3 ∧ lo = 1 ∧ hi = 6)) : RELB (bTake L 0 v s2 (f, c, x0, x1, x2, g1, g2, g3, g4)) (wI F C lo hi v s2) (wJ F C lo hi v s2) T := by
  rw [bTake_1 hL]
  split
  · exact relB_s hX hf _ rfl
  · exact relB_s hX hf _ rfl
/-- a step is told, with its number -/
theorem relB_C {L lo hi v s s2 f c x0 x1 x2 f16 f17 : Int} {g1 g2 g3 g4 T : Nat → Int32} (h : RELB (f, c, x0, x1, x2, g1, g2, g3, g4) f16 f17 T) (hx : ¬ x1 - 1 < 0) (hn : ¬ 4 ≤ tBy g2 (x1 - 1)) (hv : r32 v) (hL : (L = 0 ∧ lo = 0 ∧ hi = 3) ∨ (1 ≤ L ∧ L ≤ 3 ∧ lo = 1 ∧ hi = 6)) {T' : Nat → Int32} (hT : ∀ j : Int, tBy T' j = if j.toNat = (6 + (x1 - 1)).toNat then tBy g2 (x1 - 1) + 1 else if j.toNat = (12 + 8 * (x1 - 1) + 2 * tBy g2 (x1 - 1)).toNat then v else if j.toNat = (11 + 8 * (x1 - 1) + 2 * tBy g2 (x1 - 1)).toNat then L else tBy T j) : RELB (bTake L 0 v s2 (bBeg L s (f, c, x0, x1, x2, g1, g2, g3, g4))) (wI f16 f17 lo hi v s2) (wJ f16 f17 lo hi v s2) T' := by
  obtain ⟨h1, h2, h3, h4⟩ := h
  have hq := h3 (x1 - 1) (by omega) (by omega)
  have e2 : ∀ j : Int, tBy (upd g2 (x1 - 1).toNat (Int32.ofInt (tBy g2 (x1 - 1) + 1))) j = if j.toNat = (x1 - 1).toNat then tBy g2 (x1 - 1) + 1 else tBy g2 j := fun j => zup (by omega) j
  have e3 : ∀ j : Int, tBy (upd g3 ((x1 - 1) * 4 + tBy g2 (x1 - 1)).toNat (Int32.ofInt L)) j = if j.toNat = ((x1 - 1) * 4 + tBy g2 (x1 - 1)).toNat then L else tBy g3 j := fun j => zup (by omega) j
  have e4 : ∀ j : Int, tBy (upd g4 ((x1 - 1) * 4 + tBy g2 (x1 - 1)).toNat (Int32.ofInt v)) j = if j.toNat = ((x1 - 1) * 4 + tBy g2 (x1 - 1)).toNat then v else tBy g4 j := fun j => zup hv j
  have hc1 : (x1 = tBy T' 1 ∧ 0 ≤ x1 ∧ x1 ≤ 5) := by
    rw [hT, if_neg (by omega), if_neg (by omega), if_neg (by omega)]
    exact h2
  have hc2 : ∀ i : Int, 0 ≤ i → i < 5 → tBy T' (6 + i) = tBy (upd g2 (x1 - 1).toNat (Int32.ofInt (tBy g2 (x1 - 1) + 1))) i ∧ 0 ≤ tBy (upd g2 (x1 - 1).toNat (Int32.ofInt (tBy g2 (x1 - 1) + 1))) i ∧ tBy (upd g2 (x1 - 1).toNat (Int32.ofInt (tBy g2 (x1 - 1) + 1))) i ≤ 4 := by
    intro i i0 i5
    have hi := h3 i i0 i5
    rw [hT, e2]
    by_cases c1 : i = x1 - 1
    · rw [if_pos (by omega), if_pos (by omega)]; omega
    · rw [if_neg (by omega), if_neg (by omega), if_neg (by omega), if_neg (by omega)]; exact hi
  rw [bBeg_C (by omega) hx hn, bTake_1 hL]
  by_cases hr : (lo ≤ v ∧ v ≤ hi) ∧ 0 ≤ x1 - 1 ∧ 0 < tBy (upd g2 (x1 - 1).toNat (Int32.ofInt (tBy g2 (x1 - 1) + 1))) (x1 - 1)
  · rw [if_pos hr]
    have ee : (x1 - 1) * 4 + tBy (upd g2 (x1 - 1).toNat (Int32.ofInt (tBy g2 (x1 - 1) + 1))) (x1 - 1) - 1 = (x1 - 1) * 4 + tBy g2 (x1 - 1) := by
      rw [e2, if_pos rfl]; omega
    rw [ee]
    refine ⟨rfc_I h1, hc1, hc2, fun q => ?_⟩
    have h5 := h4 (wI_0 q).1
    refine ⟨?_, fun i i0 i4 => ?_, fun i k i0 i5 k0 k4 => ?_⟩
    · rw [hT, if_neg (by omega), if_neg (by omega), if_neg (by omega)]
      exact h5.1
    · rw [hT, if_neg (by omega), if_neg (by omega), if_neg (by omega)]
      exact h5.2.1 i i0 i4
    · have h6 := h5.2.2 i k i0 i5 k0 k4
      rw [hT, hT, e2, e3, e4]
      by_cases c1 : i = x1 - 1
      · by_cases c2 : k = tBy g2 (x1 - 1)
        · rw [if_neg (by omega), if_neg (by omega), if_pos (by omega), if_pos (by omega), if_neg (by omega), if_pos (by omega), if_pos (by omega), if_pos (by omega)]
          exact ⟨rfl, rfl, fun z => by omega⟩
        · rw [if_neg (by omega), if_neg (by omega), if_neg (by omega), if_neg (by omega), if_neg (by omega), if_neg (by omega), if_neg (by omega), if_neg (by omega), if_pos (by omega)]
          refine ⟨h6.1, h6.2.1, fun z => h6.2.2 ?_⟩
          rw [c1]; omega
      · rw [if_neg (by omega), if_neg (by omega), if_neg (by omega), if_neg (by omega), if_neg (by omega), if_neg (by omega), if_neg (by omega), if_neg (by omega), if_neg (by omega)]
        exact h6
  · rw [if_neg hr]
    refine ⟨rfc_I h1, hc1, hc2, fun q => ?_⟩
    have h5 := wI_0 q
    exact absurd ⟨h5.2, by omega, by rw [e2, if_pos rfl]; omega⟩ hr
/-- a turn is told -/
theorem relB_T {s f c x0 x1 x2 f16 f17 : Int} {g1 g2 g3 g4 T : Nat → Int32} (h : RELB (f, c, x0, x1, x2, g1, g2, g3, g4) f16 f17 T) (hx : ¬ x1 - 1 < 0) (hn : ¬ 4 ≤ tBy g2 (x1 - 1)) {T' : Nat → Int32} (hT : ∀ j : Int, tBy T' j = if j.toNat = (6 + (x1 - 1)).toNat then tBy g2 (x1 - 1) + 1 else if j.toNat = (12 + 8 * (x1 - 1) + 2 * tBy g2 (x1 - 1)).toNat then 0 else if j.toNat = (11 + 8 * (x1 - 1) + 2 * tBy g2 (x1 - 1)).toNat then 4 else tBy T j) : RELB (bBeg 4 s (f, c, x0, x1, x2, g1, g2, g3, g4)) f16 f17 T' := by
  obtain ⟨h1, h2, h3, h4⟩ := h
  have hq := h3 (x1 - 1) (by omega) (by omega)
  have e2 : ∀ j : Int, tBy (upd g2 (x1 - 1).toNat (Int32.ofInt (tBy g2 (x1 - 1) + 1))) j = if j.toNat = (x1 - 1).toNat then tBy g2 (x1 - 1) + 1 else tBy g2 j := fun j => zup (by omega) j
  have e3 : ∀ j : Int, tBy (upd g3 ((x1 - 1) * 4 + tBy g2 (x1 - 1)).toNat (Int32.ofInt 4)) j = if j.toNat = ((x1 - 1) * 4 + tBy g2 (x1 - 1)).toNat then 4 else tBy g3 j := fun j => zup (by omega) j
  rw [bBeg_C (by omega) hx hn]
  refine ⟨h1, ?_, fun i i0 i5 => ?_, fun q => ?_⟩
  · rw [hT, if_neg (by omega), if_neg (by omega), if_neg (by omega)]
    exact h2
  · have hi := h3 i i0 i5
    rw [hT, e2]
    by_cases c1 : i = x1 - 1
    · rw [if_pos (by omega), if_pos (by omega)]; omega
    · rw [if_neg (by omega), if_neg (by omega), if_neg (by omega), if_neg (by omega)]; exact hi
  have h5 := h4 q
  refine ⟨?_, fun i i0 i4 => ?_, fun i k i0 i5 k0 k4 => ?_⟩
  · rw [hT, if_neg (by omega), if_neg (by omega), if_neg (by omega)]
    exact h5.1
  · rw [hT, if_neg (by omega), if_neg (by omega), if_neg (by omega)]
    exact h5.2.1 i i0 i4
  · have h6 := h5.2.2 i k i0 i5 k0 k4
    rw [hT, hT, e2, e3]
    by_cases c1 : i = x1 - 1
    · by_cases c2 : k = tBy g2 (x1 - 1)
      · have h7 := h6.2.2 (by rw [c1]; omega)
        rw [if_neg (by omega), if_neg (by omega), if_pos (by omega), if_pos (by omega), if_neg (by omega), if_pos (by omega), if_pos (by omega)]
        exact ⟨rfl, h7.symm, fun z => h7⟩
      · rw [if_neg (by omega), if_neg (by omega), if_neg (by omega), if_neg (by omega), if_neg (by omega), if_neg (by omega), if_neg (by omega), if_pos (by omega)]
        refine ⟨h6.1, h6.2.1, fun z => h6.2.2 ?_⟩
        rw [c1]; omega
    · rw [if_neg (by omega), if_neg (by omega), if_neg (by omega), if_neg (by omega), if_neg (by omega), if_neg (by omega), if_neg (by omega), if_neg (by omega)]
      exact h6
/-- a reader is told -/
theorem relB_R {s f c x0 x1 x2 f16 f17 f' c' y : Int} {g1 g2 g3 g4 T : Nat → Int32} (h : RELB (f, c, x0, x1, x2, g1, g2, g3, g4) f16 f17 T) (hf : (tBy T 1 = 5 ∧ f' = fW f16 f17 3 s ∧ c' = fC f16 f17 3 s) ∨ (tBy T 1 ≠ 5 ∧ f' = f16 ∧ c' = f17)) (hy : y ≤ 5 ∧ y ≤ tBy T 1 + 1 ∧ (y = 5 ∨ y = tBy T 1 + 1)) : RELB (bBeg 7 s (f, c, x0, x1, x2, g1, g2, g3, g4)) f' c' (upd T (1 : Int).toNat (Int32.ofInt y)) := by
  obtain ⟨h1, h2, h3, h4⟩ := h
  have e : ∀ j : Int, tBy (upd T (1 : Int).toNat (Int32.ofInt y)) j = if j.toNat = (1 : Int).toNat then y else tBy T j := fun j => zup (by omega) j
  have hd : ∀ i : Int, 0 ≤ i → i < 5 → tBy (upd T (1 : Int).toNat (Int32.ofInt y)) (6 + i) = tBy g2 i ∧ 0 ≤ tBy g2 i ∧ tBy g2 i ≤ 4 := fun i a b => by
    rw [e, if_neg (by omega)]; exact h3 i a b
  have hb : RBD x0 g1 g2 g3 g4 T → RBD x0 g1 g2 g3 g4 (upd T (1 : Int).toNat (Int32.ofInt y)) := fun z => by
    refine ⟨?_, fun i a b => ?_, fun i k a b c d => ?_⟩
    · rw [e, if_neg (by decide)]; exact z.1
    · rw [e, if_neg (by omega)]; exact z.2.1 i a b
    · rw [e, e, if_neg (by omega), if_neg (by omega)]; exact z.2.2 i k a b c d
  unfold bBeg
  dsimp only
  rw [if_neg (by decide), if_pos rfl]
  by_cases h5 : x1 < 5
  · rw [if_pos h5]
    rcases hf with ⟨q, _⟩ | ⟨q, rfl, rfl⟩
    · omega
    · exact ⟨h1, by rw [e, if_pos rfl]; omega, hd, fun z => hb (h4 z)⟩
  · rw [if_neg h5]
    rcases hf with ⟨q, rfl, rfl⟩ | ⟨q, _⟩
    · exact ⟨rfc_W h1, by rw [e, if_pos rfl]; omega, hd, fun z => absurd z (fW_0 (by omega))⟩
    · omega
/-- a text is told -/
theorem relB_X {f c x0 x1 x2 f16 f17 f' c' y : Int} {g1 g2 g3 g4 T : Nat → Int32} (h : RELB (f, c, x0, x1, x2, g1, g2, g3, g4) f16 f17 T) {F C X : Int} (hf : RFC F C f' c') (hm : F = 0 → f = 0) (hy : r32 y) (hX : f' = 0 → y = X) : RELB (F, C, X, x1, x2, g1, g2, g3, g4) f' c' (upd T (0 : Int).toNat (Int32.ofInt y)) := by
  obtain ⟨h1, h2, h3, h4⟩ := h
  have e : ∀ j : Int, tBy (upd T (0 : Int).toNat (Int32.ofInt y)) j = if j.toNat = (0 : Int).toNat then y else tBy T j := fun j => zup hy j
  refine ⟨hf, by rw [e, if_neg (by decide)]; exact h2, fun i a b => by rw [e, if_neg (by omega)]; exact h3 i a b, fun q => ?_⟩
  have z := h4 (hm q)
  refine ⟨by rw [e, if_pos rfl]; exact (hX (by omega)).symm, fun i a b => ?_, fun i k a b c d => ?_⟩
  · rw [e, if_neg (by omega)]; exact z.2.1 i a b
  · rw [e, e, if_neg (by omega), if_neg (by omega)]; exact z.2.2 i k a b c d
theorem nm_f0 {g : Nat → Int32} {n : Int} : ∀ (m : Nat) (k a f c x : Int), (nmF g n txT m k a (f, c, x)).2.2.1 = 0 → f = 0
  | 0, k, a, f, c, x, h => h
  | m + 1, k, a, f, c, x, h => by
    by_cases hk : tK g n a = 2
    · have e : ∀ y, nmF g n txT (m + 1) k a y = nmF g n txT m (k + 1) (tE g n a) (txT k (tV g n a) (tS g n a) y) := fun y => if_pos hk
      rw [e] at h
      by_cases h6 : 6 ≤ k
      · rw [txT_6 h6] at h
        exact absurd (wI_0 (nm_f0 m _ _ _ _ _ h)).1 (fW_0 (by omega))
      · rw [txT_5 (by omega)] at h
        exact (wI_0 (nm_f0 m _ _ _ _ _ h)).1
    · have e : ∀ y, nmF g n txT (m + 1) k a y = (k, a, y) := fun y => if_neg hk
      rw [e] at h
      exact h
/-- kin are told -/
theorem relB_K {f c x0 x1 x2 f16 f17 v1 s1 v2 s2 : Int} {g1 g2 g3 g4 T : Nat → Int32} (h : RELB (f, c, x0, x1, x2, g1, g2, g3, g4) f16 f17 T) (hv : r32 v1 ∧ r32 v2) {T' : Nat → Int32} (hT : (0 ≤ v1 ∧ v1 ≤ 3 ∧ ∀ j : Int, tBy T' j = if j.toNat = (2 + v1).toNat then v2 else tBy T j) ∨ (¬ (0 ≤ v1 ∧ v1 ≤ 3) ∧ T' = T)) : RELB (bTake 6 1 v2 s2 (bTake 6 0 v1 s1 (f, c, x0, x1, x2, g1, g2, g3, g4))) (wI (wI f16 f17 0 3 v1 s1) (wJ f16 f17 0 3 v1 s1) 0 3 v2 s2) (wJ (wI f16 f17 0 3 v1 s1) (wJ f16 f17 0 3 v1 s1) 0 3 v2 s2) T' := by
  obtain ⟨h1, h2, h3, h4⟩ := h
  have ea : bTake 6 0 v1 s1 (f, c, x0, x1, x2, g1, g2, g3, g4) = (wI f c 0 3 v1 s1, wJ f c 0 3 v1 s1, x0, x1, if 0 ≤ v1 ∧ v1 ≤ 3 then v1 else x2, g1, g2, g3, g4) := by
    unfold bTake bKp
    dsimp only
    rw [if_neg (by decide), if_neg (by decide)]
    by_cases q : 0 ≤ v1 ∧ v1 ≤ 3
    · rw [if_pos q, if_neg (by decide), if_pos (by decide), if_pos q]
    · rw [if_neg q, if_neg q]
  rw [ea]
  have hr := rfc_I (lo := 0) (hi := 3) (v := v2) (s := s2) (rfc_I (lo := 0) (hi := 3) (v := v1) (s := s1) h1)
  rcases hT with ⟨q1, q2, hT⟩ | ⟨q1, rfl⟩
  · rw [if_pos ⟨q1, q2⟩]
    have hc1 : (x1 = tBy T' 1 ∧ 0 ≤ x1 ∧ x1 ≤ 5) := by rw [hT, if_neg (by omega)]; exact h2
    have hc2 : ∀ i : Int, 0 ≤ i → i < 5 → tBy T' (6 + i) = tBy g2 i ∧ 0 ≤ tBy g2 i ∧ tBy g2 i ≤ 4 := fun i a b => by rw [hT, if_neg (by omega)]; exact h3 i a b
    unfold bTake bKp
    dsimp only
    rw [if_neg (by decide), if_neg (by decide)]
    by_cases q : 0 ≤ v2 ∧ v2 ≤ 3
    · rw [if_pos q, if_neg (by decide), if_neg (by decide), if_pos (by decide), if_pos ⟨q1, q2⟩]
      refine ⟨hr, hc1, hc2, fun z => ?_⟩
      have z2 := h4 (wI_0 (wI_0 z).1).1
      refine ⟨by rw [hT, if_neg (by omega)]; exact z2.1, fun i a b => ?_, fun i k a b c d => ?_⟩
      · rw [hT, zup (by omega)]
        by_cases c1 : i = v1
        · rw [if_pos (by omega), if_pos (by omega)]
        · rw [if_neg (by omega), if_neg (by omega)]; exact z2.2.1 i a b
      · rw [hT, hT, if_neg (by omega), if_neg (by omega)]; exact z2.2.2 i k a b c d
    · rw [if_neg q]
      exact ⟨hr, hc1, hc2, fun z => absurd (wI_0 z).2 q⟩
  · rw [if_neg q1]
    have hF : wI (wI f c 0 3 v1 s1) (wJ f c 0 3 v1 s1) 0 3 v2 s2 ≠ 0 := fun z => q1 (wI_0 (wI_0 z).1).2
    unfold bTake bKp
    dsimp only
    rw [if_neg (by decide), if_neg (by decide)]
    (repeat' split) <;> exact ⟨hr, h2, h3, fun z => absurd z hF⟩
theorem nmB_1 {g : Nat → Int32} {n L p : Int} {X : tpB} (hL : 0 ≤ L ∧ L ≤ 3) (h : tK g n p = 2) : nmF g n (bTake L) (bMs L).toNat 0 p X = (1, tE g n p, bTake L 0 (tV g n p) (tS g n p) X) := by
  rw [(bMs_v hL).1]
  exact if_pos h
theorem lnp_1 {g : Nat → Int32} {n L p y f' c' : Int} {X : tpB} {T' : Nat → Int32} (hL : 0 ≤ L ∧ L ≤ 3) (h : tK g n p = 2) (hr : RELB (bTake L 0 (tV g n p) (tS g n p) X) f' c' T') : LNP g n (bFw L) (nmF g n (bTake L) (bMs L).toNat 0 p X) 1 (tE g n p) y (fun X => RELB X f' c' T') := by
  rw [nmB_1 hL h]
  exact Or.inl ⟨rfl, by rw [(bMs_v hL).2]; exact (by decide : ¬ (1 : Int) < 1), rfl, hr⟩
theorem lnp_0 {g : Nat → Int32} {n L p y a' : Int} {X : tpB} {R : tpB → Prop} (hL : 0 ≤ L ∧ L ≤ 3) (h : tK g n p ≠ 2) (hy : y = tS g n p) : LNP g n (bFw L) (nmF g n (bTake L) (bMs L).toNat 0 p X) 0 a' y R := by
  rw [nm_0 (Or.inr h)]
  exact Or.inr ⟨rfl, by rw [(bMs_v hL).2]; exact (by decide : (0 : Int) < 1), hy⟩
theorem lnp_4 {g : Nat → Int32} {n p y f' c' L : Int} {X : tpB} {T' : Nat → Int32} (hL : L = 4 ∨ L = 7) (hr : RELB X f' c' T') : LNP g n (bFw L) (nmF g n (bTake L) (bMs L).toNat 0 p X) 1 p y (fun X => RELB X f' c' T') := by
  rcases hL with rfl | rfl
  · rw [nm_0 (Or.inl bMs_4.1)]
    exact Or.inl ⟨rfl, by rw [bMs_4.2]; exact (by decide : ¬ (0 : Int) < 0), rfl, hr⟩
  · rw [nm_0 (Or.inl bMs_7.1)]
    exact Or.inl ⟨rfl, by rw [bMs_7.2]; exact (by decide : ¬ (0 : Int) < 0), rfl, hr⟩
theorem stT {T : Nat → Int32} {r L v n : Int} (hr : 0 ≤ r ∧ r ≤ 4) (hn : tBy T (6 + r) = n) (hn4 : 0 ≤ n ∧ n ≤ 3) (hL : r32 L) (hv : r32 v) (j : Int) : tBy (upd (upd (upd T (11 + 8 * r + 2 * tBy T (6 + r)).toNat (Int32.ofInt L)) (11 + 8 * r + 2 * tBy T (6 + r) + 1).toNat (Int32.ofInt v)) (6 + r).toNat (Int32.ofInt (tBy (upd (upd T (11 + 8 * r + 2 * tBy T (6 + r)).toNat (Int32.ofInt L)) (11 + 8 * r + 2 * tBy T (6 + r) + 1).toNat (Int32.ofInt v)) (6 + r) + 1))) j = if j.toNat = (6 + r).toNat then n + 1 else if j.toNat = (12 + 8 * r + 2 * n).toNat then v else if j.toNat = (11 + 8 * r + 2 * n).toNat then L else tBy T j := by
  rw [hn]
  have e1 : ∀ j : Int, tBy (upd (upd T (11 + 8 * r + 2 * n).toNat (Int32.ofInt L)) (11 + 8 * r + 2 * n + 1).toNat (Int32.ofInt v)) j = if j.toNat = (11 + 8 * r + 2 * n + 1).toNat then v else if j.toNat = (11 + 8 * r + 2 * n).toNat then L else tBy T j := fun j => by rw [zup hv, zup hL]
  rw [e1 (6 + r), if_neg (by omega), if_neg (by omega), hn, zup (by omega), e1, show 12 + 8 * r + 2 * n = 11 + 8 * r + 2 * n + 1 by omega]
theorem nm_ge {g : Nat → Int32} {n : Int} {α : Type} {tk : Int → Int → Int → α → α} : ∀ (m : Nat) (k a : Int) (x : α), k ≤ (nmF g n tk m k a x).1
  | 0, k, a, x => Int.le_refl _
  | m + 1, k, a, x => by
    by_cases hk : tK g n a = 2
    · have e : nmF g n tk (m + 1) k a x = nmF g n tk m (k + 1) (tE g n a) (tk k (tV g n a) (tS g n a) x) := if_pos hk
      rw [e]
      have := nm_ge (g := g) (n := n) (tk := tk) m (k + 1) (tE g n a) (tk k (tV g n a) (tS g n a) x)
      omega
    · have e : nmF g n tk (m + 1) k a x = (k, a, x) := if_neg hk
      rw [e]
      exact Int.le_refl _
theorem lnp_5 {g : Nat → Int32} {n p y a' f c x0 x1 x2 f16 f17 f' c' nn X r : Int} {g1 g2 g3 g4 T : Nat → Int32} (h : RELB (f, c, x0, x1, x2, g1, g2, g3, g4) f16 f17 T) (ht : nmF g n txT 600 0 p (f16, f17, 0) = (nn, a', f', c', X)) (hy : r32 r) (hX : f' = 0 → r = X) {s : Int} : LNP g n (bFw 5) (nmF g n (bTake 5) (bMs 5).toNat 0 p (bBeg 5 s (f, c, x0, x1, x2, g1, g2, g3, g4))) 1 a' y (fun X => RELB X f' c' (upd T (0 : Int).toNat (Int32.ofInt r))) := by
  have eb : bBeg 5 s (f, c, x0, x1, x2, g1, g2, g3, g4) = (f, c, 0, x1, x2, g1, g2, g3, g4) := rfl
  obtain ⟨n1, n2, n3, n4⟩ := nm_rfc (g := g) (n := n) 600 0 p f c f16 f17 0 h.1
  rw [ht] at n1 n2 n3 n4
  rw [eb, bMs_5.1, bMs_5.2, show ((600 : Int)).toNat = 600 from rfl, nm_B]
  refine Or.inl ⟨rfl, ?_, n2.symm, ?_⟩
  · have := nm_ge (g := g) (n := n) (tk := txT) 600 0 p (f, c, 0)
    dsimp only
    omega
  · exact relB_X h n3 (fun q => nm_f0 600 0 p f c 0 q) hy (fun q => (hX q).trans n4.symm)
theorem lnp_6 {g : Nat → Int32} {n p y f c x0 x1 x2 f16 f17 v1 v2 : Int} {g1 g2 g3 g4 T T' : Nat → Int32} (h : RELB (f, c, x0, x1, x2, g1, g2, g3, g4) f16 f17 T) {s : Int} (hk1 : tK g n p = 2) (hk2 : tK g n (tE g n p) = 2) (hv1 : v1 = tV g n p) (hv2 : v2 = tV g n (tE g n p)) (hv : r32 v1 ∧ r32 v2) (hT : (0 ≤ v1 ∧ v1 ≤ 3 ∧ ∀ j : Int, tBy T' j = if j.toNat = (2 + v1).toNat then v2 else tBy T j) ∨ (¬ (0 ≤ v1 ∧ v1 ≤ 3) ∧ T' = T)) : LNP g n (bFw 6) (nmF g n (bTake 6) (bMs 6).toNat 0 p (bBeg 6 s (f, c, x0, x1, x2, g1, g2, g3, g4))) 1 (tE g n (tE g n p)) y (fun X => RELB X (wI (wI f16 f17 0 3 v1 (tS g n p)) (wJ f16 f17 0 3 v1 (tS g n p)) 0 3 v2 (tS g n (tE g n p))) (wJ (wI f16 f17 0 3 v1 (tS g n p)) (wJ f16 f17 0 3 v1 (tS g n p)) 0 3 v2 (tS g n (tE g n p))) T') := by
  subst hv1
  subst hv2
  have eb : bBeg 6 s (f, c, x0, x1, x2, g1, g2, g3, g4) = (f, c, x0, x1, x2, g1, g2, g3, g4) := rfl
  rw [eb, bMs_6.1, bMs_6.2, nm_1 (by decide) hk1, nm_1 (by decide) hk2, nm_0 (Or.inl (by decide))]
  exact Or.inl ⟨rfl, by dsimp only; omega, rfl, relB_K h hv hT⟩
theorem lnp_60 {g : Nat → Int32} {n p y a' s : Int} {x : tpB} {R : tpB → Prop} (hk1 : tK g n p ≠ 2) (hy : y = tS g n p) : LNP g n (bFw 6) (nmF g n (bTake 6) (bMs 6).toNat 0 p (bBeg 6 s x)) 0 a' y R := by
  rw [bMs_6.1, bMs_6.2, nm_0 (Or.inr hk1)]
  exact Or.inr ⟨rfl, by dsimp only; omega, hy⟩
theorem lnp_61 {g : Nat → Int32} {n p y a' s : Int} {x : tpB} {R : tpB → Prop} (hk1 : tK g n p = 2) (hk2 : tK g n (tE g n p) ≠ 2) (hy : y = tS g n (tE g n p)) : LNP g n (bFw 6) (nmF g n (bTake 6) (bMs 6).toNat 0 p (bBeg 6 s x)) 0 a' y R := by
  rw [bMs_6.1, bMs_6.2, nm_1 (by decide) hk1, nm_0 (Or.inr hk2)]
  exact Or.inr ⟨rfl, by dsimp only; omega, hy⟩
theorem x_takeText (w : zW) (d : Nat) (a1 : Int) (f0 f10 f13 f15 f16 f17 f20 f21 f22 f23 f26 f28 f31 f32 f33 f38 f41 f44 a : Int) (x14 : Int64) (g15 g g24 : Nat → Int32) (hK0 : zix w 14 = some (.inr (11, [.int (Int32.ofInt f0), .ref 15, .ref 16, .ref 17, .ref 18, .ref 19, .ref 20, .ref 21, .ref 22, .int (Int32.ofInt (tE g f10 a)), .int (Int32.ofInt f10), .int (Int32.ofInt (tS g f10 a)), .int (Int32.ofInt (rK (tK g f10 a))), .int (Int32.ofInt f13), .long x14, .int (Int32.ofInt f15), .int (Int32.ofInt f16), .int (Int32.ofInt f17), .ref 23, .ref 24, .int (Int32.ofInt f20), .int (Int32.ofInt f21), .int (Int32.ofInt f22), .int (Int32.ofInt f23), .ref 25, .ref 26, .int (Int32.ofInt f26), .ref 27, .int (Int32.ofInt f28), .ref 28, .ref 29, .int (Int32.ofInt f31), .int (Int32.ofInt f32), .int (Int32.ofInt f33), .ref 30, .ref 31, .ref 32, .ref 33, .int (Int32.ofInt f38), .ref 34, .ref 35, .int (Int32.ofInt f41), .ref 36, .ref 37, .int (Int32.ofInt f44), .ref 38, .ref 39, .ref 40, .ref 41, .ref 42, .ref 43, .ref 44]))) (hK1 : zix w 15 = some (.inl (0, 2400, .inl g15))) (hK2 : zix w 24 = some (.inl (1, 3, .inl g24))) (hr0 : 0 ≤ a ∧ a ≤ f10 ∧ f10 ≤ 600) (hr1 : ∀ i : Int, 0 ≤ i → i < f10 → tBy g15 i = tBy g i ∧ -128 ≤ tBy g i ∧ tBy g i ≤ 127) (hr2 : tK g f10 a = 2 → f13 = tV g f10 a) (hr3 : (-2147483648 ≤ f16 ∧ f16 ≤ 2147483647) ∧ (-2147483648 ≤ f17 ∧ f17 ≤ 2147483647)) (hr4 : 0 ≤ a1 ∧ a1 ≤ 1) (Q : zQ) (h : ∀ (nn' xg' a' x' f' c' y15 : Int) (z' : Int64) (R' : Nat → Int32) (w' : zW), wfM (fun j => j ≠ 14 ∧ j ≠ 24) w w' → zix w' 14 = some (.inr (11, [.int (Int32.ofInt f0), .ref 15, .ref 16, .ref 17, .ref 18, .ref 19, .ref 20, .ref 21, .ref 22, .int (Int32.ofInt (tE g f10 a')), .int (Int32.ofInt f10), .int (Int32.ofInt (tS g f10 a')), .int (Int32.ofInt (rK (tK g f10 a'))), .int (Int32.ofInt x'), .long z', .int (Int32.ofInt y15), .int (Int32.ofInt f'), .int (Int32.ofInt c'), .ref 23, .ref 24, .int (Int32.ofInt f20), .int (Int32.ofInt f21), .int (Int32.ofInt f22), .int (Int32.ofInt f23), .ref 25, .ref 26, .int (Int32.ofInt f26), .ref 27, .int (Int32.ofInt f28), .ref 28, .ref 29, .int (Int32.ofInt f31), .int (Int32.ofInt f32), .int (Int32.ofInt f33), .ref 30, .ref 31, .ref 32, .ref 33, .int (Int32.ofInt f38), .ref 34, .ref 35, .int (Int32.ofInt f41), .ref 36, .ref 37, .int (Int32.ofInt f44), .ref 38, .ref 39, .ref 40, .ref 41, .ref 42, .ref 43, .ref 44])) → zix w' 24 = some (.inl (1, 3, .inl R')) → (nmF g f10 txT 600 0 a (f16, f17, 0) = (nn', a', f', c', xg')) → (tK g f10 a' ≠ 2) → (0 ≤ a' ∧ a' ≤ f10 ∧ r32 f' ∧ r32 c' ∧ a ≤ a') → (f' = 0 → tBy R' a1 = xg') → (∀ i : Int, 0 ≤ i → i ≠ 2 → i ≠ a1 → tBy R' i = tBy g24 i) → Q (none) w') : zCl zTab (d + 5) iX12_takeText [.ref 14, .int (Int32.ofInt a1)] w 0 0 Q := by
  refine zCl_i (M := kX12_takeText) rfl (Nat.le_of_ble_eq_true rfl) fun R hR => ?_
  have fr0 : wfM (fun j => j ≠ 14 ∧ j ≠ 24) w w := wfM_rf _ w
  have hb1 := tS_b (g := g) (n := f10) (a := a) (by omega) (by omega)
  have hb2 := tE_b (g := g) (n := f10) (a := a) (by omega) (by omega)
  have hb3 := rK_r (g := g) (n := f10) (a := a)
  have nX0 : FX (∀ j : Nat, (j ≠ 14 ∧ j ≠ 24) → j ≠ 24) := fun j hj => by omega
  have nX1 : FX (∀ j : Nat, (j ≠ 14 ∧ j ≠ 24) → (j ≠ 14 ∧ j ≠ 24)) := fun j hj => by omega
  have nX2 : FX (∀ j : Nat, (j ≠ 14 ∧ j ≠ 24) → (j ≠ 14)) := fun j hj => by omega
  iterate 4 refine hR (?_ : R (_, _, _, _, _, _))
  have lp4 : ∀ (N : Nat) (n2 : Int) (fg : Int) (a2 xv f2 c2 yq nn xg : Int) (z2 : Int64) (R2 : Nat → Int32) (w_4 : zW), (wfM (fun j => j ≠ 14 ∧ j ≠ 24) w w_4) → (zix w_4 14 = some (.inr (11, [.int (Int32.ofInt f0), .ref 15, .ref 16, .ref 17, .ref 18, .ref 19, .ref 20, .ref 21, .ref 22, .int (Int32.ofInt (tE g f10 a2)), .int (Int32.ofInt f10), .int (Int32.ofInt (tS g f10 a2)), .int (Int32.ofInt (rK (tK g f10 a2))), .int (Int32.ofInt xv), .long z2, .int (Int32.ofInt yq), .int (Int32.ofInt f2), .int (Int32.ofInt c2), .ref 23, .ref 24, .int (Int32.ofInt f20), .int (Int32.ofInt f21), .int (Int32.ofInt f22), .int (Int32.ofInt f23), .ref 25, .ref 26, .int (Int32.ofInt f26), .ref 27, .int (Int32.ofInt f28), .ref 28, .ref 29, .int (Int32.ofInt f31), .int (Int32.ofInt f32), .int (Int32.ofInt f33), .ref 30, .ref 31, .ref 32, .ref 33, .int (Int32.ofInt f38), .ref 34, .ref 35, .int (Int32.ofInt f41), .ref 36, .ref 37, .int (Int32.ofInt f44), .ref 38, .ref 39, .ref 40, .ref 41, .ref 42, .ref 43, .ref 44]))) → (zix w_4 15 = some (.inl (0, 2400, .inl g15))) → (zix w_4 24 = some (.inl (1, 3, .inl R2))) → (0 ≤ n2 ∧ n2 ≤ 6) → (0 ≤ fg ∧ fg ≤ 99 * ((tSh n2.toNat : Nat) : Int)) → (nmF g f10 txT (600 - nn).toNat nn a2 (f2, c2, xg) = nmF g f10 txT 600 0 a (f16, f17, 0)) → (tK g f10 a2 = 2 → xv = tV g f10 a2) → (0 ≤ a2 ∧ a2 ≤ f10 ∧ a ≤ a2 ∧ 0 ≤ nn ∧ nn ≤ a2 ∧ ((nn ≤ 6 ∧ n2 = nn) ∨ (6 ≤ nn ∧ n2 = 6))) → (r32 f2 ∧ r32 c2) → (f2 = 0 → xg = ((tSh n2.toNat : Nat) : Int) + fg) → (True) → (∀ i : Int, 0 ≤ i → i ≠ 2 → tBy R2 i = tBy g24 i) → (601 - nn < N) → R (4, [some (.ref 14), some (.int (Int32.ofInt a1)), some (.int (Int32.ofInt n2)), some (.int (Int32.ofInt fg))], [], w_4, 0, 0) := by
    intro N
    induction N with
    | zero => intros; omega
    | succ N ih4 =>
      intro n2 fg a2 xv f2 c2 yq nn xg z2 R2 w_4 fr_4 hC14_4 hC15_4 hC24_4 hf0_4 hf1_4 hp0_4 hp1_4 hp2_4 hp3_4 hp4_4 hp5_4 hp6_4 hN4
      have hb4 := tS_b (g := g) (n := f10) (a := a2) (by omega) (by omega)
      have hb5 := tE_b (g := g) (n := f10) (a := a2) (by omega) (by omega)
      have hb6 := rK_r (g := g) (n := f10) (a := a2)
      have hsh := tSh_i (n := n2) (by omega)
      have hv2 : tK g f10 a2 = 2 → 0 ≤ xv ∧ xv ≤ 99 := fun e => by rw [hp1_4 e]; exact (tK_num (by omega) (by omega) e).2
      refine hR (?_ : R (_, _, _, _, _, _))
      refine hR (c_get hC14_4 rfl ?_)
      refine hR (?_ : R (_, _, _, _, _, _))
      refine hR (j_ne (by omega) (by omega) (fun hc7 => ?_) (fun hc7 => ?_))
      · skip
        refine hR (?_ : R (_, _, _, _, _, _))
        refine hR (c_get hC14_4 rfl ?_)
        iterate 2 refine hR (?_ : R (_, _, _, _, _, _))
        refine hR (zcall_i 0 0 (Nat.le_of_ble_eq_true rfl) (Nat.le_of_ble_eq_true rfl) (m_shorter _ n2 _ (by omega) _ fun v8 hp9 hhp9 => ?_))
        refine (?_ : R (_, _, .int (Int32.ofInt v8) :: .int (Int32.ofInt a1) :: .ref 24 :: [], w_4, 0, 0))
        refine hR (?_ : R (_, _, _, _, _, _))
        refine hR (t_add ?_)
        refine hR (x_ast hC24_4 (by omega) (by omega) (Nat.le_of_ble_eq_true rfl) fun w10 ff10 hC10 => ?_)
        have fr11 := wfM_st fr_4 ff10 nX0
        have hC12 := (ff10.2 14 (by (try dsimp only); decide)).trans hC14_4
        have hC13 := (ff10.2 15 (by (try dsimp only); decide)).trans hC15_4
        exact hR (zret_i rfl (Nat.le_refl _) rfl (h _ _ _ _ _ _ _ _ _ _ fr11 hC12 hC10 (hp0_4.symm.trans (nmF_e (ms := 600) (Or.inr (by omega)))) (by omega) (by omega) (fun q => by have h2 := hp4_4 q; rw [zup (by omega), if_pos rfl]; omega) (fun i h0 h1 h2 => by rw [zup (by omega), if_neg (by omega)]; exact hp6_4 i h0 h1)))
      refine hR (?_ : R (_, _, _, _, _, _))
      refine hR (t_c 6 (by decide) ?_)
      refine hR (j_ne (by omega) (by omega) (fun hc14 => ?_) (fun hc14 => ?_))
      rotate_left
      · skip
        iterate 3 refine hR (?_ : R (_, _, _, _, _, _))
        refine hR (c_get hC14_4 rfl ?_)
        refine hR (c_obj hC14_4 (zcall_i 0 0 (Nat.le_of_ble_eq_true rfl) (Nat.le_of_ble_eq_true rfl) (x_later _ _ _ _ _ _ _ _ _ _ _ _ _ _ _ _ _ _ _ _ _ _ _ _ _ _ hC14_4 (by omega) _ fun f'_33 c'_34 w35 gg36 hC37 hp38 => ?_)))
        have fr39 := wfM_tr fr_4 gg36 nX2
        have hC40 := (gg36.2 15 (by (try dsimp only); decide)).trans hC15_4
        have hC41 := (gg36.2 24 (by (try dsimp only); decide)).trans hC24_4
        obtain ⟨rfl, rfl⟩ := hp38
        have hq42 := @fW_r f2 c2 3 (tS g f10 a2) (by omega)
        refine (?_ : R (_, _, [], w35, 0, 0))
        iterate 4 refine hR (?_ : R (_, _, _, _, _, _))
        refine hR (c_obj hC37 (zcall_i 0 0 (Nat.le_of_ble_eq_true rfl) (Nat.le_of_ble_eq_true rfl) (x_take _ _ _ _ _ _ _ _ _ _ _ _ _ _ _ _ _ _ _ _ _ _ _ _ _ _ _ _ hC37 hC40 hC41 (by omega) hr1 hp1_4 (by omega) (by omega) (by omega) _ fun v43 a'_44 x'_45 f'_46 c'_47 y15_48 z'_49 R'_50 w51 gg52 hC53 hC54 hp55 hp56 hp57 => ?_)))
        have fr58 := wfM_tr fr39 gg52 nX1
        have hC59 := (gg52.2 15 (by (try dsimp only); decide)).trans hC40
        refine (?_ : R (_, _, .int (Int32.ofInt v43) :: [], w51, 0, 0))
        rcases hp55 with hq0 | ⟨hv1, hk1, e1, e2, e3, e4, e5⟩
        · exact absurd (by omega) hq0.2.1
        have hV := hp1_4 hk1
        have hxv := hv2 hk1
        have hr2v : tBy R'_50 2 = xv := by rw [e4]; exact (zup (by omega) 2).trans (if_pos rfl)
        have hRo : ∀ i : Int, 0 ≤ i → i ≠ 2 → tBy R'_50 i = tBy g24 i := fun i h0 h2 => by rw [e4]; exact ((zup (by omega) i).trans (if_neg (by omega))).trans (hp6_4 i h0 h2)
        have hfr : r32 f'_46 ∧ r32 c'_47 := by rw [e2, e3]; exact wI_r (by omega)
        have hT : txT nn (tV g f10 a2) (tS g f10 a2) (f2, c2, xg) = (f'_46, c'_47, (txT nn xv (tS g f10 a2) (f2, c2, xg)).2.2) := by rw [← hV, e2, e3]; exact (txT_6 (by omega)).trans (by rw [txT_6 (by omega)])
        have hbA := tE_b (g := g) (n := f10) (a := a2) (by omega) (by omega)
        have hsA := tS_b (g := g) (n := f10) (a := a2) (by omega) (by omega)
        have hnA := tK_n (g := g) (n := f10) (a := a2) (by omega)
        iterate 2 refine hR (?_ : R (_, _, _, _, _, _))
        refine hR (t_c 6 (by decide) ?_)
        refine hR (j_ge (by omega) (by omega) (fun _ => ?_) (fun hc => by omega))
        exact ih4 _ _ _ _ _ _ _ (nn + 1) ((txT nn xv (tS g f10 a2) (f2, c2, xg)).2.2) _ _ _ fr58 hC53 hC59 hC54 (by omega) (by omega) (by rw [← hp0_4, e1, ← hT]; exact nmF_s (ms := 600) (by omega) hk1) hp56 (by omega) (by omega) (fun q => absurd (wI_0 (e2.symm.trans q)).1 (fW_0 (by omega))) trivial hRo (by omega)
      iterate 4 refine hR (?_ : R (_, _, _, _, _, _))
      refine hR (c_obj hC14_4 (zcall_i 0 0 (Nat.le_of_ble_eq_true rfl) (Nat.le_of_ble_eq_true rfl) (x_take _ _ _ _ _ _ _ _ _ _ _ _ _ _ _ _ _ _ _ _ _ _ _ _ _ _ _ _ hC14_4 hC15_4 hC24_4 (by omega) hr1 hp1_4 (by omega) (by omega) (by omega) _ fun v15 a'_16 x'_17 f'_18 c'_19 y15_20 z'_21 R'_22 w23 gg24 hC25 hC26 hp27 hp28 hp29 => ?_)))
      have fr30 := wfM_tr fr_4 gg24 nX1
      have hC31 := (gg24.2 15 (by (try dsimp only); decide)).trans hC15_4
      refine (?_ : R (_, _, .int (Int32.ofInt v15) :: [], w23, 0, 0))
      rcases hp27 with hq0 | ⟨hv1, hk1, e1, e2, e3, e4, e5⟩
      · exact absurd (by omega) hq0.2.1
      have hV := hp1_4 hk1
      have hxv := hv2 hk1
      have hr2v : tBy R'_22 2 = xv := by rw [e4]; exact (zup (by omega) 2).trans (if_pos rfl)
      have hRo : ∀ i : Int, 0 ≤ i → i ≠ 2 → tBy R'_22 i = tBy g24 i := fun i h0 h2 => by rw [e4]; exact ((zup (by omega) i).trans (if_neg (by omega))).trans (hp6_4 i h0 h2)
      have hfr : r32 f'_18 ∧ r32 c'_19 := by rw [e2, e3]; exact wI_r (by omega)
      have hT : txT nn (tV g f10 a2) (tS g f10 a2) (f2, c2, xg) = (f'_18, c'_19, (txT nn xv (tS g f10 a2) (f2, c2, xg)).2.2) := by rw [← hV, e2, e3]; exact txT_5 (by omega)
      have hbA := tE_b (g := g) (n := f10) (a := a2) (by omega) (by omega)
      have hsA := tS_b (g := g) (n := f10) (a := a2) (by omega) (by omega)
      have hnA := tK_n (g := g) (n := f10) (a := a2) (by omega)
      iterate 2 refine hR (?_ : R (_, _, _, _, _, _))
      refine hR (t_c 6 (by decide) ?_)
      refine hR (j_ge (by omega) (by omega) (fun hc => by omega) (fun _ => ?_))
      iterate 2 refine hR (?_ : R (_, _, _, _, _, _))
      refine hR (t_mul ?_)
      refine hR (?_ : R (_, _, _, _, _, _))
      refine hR (c_get hC25 rfl ?_)
      refine hR (?_ : R (_, _, _, _, _, _))
      refine hR (c_aldE hC26 (by omega) (by omega) (Nat.le_of_ble_eq_true rfl) fun v32 ev32 rv32 => ?_)
      replace ev32 : v32 = tBy R'_22 2 := ev32
      subst ev32
      refine hR (t_add ?_)
      refine hR (?_ : R (_, _, _, _, _, _))
      refine hR (t_inc ?_)
      refine hR (?_ : R (_, _, _, _, _, _))
      exact ih4 _ _ _ _ _ _ _ (nn + 1) ((txT nn xv (tS g f10 a2) (f2, c2, xg)).2.2) _ _ _ fr30 hC25 hC31 hC26 (by omega) (by omega) (by rw [← hp0_4, e1, ← hT]; exact nmF_s (ms := 600) (by omega) hk1) hp28 (by omega) (by omega) (fun q => by have h1 := wI_0 (e2.symm.trans q); have h2 := hp4_4 h1.1; rw [txT_v (by omega) h1.2]; omega) trivial hRo (by omega)
  exact lp4 400000000 _ _ _ _ _ _ _ 0 0 _ _ _ fr0 hK0 hK1 hK2 (by omega) (by omega) (by rw [show ((600 : Int) - 0).toNat = 600 from rfl]) hr2 (by omega) (by omega) (fun _ => by decide) trivial (fun _ _ _ => rfl) (by omega)
theorem x_stepLine (w : zW) (d : Nat) (a1 a2 : Int) (f0 f10 f13 f15 f16 f17 f20 f21 f22 f23 f26 f28 f31 f32 f33 f38 f41 f44 a : Int) (x14 : Int64) (g15 g g23 g24 : Nat → Int32) (f c x0 x1 x2 : Int) (g1 g2 g3 g4 : Nat → Int32) (hK0 : zix w 14 = some (.inr (11, [.int (Int32.ofInt f0), .ref 15, .ref 16, .ref 17, .ref 18, .ref 19, .ref 20, .ref 21, .ref 22, .int (Int32.ofInt (tE g f10 a)), .int (Int32.ofInt f10), .int (Int32.ofInt (tS g f10 a)), .int (Int32.ofInt (rK (tK g f10 a))), .int (Int32.ofInt f13), .long x14, .int (Int32.ofInt f15), .int (Int32.ofInt f16), .int (Int32.ofInt f17), .ref 23, .ref 24, .int (Int32.ofInt f20), .int (Int32.ofInt f21), .int (Int32.ofInt f22), .int (Int32.ofInt f23), .ref 25, .ref 26, .int (Int32.ofInt f26), .ref 27, .int (Int32.ofInt f28), .ref 28, .ref 29, .int (Int32.ofInt f31), .int (Int32.ofInt f32), .int (Int32.ofInt f33), .ref 30, .ref 31, .ref 32, .ref 33, .int (Int32.ofInt f38), .ref 34, .ref 35, .int (Int32.ofInt f41), .ref 36, .ref 37, .int (Int32.ofInt f44), .ref 38, .ref 39, .ref 40, .ref 41, .ref 42, .ref 43, .ref 44]))) (hK1 : zix w 15 = some (.inl (0, 2400, .inl g15))) (hK2 : zix w 23 = some (.inl (1, 121, .inl g23))) (hK3 : zix w 24 = some (.inl (1, 3, .inl g24))) (hr0 : 0 ≤ a ∧ a ≤ f10 ∧ f10 ≤ 600) (hr1 : ∀ i : Int, 0 ≤ i → i < f10 → tBy g15 i = tBy g i ∧ -128 ≤ tBy g i ∧ tBy g i ≤ 127) (hr2 : tK g f10 a = 2 → f13 = tV g f10 a) (hr3 : (-2147483648 ≤ f16 ∧ f16 ≤ 2147483647) ∧ (-2147483648 ≤ f17 ∧ f17 ≤ 2147483647)) (hr4 : RELB (f, c, x0, x1, x2, g1, g2, g3, g4) f16 f17 g23) (hr5 : 0 ≤ a1 ∧ a1 ≤ 4 ∧ a2 = tS g f10 a) (Q : zQ) (h : ∀ (v : Int) (a' x' f' c' y15 : Int) (z' : Int64) (T' R' : Nat → Int32) (w' : zW), wfM (fun j => j ≠ 14 ∧ j ≠ 23 ∧ j ≠ 24) w w' → zix w' 14 = some (.inr (11, [.int (Int32.ofInt f0), .ref 15, .ref 16, .ref 17, .ref 18, .ref 19, .ref 20, .ref 21, .ref 22, .int (Int32.ofInt (tE g f10 a')), .int (Int32.ofInt f10), .int (Int32.ofInt (tS g f10 a')), .int (Int32.ofInt (rK (tK g f10 a'))), .int (Int32.ofInt x'), .long z', .int (Int32.ofInt y15), .int (Int32.ofInt f'), .int (Int32.ofInt c'), .ref 23, .ref 24, .int (Int32.ofInt f20), .int (Int32.ofInt f21), .int (Int32.ofInt f22), .int (Int32.ofInt f23), .ref 25, .ref 26, .int (Int32.ofInt f26), .ref 27, .int (Int32.ofInt f28), .ref 28, .ref 29, .int (Int32.ofInt f31), .int (Int32.ofInt f32), .int (Int32.ofInt f33), .ref 30, .ref 31, .ref 32, .ref 33, .int (Int32.ofInt f38), .ref 34, .ref 35, .int (Int32.ofInt f41), .ref 36, .ref 37, .int (Int32.ofInt f44), .ref 38, .ref 39, .ref 40, .ref 41, .ref 42, .ref 43, .ref 44])) → zix w' 23 = some (.inl (1, 121, .inl T')) → zix w' 24 = some (.inl (1, 3, .inl R')) → (LNP g f10 (bFw a1) (nmF g f10 (bTake a1) (bMs a1).toNat 0 (tE g f10 a) (bBeg a1 (tS g f10 a) (f, c, x0, x1, x2, g1, g2, g3, g4))) v a' y15 (fun X => RELB X f' c' T')) → (tK g f10 a' = 2 → x' = tV g f10 a') → (a ≤ a' ∧ a' ≤ f10 ∧ (v = 0 ∨ v = 1) ∧ r32 f' ∧ r32 c') → Q (some (.int (Int32.ofInt v))) w') : zCl zTab (d + 5) iX12_stepLine [.ref 14, .int (Int32.ofInt a1), .int (Int32.ofInt a2)] w 0 0 Q := by
  refine zCl_i (M := kX12_stepLine) rfl (Nat.le_of_ble_eq_true rfl) fun R hR => ?_
  have fr0 : wfM (fun j => j ≠ 14 ∧ j ≠ 23 ∧ j ≠ 24) w w := wfM_rf _ w
  obtain rfl := hr5.2.2
  have hb1 := tS_b (g := g) (n := f10) (a := a) (by omega) (by omega)
  have hb2 := tE_b (g := g) (n := f10) (a := a) (by omega) (by omega)
  have hb3 := rK_r (g := g) (n := f10) (a := a)
  have hb4 := tS_b (g := g) (n := f10) (a := tE g f10 a) (by omega) (by omega)
  have hb5 := tE_b (g := g) (n := f10) (a := tE g f10 a) (by omega) (by omega)
  have hb6 := rK_r (g := g) (n := f10) (a := tE g f10 a)
  obtain rfl : x1 = tBy g23 1 := hr4.2.1.1
  have hx1 := hr4.2.1.2
  have hsr : ¬ tBy g23 1 - 1 < 0 → tBy g23 (6 + (tBy g23 1 - 1)) = tBy g2 (tBy g23 1 - 1) ∧ 0 ≤ tBy g2 (tBy g23 1 - 1) ∧ tBy g2 (tBy g23 1 - 1) ≤ 4 := fun q => hr4.2.2.1 _ (by omega) (by omega)
  have nX0 : FX (∀ j : Nat, (j ≠ 14 ∧ j ≠ 23 ∧ j ≠ 24) → (j ≠ 14)) := fun j hj => by omega
  have nX1 : FX (∀ j : Nat, (j ≠ 14 ∧ j ≠ 23 ∧ j ≠ 24) → j ≠ 24) := fun j hj => by omega
  have nX2 : FX (∀ j : Nat, (j ≠ 14 ∧ j ≠ 23 ∧ j ≠ 24) → j ≠ 23) := fun j hj => by omega
  have nX3 : FX (∀ j : Nat, (j ≠ 14 ∧ j ≠ 23 ∧ j ≠ 24) → (j ≠ 14 ∧ j ≠ 24)) := fun j hj => by omega
  refine hR (?_ : R (_, _, _, _, _, _))
  refine hR (c_get hK0 rfl ?_)
  refine hR (?_ : R (_, _, _, _, _, _))
  refine hR (c_aldE hK2 (by omega) (by omega) (Nat.le_of_ble_eq_true rfl) fun v7 ev7 rv7 => ?_)
  replace ev7 : v7 = tBy g23 1 := ev7
  subst ev7
  refine hR (?_ : R (_, _, _, _, _, _))
  refine hR (t_sub ?_)
  iterate 2 refine hR (?_ : R (_, _, _, _, _, _))
  refine hR (k_ge (by omega) (fun hc8 => ?_) (fun hc8 => ?_))
  rotate_left
  · skip
    iterate 3 refine hR (?_ : R (_, _, _, _, _, _))
    refine hR (c_obj hK0 (zcall_i 0 0 (Nat.le_of_ble_eq_true rfl) (Nat.le_of_ble_eq_true rfl) (x_later _ _ _ _ _ _ _ _ _ _ _ _ _ _ _ _ _ _ _ _ _ _ _ _ _ _ hK0 (by omega) _ fun f'_202 c'_203 w204 gg205 hC206 hp207 => ?_)))
    have fr208 := wfM_tr fr0 gg205 nX0
    have hC209 := (gg205.2 15 (by (try dsimp only); decide)).trans hK1
    have hC210 := (gg205.2 23 (by (try dsimp only); decide)).trans hK2
    have hC211 := (gg205.2 24 (by (try dsimp only); decide)).trans hK3
    obtain ⟨rfl, rfl⟩ := hp207
    have hq212 := @fW_r f16 f17 4 (tS g f10 a) (by omega)
    refine (?_ : R (_, _, [], w204, 0, 0))
    refine hR (?_ : R (_, _, _, _, _, _))
    refine hR (k_lt (by omega) (fun _ => ?_) (fun hc => by omega))
    refine hR (?_ : R (_, _, _, _, _, _))
    refine hR (c_obj hC206 (zcall_i 0 0 (Nat.le_of_ble_eq_true rfl) (Nat.le_of_ble_eq_true rfl) (x_token _ _ _ _ _ _ _ _ _ _ _ _ _ _ _ _ _ _ _ _ _ _ _ _ _ _ hC206 hC209 (by omega) hr1 _ fun y9_213 y11_214 y12_215 y13_216 y14_217 w218 gg219 hC220 hp221 => ?_)))
    have fr222 := wfM_tr fr208 gg219 nX0
    have hC223 := (gg219.2 15 (by (try dsimp only); decide)).trans hC209
    have hC224 := (gg219.2 23 (by (try dsimp only); decide)).trans hC210
    have hC225 := (gg219.2 24 (by (try dsimp only); decide)).trans hC211
    obtain ⟨rfl, rfl, rfl, hx226, hw227⟩ := hp221
    refine (?_ : R (_, _, [], w218, 0, 0))
    refine hR (?_ : R (_, _, _, _, _, _))
    refine hR (c_get hC220 rfl ?_)
    iterate 2 refine hR (?_ : R (_, _, _, _, _, _))
    refine hR (x_ast hC225 (by omega) (by omega) (Nat.le_of_ble_eq_true rfl) fun w228 ff228 hC228 => ?_)
    have fr229 := wfM_st fr222 ff228 nX1
    have hC230 := (ff228.2 14 (by (try dsimp only); decide)).trans hC220
    have hC231 := (ff228.2 15 (by (try dsimp only); decide)).trans hC223
    have hC232 := (ff228.2 23 (by (try dsimp only); decide)).trans hC224
    iterate 2 refine hR (?_ : R (_, _, _, _, _, _))
    refine hR (j_eq (by omega) (by omega) (fun hc233 => ?_) (fun hc233 => ?_))
    · skip
      refine hR (?_ : R (_, _, _, _, _, _))
      refine hR (k_lt (by omega) (fun _ => ?_) (fun hc => by omega))
      refine hR (?_ : R (_, _, _, _, _, _))
      exact hR (zret_i rfl (Nat.le_refl _) (zbo (by omega)) (h _ _ _ _ _ _ _ _ _ _ fr229 hC230 hC232 hC228 (by obtain rfl : a1 = 4 := (by omega); exact lnp_4 (Or.inl rfl) (by rw [bBeg_A (by omega) (by omega)]; exact (relB_f (z0 := x0) (z2 := x2) hr4 (rfc_W hr4.1) (fW_0 (by omega))))) hx226 (by omega)))
    iterate 3 refine hR (?_ : R (_, _, _, _, _, _))
    refine hR (k_ne (by omega) (fun hc234 => ?_) (fun hc234 => ?_))
    · skip
      iterate 2 refine hR (?_ : R (_, _, _, _, _, _))
      refine hR (k_ne (by omega) (fun _ => ?_) (fun hc => by omega))
      refine hR (t_c 6 (by decide) ?_)
      refine hR (c_obj hC230 (zcall_i 0 0 (Nat.le_of_ble_eq_true rfl) (Nat.le_of_ble_eq_true rfl) (x_take _ _ _ _ _ _ _ _ _ _ _ _ _ _ _ _ _ _ _ _ _ _ _ _ _ _ _ _ hC230 hC231 hC228 (by omega) hr1 hx226 (by omega) (by omega) (by omega) _ fun v235 a'_236 x'_237 f'_238 c'_239 y15_240 z'_241 R'_242 w243 gg244 hC245 hC246 hp247 hp248 hp249 => ?_)))
      have fr250 := wfM_tr fr229 gg244 nX3
      have hC251 := (gg244.2 15 (by (try dsimp only); decide)).trans hC231
      have hC252 := (gg244.2 23 (by (try dsimp only); decide)).trans hC232
      refine (?_ : R (_, _, .int (Int32.ofInt v235) :: [], w243, 0, 0))
      refine hR (k_ne (by omega) (fun hc253 => ?_) (fun hc253 => ?_))
      rotate_left
      · skip
        refine hR (?_ : R (_, _, _, _, _, _))
        exact hR (zret_i rfl (Nat.le_refl _) (zbo (by omega)) (h _ _ _ _ _ _ _ _ _ _ fr250 hC245 hC252 hC246 (by rcases hp247 with ⟨q1, q2, q3, q4, q5, q6, q7⟩ | q; (· exact lnp_0 (by omega) q2 q7); exact absurd q.1 (by omega)) hp248 (by omega)))
      refine hR (?_ : R (_, _, _, _, _, _))
      refine hR (k_lt (by omega) (fun _ => ?_) (fun hc => by omega))
      refine hR (?_ : R (_, _, _, _, _, _))
      exact hR (zret_i rfl (Nat.le_refl _) (zbo (by omega)) (h _ _ _ _ _ _ _ _ _ _ fr250 hC245 hC252 hC246 (by rcases hp247 with q | ⟨q1, q2, q3, q4, q5, q6, q7⟩; (· exact absurd q.1 (by omega)); have hV := hx226 q2; have hn := tK_num (g := g) (n := f10) (a := tE g f10 a) (by omega) (by omega) q2; rw [q3]; refine lnp_1 (by omega) q2 ?_; rw [q4, q5, hV]; rw [bBeg_A (by omega) (by omega)]; exact relB_st (relB_f (z0 := x0) (z2 := x2) hr4 (rfc_W hr4.1) (fW_0 (by omega))) (fW_0 (by omega)) (by omega)) hp248 (by omega)))
    iterate 3 refine hR (?_ : R (_, _, _, _, _, _))
    refine hR (k_ne (by omega) (fun hc => by omega) (fun _ => ?_))
    iterate 2 refine hR (?_ : R (_, _, _, _, _, _))
    refine hR (c_obj hC230 (zcall_i 0 0 (Nat.le_of_ble_eq_true rfl) (Nat.le_of_ble_eq_true rfl) (x_take _ _ _ _ _ _ _ _ _ _ _ _ _ _ _ _ _ _ _ _ _ _ _ _ _ _ _ _ hC230 hC231 hC228 (by omega) hr1 hx226 (by omega) (by omega) (by omega) _ fun v254 a'_255 x'_256 f'_257 c'_258 y15_259 z'_260 R'_261 w262 gg263 hC264 hC265 hp266 hp267 hp268 => ?_)))
    have fr269 := wfM_tr fr229 gg263 nX3
    have hC270 := (gg263.2 15 (by (try dsimp only); decide)).trans hC231
    have hC271 := (gg263.2 23 (by (try dsimp only); decide)).trans hC232
    refine (?_ : R (_, _, .int (Int32.ofInt v254) :: [], w262, 0, 0))
    refine hR (k_ne (by omega) (fun hc272 => ?_) (fun hc272 => ?_))
    rotate_left
    · skip
      refine hR (?_ : R (_, _, _, _, _, _))
      exact hR (zret_i rfl (Nat.le_refl _) (zbo (by omega)) (h _ _ _ _ _ _ _ _ _ _ fr269 hC264 hC271 hC265 (by rcases hp266 with ⟨q1, q2, q3, q4, q5, q6, q7⟩ | q; (· exact lnp_0 (by omega) q2 q7); exact absurd q.1 (by omega)) hp267 (by omega)))
    refine hR (?_ : R (_, _, _, _, _, _))
    refine hR (k_lt (by omega) (fun _ => ?_) (fun hc => by omega))
    refine hR (?_ : R (_, _, _, _, _, _))
    exact hR (zret_i rfl (Nat.le_refl _) (zbo (by omega)) (h _ _ _ _ _ _ _ _ _ _ fr269 hC264 hC271 hC265 (by rcases hp266 with q | ⟨q1, q2, q3, q4, q5, q6, q7⟩; (· exact absurd q.1 (by omega)); have hV := hx226 q2; have hn := tK_num (g := g) (n := f10) (a := tE g f10 a) (by omega) (by omega) q2; rw [q3]; refine lnp_1 (by omega) q2 ?_; rw [q4, q5, hV]; rw [bBeg_A (by omega) (by omega)]; exact relB_st (relB_f (z0 := x0) (z2 := x2) hr4 (rfc_W hr4.1) (fW_0 (by omega))) (fW_0 (by omega)) (by omega)) hp267 (by omega)))
  have hs0 := hsr (by omega)
  refine hR (?_ : R (_, _, _, _, _, _))
  refine hR (k_lt (by omega) (fun hc => by omega) (fun _ => ?_))
  refine hR (?_ : R (_, _, _, _, _, _))
  refine hR (c_get hK0 rfl ?_)
  refine hR (t_c 6 (by decide) ?_)
  refine hR (?_ : R (_, _, _, _, _, _))
  refine hR (t_add ?_)
  refine hR (c_aldE hK2 (by omega) (by omega) (Nat.le_of_ble_eq_true rfl) fun v9 ev9 rv9 => ?_)
  replace ev9 : v9 = tBy g23 (6 + ((tBy g23 1) - 1)) := ev9
  subst ev9
  refine hR (?_ : R (_, _, _, _, _, _))
  refine hR (j_ne (by omega) (by omega) (fun hc10 => ?_) (fun hc10 => ?_))
  rotate_left
  · skip
    iterate 3 refine hR (?_ : R (_, _, _, _, _, _))
    refine hR (c_obj hK0 (zcall_i 0 0 (Nat.le_of_ble_eq_true rfl) (Nat.le_of_ble_eq_true rfl) (x_later _ _ _ _ _ _ _ _ _ _ _ _ _ _ _ _ _ _ _ _ _ _ _ _ _ _ hK0 (by omega) _ fun f'_128 c'_129 w130 gg131 hC132 hp133 => ?_)))
    have fr134 := wfM_tr fr0 gg131 nX0
    have hC135 := (gg131.2 15 (by (try dsimp only); decide)).trans hK1
    have hC136 := (gg131.2 23 (by (try dsimp only); decide)).trans hK2
    have hC137 := (gg131.2 24 (by (try dsimp only); decide)).trans hK3
    obtain ⟨rfl, rfl⟩ := hp133
    have hq138 := @fW_r f16 f17 3 (tS g f10 a) (by omega)
    refine (?_ : R (_, _, [], w130, 0, 0))
    refine hR (?_ : R (_, _, _, _, _, _))
    refine hR (c_obj hC132 (zcall_i 0 0 (Nat.le_of_ble_eq_true rfl) (Nat.le_of_ble_eq_true rfl) (x_token _ _ _ _ _ _ _ _ _ _ _ _ _ _ _ _ _ _ _ _ _ _ _ _ _ _ hC132 hC135 (by omega) hr1 _ fun y9_139 y11_140 y12_141 y13_142 y14_143 w144 gg145 hC146 hp147 => ?_)))
    have fr148 := wfM_tr fr134 gg145 nX0
    have hC149 := (gg145.2 15 (by (try dsimp only); decide)).trans hC135
    have hC150 := (gg145.2 23 (by (try dsimp only); decide)).trans hC136
    have hC151 := (gg145.2 24 (by (try dsimp only); decide)).trans hC137
    obtain ⟨rfl, rfl, rfl, hx152, hw153⟩ := hp147
    refine (?_ : R (_, _, [], w144, 0, 0))
    refine hR (?_ : R (_, _, _, _, _, _))
    refine hR (c_get hC146 rfl ?_)
    iterate 2 refine hR (?_ : R (_, _, _, _, _, _))
    refine hR (x_ast hC151 (by omega) (by omega) (Nat.le_of_ble_eq_true rfl) fun w154 ff154 hC154 => ?_)
    have fr155 := wfM_st fr148 ff154 nX1
    have hC156 := (ff154.2 14 (by (try dsimp only); decide)).trans hC146
    have hC157 := (ff154.2 15 (by (try dsimp only); decide)).trans hC149
    have hC158 := (ff154.2 23 (by (try dsimp only); decide)).trans hC150
    iterate 2 refine hR (?_ : R (_, _, _, _, _, _))
    refine hR (j_eq (by omega) (by omega) (fun hc159 => ?_) (fun hc159 => ?_))
    · skip
      refine hR (?_ : R (_, _, _, _, _, _))
      refine hR (k_lt (by omega) (fun hc => by omega) (fun _ => ?_))
      refine hR (?_ : R (_, _, _, _, _, _))
      refine hR (c_get hC156 rfl ?_)
      refine hR (t_c 6 (by decide) ?_)
      refine hR (?_ : R (_, _, _, _, _, _))
      refine hR (t_add ?_)
      refine hR (c_aldE hC158 (by omega) (by omega) (Nat.le_of_ble_eq_true rfl) fun v160 ev160 rv160 => ?_)
      replace ev160 : v160 = tBy g23 (6 + ((tBy g23 1) - 1)) := ev160
      subst ev160
      refine hR (?_ : R (_, _, _, _, _, _))
      refine hR (j_ge (by omega) (by omega) (fun _ => ?_) (fun hc => by omega))
      refine hR (?_ : R (_, _, _, _, _, _))
      exact hR (zret_i rfl (Nat.le_refl _) (zbo (by omega)) (h _ _ _ _ _ _ _ _ _ _ fr155 hC156 hC158 hC154 (by obtain rfl : a1 = 4 := (by omega); exact lnp_4 (Or.inl rfl) (by rw [bBeg_F (by omega) (by omega) (by omega)]; exact (relB_f (z0 := x0) (z2 := x2) hr4 (rfc_W hr4.1) (fW_0 (by omega))))) hx152 (by omega)))
    iterate 3 refine hR (?_ : R (_, _, _, _, _, _))
    refine hR (k_ne (by omega) (fun hc161 => ?_) (fun hc161 => ?_))
    · skip
      iterate 2 refine hR (?_ : R (_, _, _, _, _, _))
      refine hR (k_ne (by omega) (fun _ => ?_) (fun hc => by omega))
      refine hR (t_c 6 (by decide) ?_)
      refine hR (c_obj hC156 (zcall_i 0 0 (Nat.le_of_ble_eq_true rfl) (Nat.le_of_ble_eq_true rfl) (x_take _ _ _ _ _ _ _ _ _ _ _ _ _ _ _ _ _ _ _ _ _ _ _ _ _ _ _ _ hC156 hC157 hC154 (by omega) hr1 hx152 (by omega) (by omega) (by omega) _ fun v162 a'_163 x'_164 f'_165 c'_166 y15_167 z'_168 R'_169 w170 gg171 hC172 hC173 hp174 hp175 hp176 => ?_)))
      have fr177 := wfM_tr fr155 gg171 nX3
      have hC178 := (gg171.2 15 (by (try dsimp only); decide)).trans hC157
      have hC179 := (gg171.2 23 (by (try dsimp only); decide)).trans hC158
      refine (?_ : R (_, _, .int (Int32.ofInt v162) :: [], w170, 0, 0))
      refine hR (k_ne (by omega) (fun hc180 => ?_) (fun hc180 => ?_))
      rotate_left
      · skip
        refine hR (?_ : R (_, _, _, _, _, _))
        exact hR (zret_i rfl (Nat.le_refl _) (zbo (by omega)) (h _ _ _ _ _ _ _ _ _ _ fr177 hC172 hC179 hC173 (by rcases hp174 with ⟨q1, q2, q3, q4, q5, q6, q7⟩ | q; (· exact lnp_0 (by omega) q2 q7); exact absurd q.1 (by omega)) hp175 (by omega)))
      refine hR (?_ : R (_, _, _, _, _, _))
      refine hR (k_lt (by omega) (fun hc => by omega) (fun _ => ?_))
      refine hR (?_ : R (_, _, _, _, _, _))
      refine hR (c_get hC172 rfl ?_)
      refine hR (t_c 6 (by decide) ?_)
      refine hR (?_ : R (_, _, _, _, _, _))
      refine hR (t_add ?_)
      refine hR (c_aldE hC179 (by omega) (by omega) (Nat.le_of_ble_eq_true rfl) fun v181 ev181 rv181 => ?_)
      replace ev181 : v181 = tBy g23 (6 + ((tBy g23 1) - 1)) := ev181
      subst ev181
      refine hR (?_ : R (_, _, _, _, _, _))
      refine hR (j_ge (by omega) (by omega) (fun _ => ?_) (fun hc => by omega))
      refine hR (?_ : R (_, _, _, _, _, _))
      exact hR (zret_i rfl (Nat.le_refl _) (zbo (by omega)) (h _ _ _ _ _ _ _ _ _ _ fr177 hC172 hC179 hC173 (by rcases hp174 with q | ⟨q1, q2, q3, q4, q5, q6, q7⟩; (· exact absurd q.1 (by omega)); have hV := hx152 q2; have hn := tK_num (g := g) (n := f10) (a := tE g f10 a) (by omega) (by omega) q2; rw [q3]; refine lnp_1 (by omega) q2 ?_; rw [q4, q5, hV]; rw [bBeg_F (by omega) (by omega) (by omega)]; exact relB_st (relB_f (z0 := x0) (z2 := x2) hr4 (rfc_W hr4.1) (fW_0 (by omega))) (fW_0 (by omega)) (by omega)) hp175 (by omega)))
    iterate 3 refine hR (?_ : R (_, _, _, _, _, _))
    refine hR (k_ne (by omega) (fun hc => by omega) (fun _ => ?_))
    iterate 2 refine hR (?_ : R (_, _, _, _, _, _))
    refine hR (c_obj hC156 (zcall_i 0 0 (Nat.le_of_ble_eq_true rfl) (Nat.le_of_ble_eq_true rfl) (x_take _ _ _ _ _ _ _ _ _ _ _ _ _ _ _ _ _ _ _ _ _ _ _ _ _ _ _ _ hC156 hC157 hC154 (by omega) hr1 hx152 (by omega) (by omega) (by omega) _ fun v182 a'_183 x'_184 f'_185 c'_186 y15_187 z'_188 R'_189 w190 gg191 hC192 hC193 hp194 hp195 hp196 => ?_)))
    have fr197 := wfM_tr fr155 gg191 nX3
    have hC198 := (gg191.2 15 (by (try dsimp only); decide)).trans hC157
    have hC199 := (gg191.2 23 (by (try dsimp only); decide)).trans hC158
    refine (?_ : R (_, _, .int (Int32.ofInt v182) :: [], w190, 0, 0))
    refine hR (k_ne (by omega) (fun hc200 => ?_) (fun hc200 => ?_))
    rotate_left
    · skip
      refine hR (?_ : R (_, _, _, _, _, _))
      exact hR (zret_i rfl (Nat.le_refl _) (zbo (by omega)) (h _ _ _ _ _ _ _ _ _ _ fr197 hC192 hC199 hC193 (by rcases hp194 with ⟨q1, q2, q3, q4, q5, q6, q7⟩ | q; (· exact lnp_0 (by omega) q2 q7); exact absurd q.1 (by omega)) hp195 (by omega)))
    refine hR (?_ : R (_, _, _, _, _, _))
    refine hR (k_lt (by omega) (fun hc => by omega) (fun _ => ?_))
    refine hR (?_ : R (_, _, _, _, _, _))
    refine hR (c_get hC192 rfl ?_)
    refine hR (t_c 6 (by decide) ?_)
    refine hR (?_ : R (_, _, _, _, _, _))
    refine hR (t_add ?_)
    refine hR (c_aldE hC199 (by omega) (by omega) (Nat.le_of_ble_eq_true rfl) fun v201 ev201 rv201 => ?_)
    replace ev201 : v201 = tBy g23 (6 + ((tBy g23 1) - 1)) := ev201
    subst ev201
    refine hR (?_ : R (_, _, _, _, _, _))
    refine hR (j_ge (by omega) (by omega) (fun _ => ?_) (fun hc => by omega))
    refine hR (?_ : R (_, _, _, _, _, _))
    exact hR (zret_i rfl (Nat.le_refl _) (zbo (by omega)) (h _ _ _ _ _ _ _ _ _ _ fr197 hC192 hC199 hC193 (by rcases hp194 with q | ⟨q1, q2, q3, q4, q5, q6, q7⟩; (· exact absurd q.1 (by omega)); have hV := hx152 q2; have hn := tK_num (g := g) (n := f10) (a := tE g f10 a) (by omega) (by omega) q2; rw [q3]; refine lnp_1 (by omega) q2 ?_; rw [q4, q5, hV]; rw [bBeg_F (by omega) (by omega) (by omega)]; exact relB_st (relB_f (z0 := x0) (z2 := x2) hr4 (rfc_W hr4.1) (fW_0 (by omega))) (fW_0 (by omega)) (by omega)) hp195 (by omega)))
  refine hR (?_ : R (_, _, _, _, _, _))
  refine hR (c_obj hK0 (zcall_i 0 0 (Nat.le_of_ble_eq_true rfl) (Nat.le_of_ble_eq_true rfl) (x_token _ _ _ _ _ _ _ _ _ _ _ _ _ _ _ _ _ _ _ _ _ _ _ _ _ _ hK0 hK1 (by omega) hr1 _ fun y9_11 y11_12 y12_13 y13_14 y14_15 w16 gg17 hC18 hp19 => ?_)))
  have fr20 := wfM_tr fr0 gg17 nX0
  have hC21 := (gg17.2 15 (by (try dsimp only); decide)).trans hK1
  have hC22 := (gg17.2 23 (by (try dsimp only); decide)).trans hK2
  have hC23 := (gg17.2 24 (by (try dsimp only); decide)).trans hK3
  obtain ⟨rfl, rfl, rfl, hx24, hw25⟩ := hp19
  refine (?_ : R (_, _, [], w16, 0, 0))
  refine hR (?_ : R (_, _, _, _, _, _))
  refine hR (c_get hC18 rfl ?_)
  iterate 2 refine hR (?_ : R (_, _, _, _, _, _))
  refine hR (x_ast hC23 (by omega) (by omega) (Nat.le_of_ble_eq_true rfl) fun w26 ff26 hC26 => ?_)
  have fr27 := wfM_st fr20 ff26 nX1
  have hC28 := (ff26.2 14 (by (try dsimp only); decide)).trans hC18
  have hC29 := (ff26.2 15 (by (try dsimp only); decide)).trans hC21
  have hC30 := (ff26.2 23 (by (try dsimp only); decide)).trans hC22
  iterate 2 refine hR (?_ : R (_, _, _, _, _, _))
  refine hR (j_eq (by omega) (by omega) (fun hc31 => ?_) (fun hc31 => ?_))
  · skip
    refine hR (?_ : R (_, _, _, _, _, _))
    refine hR (k_lt (by omega) (fun hc => by omega) (fun _ => ?_))
    refine hR (?_ : R (_, _, _, _, _, _))
    refine hR (c_get hC28 rfl ?_)
    refine hR (t_c 6 (by decide) ?_)
    refine hR (?_ : R (_, _, _, _, _, _))
    refine hR (t_add ?_)
    refine hR (c_aldE hC30 (by omega) (by omega) (Nat.le_of_ble_eq_true rfl) fun v32 ev32 rv32 => ?_)
    replace ev32 : v32 = tBy g23 (6 + ((tBy g23 1) - 1)) := ev32
    subst ev32
    refine hR (?_ : R (_, _, _, _, _, _))
    refine hR (j_ge (by omega) (by omega) (fun hc => by omega) (fun _ => ?_))
    refine hR (t_c 11 (by decide) ?_)
    refine hR (t_c 8 (by decide) ?_)
    refine hR (?_ : R (_, _, _, _, _, _))
    refine hR (t_mul ?_)
    refine hR (t_add ?_)
    iterate 2 refine hR (?_ : R (_, _, _, _, _, _))
    refine hR (c_get hC28 rfl ?_)
    refine hR (t_c 6 (by decide) ?_)
    refine hR (?_ : R (_, _, _, _, _, _))
    refine hR (t_add ?_)
    refine hR (c_aldE hC30 (by omega) (by omega) (Nat.le_of_ble_eq_true rfl) fun v33 ev33 rv33 => ?_)
    replace ev33 : v33 = tBy g23 (6 + ((tBy g23 1) - 1)) := ev33
    subst ev33
    refine hR (t_mul ?_)
    refine hR (t_add ?_)
    iterate 2 refine hR (?_ : R (_, _, _, _, _, _))
    refine hR (c_get hC28 rfl ?_)
    iterate 2 refine hR (?_ : R (_, _, _, _, _, _))
    refine hR (x_ast hC30 (by omega) (by omega) (Nat.le_of_ble_eq_true rfl) fun w34 ff34 hC34 => ?_)
    have fr35 := wfM_st fr27 ff34 nX2
    have hC36 := (ff34.2 14 (by (try dsimp only); decide)).trans hC28
    have hC37 := (ff34.2 15 (by (try dsimp only); decide)).trans hC29
    have hC38 := (ff34.2 24 (by (try dsimp only); decide)).trans hC26
    refine hR (?_ : R (_, _, _, _, _, _))
    refine hR (c_get hC36 rfl ?_)
    iterate 2 refine hR (?_ : R (_, _, _, _, _, _))
    refine hR (t_add ?_)
    refine hR (?_ : R (_, _, _, _, _, _))
    refine hR (c_get hC36 rfl ?_)
    refine hR (?_ : R (_, _, _, _, _, _))
    refine hR (c_aldE hC38 (by omega) (by omega) (Nat.le_of_ble_eq_true rfl) fun v39 ev39 rv39 => ?_)
    replace ev39 : v39 = tBy (upd g24 (0 : Int).toNat (Int32.ofInt 0)) 0 := ev39
    subst ev39
    refine hR (x_ast hC34 (by omega) (by omega) (Nat.le_of_ble_eq_true rfl) fun w40 ff40 hC40 => ?_)
    have fr41 := wfM_st fr35 ff40 nX2
    have hC42 := (ff40.2 14 (by (try dsimp only); decide)).trans hC36
    have hC43 := (ff40.2 15 (by (try dsimp only); decide)).trans hC37
    have hC44 := (ff40.2 24 (by (try dsimp only); decide)).trans hC38
    refine hR (?_ : R (_, _, _, _, _, _))
    refine hR (c_get hC42 rfl ?_)
    refine hR (t_c 6 (by decide) ?_)
    refine hR (?_ : R (_, _, _, _, _, _))
    refine hR (t_add ?_)
    refine hR (?_ : R (_, _, _, _, _, _))
    refine hR (c_aldE hC40 (by omega) (by omega) (Nat.le_of_ble_eq_true rfl) fun v45 ev45 rv45 => ?_)
    replace ev45 : v45 = tBy (upd (upd g23 ((11 + (8 * ((tBy g23 1) - 1))) + (2 * (tBy g23 (6 + ((tBy g23 1) - 1)))) : Int).toNat (Int32.ofInt a1)) (((11 + (8 * ((tBy g23 1) - 1))) + (2 * (tBy g23 (6 + ((tBy g23 1) - 1))))) + 1 : Int).toNat (Int32.ofInt (tBy (upd g24 (0 : Int).toNat (Int32.ofInt 0)) 0))) (6 + ((tBy g23 1) - 1)) := ev45
    subst ev45
    refine hR (?_ : R (_, _, _, _, _, _))
    refine hR (t_add ?_)
    refine hR (x_ast hC40 (by omega) (by omega) (Nat.le_of_ble_eq_true rfl) fun w46 ff46 hC46 => ?_)
    have fr47 := wfM_st fr41 ff46 nX2
    have hC48 := (ff46.2 14 (by (try dsimp only); decide)).trans hC42
    have hC49 := (ff46.2 15 (by (try dsimp only); decide)).trans hC43
    have hC50 := (ff46.2 24 (by (try dsimp only); decide)).trans hC44
    refine hR (?_ : R (_, _, _, _, _, _))
    exact hR (zret_i rfl (Nat.le_refl _) (zbo (by omega)) (h _ _ _ _ _ _ _ _ _ _ fr47 hC48 hC46 hC50 (by obtain rfl : a1 = 4 := (by omega); exact lnp_4 (Or.inl rfl) (relB_T hr4 (by omega) (by omega) (fun j => (stT (by omega) hs0.1 (by omega) (by omega) (tBy_r _ _) j).trans (by rw [show tBy (upd g24 (0 : Int).toNat (Int32.ofInt 0)) 0 = 0 from (zup (by omega) 0).trans (if_pos rfl)])))) hx24 (by omega)))
  iterate 3 refine hR (?_ : R (_, _, _, _, _, _))
  refine hR (k_ne (by omega) (fun hc51 => ?_) (fun hc51 => ?_))
  · skip
    iterate 2 refine hR (?_ : R (_, _, _, _, _, _))
    refine hR (k_ne (by omega) (fun _ => ?_) (fun hc => by omega))
    refine hR (t_c 6 (by decide) ?_)
    refine hR (c_obj hC28 (zcall_i 0 0 (Nat.le_of_ble_eq_true rfl) (Nat.le_of_ble_eq_true rfl) (x_take _ _ _ _ _ _ _ _ _ _ _ _ _ _ _ _ _ _ _ _ _ _ _ _ _ _ _ _ hC28 hC29 hC26 (by omega) hr1 hx24 (by omega) (by omega) (by omega) _ fun v52 a'_53 x'_54 f'_55 c'_56 y15_57 z'_58 R'_59 w60 gg61 hC62 hC63 hp64 hp65 hp66 => ?_)))
    have fr67 := wfM_tr fr27 gg61 nX3
    have hC68 := (gg61.2 15 (by (try dsimp only); decide)).trans hC29
    have hC69 := (gg61.2 23 (by (try dsimp only); decide)).trans hC30
    refine (?_ : R (_, _, .int (Int32.ofInt v52) :: [], w60, 0, 0))
    refine hR (k_ne (by omega) (fun hc70 => ?_) (fun hc70 => ?_))
    rotate_left
    · skip
      refine hR (?_ : R (_, _, _, _, _, _))
      exact hR (zret_i rfl (Nat.le_refl _) (zbo (by omega)) (h _ _ _ _ _ _ _ _ _ _ fr67 hC62 hC69 hC63 (by rcases hp64 with ⟨q1, q2, q3, q4, q5, q6, q7⟩ | q; (· exact lnp_0 (by omega) q2 q7); exact absurd q.1 (by omega)) hp65 (by omega)))
    refine hR (?_ : R (_, _, _, _, _, _))
    refine hR (k_lt (by omega) (fun hc => by omega) (fun _ => ?_))
    refine hR (?_ : R (_, _, _, _, _, _))
    refine hR (c_get hC62 rfl ?_)
    refine hR (t_c 6 (by decide) ?_)
    refine hR (?_ : R (_, _, _, _, _, _))
    refine hR (t_add ?_)
    refine hR (c_aldE hC69 (by omega) (by omega) (Nat.le_of_ble_eq_true rfl) fun v71 ev71 rv71 => ?_)
    replace ev71 : v71 = tBy g23 (6 + ((tBy g23 1) - 1)) := ev71
    subst ev71
    refine hR (?_ : R (_, _, _, _, _, _))
    refine hR (j_ge (by omega) (by omega) (fun hc => by omega) (fun _ => ?_))
    refine hR (t_c 11 (by decide) ?_)
    refine hR (t_c 8 (by decide) ?_)
    refine hR (?_ : R (_, _, _, _, _, _))
    refine hR (t_mul ?_)
    refine hR (t_add ?_)
    iterate 2 refine hR (?_ : R (_, _, _, _, _, _))
    refine hR (c_get hC62 rfl ?_)
    refine hR (t_c 6 (by decide) ?_)
    refine hR (?_ : R (_, _, _, _, _, _))
    refine hR (t_add ?_)
    refine hR (c_aldE hC69 (by omega) (by omega) (Nat.le_of_ble_eq_true rfl) fun v72 ev72 rv72 => ?_)
    replace ev72 : v72 = tBy g23 (6 + ((tBy g23 1) - 1)) := ev72
    subst ev72
    refine hR (t_mul ?_)
    refine hR (t_add ?_)
    iterate 2 refine hR (?_ : R (_, _, _, _, _, _))
    refine hR (c_get hC62 rfl ?_)
    iterate 2 refine hR (?_ : R (_, _, _, _, _, _))
    refine hR (x_ast hC69 (by omega) (by omega) (Nat.le_of_ble_eq_true rfl) fun w73 ff73 hC73 => ?_)
    have fr74 := wfM_st fr67 ff73 nX2
    have hC75 := (ff73.2 14 (by (try dsimp only); decide)).trans hC62
    have hC76 := (ff73.2 15 (by (try dsimp only); decide)).trans hC68
    have hC77 := (ff73.2 24 (by (try dsimp only); decide)).trans hC63
    refine hR (?_ : R (_, _, _, _, _, _))
    refine hR (c_get hC75 rfl ?_)
    iterate 2 refine hR (?_ : R (_, _, _, _, _, _))
    refine hR (t_add ?_)
    refine hR (?_ : R (_, _, _, _, _, _))
    refine hR (c_get hC75 rfl ?_)
    refine hR (?_ : R (_, _, _, _, _, _))
    refine hR (c_aldE hC77 (by omega) (by omega) (Nat.le_of_ble_eq_true rfl) fun v78 ev78 rv78 => ?_)
    replace ev78 : v78 = tBy R'_59 0 := ev78
    subst ev78
    refine hR (x_ast hC73 (by omega) (by omega) (Nat.le_of_ble_eq_true rfl) fun w79 ff79 hC79 => ?_)
    have fr80 := wfM_st fr74 ff79 nX2
    have hC81 := (ff79.2 14 (by (try dsimp only); decide)).trans hC75
    have hC82 := (ff79.2 15 (by (try dsimp only); decide)).trans hC76
    have hC83 := (ff79.2 24 (by (try dsimp only); decide)).trans hC77
    refine hR (?_ : R (_, _, _, _, _, _))
    refine hR (c_get hC81 rfl ?_)
    refine hR (t_c 6 (by decide) ?_)
    refine hR (?_ : R (_, _, _, _, _, _))
    refine hR (t_add ?_)
    refine hR (?_ : R (_, _, _, _, _, _))
    refine hR (c_aldE hC79 (by omega) (by omega) (Nat.le_of_ble_eq_true rfl) fun v84 ev84 rv84 => ?_)
    replace ev84 : v84 = tBy (upd (upd g23 ((11 + (8 * ((tBy g23 1) - 1))) + (2 * (tBy g23 (6 + ((tBy g23 1) - 1)))) : Int).toNat (Int32.ofInt a1)) (((11 + (8 * ((tBy g23 1) - 1))) + (2 * (tBy g23 (6 + ((tBy g23 1) - 1))))) + 1 : Int).toNat (Int32.ofInt (tBy R'_59 0))) (6 + ((tBy g23 1) - 1)) := ev84
    subst ev84
    refine hR (?_ : R (_, _, _, _, _, _))
    refine hR (t_add ?_)
    refine hR (x_ast hC79 (by omega) (by omega) (Nat.le_of_ble_eq_true rfl) fun w85 ff85 hC85 => ?_)
    have fr86 := wfM_st fr80 ff85 nX2
    have hC87 := (ff85.2 14 (by (try dsimp only); decide)).trans hC81
    have hC88 := (ff85.2 15 (by (try dsimp only); decide)).trans hC82
    have hC89 := (ff85.2 24 (by (try dsimp only); decide)).trans hC83
    refine hR (?_ : R (_, _, _, _, _, _))
    exact hR (zret_i rfl (Nat.le_refl _) (zbo (by omega)) (h _ _ _ _ _ _ _ _ _ _ fr86 hC87 hC85 hC89 (by rcases hp64 with q | ⟨q1, q2, q3, q4, q5, q6, q7⟩; (· exact absurd q.1 (by omega)); have hV := hx24 q2; have hn := tK_num (g := g) (n := f10) (a := tE g f10 a) (by omega) (by omega) q2; rw [q3]; refine lnp_1 (by omega) q2 ?_; rw [q4, q5, hV]; exact relB_C hr4 (by omega) (by omega) (by omega) (by omega) (fun j => (stT (by omega) hs0.1 (by omega) (by omega) (tBy_r _ _) j).trans (by rw [show tBy R'_59 0 = tV g f10 (tE g f10 a) from by rw [q6, hV]; exact (zup (by omega) 0).trans (if_pos rfl)]))) hp65 (by omega)))
  iterate 3 refine hR (?_ : R (_, _, _, _, _, _))
  refine hR (k_ne (by omega) (fun hc => by omega) (fun _ => ?_))
  iterate 2 refine hR (?_ : R (_, _, _, _, _, _))
  refine hR (c_obj hC28 (zcall_i 0 0 (Nat.le_of_ble_eq_true rfl) (Nat.le_of_ble_eq_true rfl) (x_take _ _ _ _ _ _ _ _ _ _ _ _ _ _ _ _ _ _ _ _ _ _ _ _ _ _ _ _ hC28 hC29 hC26 (by omega) hr1 hx24 (by omega) (by omega) (by omega) _ fun v90 a'_91 x'_92 f'_93 c'_94 y15_95 z'_96 R'_97 w98 gg99 hC100 hC101 hp102 hp103 hp104 => ?_)))
  have fr105 := wfM_tr fr27 gg99 nX3
  have hC106 := (gg99.2 15 (by (try dsimp only); decide)).trans hC29
  have hC107 := (gg99.2 23 (by (try dsimp only); decide)).trans hC30
  refine (?_ : R (_, _, .int (Int32.ofInt v90) :: [], w98, 0, 0))
  refine hR (k_ne (by omega) (fun hc108 => ?_) (fun hc108 => ?_))
  rotate_left
  · skip
    refine hR (?_ : R (_, _, _, _, _, _))
    exact hR (zret_i rfl (Nat.le_refl _) (zbo (by omega)) (h _ _ _ _ _ _ _ _ _ _ fr105 hC100 hC107 hC101 (by rcases hp102 with ⟨q1, q2, q3, q4, q5, q6, q7⟩ | q; (· exact lnp_0 (by omega) q2 q7); exact absurd q.1 (by omega)) hp103 (by omega)))
  refine hR (?_ : R (_, _, _, _, _, _))
  refine hR (k_lt (by omega) (fun hc => by omega) (fun _ => ?_))
  refine hR (?_ : R (_, _, _, _, _, _))
  refine hR (c_get hC100 rfl ?_)
  refine hR (t_c 6 (by decide) ?_)
  refine hR (?_ : R (_, _, _, _, _, _))
  refine hR (t_add ?_)
  refine hR (c_aldE hC107 (by omega) (by omega) (Nat.le_of_ble_eq_true rfl) fun v109 ev109 rv109 => ?_)
  replace ev109 : v109 = tBy g23 (6 + ((tBy g23 1) - 1)) := ev109
  subst ev109
  refine hR (?_ : R (_, _, _, _, _, _))
  refine hR (j_ge (by omega) (by omega) (fun hc => by omega) (fun _ => ?_))
  refine hR (t_c 11 (by decide) ?_)
  refine hR (t_c 8 (by decide) ?_)
  refine hR (?_ : R (_, _, _, _, _, _))
  refine hR (t_mul ?_)
  refine hR (t_add ?_)
  iterate 2 refine hR (?_ : R (_, _, _, _, _, _))
  refine hR (c_get hC100 rfl ?_)
  refine hR (t_c 6 (by decide) ?_)
  refine hR (?_ : R (_, _, _, _, _, _))
  refine hR (t_add ?_)
  refine hR (c_aldE hC107 (by omega) (by omega) (Nat.le_of_ble_eq_true rfl) fun v110 ev110 rv110 => ?_)
  replace ev110 : v110 = tBy g23 (6 + ((tBy g23 1) - 1)) := ev110
  subst ev110
  refine hR (t_mul ?_)
  refine hR (t_add ?_)
  iterate 2 refine hR (?_ : R (_, _, _, _, _, _))
  refine hR (c_get hC100 rfl ?_)
  iterate 2 refine hR (?_ : R (_, _, _, _, _, _))
  refine hR (x_ast hC107 (by omega) (by omega) (Nat.le_of_ble_eq_true rfl) fun w111 ff111 hC111 => ?_)
  have fr112 := wfM_st fr105 ff111 nX2
  have hC113 := (ff111.2 14 (by (try dsimp only); decide)).trans hC100
  have hC114 := (ff111.2 15 (by (try dsimp only); decide)).trans hC106
  have hC115 := (ff111.2 24 (by (try dsimp only); decide)).trans hC101
  refine hR (?_ : R (_, _, _, _, _, _))
  refine hR (c_get hC113 rfl ?_)
  iterate 2 refine hR (?_ : R (_, _, _, _, _, _))
  refine hR (t_add ?_)
  refine hR (?_ : R (_, _, _, _, _, _))
  refine hR (c_get hC113 rfl ?_)
  refine hR (?_ : R (_, _, _, _, _, _))
  refine hR (c_aldE hC115 (by omega) (by omega) (Nat.le_of_ble_eq_true rfl) fun v116 ev116 rv116 => ?_)
  replace ev116 : v116 = tBy R'_97 0 := ev116
  subst ev116
  refine hR (x_ast hC111 (by omega) (by omega) (Nat.le_of_ble_eq_true rfl) fun w117 ff117 hC117 => ?_)
  have fr118 := wfM_st fr112 ff117 nX2
  have hC119 := (ff117.2 14 (by (try dsimp only); decide)).trans hC113
  have hC120 := (ff117.2 15 (by (try dsimp only); decide)).trans hC114
  have hC121 := (ff117.2 24 (by (try dsimp only); decide)).trans hC115
  refine hR (?_ : R (_, _, _, _, _, _))
  refine hR (c_get hC119 rfl ?_)
  refine hR (t_c 6 (by decide) ?_)
  refine hR (?_ : R (_, _, _, _, _, _))
  refine hR (t_add ?_)
  refine hR (?_ : R (_, _, _, _, _, _))
  refine hR (c_aldE hC117 (by omega) (by omega) (Nat.le_of_ble_eq_true rfl) fun v122 ev122 rv122 => ?_)
  replace ev122 : v122 = tBy (upd (upd g23 ((11 + (8 * ((tBy g23 1) - 1))) + (2 * (tBy g23 (6 + ((tBy g23 1) - 1)))) : Int).toNat (Int32.ofInt a1)) (((11 + (8 * ((tBy g23 1) - 1))) + (2 * (tBy g23 (6 + ((tBy g23 1) - 1))))) + 1 : Int).toNat (Int32.ofInt (tBy R'_97 0))) (6 + ((tBy g23 1) - 1)) := ev122
  subst ev122
  refine hR (?_ : R (_, _, _, _, _, _))
  refine hR (t_add ?_)
  refine hR (x_ast hC117 (by omega) (by omega) (Nat.le_of_ble_eq_true rfl) fun w123 ff123 hC123 => ?_)
  have fr124 := wfM_st fr118 ff123 nX2
  have hC125 := (ff123.2 14 (by (try dsimp only); decide)).trans hC119
  have hC126 := (ff123.2 15 (by (try dsimp only); decide)).trans hC120
  have hC127 := (ff123.2 24 (by (try dsimp only); decide)).trans hC121
  refine hR (?_ : R (_, _, _, _, _, _))
  exact hR (zret_i rfl (Nat.le_refl _) (zbo (by omega)) (h _ _ _ _ _ _ _ _ _ _ fr124 hC125 hC123 hC127 (by rcases hp102 with q | ⟨q1, q2, q3, q4, q5, q6, q7⟩; (· exact absurd q.1 (by omega)); have hV := hx24 q2; have hn := tK_num (g := g) (n := f10) (a := tE g f10 a) (by omega) (by omega) q2; rw [q3]; refine lnp_1 (by omega) q2 ?_; rw [q4, q5, hV]; exact relB_C hr4 (by omega) (by omega) (by omega) (by omega) (fun j => (stT (by omega) hs0.1 (by omega) (by omega) (tBy_r _ _) j).trans (by rw [show tBy R'_97 0 = tV g f10 (tE g f10 a) from by rw [q6, hV]; exact (zup (by omega) 0).trans (if_pos rfl)]))) hp103 (by omega)))
theorem x_bookLine (w : zW) (d : Nat) (a3 : Int) (lw : Int64) (f0 f10 f13 f15 f16 f17 f20 f21 f22 f23 f26 f28 f31 f32 f33 f38 f41 f44 a : Int) (x14 : Int64) (g15 g g23 g24 : Nat → Int32) (f c x0 x1 x2 : Int) (g1 g2 g3 g4 : Nat → Int32) (hK0 : zix w 14 = some (.inr (11, [.int (Int32.ofInt f0), .ref 15, .ref 16, .ref 17, .ref 18, .ref 19, .ref 20, .ref 21, .ref 22, .int (Int32.ofInt (tE g f10 a)), .int (Int32.ofInt f10), .int (Int32.ofInt (tS g f10 a)), .int (Int32.ofInt (rK (tK g f10 a))), .int (Int32.ofInt f13), .long x14, .int (Int32.ofInt f15), .int (Int32.ofInt f16), .int (Int32.ofInt f17), .ref 23, .ref 24, .int (Int32.ofInt f20), .int (Int32.ofInt f21), .int (Int32.ofInt f22), .int (Int32.ofInt f23), .ref 25, .ref 26, .int (Int32.ofInt f26), .ref 27, .int (Int32.ofInt f28), .ref 28, .ref 29, .int (Int32.ofInt f31), .int (Int32.ofInt f32), .int (Int32.ofInt f33), .ref 30, .ref 31, .ref 32, .ref 33, .int (Int32.ofInt f38), .ref 34, .ref 35, .int (Int32.ofInt f41), .ref 36, .ref 37, .int (Int32.ofInt f44), .ref 38, .ref 39, .ref 40, .ref 41, .ref 42, .ref 43, .ref 44]))) (hK1 : zix w 15 = some (.inl (0, 2400, .inl g15))) (hK2 : zix w 23 = some (.inl (1, 121, .inl g23))) (hK3 : zix w 24 = some (.inl (1, 3, .inl g24))) (hr0 : 0 ≤ a ∧ a ≤ f10 ∧ f10 ≤ 600) (hr1 : ∀ i : Int, 0 ≤ i → i < f10 → tBy g15 i = tBy g i ∧ -128 ≤ tBy g i ∧ tBy g i ≤ 127) (hr2 : tK g f10 a = 2 → f13 = tV g f10 a) (hr3 : (-2147483648 ≤ f16 ∧ f16 ≤ 2147483647) ∧ (-2147483648 ≤ f17 ∧ f17 ≤ 2147483647)) (hr4 : RELB (f, c, x0, x1, x2, g1, g2, g3, g4) f16 f17 g23) (hr5 : a3 = tS g f10 a ∧ tS g f10 a < tE g f10 a) (Q : zQ) (h : ∀ (v : Int) (a' x' f' c' y15 : Int) (z' : Int64) (T' R' : Nat → Int32) (w' : zW), wfM (fun j => j ≠ 14 ∧ j ≠ 23 ∧ j ≠ 24) w w' → zix w' 14 = some (.inr (11, [.int (Int32.ofInt f0), .ref 15, .ref 16, .ref 17, .ref 18, .ref 19, .ref 20, .ref 21, .ref 22, .int (Int32.ofInt (tE g f10 a')), .int (Int32.ofInt f10), .int (Int32.ofInt (tS g f10 a')), .int (Int32.ofInt (rK (tK g f10 a'))), .int (Int32.ofInt x'), .long z', .int (Int32.ofInt y15), .int (Int32.ofInt f'), .int (Int32.ofInt c'), .ref 23, .ref 24, .int (Int32.ofInt f20), .int (Int32.ofInt f21), .int (Int32.ofInt f22), .int (Int32.ofInt f23), .ref 25, .ref 26, .int (Int32.ofInt f26), .ref 27, .int (Int32.ofInt f28), .ref 28, .ref 29, .int (Int32.ofInt f31), .int (Int32.ofInt f32), .int (Int32.ofInt f33), .ref 30, .ref 31, .ref 32, .ref 33, .int (Int32.ofInt f38), .ref 34, .ref 35, .int (Int32.ofInt f41), .ref 36, .ref 37, .int (Int32.ofInt f44), .ref 38, .ref 39, .ref 40, .ref 41, .ref 42, .ref 43, .ref 44])) → zix w' 23 = some (.inl (1, 121, .inl T')) → zix w' 24 = some (.inl (1, 3, .inl R')) → ((lnB lw.toInt = -1 ∧ v = 0 ∧ y15 = tS g f10 a) ∨ (lnB lw.toInt ≠ -1 ∧ LNP g f10 (bFw (lnB lw.toInt)) (nmF g f10 (bTake (lnB lw.toInt)) (bMs (lnB lw.toInt)).toNat 0 (tE g f10 a) (bBeg (lnB lw.toInt) (tS g f10 a) (f, c, x0, x1, x2, g1, g2, g3, g4))) v a' y15 (fun X => RELB X f' c' T'))) → (tK g f10 a' = 2 → x' = tV g f10 a') → (a ≤ a' ∧ a' ≤ f10 ∧ (v = 0 ∨ v = 1) ∧ r32 f' ∧ r32 c') → Q (some (.int (Int32.ofInt v))) w') : zCl zTab (d + 6) iX12_bookLine [.ref 14, .long lw, .int (Int32.ofInt a3)] w 0 0 Q := by
  refine zCl_i (M := kX12_bookLine) rfl (Nat.le_of_ble_eq_true rfl) fun R hR => ?_
  have fr0 : wfM (fun j => j ≠ 14 ∧ j ≠ 23 ∧ j ≠ 24) w w := wfM_rf _ w
  obtain rfl := hr5.1
  have hb1 := tS_b (g := g) (n := f10) (a := a) (by omega) (by omega)
  have hb2 := tE_b (g := g) (n := f10) (a := a) (by omega) (by omega)
  have hb3 := rK_r (g := g) (n := f10) (a := a)
  have hb4 := tS_b (g := g) (n := f10) (a := tE g f10 a) (by omega) (by omega)
  have hb5 := tE_b (g := g) (n := f10) (a := tE g f10 a) (by omega) (by omega)
  have hb6 := rK_r (g := g) (n := f10) (a := tE g f10 a)
  have hfw3 := @fW_r f16 f17 3 (tS g f10 a) (by omega)
  have hx1 := hr4.2.1
  have nX0 : FX (∀ j : Nat, (j ≠ 14 ∧ j ≠ 23 ∧ j ≠ 24) → (j ≠ 14)) := fun j hj => by omega
  have nX1 : FX (∀ j : Nat, (j ≠ 14 ∧ j ≠ 23 ∧ j ≠ 24) → (j ≠ 14 ∧ j ≠ 24)) := fun j hj => by omega
  have nX2 : FX (∀ j : Nat, (j ≠ 14 ∧ j ≠ 23 ∧ j ≠ 24) → j ≠ 23) := fun j hj => by omega
  have nX3 : FX (∀ j : Nat, (j ≠ 14 ∧ j ≠ 23 ∧ j ≠ 24) → (j ≠ 14 ∧ j ≠ 23 ∧ j ≠ 24)) := fun j hj => by omega
  refine hR (?_ : R (_, _, _, _, _, _))
  refine hR (zcall_i 0 0 (Nat.le_of_ble_eq_true rfl) (Nat.le_of_ble_eq_true rfl) (x_stepBy _ _ _ _ fun v7 hp8 => ?_))
  refine (?_ : R (_, _, .int (Int32.ofInt v7) :: [], w, 0, 0))
  iterate 3 refine hR (?_ : R (_, _, _, _, _, _))
  refine hR (j_eq (by omega) (by omega) (fun hc9 => ?_) (fun hc9 => ?_))
  rotate_left
  · skip
    iterate 3 refine hR (?_ : R (_, _, _, _, _, _))
    refine hR (c_obj hK0 (zcall_i 0 0 (Nat.le_of_ble_eq_true rfl) (Nat.le_of_ble_eq_true rfl) (x_stepLine _ _ _ _ _ _ _ _ _ _ _ _ _ _ _ _ _ _ _ _ _ _ _ _ _ _ _ _ _ _ _ _ _ _ _ _ _ hK0 hK1 hK2 hK3 (by omega) hr1 hr2 (by omega) hr4 (by omega) _ fun v170 a'_171 x'_172 f'_173 c'_174 y15_175 z'_176 T'_177 R'_178 w179 gg180 hC181 hC182 hC183 hp184 hp185 hp186 => ?_)))
    have fr187 := wfM_tr fr0 gg180 nX3
    have hC188 := (gg180.2 15 (by (try dsimp only); decide)).trans hK1
    refine (?_ : R (_, _, .int (Int32.ofInt v170) :: [], w179, 0, 0))
    exact hR (zret_i rfl (Nat.le_refl _) (zbo (by omega)) (h _ _ _ _ _ _ _ _ _ _ fr187 hC181 hC182 hC183 (Or.inr ⟨by omega, by rw [show lnB lw.toInt = v7 by omega]; exact hp184⟩) hp185 (by omega)))
  iterate 3 refine hR (?_ : R (_, _, _, _, _, _))
  skip
  refine hR (x_lcmpE (a := 1952807028) (by decide) (fun hc10 => ?_) (fun hc10 => ?_))
  · skip
    iterate 3 refine hR (?_ : R (_, _, _, _, _, _))
    skip
    refine hR (x_lcmp (a := 125779751232882) (by decide) (fun _ => ?_) (fun hc => by omega))
    refine hR (?_ : R (_, _, _, _, _, _))
    refine hR (c_obj hK0 (zcall_i 0 0 (Nat.le_of_ble_eq_true rfl) (Nat.le_of_ble_eq_true rfl) (x_token _ _ _ _ _ _ _ _ _ _ _ _ _ _ _ _ _ _ _ _ _ _ _ _ _ _ hK0 hK1 (by omega) hr1 _ fun y9_12 y11_13 y12_14 y13_15 y14_16 w17 gg18 hC19 hp20 => ?_)))
    have fr21 := wfM_tr fr0 gg18 nX0
    have hC22 := (gg18.2 15 (by (try dsimp only); decide)).trans hK1
    have hC23 := (gg18.2 23 (by (try dsimp only); decide)).trans hK2
    have hC24 := (gg18.2 24 (by (try dsimp only); decide)).trans hK3
    obtain ⟨rfl, rfl, rfl, hx25, hw26⟩ := hp20
    refine (?_ : R (_, _, [], w17, 0, 0))
    iterate 3 refine hR (?_ : R (_, _, _, _, _, _))
    skip
    refine hR (x_lcmp (a := 1952807028) (by decide) (fun hc => by omega) (fun _ => ?_))
    iterate 2 refine hR (?_ : R (_, _, _, _, _, _))
    refine hR (c_obj hC19 (zcall_i 0 0 (Nat.le_of_ble_eq_true rfl) (Nat.le_of_ble_eq_true rfl) (x_takeText _ _ _ _ _ _ _ _ _ _ _ _ _ _ _ _ _ _ _ _ _ _ _ _ _ _ hC19 hC22 hC24 (by omega) hr1 hx25 (by omega) (by omega) _ fun nn'_28 xg'_29 a'_30 x'_31 f'_32 c'_33 y15_34 z'_35 R'_36 w37 gg38 hC39 hC40 hp41 hp42 hp43 hp44 hp45 => ?_)))
    have fr46 := wfM_tr fr21 gg38 nX1
    have hC47 := (gg38.2 15 (by (try dsimp only); decide)).trans hC22
    have hC48 := (gg38.2 23 (by (try dsimp only); decide)).trans hC23
    refine (?_ : R (_, _, [], w37, 0, 0))
    refine hR (?_ : R (_, _, _, _, _, _))
    refine hR (c_get hC39 rfl ?_)
    iterate 2 refine hR (?_ : R (_, _, _, _, _, _))
    refine hR (c_get hC39 rfl ?_)
    refine hR (?_ : R (_, _, _, _, _, _))
    refine hR (c_aldE hC40 (by omega) (by omega) (Nat.le_of_ble_eq_true rfl) fun v49 ev49 rv49 => ?_)
    replace ev49 : v49 = tBy R'_36 0 := ev49
    subst ev49
    refine hR (x_ast hC48 (by omega) (by omega) (Nat.le_of_ble_eq_true rfl) fun w50 ff50 hC50 => ?_)
    have fr51 := wfM_st fr46 ff50 nX2
    have hC52 := (ff50.2 14 (by (try dsimp only); decide)).trans hC39
    have hC53 := (ff50.2 15 (by (try dsimp only); decide)).trans hC47
    have hC54 := (ff50.2 24 (by (try dsimp only); decide)).trans hC40
    iterate 3 refine hR (?_ : R (_, _, _, _, _, _))
    skip
    refine hR (x_lcmpE (a := 7039342) (by decide) (fun hc => by omega) (fun _ => ?_))
    refine hR (?_ : R (_, _, _, _, _, _))
    exact hR (zret_i rfl (Nat.le_refl _) (zbo (by omega)) (h _ _ _ _ _ _ _ _ _ _ fr51 hC52 hC50 hC54 (Or.inr ⟨by rw [(show lnB lw.toInt = 5 by rw [hc10]; decide)]; decide, by rw [(show lnB lw.toInt = 5 by rw [hc10]; decide)]; exact lnp_5 hr4 hp41 (tBy_r _ _) hp44⟩) (fun q => absurd q hp42) (by omega)))
  iterate 3 refine hR (?_ : R (_, _, _, _, _, _))
  skip
  refine hR (x_lcmpE (a := 7039342) (by decide) (fun hc56 => ?_) (fun hc56 => ?_))
  rotate_left
  · skip
    iterate 3 refine hR (?_ : R (_, _, _, _, _, _))
    skip
    refine hR (x_lcmpE (a := 125779751232882) (by decide) (fun hc124 => ?_) (fun hc124 => ?_))
    rotate_left
    · skip
      refine hR (?_ : R (_, _, _, _, _, _))
      refine hR (c_obj hK0 (zcall_i 0 0 (Nat.le_of_ble_eq_true rfl) (Nat.le_of_ble_eq_true rfl) (x_fails _ _ _ _ _ _ _ _ _ _ _ _ _ _ _ _ _ _ _ _ _ _ _ _ hK0 _ fun v161 w162 gg163 hC164 hp165 => ?_)))
      have fr166 := wfM_tr fr0 gg163 nX0
      have hC167 := (gg163.2 15 (by (try dsimp only); decide)).trans hK1
      have hC168 := (gg163.2 23 (by (try dsimp only); decide)).trans hK2
      have hC169 := (gg163.2 24 (by (try dsimp only); decide)).trans hK3
      subst hp165
      refine (?_ : R (_, _, .int (Int32.ofInt 0) :: [], w162, 0, 0))
      exact hR (zret_i rfl (Nat.le_refl _) (zbo (by omega)) (h _ _ _ _ _ _ _ _ _ _ fr166 hC164 hC168 hC169 (Or.inl ⟨by rcases hp8 with q | q; (· omega); unfold lnB; unfold lnB at q; (repeat' split) <;> omega, rfl, rfl⟩) hr2 (by omega)))
    iterate 3 refine hR (?_ : R (_, _, _, _, _, _))
    skip
    refine hR (x_lcmp (a := 125779751232882) (by decide) (fun hc => by omega) (fun _ => ?_))
    iterate 4 refine hR (?_ : R (_, _, _, _, _, _))
    refine hR (c_obj hK0 (zcall_i 0 0 (Nat.le_of_ble_eq_true rfl) (Nat.le_of_ble_eq_true rfl) (x_full _ _ _ _ _ _ _ _ _ _ _ _ _ _ _ _ _ _ _ _ _ _ _ _ _ _ _ _ hK0 hK2 (by omega) (by omega) _ fun f'_126 c'_127 w128 gg129 hC130 hp131 => ?_)))
    have fr132 := wfM_tr fr0 gg129 nX0
    have hC133 := (gg129.2 15 (by (try dsimp only); decide)).trans hK1
    have hC134 := (gg129.2 23 (by (try dsimp only); decide)).trans hK2
    have hC135 := (gg129.2 24 (by (try dsimp only); decide)).trans hK3
    refine (?_ : R (_, _, [], w128, 0, 0))
    refine hR (?_ : R (_, _, _, _, _, _))
    refine hR (c_get hC130 rfl ?_)
    iterate 3 refine hR (?_ : R (_, _, _, _, _, _))
    refine hR (c_get hC130 rfl ?_)
    refine hR (?_ : R (_, _, _, _, _, _))
    refine hR (c_aldE hC134 (by omega) (by omega) (Nat.le_of_ble_eq_true rfl) fun v136 ev136 rv136 => ?_)
    replace ev136 : v136 = tBy g23 1 := ev136
    subst ev136
    refine hR (?_ : R (_, _, _, _, _, _))
    refine hR (t_add ?_)
    refine hR (zcall_i 0 0 (Nat.le_of_ble_eq_true rfl) (Nat.le_of_ble_eq_true rfl) (m_lesser _ 5 ((tBy g23 1) + 1) _ (by omega) (by omega) _ fun v137 hp138 => ?_))
    refine (?_ : R (_, _, .int (Int32.ofInt v137) :: .int (Int32.ofInt 1) :: .ref 23 :: [], w128, 0, 0))
    have hl5 := hp138
    refine hR (x_ast hC134 (by omega) (by omega) (Nat.le_of_ble_eq_true rfl) fun w139 ff139 hC139 => ?_)
    have fr140 := wfM_st fr132 ff139 nX2
    have hC141 := (ff139.2 14 (by (try dsimp only); decide)).trans hC130
    have hC142 := (ff139.2 15 (by (try dsimp only); decide)).trans hC133
    have hC143 := (ff139.2 24 (by (try dsimp only); decide)).trans hC135
    refine hR (?_ : R (_, _, _, _, _, _))
    refine hR (c_obj hC141 (zcall_i 0 0 (Nat.le_of_ble_eq_true rfl) (Nat.le_of_ble_eq_true rfl) (x_token _ _ _ _ _ _ _ _ _ _ _ _ _ _ _ _ _ _ _ _ _ _ _ _ _ _ hC141 hC142 (by omega) hr1 _ fun y9_144 y11_145 y12_146 y13_147 y14_148 w149 gg150 hC151 hp152 => ?_)))
    have fr153 := wfM_tr fr140 gg150 nX0
    have hC154 := (gg150.2 15 (by (try dsimp only); decide)).trans hC142
    have hC155 := (gg150.2 23 (by (try dsimp only); decide)).trans hC139
    have hC156 := (gg150.2 24 (by (try dsimp only); decide)).trans hC143
    obtain ⟨rfl, rfl, rfl, hx157, hw158⟩ := hp152
    refine (?_ : R (_, _, [], w149, 0, 0))
    iterate 3 refine hR (?_ : R (_, _, _, _, _, _))
    skip
    refine hR (x_lcmp (a := 1952807028) (by decide) (fun _ => ?_) (fun hc => by omega))
    iterate 3 refine hR (?_ : R (_, _, _, _, _, _))
    skip
    refine hR (x_lcmpE (a := 7039342) (by decide) (fun hc => by omega) (fun _ => ?_))
    refine hR (?_ : R (_, _, _, _, _, _))
    exact hR (zret_i rfl (Nat.le_refl _) (zbo (by omega)) (h _ _ _ _ _ _ _ _ _ _ fr153 hC151 hC155 hC156 (Or.inr ⟨by rw [(show lnB lw.toInt = 7 by rw [hc124]; decide)]; decide, by rw [(show lnB lw.toInt = 7 by rw [hc124]; decide)]; exact lnp_4 (Or.inr rfl) (relB_R hr4 hp131 (by omega))⟩) hx157 (by omega)))
  iterate 3 refine hR (?_ : R (_, _, _, _, _, _))
  skip
  refine hR (x_lcmp (a := 125779751232882) (by decide) (fun _ => ?_) (fun hc => by omega))
  refine hR (?_ : R (_, _, _, _, _, _))
  refine hR (c_obj hK0 (zcall_i 0 0 (Nat.le_of_ble_eq_true rfl) (Nat.le_of_ble_eq_true rfl) (x_token _ _ _ _ _ _ _ _ _ _ _ _ _ _ _ _ _ _ _ _ _ _ _ _ _ _ hK0 hK1 (by omega) hr1 _ fun y9_58 y11_59 y12_60 y13_61 y14_62 w63 gg64 hC65 hp66 => ?_)))
  have fr67 := wfM_tr fr0 gg64 nX0
  have hC68 := (gg64.2 15 (by (try dsimp only); decide)).trans hK1
  have hC69 := (gg64.2 23 (by (try dsimp only); decide)).trans hK2
  have hC70 := (gg64.2 24 (by (try dsimp only); decide)).trans hK3
  obtain ⟨rfl, rfl, rfl, hx71, hw72⟩ := hp66
  refine (?_ : R (_, _, [], w63, 0, 0))
  iterate 3 refine hR (?_ : R (_, _, _, _, _, _))
  skip
  refine hR (x_lcmp (a := 1952807028) (by decide) (fun _ => ?_) (fun hc => by omega))
  iterate 3 refine hR (?_ : R (_, _, _, _, _, _))
  skip
  refine hR (x_lcmpE (a := 7039342) (by decide) (fun _ => ?_) (fun hc => by omega))
  iterate 4 refine hR (?_ : R (_, _, _, _, _, _))
  refine hR (c_obj hC65 (zcall_i 0 0 (Nat.le_of_ble_eq_true rfl) (Nat.le_of_ble_eq_true rfl) (x_take _ _ _ _ _ _ _ _ _ _ _ _ _ _ _ _ _ _ _ _ _ _ _ _ _ _ _ _ hC65 hC68 hC70 (by omega) hr1 hx71 (by omega) (by omega) (by omega) _ fun v75 a'_76 x'_77 f'_78 c'_79 y15_80 z'_81 R'_82 w83 gg84 hC85 hC86 hp87 hp88 hp89 => ?_)))
  have fr90 := wfM_tr fr67 gg84 nX1
  have hC91 := (gg84.2 15 (by (try dsimp only); decide)).trans hC68
  have hC92 := (gg84.2 23 (by (try dsimp only); decide)).trans hC69
  refine (?_ : R (_, _, .int (Int32.ofInt v75) :: [], w83, 0, 0))
  have hk1b := tE_b (g := g) (n := f10) (a := tE g f10 a) (by omega) (by omega)
  refine hR (k_eq (by omega) (fun hc93 => ?_) (fun hc93 => ?_))
  · skip
    refine hR (?_ : R (_, _, _, _, _, _))
    exact hR (zret_i rfl (Nat.le_refl _) (zbo (by omega)) (h _ _ _ _ _ _ _ _ _ _ fr90 hC85 hC92 hC86 (Or.inr ⟨by rw [(show lnB lw.toInt = 6 by rw [hc56]; decide)]; decide, by rw [(show lnB lw.toInt = 6 by rw [hc56]; decide)]; rcases hp87 with ⟨q1, q2, q3, q4, q5, q6, q7⟩ | q; (· exact lnp_60 q2 q7); exact absurd q.1 (by omega)⟩) hp88 (by omega)))
  iterate 4 refine hR (?_ : R (_, _, _, _, _, _))
  refine hR (c_obj hC85 (zcall_i 0 0 (Nat.le_of_ble_eq_true rfl) (Nat.le_of_ble_eq_true rfl) (x_take _ _ _ _ _ _ _ _ _ _ _ _ _ _ _ _ _ _ _ _ _ _ _ _ _ _ _ _ hC85 hC91 hC86 (by omega) hr1 hp88 (by omega) (by omega) (by omega) _ fun v94 a'_95 x'_96 f'_97 c'_98 y15_99 z'_100 R'_101 w102 gg103 hC104 hC105 hp106 hp107 hp108 => ?_)))
  have fr109 := wfM_tr fr90 gg103 nX1
  have hC110 := (gg103.2 15 (by (try dsimp only); decide)).trans hC91
  have hC111 := (gg103.2 23 (by (try dsimp only); decide)).trans hC92
  refine (?_ : R (_, _, .int (Int32.ofInt v94) :: [], w102, 0, 0))
  refine hR (k_ne (by omega) (fun hc112 => ?_) (fun hc112 => ?_))
  rotate_left
  · skip
    refine hR (?_ : R (_, _, _, _, _, _))
    exact hR (zret_i rfl (Nat.le_refl _) (zbo (by omega)) (h _ _ _ _ _ _ _ _ _ _ fr109 hC104 hC111 hC105 (Or.inr ⟨by rw [(show lnB lw.toInt = 6 by rw [hc56]; decide)]; decide, by rw [(show lnB lw.toInt = 6 by rw [hc56]; decide)]; rcases hp87 with q | ⟨q1, q2, q3, q4, q5, q6, q7⟩; (· exact absurd q.1 (by omega)); rcases hp106 with ⟨p1, p2, p3, p4, p5, p6, p7⟩ | q; (· rw [q3] at p2 p7; exact lnp_61 q2 p2 p7); exact absurd q.1 (by omega)⟩) hp107 (by omega)))
  refine hR (?_ : R (_, _, _, _, _, _))
  refine hR (c_get hC104 rfl ?_)
  refine hR (?_ : R (_, _, _, _, _, _))
  refine hR (c_aldE hC105 (by omega) (by omega) (Nat.le_of_ble_eq_true rfl) fun v113 ev113 rv113 => ?_)
  replace ev113 : v113 = tBy R'_101 0 := ev113
  subst ev113
  iterate 2 refine hR (?_ : R (_, _, _, _, _, _))
  refine hR (zcall_i 0 0 (Nat.le_of_ble_eq_true rfl) (Nat.le_of_ble_eq_true rfl) (m_in _ (tBy R'_101 0) 0 3 _ (by omega) (by omega) (by omega) _ fun v114 hp115 => ?_))
  refine (?_ : R (_, _, .int (Int32.ofInt v114) :: [], w102, 0, 0))
  refine hR (k_eq (by omega) (fun hc116 => ?_) (fun hc116 => ?_))
  · skip
    refine hR (?_ : R (_, _, _, _, _, _))
    exact hR (zret_i rfl (Nat.le_refl _) (zbo (by omega)) (h _ _ _ _ _ _ _ _ _ _ fr109 hC104 hC111 hC105 (Or.inr ⟨by rw [(show lnB lw.toInt = 6 by rw [hc56]; decide)]; decide, by rw [(show lnB lw.toInt = 6 by rw [hc56]; decide)]; rcases hp87 with q | ⟨q1, q2, q3, q4, q5, q6, q7⟩; (· exact absurd q.1 (by omega)); rcases hp106 with q | ⟨p1, p2, p3, p4, p5, p6, p7⟩; (· exact absurd q.1 (by omega)); rw [q3] at p2 p3 p4 p5; have hV1 := hx71 q2; have hV2 := hp88 (by rw [q3]; exact p2); rw [q3] at hV2; have n1 := tK_num (g := g) (n := f10) (a := tE g f10 a) (by omega) (by omega) q2; have n2 := tK_num (g := g) (n := f10) (a := tE g f10 (tE g f10 a)) (by omega) (by omega) p2; have r0 : tBy R'_101 0 = y13_61 := (by rw [p6, zup (by omega), if_neg (by decide), q6, zup (by omega), if_pos rfl]); have r1 : tBy R'_101 1 = x'_77 := (by rw [p6, zup (by omega), if_pos rfl]); rw [p3, p4, p5, q4, q5]; exact lnp_6 hr4 q2 p2 hV1 hV2 (by omega) (Or.inr ⟨by omega, rfl⟩)⟩) hp107 (by omega)))
  refine hR (?_ : R (_, _, _, _, _, _))
  refine hR (c_get hC104 rfl ?_)
  iterate 2 refine hR (?_ : R (_, _, _, _, _, _))
  refine hR (c_get hC104 rfl ?_)
  refine hR (?_ : R (_, _, _, _, _, _))
  refine hR (c_aldE hC105 (by omega) (by omega) (Nat.le_of_ble_eq_true rfl) fun v117 ev117 rv117 => ?_)
  replace ev117 : v117 = tBy R'_101 0 := ev117
  subst ev117
  refine hR (t_add ?_)
  refine hR (?_ : R (_, _, _, _, _, _))
  refine hR (c_get hC104 rfl ?_)
  refine hR (?_ : R (_, _, _, _, _, _))
  refine hR (c_aldE hC105 (by omega) (by omega) (Nat.le_of_ble_eq_true rfl) fun v118 ev118 rv118 => ?_)
  replace ev118 : v118 = tBy R'_101 1 := ev118
  subst ev118
  refine hR (x_ast hC111 (by omega) (by omega) (Nat.le_of_ble_eq_true rfl) fun w119 ff119 hC119 => ?_)
  have fr120 := wfM_st fr109 ff119 nX2
  have hC121 := (ff119.2 14 (by (try dsimp only); decide)).trans hC104
  have hC122 := (ff119.2 15 (by (try dsimp only); decide)).trans hC110
  have hC123 := (ff119.2 24 (by (try dsimp only); decide)).trans hC105
  refine hR (?_ : R (_, _, _, _, _, _))
  exact hR (zret_i rfl (Nat.le_refl _) (zbo (by omega)) (h _ _ _ _ _ _ _ _ _ _ fr120 hC121 hC119 hC123 (Or.inr ⟨by rw [(show lnB lw.toInt = 6 by rw [hc56]; decide)]; decide, by rw [(show lnB lw.toInt = 6 by rw [hc56]; decide)]; rcases hp87 with q | ⟨q1, q2, q3, q4, q5, q6, q7⟩; (· exact absurd q.1 (by omega)); rcases hp106 with q | ⟨p1, p2, p3, p4, p5, p6, p7⟩; (· exact absurd q.1 (by omega)); rw [q3] at p2 p3 p4 p5; have hV1 := hx71 q2; have hV2 := hp88 (by rw [q3]; exact p2); rw [q3] at hV2; have n1 := tK_num (g := g) (n := f10) (a := tE g f10 a) (by omega) (by omega) q2; have n2 := tK_num (g := g) (n := f10) (a := tE g f10 (tE g f10 a)) (by omega) (by omega) p2; have r0 : tBy R'_101 0 = y13_61 := (by rw [p6, zup (by omega), if_neg (by decide), q6, zup (by omega), if_pos rfl]); have r1 : tBy R'_101 1 = x'_77 := (by rw [p6, zup (by omega), if_pos rfl]); rw [p3, p4, p5, q4, q5]; exact lnp_6 hr4 q2 p2 hV1 hV2 (by omega) (Or.inl ⟨by omega, by omega, fun j => by rw [zup (tBy_r _ _), r0, r1]⟩)⟩) hp107 (by omega)))
