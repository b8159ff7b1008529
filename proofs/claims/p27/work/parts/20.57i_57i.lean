/-! THE REFERENCE'S YEAR AND SIGHT LINES, against the class's. -/
noncomputable def KP3 (T R T' : Nat → Int32) : Prop := (tBy T 0 = 40 ∧ T' = T) ∨ (tBy T 0 ≠ 40 ∧ ∀ j : Int, 0 ≤ j → tBy T' j = if j = 0 then tBy T 0 + 1 else if 1 + 3 * tBy T 0 ≤ j ∧ j < 4 + 3 * tBy T 0 then tBy R (j - 1 - 3 * tBy T 0) else tBy T j)
noncomputable def KP2 (T R T' : Nat → Int32) : Prop := (tBy T 0 = 6 ∧ T' = T) ∨ (tBy T 0 ≠ 6 ∧ ∀ j : Int, 0 ≤ j → tBy T' j = if j = 0 then tBy T 0 + 1 else if 1 + 2 * tBy T 0 ≤ j ∧ j < 3 + 2 * tBy T 0 then tBy R (j - 1 - 2 * tBy T 0) else tBy T j)
noncomputable def RELY : tpY → Int → Int → (Nat → Int32) → Prop
  | (f, c, x0, g1, g2, g3), f', c', T => RFC f c f' c' ∧ (x0 = tBy T 0 ∧ 0 ≤ x0 ∧ x0 ≤ 40) ∧ (f = 0 → ∀ i : Int, 0 ≤ i → i < x0 → tBy T (1 + 3 * i) = tBy g1 i ∧ tBy T (2 + 3 * i) = tBy g2 i ∧ tBy T (3 + 3 * i) = tBy g3 i ∧ (tBy g1 i = 1 → tBy g2 i ≠ tBy g3 i))
noncomputable def MIDY (s L o1 o2 : Int) : tpY → Int → Int → (Nat → Int32) → Prop
  | (f, c, x0, g1, g2, g3), F, C, T => RFC f c F C ∧ ((tBy T 0 = 40 ∧ x0 = 40 ∧ f ≠ 0 ∧ c ≤ s) ∨ ((0 ≤ tBy T 0 ∧ tBy T 0 < 40 ∧ x0 = tBy T 0 + 1 ∧ tBy g2 (x0 - 1) = o1) ∧ (f = 0 → tBy g1 (x0 - 1) = L ∧ tBy g3 (x0 - 1) = o2 ∧ ∀ i : Int, 0 ≤ i → i < x0 - 1 → tBy T (1 + 3 * i) = tBy g1 i ∧ tBy T (2 + 3 * i) = tBy g2 i ∧ tBy T (3 + 3 * i) = tBy g3 i ∧ (tBy g1 i = 1 → tBy g2 i ≠ tBy g3 i))))
theorem fC_le {f c wh s : Int} : fC f c wh s ≤ s := by
  unfold fC
  split <;> omega
theorem fW_no {f c wh s : Int} (h0 : f ≠ 0) (h : c < s) : fW f c wh s = f ∧ fC f c wh s = c := fW_n (by omega)
theorem wI_no {f c lo hi v s : Int} (h0 : f ≠ 0) (h : c < s) : wI f c lo hi v s = f ∧ wJ f c lo hi v s = c := by
  have := fW_no (wh := 2) h0 h
  unfold wI wJ
  split
  · exact ⟨rfl, rfl⟩
  · exact this
theorem midY_b {s L f16 f17 F C : Int} {T : Nat → Int32} (hL : r32 L) : ∀ {x : tpY}, RELY x f16 f17 T → ((tBy T 0 = 40 ∧ F = fW f16 f17 3 s ∧ C = fC f16 f17 3 s) ∨ (tBy T 0 ≠ 40 ∧ F = f16 ∧ C = f17)) → MIDY s L (-1) (-1) (yBeg L s x) F C T
  | (f, c, x0, g1, g2, g3), h, hf => by
    obtain ⟨h1, h2, h3⟩ := h
    unfold yBeg
    dsimp only
    rcases hf with ⟨q, rfl, rfl⟩ | ⟨q, rfl, rfl⟩
    · rw [if_pos (by omega)]
      exact ⟨rfc_W h1, Or.inl ⟨q, by omega, fW_0 (by omega), fC_le⟩⟩
    · rw [if_neg (by omega)]
      refine ⟨h1, Or.inr ⟨⟨by omega, by omega, by omega, ?_⟩, fun z => ⟨?_, ?_, fun i a b => ?_⟩⟩⟩
      · rw [zup (by omega), if_pos (by omega)]
      · rw [zup hL, if_pos (by omega)]
      · rw [zup (by omega), if_pos (by omega)]
      · rw [zup hL, zup (by omega), zup (by omega), if_neg (by omega), if_neg (by omega), if_neg (by omega)]
        exact h3 z i a (by omega)
theorem yTk_a {L k v s hi f c x0 : Int} {g1 g2 g3 : Nat → Int32} (h : ¬ (0 ≤ v ∧ v ≤ hi)) : yTk L k v s hi (f, c, x0, g1, g2, g3) = (wI f c 0 hi v s, wJ f c 0 hi v s, x0, g1, g2, g3) := if_pos (Or.inl h)
theorem yTk_b {L v s hi f c x0 : Int} {g1 g2 g3 : Nat → Int32} (h : 0 ≤ v ∧ v ≤ hi) (hx : 1 ≤ x0) : yTk L 0 v s hi (f, c, x0, g1, g2, g3) = (wI f c 0 hi v s, wJ f c 0 hi v s, x0, g1, upd g2 (x0 - 1).toNat (Int32.ofInt v), g3) := (if_neg (by omega)).trans (if_pos rfl)
theorem yTk_c {L k v s hi f c x0 : Int} {g1 g2 g3 : Nat → Int32} (h : 0 ≤ v ∧ v ≤ hi) (hx : 1 ≤ x0) (hk : ¬ k = 0) (hL : ¬ (L = 1 ∧ tBy g2 (x0 - 1) = v)) : yTk L k v s hi (f, c, x0, g1, g2, g3) = (wI f c 0 hi v s, wJ f c 0 hi v s, x0, g1, g2, upd g3 (x0 - 1).toNat (Int32.ofInt v)) := (if_neg (by omega)).trans ((if_neg hk).trans (if_neg hL))
theorem yTk_d {L k v s hi f c x0 : Int} {g1 g2 g3 : Nat → Int32} (h : 0 ≤ v ∧ v ≤ hi) (hx : 1 ≤ x0) (hk : ¬ k = 0) (hL : L = 1 ∧ tBy g2 (x0 - 1) = v) : yTk L k v s hi (f, c, x0, g1, g2, g3) = (fW (wI f c 0 hi v s) (wJ f c 0 hi v s) 2 s, fC (wI f c 0 hi v s) (wJ f c 0 hi v s) 2 s, x0, g1, g2, upd g3 (x0 - 1).toNat (Int32.ofInt v)) := (if_neg (by omega)).trans ((if_neg hk).trans (if_pos hL))
theorem midY_1 {s s2 L o1 o2 F C v : Int} {T : Nat → Int32} (hs : s < s2) (hv : r32 v) : ∀ {x : tpY}, MIDY s L o1 o2 x F C T → MIDY s L (if 0 ≤ v ∧ v ≤ 3 then v else o1) o2 (yTk L 0 v s2 3 x) (wI F C 0 3 v s2) (wJ F C 0 3 v s2) T
  | (f, c, x0, g1, g2, g3), h => by
    obtain ⟨h1, h2⟩ := h
    have hr := rfc_I (lo := 0) (hi := 3) (v := v) (s := s2) h1
    rcases h2 with ⟨q1, q2, q3, q4⟩ | ⟨q, z⟩
    · have hn := wI_no (lo := 0) (hi := 3) (v := v) q3 (show c < s2 by omega)
      by_cases hv2 : 0 ≤ v ∧ v ≤ 3
      · rw [yTk_b hv2 (by omega)]
        exact ⟨hr, Or.inl ⟨q1, q2, by rw [hn.1]; exact q3, by rw [hn.2]; exact q4⟩⟩
      · rw [yTk_a hv2]
        exact ⟨hr, Or.inl ⟨q1, q2, by rw [hn.1]; exact q3, by rw [hn.2]; exact q4⟩⟩
    · by_cases hv2 : 0 ≤ v ∧ v ≤ 3
      · rw [yTk_b hv2 (by omega), if_pos hv2]
        refine ⟨hr, Or.inr ⟨⟨q.1, q.2.1, q.2.2.1, by rw [zup hv, if_pos rfl]⟩, fun y => ?_⟩⟩
        have z2 := z (wI_0 y).1
        refine ⟨z2.1, z2.2.1, fun i a b => ?_⟩
        rw [zup hv, if_neg (by omega)]
        exact z2.2.2 i a b
      · rw [yTk_a hv2, if_neg hv2]
        exact ⟨hr, Or.inr ⟨q, fun y => absurd (wI_0 y).2 hv2⟩⟩
theorem midY_2 {s s2 o1 o2 F C v : Int} {T : Nat → Int32} (hs : s < s2) (hv : r32 v) : ∀ {x : tpY}, MIDY s 0 o1 o2 x F C T → MIDY s 0 o1 v (yTk 0 1 v s2 4 x) (wI F C 0 4 v s2) (wJ F C 0 4 v s2) T
  | (f, c, x0, g1, g2, g3), h => by
    obtain ⟨h1, h2⟩ := h
    have hr := rfc_I (lo := 0) (hi := 4) (v := v) (s := s2) h1
    rcases h2 with ⟨q1, q2, q3, q4⟩ | ⟨q, z⟩
    · have hn := wI_no (lo := 0) (hi := 4) (v := v) q3 (show c < s2 by omega)
      by_cases hv2 : 0 ≤ v ∧ v ≤ 4
      · rw [yTk_c hv2 (by omega) (by decide) (fun h => absurd h.1 (by decide))]
        exact ⟨hr, Or.inl ⟨q1, q2, by rw [hn.1]; exact q3, by rw [hn.2]; exact q4⟩⟩
      · rw [yTk_a hv2]
        exact ⟨hr, Or.inl ⟨q1, q2, by rw [hn.1]; exact q3, by rw [hn.2]; exact q4⟩⟩
    · by_cases hv2 : 0 ≤ v ∧ v ≤ 4
      · rw [yTk_c hv2 (by omega) (by decide) (fun h => absurd h.1 (by decide))]
        refine ⟨hr, Or.inr ⟨q, fun y => ?_⟩⟩
        have z2 := z (wI_0 y).1
        refine ⟨z2.1, by rw [zup hv, if_pos rfl], fun i a b => ?_⟩
        rw [zup hv, if_neg (by omega)]
        exact z2.2.2 i a b
      · rw [yTk_a hv2]
        exact ⟨hr, Or.inr ⟨q, fun y => absurd (wI_0 y).2 hv2⟩⟩
theorem rfc_B {f c F C lo hi bu v s : Int} (h : RFC f c F C) : RFC (wB f c lo hi bu v s) (wC f c lo hi bu v s) (wB F C lo hi bu v s) (wC F C lo hi bu v s) := by
  unfold wB wC
  split
  · exact h
  · exact rfc_W h
theorem wB_0 {f c lo hi bu v s : Int} (h : wB f c lo hi bu v s = 0) : f = 0 ∧ lo ≤ v ∧ v ≤ hi ∧ v ≠ bu := by
  unfold wB at h
  split at h
  · exact ⟨h, by assumption⟩
  · exact absurd h (fW_0 (by omega))
theorem wB_no {f c lo hi bu v s : Int} (h0 : f ≠ 0) (h : c < s) : wB f c lo hi bu v s = f ∧ wC f c lo hi bu v s = c := by
  have := fW_no (wh := 2) h0 h
  unfold wB wC
  split
  · exact ⟨rfl, rfl⟩
  · exact this
theorem midY_3 {s s2 o2 F C v v1 : Int} {T : Nat → Int32} (hs : s < s2) (hv : r32 v) : ∀ {x : tpY}, MIDY s 1 (if 0 ≤ v1 ∧ v1 ≤ 3 then v1 else -1) o2 x F C T → MIDY s 1 (if 0 ≤ v1 ∧ v1 ≤ 3 then v1 else -1) v (yTk 1 1 v s2 3 x) (wB F C 0 3 v1 v s2) (wC F C 0 3 v1 v s2) T
  | (f, c, x0, g1, g2, g3), h => by
    obtain ⟨h1, h2⟩ := h
    have hr := rfc_B (lo := 0) (hi := 3) (bu := v1) (v := v) (s := s2) h1
    rcases h2 with ⟨q1, q2, q3, q4⟩ | ⟨q, z⟩
    · have hn := wI_no (lo := 0) (hi := 3) (v := v) q3 (show c < s2 by omega)
      have hw := fW_no (wh := 2) q3 (show c < s2 by omega)
      have hb := wB_no (lo := 0) (hi := 3) (bu := v1) (v := v) q3 (show c < s2 by omega)
      rw [hb.1, hb.2] at hr
      have e : ∃ k3, yTk 1 1 v s2 3 (f, c, x0, g1, g2, g3) = (f, c, x0, g1, g2, k3) := by
        unfold yTk
        dsimp only
        rw [hn.1, hn.2, hw.1, hw.2]
        (repeat' split) <;> first | exact ⟨_, rfl⟩ | contradiction
      obtain ⟨k3, e⟩ := e
      rw [e]
      exact ⟨hr, Or.inl ⟨q1, q2, q3, q4⟩⟩
    · by_cases hv2 : 0 ≤ v ∧ v ≤ 3
      · have ei : wI f c 0 3 v s2 = f ∧ wJ f c 0 3 v s2 = c := ⟨if_pos hv2, if_pos hv2⟩
        by_cases hq : v1 = v
        · have eb : wB f c 0 3 v1 v s2 = fW f c 2 s2 ∧ wC f c 0 3 v1 v s2 = fC f c 2 s2 := ⟨if_neg (by omega), if_neg (by omega)⟩
          rw [eb.1, eb.2] at hr
          rw [yTk_d hv2 (by omega) (by decide) ⟨rfl, by rw [q.2.2.2, if_pos (by omega)]; exact hq⟩, ei.1, ei.2]
          exact ⟨hr, Or.inr ⟨q, fun y => absurd y (fW_0 (by omega))⟩⟩
        · have eb : wB f c 0 3 v1 v s2 = f ∧ wC f c 0 3 v1 v s2 = c := ⟨if_pos (by omega), if_pos (by omega)⟩
          rw [eb.1, eb.2] at hr
          rw [yTk_c hv2 (by omega) (by decide) (fun y => by
            have := y.2
            rw [q.2.2.2] at this
            split at this <;> omega), ei.1, ei.2]
          refine ⟨hr, Or.inr ⟨q, fun y => ?_⟩⟩
          have z2 := z y
          refine ⟨z2.1, by rw [zup hv, if_pos rfl], fun i a b => ?_⟩
          rw [zup hv, if_neg (by omega)]
          exact z2.2.2 i a b
      · have eb : wB f c 0 3 v1 v s2 = fW f c 2 s2 ∧ wC f c 0 3 v1 v s2 = fC f c 2 s2 := ⟨if_neg (by omega), if_neg (by omega)⟩
        have ei : wI f c 0 3 v s2 = fW f c 2 s2 ∧ wJ f c 0 3 v s2 = fC f c 2 s2 := ⟨if_neg hv2, if_neg hv2⟩
        rw [eb.1, eb.2] at hr
        rw [yTk_a hv2, ei.1, ei.2]
        exact ⟨hr, Or.inr ⟨q, fun y => absurd y (fW_0 (by omega))⟩⟩
/-- a deed is kept -/
theorem relY_K {s L o1 o2 F C : Int} {T R T' : Nat → Int32} (hk : KP3 T R T') (h0 : tBy R 0 = L) (hR : F = 0 → tBy R 1 = o1 ∧ tBy R 2 = o2) (hD : F = 0 → L = 1 → o1 ≠ o2) : ∀ {x : tpY}, MIDY s L o1 o2 x F C T → RELY x F C T'
  | (f, c, x0, g1, g2, g3), h => by
    obtain ⟨h1, h2⟩ := h
    rcases h2 with ⟨q1, q2, q3, q4⟩ | ⟨q, z⟩
    · rcases hk with ⟨_, rfl⟩ | ⟨k1, _⟩
      · exact ⟨h1, by omega, fun y => absurd y q3⟩
      · exact absurd q1 k1
    · rcases hk with ⟨k1, _⟩ | ⟨_, k2⟩
      · omega
      · refine ⟨h1, by rw [k2 0 (by omega), if_pos rfl]; omega, fun y i a b => ?_⟩
        have z2 := z y
        have hR2 := hR (by rw [← h1.1]; exact y)
        rw [k2 _ (by omega), k2 _ (by omega), k2 _ (by omega), if_neg (show ¬ 1 + 3 * i = 0 by omega), if_neg (show ¬ 2 + 3 * i = 0 by omega), if_neg (show ¬ 3 + 3 * i = 0 by omega)]
        by_cases c1 : i = x0 - 1
        · rw [if_pos (by omega), if_pos (by omega), if_pos (by omega), show 1 + 3 * i - 1 - 3 * tBy T 0 = 0 by omega, show 2 + 3 * i - 1 - 3 * tBy T 0 = 1 by omega, show 3 + 3 * i - 1 - 3 * tBy T 0 = 2 by omega, c1]
          exact ⟨h0.trans z2.1.symm, hR2.1.trans q.2.2.2.symm, hR2.2.trans z2.2.1.symm, fun e => by rw [q.2.2.2, z2.2.1]; exact hD (by rw [← h1.1]; exact y) (z2.1.symm.trans e)⟩
        · rw [if_neg (by omega), if_neg (by omega), if_neg (by omega)]
          exact z2.2.2 i a (by omega)
theorem lnY_0 {g : Nat → Int32} {n L p y a' : Int} {X : tpY} {R : tpY → Prop} (hL : 0 ≤ L ∧ L ≤ 4) (h : tK g n p ≠ 2) (hy : y = tS g n p) : LNP g n (yMs L) (nmF g n (yTake L) (yMs L).toNat 0 p X) 0 a' y R := by
  rw [nm_0 (Or.inr h)]
  refine Or.inr ⟨rfl, ?_, hy⟩
  dsimp only
  unfold yMs
  (repeat' split) <;> omega
theorem yMs_5 : yMs 5 = 0 := by decide
theorem yMs_2 {L : Int} (h : L = 0 ∨ L = 1) : yMs L = 2 := if_pos h
theorem yMs_1 {L : Int} (h : 2 ≤ L ∧ L ≤ 4) : yMs L = 1 := by unfold yMs; rw [if_neg (by omega), if_neg (by omega)]
theorem yTake_0 {L v s : Int} {x : tpY} : yTake L 0 v s x = yTk L 0 v s 3 x := if_neg (by omega)
theorem lnY_5 {g : Nat → Int32} {n p y : Int} {X : tpY} {R : tpY → Prop} (h : R X) : LNP g n (yMs 5) (nmF g n (yTake 5) (yMs 5).toNat 0 p X) 1 p y R := by
  rw [yMs_5, nm_0 (Or.inl rfl)]
  exact Or.inl ⟨rfl, by dsimp only; omega, rfl, h⟩
theorem lnY_1 {g : Nat → Int32} {n L p y : Int} {X : tpY} {R : tpY → Prop} (hL : 2 ≤ L ∧ L ≤ 4) (hk : tK g n p = 2) (h : R (yTk L 0 (tV g n p) (tS g n p) 3 X)) : LNP g n (yMs L) (nmF g n (yTake L) (yMs L).toNat 0 p X) 1 (tE g n p) y R := by
  rw [yMs_1 hL, nm_1 (by decide) hk, nm_0 (Or.inl (by decide)), yTake_0]
  exact Or.inl ⟨rfl, by dsimp only; omega, rfl, h⟩
theorem lnY_2 {g : Nat → Int32} {n L p y : Int} {X : tpY} {R : tpY → Prop} (hL : L = 0 ∨ L = 1) (hk : tK g n p = 2) (hk2 : tK g n (tE g n p) = 2) (h : R (yTake L 1 (tV g n (tE g n p)) (tS g n (tE g n p)) (yTk L 0 (tV g n p) (tS g n p) 3 X))) : LNP g n (yMs L) (nmF g n (yTake L) (yMs L).toNat 0 p X) 1 (tE g n (tE g n p)) y R := by
  rw [yMs_2 hL, nm_1 (by decide) hk, nm_1 (by decide) hk2, nm_0 (Or.inl (by decide)), yTake_0]
  exact Or.inl ⟨rfl, by dsimp only; omega, rfl, h⟩
theorem lnY_20 {g : Nat → Int32} {n L p y a' : Int} {X : tpY} {R : tpY → Prop} (hL : L = 0 ∨ L = 1) (hk : tK g n p = 2) (hk2 : tK g n (tE g n p) ≠ 2) (hy : y = tS g n (tE g n p)) : LNP g n (yMs L) (nmF g n (yTake L) (yMs L).toNat 0 p X) 0 a' y R := by
  rw [yMs_2 hL, nm_1 (by decide) hk, nm_0 (Or.inr hk2)]
  exact Or.inr ⟨rfl, by dsimp only; omega, hy⟩
/-- a SIGHT being told on both sides -/
noncomputable def RELS : tpS → Int → Int → (Nat → Int32) → Prop
  | (f, c, x0, g1, g2), f', c', T => RFC f c f' c' ∧ (x0 = tBy T 0 ∧ 0 ≤ x0 ∧ x0 ≤ 6) ∧ (f = 0 → ∀ i : Int, 0 ≤ i → i < x0 → tBy T (1 + 2 * i) = tBy g1 i ∧ tBy T (2 + 2 * i) = tBy g2 i)
noncomputable def mB (k : Int) : Int := if k ≤ 0 then 0 else if k = 1 then 4 else if k = 2 then 20 else if k = 3 then 84 else if k = 4 then 340 else if k = 5 then 1364 else 5460
theorem mB_s {k : Int} (h : k < 6) (h0 : 0 ≤ k) : 4 * mB k + 4 ≤ mB (k + 1) ∧ 0 ≤ mB k ∧ mB k ≤ 5460 := by
  have hk : k = 0 ∨ k = 1 ∨ k = 2 ∨ k = 3 ∨ k = 4 ∨ k = 5 := by omega
  rcases hk with rfl | rfl | rfl | rfl | rfl | rfl <;> decide
theorem mB_6 {k : Int} (h : 6 ≤ k) : mB k = 5460 := by
  unfold mB
  rw [if_neg (by omega), if_neg (by omega), if_neg (by omega), if_neg (by omega), if_neg (by omega), if_neg (by omega)]
/-- the class's numbers of a fact are the text's -/
theorem sTake_x {k v s f c x0 y : Int} {g1 g2 : Nat → Int32} (hk : 0 ≤ k) (hx : 1 ≤ x0) (hy : tBy g2 (x0 - 1) = y) (hb : 0 ≤ y ∧ y ≤ mB k) : ∃ k2, sTake (k + 1) v s (f, c, x0, g1, g2) = ((txT k v s (f, c, y)).1, (txT k v s (f, c, y)).2.1, x0, g1, k2) ∧ tBy k2 (x0 - 1) = (txT k v s (f, c, y)).2.2 ∧ (0 ≤ (txT k v s (f, c, y)).2.2 ∧ (txT k v s (f, c, y)).2.2 ≤ mB (k + 1)) ∧ ∀ j : Int, 0 ≤ j → j ≠ x0 - 1 → tBy k2 j = tBy g2 j := by
  unfold sTake sTk txT
  rw [if_neg (by omega)]
  dsimp only
  by_cases h6 : 6 ≤ k
  · have e6 := mB_6 h6
    have e7 := mB_6 (k := k + 1) (by omega)
    rw [if_pos (by omega), if_pos h6]
    exact ⟨g2, rfl, hy, by dsimp only; omega, fun _ _ _ => rfl⟩
  · have e6 := mB_s (k := k) (by omega) hk
    rw [if_neg (by omega), if_neg h6]
    by_cases hv : 0 ≤ v ∧ v ≤ 3
    · rw [if_pos ⟨hv, by omega⟩, if_neg (by omega), if_pos hv, hy]
      exact ⟨_, rfl, by rw [zup (by omega), if_pos rfl], by dsimp only; omega, fun j a b => by rw [zup (by omega), if_neg (by omega)]⟩
    · rw [if_neg (fun z => hv z.1), if_neg hv]
      exact ⟨g2, rfl, hy, by dsimp only; omega, fun _ _ _ => rfl⟩
theorem nm_S {g : Nat → Int32} {n x0 : Int} {g1 : Nat → Int32} (hx : 1 ≤ x0) : ∀ (m : Nat) (k a f c y : Int) (g2 : Nat → Int32), 0 ≤ k → tBy g2 (x0 - 1) = y → (0 ≤ y ∧ y ≤ mB k) → ∃ k2, nmF g n sTake m (k + 1) a (f, c, x0, g1, g2) = ((nmF g n txT m k a (f, c, y)).1 + 1, (nmF g n txT m k a (f, c, y)).2.1, (nmF g n txT m k a (f, c, y)).2.2.1, (nmF g n txT m k a (f, c, y)).2.2.2.1, x0, g1, k2) ∧ tBy k2 (x0 - 1) = (nmF g n txT m k a (f, c, y)).2.2.2.2 ∧ ∀ j : Int, 0 ≤ j → j ≠ x0 - 1 → tBy k2 j = tBy g2 j
  | 0, k, a, f, c, y, g2, _, hy, _ => ⟨g2, rfl, hy, fun _ _ _ => rfl⟩
  | m + 1, k, a, f, c, y, g2, h0, hy, hb => by
    by_cases hk : tK g n a = 2
    · have e : ∀ x, nmF g n txT (m + 1) k a x = nmF g n txT m (k + 1) (tE g n a) (txT k (tV g n a) (tS g n a) x) := fun x => if_pos hk
      have e2 : ∀ x, nmF g n sTake (m + 1) (k + 1) a x = nmF g n sTake m (k + 1 + 1) (tE g n a) (sTake (k + 1) (tV g n a) (tS g n a) x) := fun x => if_pos hk
      rw [e, e2]
      obtain ⟨k2, z1, z2, z3, z4⟩ := sTake_x (v := tV g n a) (s := tS g n a) (f := f) (c := c) (g1 := g1) h0 hx hy hb
      rw [z1]
      obtain ⟨k3, w1, w2, w3⟩ := nm_S hx m (k + 1) (tE g n a) (txT k (tV g n a) (tS g n a) (f, c, y)).1 (txT k (tV g n a) (tS g n a) (f, c, y)).2.1 _ k2 (by omega) z2 z3
      exact ⟨k3, w1, w2, fun j a b => (w3 j a b).trans (z4 j a b)⟩
    · have e : ∀ x, nmF g n txT (m + 1) k a x = (k, a, x) := fun x => if_neg hk
      have e2 : ∀ x, nmF g n sTake (m + 1) (k + 1) a x = (k + 1, a, x) := fun x => if_neg hk
      rw [e, e2]
      exact ⟨g2, rfl, hy, fun _ _ _ => rfl⟩
theorem nm_fu {g : Nat → Int32} {n : Int} {α : Type} {tk : Int → Int → Int → α → α} : ∀ (m : Nat) (k a : Int) (x : α), 0 ≤ a → a ≤ n → (n - a).toNat < m → nmF g n tk (m + 1) k a x = nmF g n tk m k a x
  | 0, k, a, x, _, _, h => absurd h (by omega)
  | m + 1, k, a, x, h0, h1, h => by
    by_cases hk : tK g n a = 2
    · have e : ∀ m, nmF g n tk (m + 1) k a x = nmF g n tk m (k + 1) (tE g n a) (tk k (tV g n a) (tS g n a) x) := fun m => if_pos hk
      have hs := tS_b (g := g) h0 h1
      have he := tE_b (g := g) h0 h1
      have hn := tK_n (g := g) (n := n) (a := a) (by omega)
      rw [e, e, nm_fu m (k + 1) (tE g n a) _ (by omega) (by omega) (by omega)]
    · have e : ∀ m, nmF g n tk (m + 1) k a x = (k, a, x) := fun m => if_neg hk
      rw [e, e]
noncomputable def MIDS (o1 o2 : Int) : tpS → Int → Int → (Nat → Int32) → Prop
  | (f, c, x0, g1, g2), F, C, T => RFC f c F C ∧ (1 ≤ x0 ∧ x0 ≤ 6) ∧ ((tBy T 0 = 6 ∧ x0 = 6 ∧ f ≠ 0) ∨ ((0 ≤ tBy T 0 ∧ tBy T 0 < 6 ∧ x0 = tBy T 0 + 1 ∧ tBy g2 (x0 - 1) = o2) ∧ (f = 0 → tBy g1 (x0 - 1) = o1 ∧ ∀ i : Int, 0 ≤ i → i < x0 - 1 → tBy T (1 + 2 * i) = tBy g1 i ∧ tBy T (2 + 2 * i) = tBy g2 i)))
theorem midS_b {s L f16 f17 F C : Int} {T : Nat → Int32} : ∀ {x : tpS}, RELS x f16 f17 T → ((tBy T 0 = 6 ∧ F = fW f16 f17 3 s ∧ C = fC f16 f17 3 s) ∨ (tBy T 0 ≠ 6 ∧ F = f16 ∧ C = f17)) → ∀ {v s2 : Int}, r32 v → MIDS v 0 (sTk 0 v s2 9 (sBeg L s x)) (wI F C 0 9 v s2) (wJ F C 0 9 v s2) T
  | (f, c, x0, g1, g2), h, hf, v, s2, hv => by
    obtain ⟨h1, h2, h3⟩ := h
    unfold sBeg
    dsimp only
    rcases hf with ⟨q, rfl, rfl⟩ | ⟨q, rfl, rfl⟩
    · rw [if_pos (by omega)]
      have hr := rfc_I (lo := 0) (hi := 9) (v := v) (s := s2) (rfc_W (wh := 3) (s := s) h1)
      have hF : wI (fW f c 3 s) (fC f c 3 s) 0 9 v s2 ≠ 0 := fun z => fW_0 (by omega) (wI_0 z).1
      unfold sTk
      dsimp only
      rw [if_neg (by omega)]
      (repeat' split) <;> first | exact ⟨hr, by omega, Or.inl ⟨q, by omega, hF⟩⟩ | contradiction
    · rw [if_neg (by omega)]
      have hr := rfc_I (lo := 0) (hi := 9) (v := v) (s := s2) h1
      have e0 : tBy (upd g2 x0.toNat (Int32.ofInt 0)) (x0 + 1 - 1) = 0 := by rw [zup (by omega), if_pos (by omega)]
      unfold sTk
      dsimp only
      rw [if_neg (by omega)]
      by_cases hv2 : 0 ≤ v ∧ v ≤ 9
      · rw [if_pos ⟨hv2, by omega⟩, if_pos rfl]
        refine ⟨hr, by omega, Or.inr ⟨⟨by omega, by omega, by omega, e0⟩, fun z => ⟨by rw [zup hv, if_pos rfl], fun i a b => ?_⟩⟩⟩
        rw [zup hv, zup (by omega), if_neg (by omega), if_neg (by omega)]
        exact h3 (wI_0 z).1 i a (by omega)
      · rw [if_neg (fun z => hv2 z.1)]
        exact ⟨hr, by omega, Or.inr ⟨⟨by omega, by omega, by omega, e0⟩, fun z => absurd (wI_0 z).2 hv2⟩⟩
theorem sTake_f {k v s f c x0 : Int} {g1 g2 : Nat → Int32} (hk : 0 ≤ k) (y : Int) : ∃ k1 k2, sTake (k + 1) v s (f, c, x0, g1, g2) = ((txT k v s (f, c, y)).1, (txT k v s (f, c, y)).2.1, x0, k1, k2) := by
  unfold sTake sTk txT
  rw [if_neg (by omega)]
  dsimp only
  by_cases h6 : 6 ≤ k
  · rw [if_pos (by omega), if_pos h6]
    exact ⟨_, _, rfl⟩
  · rw [if_neg (by omega), if_neg h6]
    by_cases hv : 0 ≤ v ∧ v ≤ 3
    · rw [if_pos hv]
      (repeat' split) <;> exact ⟨_, _, rfl⟩
    · rw [if_neg (fun z => hv z.1), if_neg hv]
      exact ⟨_, _, rfl⟩
theorem nm_Sf {g : Nat → Int32} {n x0 : Int} : ∀ (m : Nat) (k a f c y : Int) (g1 g2 : Nat → Int32), 0 ≤ k → ∃ k1 k2, nmF g n sTake m (k + 1) a (f, c, x0, g1, g2) = ((nmF g n txT m k a (f, c, y)).1 + 1, (nmF g n txT m k a (f, c, y)).2.1, (nmF g n txT m k a (f, c, y)).2.2.1, (nmF g n txT m k a (f, c, y)).2.2.2.1, x0, k1, k2)
  | 0, k, a, f, c, y, g1, g2, _ => ⟨g1, g2, rfl⟩
  | m + 1, k, a, f, c, y, g1, g2, h0 => by
    by_cases hk : tK g n a = 2
    · have e : ∀ x, nmF g n txT (m + 1) k a x = nmF g n txT m (k + 1) (tE g n a) (txT k (tV g n a) (tS g n a) x) := fun x => if_pos hk
      have e2 : ∀ x, nmF g n sTake (m + 1) (k + 1) a x = nmF g n sTake m (k + 1 + 1) (tE g n a) (sTake (k + 1) (tV g n a) (tS g n a) x) := fun x => if_pos hk
      rw [e, e2]
      obtain ⟨k1, k2, z1⟩ := sTake_f (v := tV g n a) (s := tS g n a) (f := f) (c := c) (x0 := x0) (g1 := g1) (g2 := g2) h0 y
      rw [z1]
      exact nm_Sf m (k + 1) (tE g n a) (txT k (tV g n a) (tS g n a) (f, c, y)).1 (txT k (tV g n a) (tS g n a) (f, c, y)).2.1 (txT k (tV g n a) (tS g n a) (f, c, y)).2.2 k1 k2 (by omega)
    · have e : ∀ x, nmF g n txT (m + 1) k a x = (k, a, x) := fun x => if_neg hk
      have e2 : ∀ x, nmF g n sTake (m + 1) (k + 1) a x = (k + 1, a, x) := fun x => if_neg hk
      rw [e, e2]
      exact ⟨g1, g2, rfl⟩
/-- a fact is kept -/
theorem lnS_1 {g : Nat → Int32} {n p y v F C a' f' c' nn X : Int} {T R T' : Nat → Int32} (hn : n ≤ 600) (hp : 2 ≤ tE g n p ∧ tE g n p ≤ n) (hk : tK g n p = 2) : ∀ {x : tpS}, MIDS v 0 (sTk 0 (tV g n p) (tS g n p) 9 x) F C T → nmF g n txT 600 0 (tE g n p) (F, C, 0) = (nn, a', f', c', X) → (f' = 0 → tBy R 1 = X) → tBy R 0 = v → KP2 T R T' → LNP g n 1 (nmF g n sTake 600 0 p x) 1 a' y (fun X => RELS X f' c' T') := by
  intro x hm ht hX h0 hK
  have e1 : nmF g n sTake 600 0 p x = nmF g n sTake 599 (0 + 1) (tE g n p) (sTake 0 (tV g n p) (tS g n p) x) := if_pos hk
  have e2 : sTake 0 (tV g n p) (tS g n p) x = sTk 0 (tV g n p) (tS g n p) 9 x := if_pos rfl
  rw [e1, e2]
  generalize sTk 0 (tV g n p) (tS g n p) 9 x = z at hm ⊢
  obtain ⟨f, c, x0, g1, g2⟩ := z
  obtain ⟨h1, hx, h2⟩ := hm
  have hfu : ∀ q : Int × Int × Int, nmF g n txT 599 0 (tE g n p) q = nmF g n txT 600 0 (tE g n p) q := fun q => (nm_fu 599 0 (tE g n p) q (by omega) (by omega) (by omega)).symm
  obtain ⟨n1, n2, n3, n4⟩ := nm_rfc (g := g) (n := n) 600 0 (tE g n p) f c F C 0 h1
  have hf0 := nm_f0 (g := g) (n := n) 600 0 (tE g n p) f c 0
  have hge := nm_ge (g := g) (n := n) (tk := txT) 600 0 (tE g n p) (f, c, 0)
  rw [ht] at n1 n2 n3 n4
  rcases h2 with ⟨q1, q2, q3⟩ | ⟨q, z⟩
  · obtain ⟨k1, k2, e⟩ := nm_Sf (g := g) (n := n) (x0 := x0) 599 0 (tE g n p) f c 0 g1 g2 (by omega)
    rw [hfu] at e
    rw [e]
    refine Or.inl ⟨rfl, by dsimp only; omega, n2.symm, n3, ?_, fun w => absurd (hf0 w) q3⟩
    rcases hK with ⟨_, rfl⟩ | ⟨k, _⟩
    · omega
    · exact absurd q1 k
  · obtain ⟨k2, e, e5, e6⟩ := nm_S (g := g) (n := n) (g1 := g1) hx.1 599 0 (tE g n p) f c 0 g2 (by omega) q.2.2.2 (by decide)
    rw [hfu] at e e5
    rw [e]
    rcases hK with ⟨k, _⟩ | ⟨_, k⟩
    · omega
    refine Or.inl ⟨rfl, by dsimp only; omega, n2.symm, n3, by rw [k 0 (by omega), if_pos rfl]; omega, fun w i a b => ?_⟩
    have z2 := z (hf0 w)
    have hX2 := hX (n3.1.symm.trans w)
    rw [k _ (by omega), k _ (by omega), if_neg (show ¬ 1 + 2 * i = 0 by omega), if_neg (show ¬ 2 + 2 * i = 0 by omega)]
    by_cases c1 : i = x0 - 1
    · rw [if_pos (by omega), if_pos (by omega), show 1 + 2 * i - 1 - 2 * tBy T 0 = 0 by omega, show 2 + 2 * i - 1 - 2 * tBy T 0 = 1 by omega, c1, e5]
      exact ⟨h0.trans z2.1.symm, hX2.trans n4.symm⟩
    · rw [if_neg (by omega), if_neg (by omega), e6 i a c1]
      exact z2.2 i a (by omega)
theorem lnS_0 {g : Nat → Int32} {n p y a' : Int} {x : tpS} {R : tpS → Prop} (hk : tK g n p ≠ 2) (hy : y = tS g n p) : LNP g n 1 (nmF g n sTake 600 0 p x) 0 a' y R := by
  have e : nmF g n sTake 600 0 p x = (0, p, x) := if_neg hk
  rw [e]
  exact Or.inr ⟨rfl, by dsimp only; omega, hy⟩
theorem yTake_01 {v s : Int} {x : tpY} : yTake 0 1 v s x = yTk 0 1 v s 4 x := if_pos ⟨rfl, rfl⟩
theorem yTake_11 {v s : Int} {x : tpY} : yTake 1 1 v s x = yTk 1 1 v s 3 x := if_neg (by decide)
theorem x_keep3 (w : zW) (d : Nat) (f0 f9 f10 f11 f12 f13 f15 f16 f17 f20 f21 f22 f23 f26 f28 f31 f32 f33 f38 f41 f44 : Int) (x14 : Int64) (g23 g24 : Nat → Int32) (hK0 : zix w 14 = some (.inr (11, [.int (Int32.ofInt f0), .ref 15, .ref 16, .ref 17, .ref 18, .ref 19, .ref 20, .ref 21, .ref 22, .int (Int32.ofInt f9), .int (Int32.ofInt f10), .int (Int32.ofInt f11), .int (Int32.ofInt f12), .int (Int32.ofInt f13), .long x14, .int (Int32.ofInt f15), .int (Int32.ofInt f16), .int (Int32.ofInt f17), .ref 23, .ref 24, .int (Int32.ofInt f20), .int (Int32.ofInt f21), .int (Int32.ofInt f22), .int (Int32.ofInt f23), .ref 25, .ref 26, .int (Int32.ofInt f26), .ref 27, .int (Int32.ofInt f28), .ref 28, .ref 29, .int (Int32.ofInt f31), .int (Int32.ofInt f32), .int (Int32.ofInt f33), .ref 30, .ref 31, .ref 32, .ref 33, .int (Int32.ofInt f38), .ref 34, .ref 35, .int (Int32.ofInt f41), .ref 36, .ref 37, .int (Int32.ofInt f44), .ref 38, .ref 39, .ref 40, .ref 41, .ref 42, .ref 43, .ref 44]))) (hK1 : zix w 23 = some (.inl (1, 121, .inl g23))) (hK2 : zix w 24 = some (.inl (1, 3, .inl g24))) (hr0 : 0 ≤ tBy g23 0 ∧ tBy g23 0 ≤ 40) (Q : zQ) (h : ∀ (T' : Nat → Int32) (w' : zW), wfM (fun j => j ≠ 23) w w' → zix w' 23 = some (.inl (1, 121, .inl T')) → (KP3 g23 g24 T') → Q (none) w') : zCl zTab (d + 1) iX12_keep [.ref 14, .int (Int32.ofInt 3), .int (Int32.ofInt 40)] w 0 0 Q := by
  refine zCl_i (M := kX12_keep) rfl (Nat.le_of_ble_eq_true rfl) fun R hR => ?_
  have fr0 : wfM (fun j => j ≠ 23) w w := wfM_rf _ w
  have nX0 : FX (∀ j : Nat, (j ≠ 23) → j ≠ 23) := fun j hj => by omega
  refine hR (?_ : R (_, _, _, _, _, _))
  refine hR (c_get hK0 rfl ?_)
  refine hR (?_ : R (_, _, _, _, _, _))
  refine hR (c_aldE hK1 (by omega) (by omega) (Nat.le_of_ble_eq_true rfl) fun v1 ev1 rv1 => ?_)
  replace ev1 : v1 = tBy g23 0 := ev1
  subst ev1
  iterate 3 refine hR (?_ : R (_, _, _, _, _, _))
  refine hR (j_ne (by omega) (by omega) (fun hc2 => ?_) (fun hc2 => ?_))
  rotate_left
  · skip
    exact hR (zret_i rfl (Nat.le_refl _) rfl (h _ _ fr0 hK1 (Or.inl ⟨by omega, rfl⟩)))
  iterate 2 refine hR (?_ : R (_, _, _, _, _, _))
  have lp16 : ∀ (N : Nat) (kk : Int) (T2 : Nat → Int32) (w_16 : zW), (wfM (fun j => j ≠ 23) w w_16) → (zix w_16 14 = some (.inr (11, [.int (Int32.ofInt f0), .ref 15, .ref 16, .ref 17, .ref 18, .ref 19, .ref 20, .ref 21, .ref 22, .int (Int32.ofInt f9), .int (Int32.ofInt f10), .int (Int32.ofInt f11), .int (Int32.ofInt f12), .int (Int32.ofInt f13), .long x14, .int (Int32.ofInt f15), .int (Int32.ofInt f16), .int (Int32.ofInt f17), .ref 23, .ref 24, .int (Int32.ofInt f20), .int (Int32.ofInt f21), .int (Int32.ofInt f22), .int (Int32.ofInt f23), .ref 25, .ref 26, .int (Int32.ofInt f26), .ref 27, .int (Int32.ofInt f28), .ref 28, .ref 29, .int (Int32.ofInt f31), .int (Int32.ofInt f32), .int (Int32.ofInt f33), .ref 30, .ref 31, .ref 32, .ref 33, .int (Int32.ofInt f38), .ref 34, .ref 35, .int (Int32.ofInt f41), .ref 36, .ref 37, .int (Int32.ofInt f44), .ref 38, .ref 39, .ref 40, .ref 41, .ref 42, .ref 43, .ref 44]))) → (zix w_16 23 = some (.inl (1, 121, .inl T2))) → (zix w_16 24 = some (.inl (1, 3, .inl g24))) → (0 ≤ kk ∧ kk ≤ 3) → (∀ j : Int, 0 ≤ j → tBy T2 j = if 1 + 3 * tBy g23 0 ≤ j ∧ j < 1 + 3 * tBy g23 0 + kk then tBy g24 (j - 1 - 3 * tBy g23 0) else tBy g23 j) → (4 - kk < N) → R (16, [some (.ref 14), some (.int (Int32.ofInt 3)), some (.int (Int32.ofInt 40)), some (.int (Int32.ofInt (tBy g23 0))), some (.int (Int32.ofInt kk))], [], w_16, 0, 0) := by
    intro N
    induction N with
    | zero => intros; omega
    | succ N ih16 =>
      intro kk T2 w_16 fr_16 hC14_16 hC23_16 hC24_16 hf0_16 hp0_16 hN16
      iterate 2 refine hR (?_ : R (_, _, _, _, _, _))
      refine hR (j_ge (by omega) (by omega) (fun hc3 => ?_) (fun hc3 => ?_))
      · skip
        have hz0 := hp0_16 0 (by omega)
        rw [if_neg (by omega)] at hz0
        refine hR (?_ : R (_, _, _, _, _, _))
        refine hR (c_get hC14_16 rfl ?_)
        iterate 2 refine hR (?_ : R (_, _, _, _, _, _))
        refine hR (c_aldE hC23_16 (by omega) (by omega) (Nat.le_of_ble_eq_true rfl) fun v4 ev4 rv4 => ?_)
        replace ev4 : v4 = tBy T2 0 := ev4
        subst ev4
        refine hR (?_ : R (_, _, _, _, _, _))
        refine hR (t_add ?_)
        refine hR (x_ast hC23_16 (by omega) (by omega) (Nat.le_of_ble_eq_true rfl) fun w5 ff5 hC5 => ?_)
        have fr6 := wfM_st fr_16 ff5 nX0
        have hC7 := (ff5.2 14 (by (try dsimp only); decide)).trans hC14_16
        have hC8 := (ff5.2 24 (by (try dsimp only); decide)).trans hC24_16
        exact hR (zret_i rfl (Nat.le_refl _) rfl (h _ _ fr6 hC5 (Or.inr ⟨by omega, fun j h0 => by have e0 := hp0_16 0 (by omega); rw [if_neg (by omega)] at e0; rw [zup (by omega), e0]; by_cases c1 : j = 0; (· rw [if_pos (by omega), if_pos c1]); rw [if_neg (by omega), if_neg c1, hp0_16 j h0]; by_cases c2 : 1 + 3 * tBy g23 0 ≤ j ∧ j < 4 + 3 * tBy g23 0; (· rw [if_pos (by omega), if_pos c2]); rw [if_neg (by omega), if_neg c2]⟩)))
      refine hR (?_ : R (_, _, _, _, _, _))
      refine hR (c_get hC14_16 rfl ?_)
      iterate 3 refine hR (?_ : R (_, _, _, _, _, _))
      refine hR (t_mul ?_)
      refine hR (t_add ?_)
      refine hR (?_ : R (_, _, _, _, _, _))
      refine hR (t_add ?_)
      refine hR (?_ : R (_, _, _, _, _, _))
      refine hR (c_get hC14_16 rfl ?_)
      refine hR (?_ : R (_, _, _, _, _, _))
      refine hR (c_aldE hC24_16 (by omega) (by omega) (Nat.le_of_ble_eq_true rfl) fun v9 ev9 rv9 => ?_)
      replace ev9 : v9 = tBy g24 kk := ev9
      subst ev9
      refine hR (x_ast hC23_16 (by omega) (by omega) (Nat.le_of_ble_eq_true rfl) fun w10 ff10 hC10 => ?_)
      have fr11 := wfM_st fr_16 ff10 nX0
      have hC12 := (ff10.2 14 (by (try dsimp only); decide)).trans hC14_16
      have hC13 := (ff10.2 24 (by (try dsimp only); decide)).trans hC24_16
      refine hR (t_inc ?_)
      refine hR (?_ : R (_, _, _, _, _, _))
      exact ih16 _ _ _ fr11 hC12 hC10 hC13 (by omega) (fun j h0 => by rw [zup (tBy_r _ _), hp0_16 j h0]; by_cases c1 : j = 1 + 3 * tBy g23 0 + kk; (· rw [if_pos (by omega), if_pos (by omega), show j - 1 - 3 * tBy g23 0 = kk by omega]); rw [if_neg (by omega)]; by_cases c2 : 1 + 3 * tBy g23 0 ≤ j ∧ j < 1 + 3 * tBy g23 0 + kk; (· rw [if_pos c2, if_pos (by omega)]); rw [if_neg c2, if_neg (by omega)]) (by omega)
  exact lp16 400000000 _ _ _ fr0 hK0 hK1 hK2 (by omega) (fun j h0 => (if_neg (by omega)).symm) (by omega)
theorem x_keep2 (w : zW) (d : Nat) (f0 f9 f10 f11 f12 f13 f15 f16 f17 f20 f21 f22 f23 f26 f28 f31 f32 f33 f38 f41 f44 : Int) (x14 : Int64) (g23 g24 : Nat → Int32) (hK0 : zix w 14 = some (.inr (11, [.int (Int32.ofInt f0), .ref 15, .ref 16, .ref 17, .ref 18, .ref 19, .ref 20, .ref 21, .ref 22, .int (Int32.ofInt f9), .int (Int32.ofInt f10), .int (Int32.ofInt f11), .int (Int32.ofInt f12), .int (Int32.ofInt f13), .long x14, .int (Int32.ofInt f15), .int (Int32.ofInt f16), .int (Int32.ofInt f17), .ref 23, .ref 24, .int (Int32.ofInt f20), .int (Int32.ofInt f21), .int (Int32.ofInt f22), .int (Int32.ofInt f23), .ref 25, .ref 26, .int (Int32.ofInt f26), .ref 27, .int (Int32.ofInt f28), .ref 28, .ref 29, .int (Int32.ofInt f31), .int (Int32.ofInt f32), .int (Int32.ofInt f33), .ref 30, .ref 31, .ref 32, .ref 33, .int (Int32.ofInt f38), .ref 34, .ref 35, .int (Int32.ofInt f41), .ref 36, .ref 37, .int (Int32.ofInt f44), .ref 38, .ref 39, .ref 40, .ref 41, .ref 42, .ref 43, .ref 44]))) (hK1 : zix w 23 = some (.inl (1, 121, .inl g23))) (hK2 : zix w 24 = some (.inl (1, 3, .inl g24))) (hr0 : 0 ≤ tBy g23 0 ∧ tBy g23 0 ≤ 6) (Q : zQ) (h : ∀ (T' : Nat → Int32) (w' : zW), wfM (fun j => j ≠ 23) w w' → zix w' 23 = some (.inl (1, 121, .inl T')) → (KP2 g23 g24 T') → Q (none) w') : zCl zTab (d + 1) iX12_keep [.ref 14, .int (Int32.ofInt 2), .int (Int32.ofInt 6)] w 0 0 Q := by
  refine zCl_i (M := kX12_keep) rfl (Nat.le_of_ble_eq_true rfl) fun R hR => ?_
  have fr0 : wfM (fun j => j ≠ 23) w w := wfM_rf _ w
  have nX0 : FX (∀ j : Nat, (j ≠ 23) → j ≠ 23) := fun j hj => by omega
  refine hR (?_ : R (_, _, _, _, _, _))
  refine hR (c_get hK0 rfl ?_)
  refine hR (?_ : R (_, _, _, _, _, _))
  refine hR (c_aldE hK1 (by omega) (by omega) (Nat.le_of_ble_eq_true rfl) fun v1 ev1 rv1 => ?_)
  replace ev1 : v1 = tBy g23 0 := ev1
  subst ev1
  iterate 3 refine hR (?_ : R (_, _, _, _, _, _))
  refine hR (j_ne (by omega) (by omega) (fun hc2 => ?_) (fun hc2 => ?_))
  rotate_left
  · skip
    exact hR (zret_i rfl (Nat.le_refl _) rfl (h _ _ fr0 hK1 (Or.inl ⟨by omega, rfl⟩)))
  iterate 2 refine hR (?_ : R (_, _, _, _, _, _))
  have lp16 : ∀ (N : Nat) (kk : Int) (T2 : Nat → Int32) (w_16 : zW), (wfM (fun j => j ≠ 23) w w_16) → (zix w_16 14 = some (.inr (11, [.int (Int32.ofInt f0), .ref 15, .ref 16, .ref 17, .ref 18, .ref 19, .ref 20, .ref 21, .ref 22, .int (Int32.ofInt f9), .int (Int32.ofInt f10), .int (Int32.ofInt f11), .int (Int32.ofInt f12), .int (Int32.ofInt f13), .long x14, .int (Int32.ofInt f15), .int (Int32.ofInt f16), .int (Int32.ofInt f17), .ref 23, .ref 24, .int (Int32.ofInt f20), .int (Int32.ofInt f21), .int (Int32.ofInt f22), .int (Int32.ofInt f23), .ref 25, .ref 26, .int (Int32.ofInt f26), .ref 27, .int (Int32.ofInt f28), .ref 28, .ref 29, .int (Int32.ofInt f31), .int (Int32.ofInt f32), .int (Int32.ofInt f33), .ref 30, .ref 31, .ref 32, .ref 33, .int (Int32.ofInt f38), .ref 34, .ref 35, .int (Int32.ofInt f41), .ref 36, .ref 37, .int (Int32.ofInt f44), .ref 38, .ref 39, .ref 40, .ref 41, .ref 42, .ref 43, .ref 44]))) → (zix w_16 23 = some (.inl (1, 121, .inl T2))) → (zix w_16 24 = some (.inl (1, 3, .inl g24))) → (0 ≤ kk ∧ kk ≤ 2) → (∀ j : Int, 0 ≤ j → tBy T2 j = if 1 + 2 * tBy g23 0 ≤ j ∧ j < 1 + 2 * tBy g23 0 + kk then tBy g24 (j - 1 - 2 * tBy g23 0) else tBy g23 j) → (3 - kk < N) → R (16, [some (.ref 14), some (.int (Int32.ofInt 2)), some (.int (Int32.ofInt 6)), some (.int (Int32.ofInt (tBy g23 0))), some (.int (Int32.ofInt kk))], [], w_16, 0, 0) := by
    intro N
    induction N with
    | zero => intros; omega
    | succ N ih16 =>
      intro kk T2 w_16 fr_16 hC14_16 hC23_16 hC24_16 hf0_16 hp0_16 hN16
      iterate 2 refine hR (?_ : R (_, _, _, _, _, _))
      refine hR (j_ge (by omega) (by omega) (fun hc3 => ?_) (fun hc3 => ?_))
      · skip
        have hz0 := hp0_16 0 (by omega)
        rw [if_neg (by omega)] at hz0
        refine hR (?_ : R (_, _, _, _, _, _))
        refine hR (c_get hC14_16 rfl ?_)
        iterate 2 refine hR (?_ : R (_, _, _, _, _, _))
        refine hR (c_aldE hC23_16 (by omega) (by omega) (Nat.le_of_ble_eq_true rfl) fun v4 ev4 rv4 => ?_)
        replace ev4 : v4 = tBy T2 0 := ev4
        subst ev4
        refine hR (?_ : R (_, _, _, _, _, _))
        refine hR (t_add ?_)
        refine hR (x_ast hC23_16 (by omega) (by omega) (Nat.le_of_ble_eq_true rfl) fun w5 ff5 hC5 => ?_)
        have fr6 := wfM_st fr_16 ff5 nX0
        have hC7 := (ff5.2 14 (by (try dsimp only); decide)).trans hC14_16
        have hC8 := (ff5.2 24 (by (try dsimp only); decide)).trans hC24_16
        exact hR (zret_i rfl (Nat.le_refl _) rfl (h _ _ fr6 hC5 (Or.inr ⟨by omega, fun j h0 => by have e0 := hp0_16 0 (by omega); rw [if_neg (by omega)] at e0; rw [zup (by omega), e0]; by_cases c1 : j = 0; (· rw [if_pos (by omega), if_pos c1]); rw [if_neg (by omega), if_neg c1, hp0_16 j h0]; by_cases c2 : 1 + 2 * tBy g23 0 ≤ j ∧ j < 3 + 2 * tBy g23 0; (· rw [if_pos (by omega), if_pos c2]); rw [if_neg (by omega), if_neg c2]⟩)))
      refine hR (?_ : R (_, _, _, _, _, _))
      refine hR (c_get hC14_16 rfl ?_)
      iterate 3 refine hR (?_ : R (_, _, _, _, _, _))
      refine hR (t_mul ?_)
      refine hR (t_add ?_)
      refine hR (?_ : R (_, _, _, _, _, _))
      refine hR (t_add ?_)
      refine hR (?_ : R (_, _, _, _, _, _))
      refine hR (c_get hC14_16 rfl ?_)
      refine hR (?_ : R (_, _, _, _, _, _))
      refine hR (c_aldE hC24_16 (by omega) (by omega) (Nat.le_of_ble_eq_true rfl) fun v9 ev9 rv9 => ?_)
      replace ev9 : v9 = tBy g24 kk := ev9
      subst ev9
      refine hR (x_ast hC23_16 (by omega) (by omega) (Nat.le_of_ble_eq_true rfl) fun w10 ff10 hC10 => ?_)
      have fr11 := wfM_st fr_16 ff10 nX0
      have hC12 := (ff10.2 14 (by (try dsimp only); decide)).trans hC14_16
      have hC13 := (ff10.2 24 (by (try dsimp only); decide)).trans hC24_16
      refine hR (t_inc ?_)
      refine hR (?_ : R (_, _, _, _, _, _))
      exact ih16 _ _ _ fr11 hC12 hC10 hC13 (by omega) (fun j h0 => by rw [zup (tBy_r _ _), hp0_16 j h0]; by_cases c1 : j = 1 + 2 * tBy g23 0 + kk; (· rw [if_pos (by omega), if_pos (by omega), show j - 1 - 2 * tBy g23 0 = kk by omega]); rw [if_neg (by omega)]; by_cases c2 : 1 + 2 * tBy g23 0 ≤ j ∧ j < 1 + 2 * tBy g23 0 + kk; (· rw [if_pos c2, if_pos (by omega)]); rw [if_neg c2, if_neg (by omega)]) (by omega)
  exact lp16 400000000 _ _ _ fr0 hK0 hK1 hK2 (by omega) (fun j h0 => (if_neg (by omega)).symm) (by omega)
theorem x_yearLine (w : zW) (d : Nat) (a3 : Int) (lw : Int64) (f0 f10 f13 f15 f16 f17 f20 f21 f22 f23 f26 f28 f31 f32 f33 f38 f41 f44 a : Int) (x14 : Int64) (g15 g g23 g24 : Nat → Int32) (f c x0 : Int) (g1 g2 g3 : Nat → Int32) (hK0 : zix w 14 = some (.inr (11, [.int (Int32.ofInt f0), .ref 15, .ref 16, .ref 17, .ref 18, .ref 19, .ref 20, .ref 21, .ref 22, .int (Int32.ofInt (tE g f10 a)), .int (Int32.ofInt f10), .int (Int32.ofInt (tS g f10 a)), .int (Int32.ofInt (rK (tK g f10 a))), .int (Int32.ofInt f13), .long x14, .int (Int32.ofInt f15), .int (Int32.ofInt f16), .int (Int32.ofInt f17), .ref 23, .ref 24, .int (Int32.ofInt f20), .int (Int32.ofInt f21), .int (Int32.ofInt f22), .int (Int32.ofInt f23), .ref 25, .ref 26, .int (Int32.ofInt f26), .ref 27, .int (Int32.ofInt f28), .ref 28, .ref 29, .int (Int32.ofInt f31), .int (Int32.ofInt f32), .int (Int32.ofInt f33), .ref 30, .ref 31, .ref 32, .ref 33, .int (Int32.ofInt f38), .ref 34, .ref 35, .int (Int32.ofInt f41), .ref 36, .ref 37, .int (Int32.ofInt f44), .ref 38, .ref 39, .ref 40, .ref 41, .ref 42, .ref 43, .ref 44]))) (hK1 : zix w 15 = some (.inl (0, 2400, .inl g15))) (hK2 : zix w 23 = some (.inl (1, 121, .inl g23))) (hK3 : zix w 24 = some (.inl (1, 3, .inl g24))) (hr0 : 0 ≤ a ∧ a ≤ f10 ∧ f10 ≤ 600) (hr1 : ∀ i : Int, 0 ≤ i → i < f10 → tBy g15 i = tBy g i ∧ -128 ≤ tBy g i ∧ tBy g i ≤ 127) (hr2 : tK g f10 a = 2 → f13 = tV g f10 a) (hr3 : (-2147483648 ≤ f16 ∧ f16 ≤ 2147483647) ∧ (-2147483648 ≤ f17 ∧ f17 ≤ 2147483647)) (hr4 : RELY (f, c, x0, g1, g2, g3) f16 f17 g23) (hr5 : a3 = tS g f10 a ∧ tS g f10 a < tE g f10 a) (Q : zQ) (h : ∀ (v : Int) (a' x' f' c' y15 : Int) (z' : Int64) (T' R' : Nat → Int32) (w' : zW), wfM (fun j => j ≠ 14 ∧ j ≠ 23 ∧ j ≠ 24) w w' → zix w' 14 = some (.inr (11, [.int (Int32.ofInt f0), .ref 15, .ref 16, .ref 17, .ref 18, .ref 19, .ref 20, .ref 21, .ref 22, .int (Int32.ofInt (tE g f10 a')), .int (Int32.ofInt f10), .int (Int32.ofInt (tS g f10 a')), .int (Int32.ofInt (rK (tK g f10 a'))), .int (Int32.ofInt x'), .long z', .int (Int32.ofInt y15), .int (Int32.ofInt f'), .int (Int32.ofInt c'), .ref 23, .ref 24, .int (Int32.ofInt f20), .int (Int32.ofInt f21), .int (Int32.ofInt f22), .int (Int32.ofInt f23), .ref 25, .ref 26, .int (Int32.ofInt f26), .ref 27, .int (Int32.ofInt f28), .ref 28, .ref 29, .int (Int32.ofInt f31), .int (Int32.ofInt f32), .int (Int32.ofInt f33), .ref 30, .ref 31, .ref 32, .ref 33, .int (Int32.ofInt f38), .ref 34, .ref 35, .int (Int32.ofInt f41), .ref 36, .ref 37, .int (Int32.ofInt f44), .ref 38, .ref 39, .ref 40, .ref 41, .ref 42, .ref 43, .ref 44])) → zix w' 23 = some (.inl (1, 121, .inl T')) → zix w' 24 = some (.inl (1, 3, .inl R')) → ((lnY lw.toInt = -1 ∧ v = 0 ∧ y15 = tS g f10 a) ∨ (lnY lw.toInt ≠ -1 ∧ LNP g f10 (yMs (lnY lw.toInt)) (nmF g f10 (yTake (lnY lw.toInt)) (yMs (lnY lw.toInt)).toNat 0 (tE g f10 a) (yBeg (lnY lw.toInt) (tS g f10 a) (f, c, x0, g1, g2, g3))) v a' y15 (fun X => RELY X f' c' T'))) → (tK g f10 a' = 2 → x' = tV g f10 a') → (a ≤ a' ∧ a' ≤ f10 ∧ (v = 0 ∨ v = 1) ∧ r32 f' ∧ r32 c') → Q (some (.int (Int32.ofInt v))) w') : zCl zTab (d + 5) iX12_yearLine [.ref 14, .long lw, .int (Int32.ofInt a3)] w 0 0 Q := by
  refine zCl_i (M := kX12_yearLine) rfl (Nat.le_of_ble_eq_true rfl) fun R hR => ?_
  have fr0 : wfM (fun j => j ≠ 14 ∧ j ≠ 23 ∧ j ≠ 24) w w := wfM_rf _ w
  obtain rfl := hr5.1
  have hb0 := tS_b (g := g) (n := f10) (a := a) (by omega) (by omega)
  have hfw3 := @fW_r f16 f17 3 (tS g f10 a) (by omega)
  have hb1 := tS_b (g := g) (n := f10) (a := a) (by omega) (by omega)
  have hb2 := tE_b (g := g) (n := f10) (a := a) (by omega) (by omega)
  have hb3 := rK_r (g := g) (n := f10) (a := a)
  have hb4 := tS_b (g := g) (n := f10) (a := tE g f10 a) (by omega) (by omega)
  have hb5 := tE_b (g := g) (n := f10) (a := tE g f10 a) (by omega) (by omega)
  have hb6 := rK_r (g := g) (n := f10) (a := tE g f10 a)
  have hx1 := hr4.2.1
  have hLr := lnY_r lw.toInt
  have nX0 : FX (∀ j : Nat, (j ≠ 14 ∧ j ≠ 23 ∧ j ≠ 24) → (j ≠ 14)) := fun j hj => by omega
  have nX1 : FX (∀ j : Nat, (j ≠ 14 ∧ j ≠ 23 ∧ j ≠ 24) → j ≠ 24) := fun j hj => by omega
  have nX2 : FX (∀ j : Nat, (j ≠ 14 ∧ j ≠ 23 ∧ j ≠ 24) → (j ≠ 23)) := fun j hj => by omega
  have nX3 : FX (∀ j : Nat, (j ≠ 14 ∧ j ≠ 23 ∧ j ≠ 24) → (j ≠ 14 ∧ j ≠ 24)) := fun j hj => by omega
  refine hR (?_ : R (_, _, _, _, _, _))
  refine hR (zcall_i 0 0 (Nat.le_of_ble_eq_true rfl) (Nat.le_of_ble_eq_true rfl) (x_deedBy _ _ _ _ fun v7 hp8 => ?_))
  subst hp8
  refine (?_ : R (_, _, .int (Int32.ofInt (lnY lw.toInt)) :: [], w, 0, 0))
  iterate 3 refine hR (?_ : R (_, _, _, _, _, _))
  refine hR (j_ne (by omega) (by omega) (fun hc9 => ?_) (fun hc9 => ?_))
  rotate_left
  · skip
    refine hR (?_ : R (_, _, _, _, _, _))
    refine hR (c_obj hK0 (zcall_i 0 0 (Nat.le_of_ble_eq_true rfl) (Nat.le_of_ble_eq_true rfl) (x_fails _ _ _ _ _ _ _ _ _ _ _ _ _ _ _ _ _ _ _ _ _ _ _ _ hK0 _ fun v162 w163 gg164 hC165 hp166 => ?_)))
    have fr167 := wfM_tr fr0 gg164 nX0
    have hC168 := (gg164.2 15 (by (try dsimp only); decide)).trans hK1
    have hC169 := (gg164.2 23 (by (try dsimp only); decide)).trans hK2
    have hC170 := (gg164.2 24 (by (try dsimp only); decide)).trans hK3
    subst hp166
    refine (?_ : R (_, _, .int (Int32.ofInt 0) :: [], w163, 0, 0))
    exact hR (zret_i rfl (Nat.le_refl _) (zbo (by omega)) (h _ _ _ _ _ _ _ _ _ _ fr167 hC165 hC169 hC170 (Or.inl ⟨by omega, rfl, rfl⟩) hr2 (by omega)))
  iterate 2 refine hR (?_ : R (_, _, _, _, _, _))
  refine hR (t_c 40 (by decide) ?_)
  refine hR (?_ : R (_, _, _, _, _, _))
  refine hR (c_obj hK0 (zcall_i 0 0 (Nat.le_of_ble_eq_true rfl) (Nat.le_of_ble_eq_true rfl) (x_full _ _ _ _ _ _ _ _ _ _ _ _ _ _ _ _ _ _ _ _ _ _ _ _ _ _ _ _ hK0 hK2 (by omega) (by omega) _ fun f'_10 c'_11 w12 gg13 hC14 hp15 => ?_)))
  have fr16 := wfM_tr fr0 gg13 nX0
  have hC17 := (gg13.2 15 (by (try dsimp only); decide)).trans hK1
  have hC18 := (gg13.2 23 (by (try dsimp only); decide)).trans hK2
  have hC19 := (gg13.2 24 (by (try dsimp only); decide)).trans hK3
  refine (?_ : R (_, _, [], w12, 0, 0))
  have hfr : r32 f'_10 ∧ r32 c'_11 := by have := @fW_r f16 f17 3 (tS g f10 a) (by omega); omega
  refine hR (?_ : R (_, _, _, _, _, _))
  refine hR (c_obj hC14 (zcall_i 0 0 (Nat.le_of_ble_eq_true rfl) (Nat.le_of_ble_eq_true rfl) (x_token _ _ _ _ _ _ _ _ _ _ _ _ _ _ _ _ _ _ _ _ _ _ _ _ _ _ hC14 hC17 (by omega) hr1 _ fun y9_20 y11_21 y12_22 y13_23 y14_24 w25 gg26 hC27 hp28 => ?_)))
  have fr29 := wfM_tr fr16 gg26 nX0
  have hC30 := (gg26.2 15 (by (try dsimp only); decide)).trans hC17
  have hC31 := (gg26.2 23 (by (try dsimp only); decide)).trans hC18
  have hC32 := (gg26.2 24 (by (try dsimp only); decide)).trans hC19
  obtain ⟨rfl, rfl, rfl, hx33, hw34⟩ := hp28
  refine (?_ : R (_, _, [], w25, 0, 0))
  refine hR (?_ : R (_, _, _, _, _, _))
  refine hR (c_get hC27 rfl ?_)
  iterate 2 refine hR (?_ : R (_, _, _, _, _, _))
  refine hR (x_ast hC32 (by omega) (by omega) (Nat.le_of_ble_eq_true rfl) fun w35 ff35 hC35 => ?_)
  have fr36 := wfM_st fr29 ff35 nX1
  have hC37 := (ff35.2 14 (by (try dsimp only); decide)).trans hC27
  have hC38 := (ff35.2 15 (by (try dsimp only); decide)).trans hC30
  have hC39 := (ff35.2 23 (by (try dsimp only); decide)).trans hC31
  refine hR (?_ : R (_, _, _, _, _, _))
  refine hR (c_get hC37 rfl ?_)
  iterate 2 refine hR (?_ : R (_, _, _, _, _, _))
  refine hR (x_ast hC35 (by omega) (by omega) (Nat.le_of_ble_eq_true rfl) fun w40 ff40 hC40 => ?_)
  have fr41 := wfM_st fr36 ff40 nX1
  have hC42 := (ff40.2 14 (by (try dsimp only); decide)).trans hC37
  have hC43 := (ff40.2 15 (by (try dsimp only); decide)).trans hC38
  have hC44 := (ff40.2 23 (by (try dsimp only); decide)).trans hC39
  iterate 2 refine hR (?_ : R (_, _, _, _, _, _))
  refine hR (j_eq (by omega) (by omega) (fun hc45 => ?_) (fun hc45 => ?_))
  · skip
    refine hR (?_ : R (_, _, _, _, _, _))
    refine hR (k_ne (by omega) (fun _ => ?_) (fun hc => by omega))
    iterate 2 refine hR (?_ : R (_, _, _, _, _, _))
    refine hR (j_ne (by omega) (by omega) (fun _ => ?_) (fun hc => by omega))
    refine hR (?_ : R (_, _, _, _, _, _))
    refine hR (c_get hC42 rfl ?_)
    iterate 2 refine hR (?_ : R (_, _, _, _, _, _))
    refine hR (x_ast hC40 (by omega) (by omega) (Nat.le_of_ble_eq_true rfl) fun w46 ff46 hC46 => ?_)
    have fr47 := wfM_st fr41 ff46 nX1
    have hC48 := (ff46.2 14 (by (try dsimp only); decide)).trans hC42
    have hC49 := (ff46.2 15 (by (try dsimp only); decide)).trans hC43
    have hC50 := (ff46.2 23 (by (try dsimp only); decide)).trans hC44
    iterate 2 refine hR (?_ : R (_, _, _, _, _, _))
    refine hR (t_c 40 (by decide) ?_)
    refine hR (c_obj hC48 (zcall_i 0 0 (Nat.le_of_ble_eq_true rfl) (Nat.le_of_ble_eq_true rfl) (x_keep3 _ _ _ _ _ _ _ _ _ _ _ _ _ _ _ _ _ _ _ _ _ _ _ _ _ _ hC48 hC50 hC46 (by omega) _ fun T'_51 w52 gg53 hC54 hp55 => ?_)))
    have fr56 := wfM_tr fr47 gg53 nX2
    have hC57 := (gg53.2 14 (by (try dsimp only); decide)).trans hC48
    have hC58 := (gg53.2 15 (by (try dsimp only); decide)).trans hC49
    have hC59 := (gg53.2 24 (by (try dsimp only); decide)).trans hC46
    refine (?_ : R (_, _, [], w52, 0, 0))
    refine hR (?_ : R (_, _, _, _, _, _))
    exact hR (zret_i rfl (Nat.le_refl _) (zbo (by omega)) (h _ _ _ _ _ _ _ _ _ _ fr56 hC57 hC54 hC59 (Or.inr ⟨by omega, by rw [show lnY lw.toInt = 5 by omega]; exact lnY_5 (relY_K (o1 := -1) (o2 := -1) hp55 (by rw [zup (by omega), if_pos rfl]; omega) (fun _ => ⟨by rw [zup (by omega), if_neg (by decide), zup (by omega), if_neg (by decide), zup (by omega), if_pos rfl], by rw [zup (by omega), if_neg (by decide), zup (by omega), if_pos rfl]⟩) (fun _ e => by omega) (midY_b (by omega) hr4 hp15))⟩) hx33 (by omega)))
  iterate 4 refine hR (?_ : R (_, _, _, _, _, _))
  refine hR (c_obj hC42 (zcall_i 0 0 (Nat.le_of_ble_eq_true rfl) (Nat.le_of_ble_eq_true rfl) (x_take _ _ _ _ _ _ _ _ _ _ _ _ _ _ _ _ _ _ _ _ _ _ _ _ _ _ _ _ hC42 hC43 hC40 (by omega) hr1 hx33 (by omega) (by omega) (by omega) _ fun v60 a'_61 x'_62 f'_63 c'_64 y15_65 z'_66 R'_67 w68 gg69 hC70 hC71 hp72 hp73 hp74 => ?_)))
  have fr75 := wfM_tr fr41 gg69 nX3
  have hC76 := (gg69.2 15 (by (try dsimp only); decide)).trans hC43
  have hC77 := (gg69.2 23 (by (try dsimp only); decide)).trans hC44
  refine (?_ : R (_, _, .int (Int32.ofInt v60) :: [], w68, 0, 0))
  refine hR (k_eq (by omega) (fun hc78 => ?_) (fun hc78 => ?_))
  · skip
    refine hR (?_ : R (_, _, _, _, _, _))
    exact hR (zret_i rfl (Nat.le_refl _) (zbo (by omega)) (h _ _ _ _ _ _ _ _ _ _ fr75 hC70 hC77 hC71 (Or.inr ⟨by omega, by rcases hp72 with ⟨q1, q2, q3, q4, q5, q6, q7⟩ | q; (· exact lnY_0 (by omega) q2 q7); exact absurd q.1 (by omega)⟩) hp73 (by omega)))
  refine hR (?_ : R (_, _, _, _, _, _))
  refine hR (k_ne (by omega) (fun hc79 => ?_) (fun hc79 => ?_))
  rotate_left
  · skip
    iterate 4 refine hR (?_ : R (_, _, _, _, _, _))
    refine hR (c_obj hC70 (zcall_i 0 0 (Nat.le_of_ble_eq_true rfl) (Nat.le_of_ble_eq_true rfl) (x_take _ _ _ _ _ _ _ _ _ _ _ _ _ _ _ _ _ _ _ _ _ _ _ _ _ _ _ _ hC70 hC76 hC71 (by omega) hr1 hp73 (by omega) (by omega) (by omega) _ fun v129 a'_130 x'_131 f'_132 c'_133 y15_134 z'_135 R'_136 w137 gg138 hC139 hC140 hp141 hp142 hp143 => ?_)))
    have fr144 := wfM_tr fr75 gg138 nX3
    have hC145 := (gg138.2 15 (by (try dsimp only); decide)).trans hC76
    have hC146 := (gg138.2 23 (by (try dsimp only); decide)).trans hC77
    refine (?_ : R (_, _, .int (Int32.ofInt v129) :: [], w137, 0, 0))
    refine hR (k_eq (by omega) (fun hc147 => ?_) (fun hc147 => ?_))
    · skip
      refine hR (?_ : R (_, _, _, _, _, _))
      exact hR (zret_i rfl (Nat.le_refl _) (zbo (by omega)) (h _ _ _ _ _ _ _ _ _ _ fr144 hC139 hC146 hC140 (Or.inr ⟨by omega, by rcases hp72 with q | ⟨q1, q2, q3, q4, q5, q6, q7⟩; (· exact absurd q.1 (by omega)); rcases hp141 with ⟨p1, p2, p3, p4, p5, p6, p7⟩ | q; (· rw [q3] at p2 p7; exact lnY_20 (by omega) q2 p2 p7); exact absurd q.1 (by omega)⟩) hp142 (by omega)))
    iterate 2 refine hR (?_ : R (_, _, _, _, _, _))
    refine hR (j_ne (by omega) (by omega) (fun _ => ?_) (fun hc => by omega))
    refine hR (?_ : R (_, _, _, _, _, _))
    refine hR (c_get hC139 rfl ?_)
    iterate 2 refine hR (?_ : R (_, _, _, _, _, _))
    refine hR (x_ast hC140 (by omega) (by omega) (Nat.le_of_ble_eq_true rfl) fun w148 ff148 hC148 => ?_)
    have fr149 := wfM_st fr144 ff148 nX1
    have hC150 := (ff148.2 14 (by (try dsimp only); decide)).trans hC139
    have hC151 := (ff148.2 15 (by (try dsimp only); decide)).trans hC145
    have hC152 := (ff148.2 23 (by (try dsimp only); decide)).trans hC146
    iterate 2 refine hR (?_ : R (_, _, _, _, _, _))
    refine hR (t_c 40 (by decide) ?_)
    refine hR (c_obj hC150 (zcall_i 0 0 (Nat.le_of_ble_eq_true rfl) (Nat.le_of_ble_eq_true rfl) (x_keep3 _ _ _ _ _ _ _ _ _ _ _ _ _ _ _ _ _ _ _ _ _ _ _ _ _ _ hC150 hC152 hC148 (by omega) _ fun T'_153 w154 gg155 hC156 hp157 => ?_)))
    have fr158 := wfM_tr fr149 gg155 nX2
    have hC159 := (gg155.2 14 (by (try dsimp only); decide)).trans hC150
    have hC160 := (gg155.2 15 (by (try dsimp only); decide)).trans hC151
    have hC161 := (gg155.2 24 (by (try dsimp only); decide)).trans hC148
    refine (?_ : R (_, _, [], w154, 0, 0))
    refine hR (?_ : R (_, _, _, _, _, _))
    exact hR (zret_i rfl (Nat.le_refl _) (zbo (by omega)) (h _ _ _ _ _ _ _ _ _ _ fr158 hC159 hC156 hC161 (Or.inr ⟨by omega, by rcases hp72 with q | ⟨q1, q2, q3, q4, q5, q6, q7⟩; (· exact absurd q.1 (by omega)); have hV1 := hx33 q2; have n1 := tK_num (g := g) (n := f10) (a := tE g f10 a) (by omega) (by omega) q2; rcases hp141 with q | ⟨p1, p2, p3, p4, p5, p6, p7⟩; (· exact absurd q.1 (by omega)); rw [q3] at p2 p3 p4 p5; have hV2 := hp73 (by rw [q3]; exact p2); rw [q3] at hV2; have n2 := tK_num (g := g) (n := f10) (a := tE g f10 (tE g f10 a)) (by omega) (by omega) p2; have hb9 := tS_b (g := g) (n := f10) (a := tE g f10 (tE g f10 a)) (by omega) (by omega); rw [p3, p4, p5, q4, q5, hV1, hV2]; generalize lnY lw.toInt = LL at *; obtain rfl : LL = 0 := (by omega); refine lnY_2 (Or.inl rfl) q2 p2 ?_; rw [yTake_01]; exact relY_K hp157 (by rw [zup (by omega), if_pos rfl]) (fun w => by have w1 := wI_0 w; have w2 := (wI_0 w1.1).2; exact ⟨by rw [zup (by omega), if_neg (by decide), p6, zup (by omega), if_neg (by decide), q6, zup (by omega), if_pos rfl, if_pos w2, hV1], by rw [zup (by omega), if_neg (by decide), p6, zup (by omega), if_pos rfl, hV2]⟩) (fun _ e => by omega) (midY_2 (by omega) (by omega) (midY_1 (v := tV g f10 (tE g f10 a)) (s2 := tS g f10 (tE g f10 a)) (by omega) (by omega) (midY_b (by omega) hr4 hp15)))⟩) hp142 (by omega)))
  iterate 2 refine hR (?_ : R (_, _, _, _, _, _))
  refine hR (j_ne (by omega) (by omega) (fun hc80 => ?_) (fun hc80 => ?_))
  · skip
    refine hR (?_ : R (_, _, _, _, _, _))
    refine hR (c_get hC70 rfl ?_)
    iterate 2 refine hR (?_ : R (_, _, _, _, _, _))
    refine hR (x_ast hC71 (by omega) (by omega) (Nat.le_of_ble_eq_true rfl) fun w81 ff81 hC81 => ?_)
    have fr82 := wfM_st fr75 ff81 nX1
    have hC83 := (ff81.2 14 (by (try dsimp only); decide)).trans hC70
    have hC84 := (ff81.2 15 (by (try dsimp only); decide)).trans hC76
    have hC85 := (ff81.2 23 (by (try dsimp only); decide)).trans hC77
    iterate 2 refine hR (?_ : R (_, _, _, _, _, _))
    refine hR (t_c 40 (by decide) ?_)
    refine hR (c_obj hC83 (zcall_i 0 0 (Nat.le_of_ble_eq_true rfl) (Nat.le_of_ble_eq_true rfl) (x_keep3 _ _ _ _ _ _ _ _ _ _ _ _ _ _ _ _ _ _ _ _ _ _ _ _ _ _ hC83 hC85 hC81 (by omega) _ fun T'_86 w87 gg88 hC89 hp90 => ?_)))
    have fr91 := wfM_tr fr82 gg88 nX2
    have hC92 := (gg88.2 14 (by (try dsimp only); decide)).trans hC83
    have hC93 := (gg88.2 15 (by (try dsimp only); decide)).trans hC84
    have hC94 := (gg88.2 24 (by (try dsimp only); decide)).trans hC81
    refine (?_ : R (_, _, [], w87, 0, 0))
    refine hR (?_ : R (_, _, _, _, _, _))
    exact hR (zret_i rfl (Nat.le_refl _) (zbo (by omega)) (h _ _ _ _ _ _ _ _ _ _ fr91 hC92 hC89 hC94 (Or.inr ⟨by omega, by rcases hp72 with q | ⟨q1, q2, q3, q4, q5, q6, q7⟩; (· exact absurd q.1 (by omega)); have hV1 := hx33 q2; have n1 := tK_num (g := g) (n := f10) (a := tE g f10 a) (by omega) (by omega) q2; rw [q3, q4, q5, hV1]; refine lnY_1 (by omega) q2 ?_; exact relY_K hp90 (by rw [zup (by omega), if_pos rfl]) (fun w => by have w1 := (wI_0 w).2; exact ⟨by rw [zup (by omega), if_neg (by decide), q6, zup (by omega), if_pos rfl, if_pos w1, hV1], by rw [zup (by omega), if_neg (by decide), q6, zup (by omega), if_neg (by decide), zup (by omega), if_pos rfl]⟩) (fun _ e => by omega) (midY_1 (v := tV g f10 (tE g f10 a)) (s2 := tS g f10 (tE g f10 a)) (by omega) (by omega) (midY_b (by omega) hr4 hp15))⟩) hp73 (by omega)))
  iterate 5 refine hR (?_ : R (_, _, _, _, _, _))
  refine hR (c_get hC70 rfl ?_)
  refine hR (?_ : R (_, _, _, _, _, _))
  refine hR (c_aldE hC71 (by omega) (by omega) (Nat.le_of_ble_eq_true rfl) fun v95 ev95 rv95 => ?_)
  replace ev95 : v95 = tBy R'_67 1 := ev95
  subst ev95
  refine hR (c_obj hC70 (zcall_i 0 0 (Nat.le_of_ble_eq_true rfl) (Nat.le_of_ble_eq_true rfl) (x_takeBut _ _ _ _ _ _ _ _ _ _ _ _ _ _ _ _ _ _ _ _ _ _ _ _ _ _ _ _ _ hC70 hC76 hC71 (by omega) hr1 hp73 (by omega) (by omega) (by omega) _ fun v96 a'_97 x'_98 f'_99 c'_100 y15_101 z'_102 R'_103 w104 gg105 hC106 hC107 hp108 hp109 hp110 => ?_)))
  have fr111 := wfM_tr fr75 gg105 nX3
  have hC112 := (gg105.2 15 (by (try dsimp only); decide)).trans hC76
  have hC113 := (gg105.2 23 (by (try dsimp only); decide)).trans hC77
  refine (?_ : R (_, _, .int (Int32.ofInt v96) :: [], w104, 0, 0))
  refine hR (k_ne (by omega) (fun hc114 => ?_) (fun hc114 => ?_))
  rotate_left
  · skip
    refine hR (?_ : R (_, _, _, _, _, _))
    exact hR (zret_i rfl (Nat.le_refl _) (zbo (by omega)) (h _ _ _ _ _ _ _ _ _ _ fr111 hC106 hC113 hC107 (Or.inr ⟨by omega, by rcases hp72 with q | ⟨q1, q2, q3, q4, q5, q6, q7⟩; (· exact absurd q.1 (by omega)); rcases hp108 with ⟨p1, p2, p3, p4, p5, p6, p7⟩ | q; (· rw [q3] at p2 p7; exact lnY_20 (by omega) q2 p2 p7); exact absurd q.1 (by omega)⟩) hp109 (by omega)))
  refine hR (?_ : R (_, _, _, _, _, _))
  refine hR (c_get hC106 rfl ?_)
  iterate 2 refine hR (?_ : R (_, _, _, _, _, _))
  refine hR (x_ast hC107 (by omega) (by omega) (Nat.le_of_ble_eq_true rfl) fun w115 ff115 hC115 => ?_)
  have fr116 := wfM_st fr111 ff115 nX1
  have hC117 := (ff115.2 14 (by (try dsimp only); decide)).trans hC106
  have hC118 := (ff115.2 15 (by (try dsimp only); decide)).trans hC112
  have hC119 := (ff115.2 23 (by (try dsimp only); decide)).trans hC113
  iterate 2 refine hR (?_ : R (_, _, _, _, _, _))
  refine hR (t_c 40 (by decide) ?_)
  refine hR (c_obj hC117 (zcall_i 0 0 (Nat.le_of_ble_eq_true rfl) (Nat.le_of_ble_eq_true rfl) (x_keep3 _ _ _ _ _ _ _ _ _ _ _ _ _ _ _ _ _ _ _ _ _ _ _ _ _ _ hC117 hC119 hC115 (by omega) _ fun T'_120 w121 gg122 hC123 hp124 => ?_)))
  have fr125 := wfM_tr fr116 gg122 nX2
  have hC126 := (gg122.2 14 (by (try dsimp only); decide)).trans hC117
  have hC127 := (gg122.2 15 (by (try dsimp only); decide)).trans hC118
  have hC128 := (gg122.2 24 (by (try dsimp only); decide)).trans hC115
  refine (?_ : R (_, _, [], w121, 0, 0))
  refine hR (?_ : R (_, _, _, _, _, _))
  exact hR (zret_i rfl (Nat.le_refl _) (zbo (by omega)) (h _ _ _ _ _ _ _ _ _ _ fr125 hC126 hC123 hC128 (Or.inr ⟨by omega, by rcases hp72 with q | ⟨q1, q2, q3, q4, q5, q6, q7⟩; (· exact absurd q.1 (by omega)); have hV1 := hx33 q2; have n1 := tK_num (g := g) (n := f10) (a := tE g f10 a) (by omega) (by omega) q2; rcases hp108 with q | ⟨p1, p2, p3, p4, p5, p6, p7⟩; (· exact absurd q.1 (by omega)); rw [q3] at p2 p3 p4 p5; have hV2 := hp73 (by rw [q3]; exact p2); rw [q3] at hV2; have n2 := tK_num (g := g) (n := f10) (a := tE g f10 (tE g f10 a)) (by omega) (by omega) p2; have hb9 := tS_b (g := g) (n := f10) (a := tE g f10 (tE g f10 a)) (by omega) (by omega); have hrb : tBy R'_67 1 = tV g f10 (tE g f10 a) := (by rw [q6, zup (by omega), if_pos rfl, hV1]); rw [p3, p4, p5, q4, q5, hV1, hV2, hrb]; generalize lnY lw.toInt = LL at *; obtain rfl : LL = 1 := (by omega); refine lnY_2 (Or.inr rfl) q2 p2 ?_; rw [yTake_11]; exact relY_K hp124 (by rw [zup (by omega), if_pos rfl]) (fun w => by have w1 := wB_0 w; have w2 := (wI_0 w1.1).2; exact ⟨by rw [zup (by omega), if_neg (by decide), p6, zup (by omega), if_neg (by decide), q6, zup (by omega), if_pos rfl, if_pos w2, hV1], by rw [zup (by omega), if_neg (by decide), p6, zup (by omega), if_pos rfl, hV2]⟩) (fun w _ => by have w1 := wB_0 w; have w2 := (wI_0 w1.1).2; rw [if_pos w2]; exact fun e => w1.2.2.2 e.symm) (midY_3 (by omega) (by omega) (midY_1 (v := tV g f10 (tE g f10 a)) (s2 := tS g f10 (tE g f10 a)) (by omega) (by omega) (midY_b (by omega) hr4 hp15)))⟩) hp109 (by omega)))
theorem x_sightLine (w : zW) (d : Nat) (a3 : Int) (lw : Int64) (f0 f10 f13 f15 f16 f17 f20 f21 f22 f23 f26 f28 f31 f32 f33 f38 f41 f44 a : Int) (x14 : Int64) (g15 g g23 g24 : Nat → Int32) (f c x0 : Int) (g1 g2 : Nat → Int32) (hK0 : zix w 14 = some (.inr (11, [.int (Int32.ofInt f0), .ref 15, .ref 16, .ref 17, .ref 18, .ref 19, .ref 20, .ref 21, .ref 22, .int (Int32.ofInt (tE g f10 a)), .int (Int32.ofInt f10), .int (Int32.ofInt (tS g f10 a)), .int (Int32.ofInt (rK (tK g f10 a))), .int (Int32.ofInt f13), .long x14, .int (Int32.ofInt f15), .int (Int32.ofInt f16), .int (Int32.ofInt f17), .ref 23, .ref 24, .int (Int32.ofInt f20), .int (Int32.ofInt f21), .int (Int32.ofInt f22), .int (Int32.ofInt f23), .ref 25, .ref 26, .int (Int32.ofInt f26), .ref 27, .int (Int32.ofInt f28), .ref 28, .ref 29, .int (Int32.ofInt f31), .int (Int32.ofInt f32), .int (Int32.ofInt f33), .ref 30, .ref 31, .ref 32, .ref 33, .int (Int32.ofInt f38), .ref 34, .ref 35, .int (Int32.ofInt f41), .ref 36, .ref 37, .int (Int32.ofInt f44), .ref 38, .ref 39, .ref 40, .ref 41, .ref 42, .ref 43, .ref 44]))) (hK1 : zix w 15 = some (.inl (0, 2400, .inl g15))) (hK2 : zix w 23 = some (.inl (1, 121, .inl g23))) (hK3 : zix w 24 = some (.inl (1, 3, .inl g24))) (hr0 : 0 ≤ a ∧ a ≤ f10 ∧ f10 ≤ 600) (hr1 : ∀ i : Int, 0 ≤ i → i < f10 → tBy g15 i = tBy g i ∧ -128 ≤ tBy g i ∧ tBy g i ≤ 127) (hr2 : tK g f10 a = 2 → f13 = tV g f10 a) (hr3 : (-2147483648 ≤ f16 ∧ f16 ≤ 2147483647) ∧ (-2147483648 ≤ f17 ∧ f17 ≤ 2147483647)) (hr4 : RELS (f, c, x0, g1, g2) f16 f17 g23) (hr5 : a3 = tS g f10 a ∧ tS g f10 a < tE g f10 a) (Q : zQ) (h : ∀ (v : Int) (a' x' f' c' y15 : Int) (z' : Int64) (T' R' : Nat → Int32) (w' : zW), wfM (fun j => j ≠ 14 ∧ j ≠ 23 ∧ j ≠ 24) w w' → zix w' 14 = some (.inr (11, [.int (Int32.ofInt f0), .ref 15, .ref 16, .ref 17, .ref 18, .ref 19, .ref 20, .ref 21, .ref 22, .int (Int32.ofInt (tE g f10 a')), .int (Int32.ofInt f10), .int (Int32.ofInt (tS g f10 a')), .int (Int32.ofInt (rK (tK g f10 a'))), .int (Int32.ofInt x'), .long z', .int (Int32.ofInt y15), .int (Int32.ofInt f'), .int (Int32.ofInt c'), .ref 23, .ref 24, .int (Int32.ofInt f20), .int (Int32.ofInt f21), .int (Int32.ofInt f22), .int (Int32.ofInt f23), .ref 25, .ref 26, .int (Int32.ofInt f26), .ref 27, .int (Int32.ofInt f28), .ref 28, .ref 29, .int (Int32.ofInt f31), .int (Int32.ofInt f32), .int (Int32.ofInt f33), .ref 30, .ref 31, .ref 32, .ref 33, .int (Int32.ofInt f38), .ref 34, .ref 35, .int (Int32.ofInt f41), .ref 36, .ref 37, .int (Int32.ofInt f44), .ref 38, .ref 39, .ref 40, .ref 41, .ref 42, .ref 43, .ref 44])) → zix w' 23 = some (.inl (1, 121, .inl T')) → zix w' 24 = some (.inl (1, 3, .inl R')) → ((lnS lw.toInt = -1 ∧ v = 0 ∧ y15 = tS g f10 a) ∨ (lnS lw.toInt ≠ -1 ∧ LNP g f10 (1) (nmF g f10 sTake 600 0 (tE g f10 a) (sBeg (lnS lw.toInt) (tS g f10 a) (f, c, x0, g1, g2))) v a' y15 (fun X => RELS X f' c' T'))) → (tK g f10 a' = 2 → x' = tV g f10 a') → (a ≤ a' ∧ a' ≤ f10 ∧ (v = 0 ∨ v = 1) ∧ r32 f' ∧ r32 c') → Q (some (.int (Int32.ofInt v))) w') : zCl zTab (d + 6) iX12_sightLine [.ref 14, .long lw, .int (Int32.ofInt a3)] w 0 0 Q := by
  refine zCl_i (M := kX12_sightLine) rfl (Nat.le_of_ble_eq_true rfl) fun R hR => ?_
  have fr0 : wfM (fun j => j ≠ 14 ∧ j ≠ 23 ∧ j ≠ 24) w w := wfM_rf _ w
  obtain rfl := hr5.1
  have hb0 := tS_b (g := g) (n := f10) (a := a) (by omega) (by omega)
  have hfw3 := @fW_r f16 f17 3 (tS g f10 a) (by omega)
  have hb1 := tS_b (g := g) (n := f10) (a := a) (by omega) (by omega)
  have hb2 := tE_b (g := g) (n := f10) (a := a) (by omega) (by omega)
  have hb3 := rK_r (g := g) (n := f10) (a := a)
  have hb4 := tS_b (g := g) (n := f10) (a := tE g f10 a) (by omega) (by omega)
  have hb5 := tE_b (g := g) (n := f10) (a := tE g f10 a) (by omega) (by omega)
  have hb6 := rK_r (g := g) (n := f10) (a := tE g f10 a)
  have hx1 := hr4.2.1
  have hLr := lnS_r lw.toInt
  have nX0 : FX (∀ j : Nat, (j ≠ 14 ∧ j ≠ 23 ∧ j ≠ 24) → (j ≠ 14)) := fun j hj => by omega
  have nX1 : FX (∀ j : Nat, (j ≠ 14 ∧ j ≠ 23 ∧ j ≠ 24) → (j ≠ 14 ∧ j ≠ 24)) := fun j hj => by omega
  have nX2 : FX (∀ j : Nat, (j ≠ 14 ∧ j ≠ 23 ∧ j ≠ 24) → (j ≠ 23)) := fun j hj => by omega
  iterate 3 refine hR (?_ : R (_, _, _, _, _, _))
  skip
  refine hR (x_lcmpE (a := 1936024942) (by decide) (fun hc7 => ?_) (fun hc7 => ?_))
  rotate_left
  · skip
    refine hR (?_ : R (_, _, _, _, _, _))
    refine hR (c_obj hK0 (zcall_i 0 0 (Nat.le_of_ble_eq_true rfl) (Nat.le_of_ble_eq_true rfl) (x_fails _ _ _ _ _ _ _ _ _ _ _ _ _ _ _ _ _ _ _ _ _ _ _ _ hK0 _ fun v82 w83 gg84 hC85 hp86 => ?_)))
    have fr87 := wfM_tr fr0 gg84 nX0
    have hC88 := (gg84.2 15 (by (try dsimp only); decide)).trans hK1
    have hC89 := (gg84.2 23 (by (try dsimp only); decide)).trans hK2
    have hC90 := (gg84.2 24 (by (try dsimp only); decide)).trans hK3
    subst hp86
    refine (?_ : R (_, _, .int (Int32.ofInt 0) :: [], w83, 0, 0))
    exact hR (zret_i rfl (Nat.le_refl _) (zbo (by omega)) (h _ _ _ _ _ _ _ _ _ _ fr87 hC85 hC89 hC90 (Or.inl ⟨if_neg hc7, rfl, rfl⟩) hr2 (by omega)))
  iterate 2 refine hR (?_ : R (_, _, _, _, _, _))
  refine hR (t_c 6 (by decide) ?_)
  refine hR (?_ : R (_, _, _, _, _, _))
  refine hR (c_obj hK0 (zcall_i 0 0 (Nat.le_of_ble_eq_true rfl) (Nat.le_of_ble_eq_true rfl) (x_full _ _ _ _ _ _ _ _ _ _ _ _ _ _ _ _ _ _ _ _ _ _ _ _ _ _ _ _ hK0 hK2 (by omega) (by omega) _ fun f'_8 c'_9 w10 gg11 hC12 hp13 => ?_)))
  have fr14 := wfM_tr fr0 gg11 nX0
  have hC15 := (gg11.2 15 (by (try dsimp only); decide)).trans hK1
  have hC16 := (gg11.2 23 (by (try dsimp only); decide)).trans hK2
  have hC17 := (gg11.2 24 (by (try dsimp only); decide)).trans hK3
  refine (?_ : R (_, _, [], w10, 0, 0))
  have hfr : r32 f'_8 ∧ r32 c'_9 := by have := @fW_r f16 f17 3 (tS g f10 a) (by omega); omega
  refine hR (?_ : R (_, _, _, _, _, _))
  refine hR (c_obj hC12 (zcall_i 0 0 (Nat.le_of_ble_eq_true rfl) (Nat.le_of_ble_eq_true rfl) (x_token _ _ _ _ _ _ _ _ _ _ _ _ _ _ _ _ _ _ _ _ _ _ _ _ _ _ hC12 hC15 (by omega) hr1 _ fun y9_18 y11_19 y12_20 y13_21 y14_22 w23 gg24 hC25 hp26 => ?_)))
  have fr27 := wfM_tr fr14 gg24 nX0
  have hC28 := (gg24.2 15 (by (try dsimp only); decide)).trans hC15
  have hC29 := (gg24.2 23 (by (try dsimp only); decide)).trans hC16
  have hC30 := (gg24.2 24 (by (try dsimp only); decide)).trans hC17
  obtain ⟨rfl, rfl, rfl, hx31, hw32⟩ := hp26
  refine (?_ : R (_, _, [], w23, 0, 0))
  iterate 3 refine hR (?_ : R (_, _, _, _, _, _))
  refine hR (t_c 9 (by decide) ?_)
  refine hR (c_obj hC25 (zcall_i 0 0 (Nat.le_of_ble_eq_true rfl) (Nat.le_of_ble_eq_true rfl) (x_take _ _ _ _ _ _ _ _ _ _ _ _ _ _ _ _ _ _ _ _ _ _ _ _ _ _ _ _ hC25 hC28 hC30 (by omega) hr1 hx31 (by omega) (by omega) (by omega) _ fun v33 a'_34 x'_35 f'_36 c'_37 y15_38 z'_39 R'_40 w41 gg42 hC43 hC44 hp45 hp46 hp47 => ?_)))
  have fr48 := wfM_tr fr27 gg42 nX1
  have hC49 := (gg42.2 15 (by (try dsimp only); decide)).trans hC28
  have hC50 := (gg42.2 23 (by (try dsimp only); decide)).trans hC29
  refine (?_ : R (_, _, .int (Int32.ofInt v33) :: [], w41, 0, 0))
  refine hR (k_ne (by omega) (fun hc51 => ?_) (fun hc51 => ?_))
  rotate_left
  · skip
    refine hR (?_ : R (_, _, _, _, _, _))
    exact hR (zret_i rfl (Nat.le_refl _) (zbo (by omega)) (h _ _ _ _ _ _ _ _ _ _ fr48 hC43 hC50 hC44 (Or.inr ⟨by rw [(show lnS lw.toInt = 0 by rw [hc7]; decide)]; decide, by rcases hp45 with ⟨q1, q2, q3, q4, q5, q6, q7⟩ | q; (· exact lnS_0 q2 q7); exact absurd q.1 (by omega)⟩) hp46 (by omega)))
  iterate 2 refine hR (?_ : R (_, _, _, _, _, _))
  refine hR (c_obj hC43 (zcall_i 0 0 (Nat.le_of_ble_eq_true rfl) (Nat.le_of_ble_eq_true rfl) (x_takeText _ _ _ _ _ _ _ _ _ _ _ _ _ _ _ _ _ _ _ _ _ _ _ _ _ _ hC43 hC49 hC44 (by omega) hr1 hp46 (by omega) (by omega) _ fun nn'_52 xg'_53 a'_54 x'_55 f'_56 c'_57 y15_58 z'_59 R'_60 w61 gg62 hC63 hC64 hp65 hp66 hp67 hp68 hp69 => ?_)))
  have fr70 := wfM_tr fr48 gg62 nX1
  have hC71 := (gg62.2 15 (by (try dsimp only); decide)).trans hC49
  have hC72 := (gg62.2 23 (by (try dsimp only); decide)).trans hC50
  refine (?_ : R (_, _, [], w61, 0, 0))
  iterate 2 refine hR (?_ : R (_, _, _, _, _, _))
  refine hR (t_c 6 (by decide) ?_)
  refine hR (c_obj hC63 (zcall_i 0 0 (Nat.le_of_ble_eq_true rfl) (Nat.le_of_ble_eq_true rfl) (x_keep2 _ _ _ _ _ _ _ _ _ _ _ _ _ _ _ _ _ _ _ _ _ _ _ _ _ _ hC63 hC72 hC64 (by omega) _ fun T'_73 w74 gg75 hC76 hp77 => ?_)))
  have fr78 := wfM_tr fr70 gg75 nX2
  have hC79 := (gg75.2 14 (by (try dsimp only); decide)).trans hC63
  have hC80 := (gg75.2 15 (by (try dsimp only); decide)).trans hC71
  have hC81 := (gg75.2 24 (by (try dsimp only); decide)).trans hC64
  refine (?_ : R (_, _, [], w74, 0, 0))
  refine hR (?_ : R (_, _, _, _, _, _))
  exact hR (zret_i rfl (Nat.le_refl _) (zbo (by omega)) (h _ _ _ _ _ _ _ _ _ _ fr78 hC79 hC76 hC81 (Or.inr ⟨by rw [(show lnS lw.toInt = 0 by rw [hc7]; decide)]; decide, by rcases hp45 with q | ⟨q1, q2, q3, q4, q5, q6, q7⟩; (· exact absurd q.1 (by omega)); have hV1 := hx31 q2; have n1 := tK_num (g := g) (n := f10) (a := tE g f10 a) (by omega) (by omega) q2; have hb8 := tE_b (g := g) (n := f10) (a := tE g f10 a) (by omega) (by omega); have hs8 := tS_b (g := g) (n := f10) (a := tE g f10 a) (by omega) (by omega); have hn8 := tK_n (g := g) (n := f10) (a := tE g f10 a) (by omega); have ht := hp65; rw [q3, q4, q5, hV1] at ht; exact lnS_1 (by omega) (by omega) q2 (midS_b hr4 hp13 (by omega)) ht hp68 (by rw [hp69 0 (by omega) (by decide) (by decide), q6, zup (by omega), if_pos rfl, hV1]) hp77⟩) (fun q => absurd q hp66) (by omega)))
