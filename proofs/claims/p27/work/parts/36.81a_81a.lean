/-! WHAT BOTH SIDES HAVE TOLD, and that it is the same. -/
noncomputable def BKX (T : Nat → Int32) (o : Int) : tpB → Prop
  | (_, _, x0, x1, _, g1, g2, g3, g4) => x0 = tBy T o ∧ (x1 = tBy T (o + 1) ∧ 0 ≤ x1 ∧ x1 ≤ 5) ∧ (∀ i : Int, 0 ≤ i → i < 4 → tBy T (o + (2 + i)) = tBy g1 i) ∧ (∀ i : Int, 0 ≤ i → i < 5 → tBy T (o + (6 + i)) = tBy g2 i ∧ 0 ≤ tBy g2 i ∧ tBy g2 i ≤ 4) ∧ ∀ i k : Int, 0 ≤ i → i < 5 → 0 ≤ k → k < 4 → tBy T (o + (11 + 8 * i + 2 * k)) = tBy g3 (4 * i + k) ∧ tBy T (o + (12 + 8 * i + 2 * k)) = tBy g4 (4 * i + k)
noncomputable def YRX (T : Nat → Int32) (o : Int) : tpY → Prop
  | (_, _, x0, g1, g2, g3) => (x0 = tBy T o ∧ 0 ≤ x0 ∧ x0 ≤ 40) ∧ ∀ i : Int, 0 ≤ i → i < x0 → tBy T (o + (1 + 3 * i)) = tBy g1 i ∧ tBy T (o + (2 + 3 * i)) = tBy g2 i ∧ tBy T (o + (3 + 3 * i)) = tBy g3 i ∧ (tBy g1 i = 1 → tBy g2 i ≠ tBy g3 i)
noncomputable def SIX (T : Nat → Int32) (o : Int) : tpS → Prop
  | (_, _, x0, g1, g2) => (x0 = tBy T o ∧ 0 ≤ x0 ∧ x0 ≤ 6) ∧ ∀ i : Int, 0 ≤ i → i < x0 → tBy T (o + (1 + 2 * i)) = tBy g1 i ∧ tBy T (o + (2 + 2 * i)) = tBy g2 i
theorem BKX_e {T T' : Nat → Int32} {o o' : Int} (h : ∀ j : Int, 0 ≤ j → j < 51 → tBy T' (o' + j) = tBy T (o + j)) : ∀ {X : tpB}, BKX T o X → BKX T' o' X
  | (_, _, x0, x1, _, g1, g2, g3, g4), ⟨a, b, c, d, e⟩ => by
    have h0 := h 0 (by omega) (by omega)
    rw [Int.add_zero, Int.add_zero] at h0
    refine ⟨by rw [h0]; exact a, by rw [h 1 (by omega) (by omega)]; exact b, fun i i0 i1 => by rw [h _ (by omega) (by omega)]; exact c i i0 i1, fun i i0 i1 => by rw [h _ (by omega) (by omega)]; exact d i i0 i1, fun i k i0 i1 k0 k1 => ?_⟩
    rw [h _ (by omega) (by omega), h _ (by omega) (by omega)]
    exact e i k i0 i1 k0 k1
theorem YRX_e {T T' : Nat → Int32} {o o' : Int} (h : ∀ j : Int, 0 ≤ j → j < 121 → tBy T' (o' + j) = tBy T (o + j)) : ∀ {X : tpY}, YRX T o X → YRX T' o' X
  | (_, _, x0, g1, g2, g3), ⟨a, b⟩ => by
    have h0 := h 0 (by omega) (by omega)
    rw [Int.add_zero, Int.add_zero] at h0
    refine ⟨by rw [h0]; exact a, fun i i0 i1 => ?_⟩
    rw [h _ (by omega) (by omega), h _ (by omega) (by omega), h _ (by omega) (by omega)]
    exact b i i0 i1
theorem SIX_e {T T' : Nat → Int32} {o o' : Int} (h : ∀ j : Int, 0 ≤ j → j < 13 → tBy T' (o' + j) = tBy T (o + j)) : ∀ {X : tpS}, SIX T o X → SIX T' o' X
  | (_, _, x0, g1, g2), ⟨a, b⟩ => by
    have h0 := h 0 (by omega) (by omega)
    rw [Int.add_zero, Int.add_zero] at h0
    refine ⟨by rw [h0]; exact a, fun i i0 i1 => ?_⟩
    rw [h _ (by omega) (by omega), h _ (by omega) (by omega)]
    exact b i i0 i1
/-- what lies at a place is what the reference has in a row -/
noncomputable def TLE (w : zW) (p : Nat) (i : Int) (g15 g16 g17 g18 g19 g20 g21 g22 : Nat → Int32) (l f c : Int) (g cn : Nat → Int32) (bo ye si : Nat → Option Nat) : Prop := TDC w p l f c g cn bo ye si ∧ (l = tBy g16 i ∧ 0 ≤ l ∧ l ≤ 600) ∧ f = tBy g17 i ∧ c = tBy g18 i ∧ (∀ j : Int, 0 ≤ j → j < 600 → tBy g15 (600 * i + j) = tBy g j ∧ -128 ≤ tBy g j ∧ tBy g j ≤ 127) ∧ (∀ s : Int, 0 ≤ s → s ≤ 2 → tBy g19 (3 * i + s) = tBy cn s ∧ 0 ≤ tBy cn s ∧ tBy cn s ≤ 2) ∧ (∀ k : Int, 0 ≤ k → k < tBy cn 0 → ∃ b X, bo k.toNat = some b ∧ OBB w b X ∧ BKX g20 (102 * i + 51 * k) X) ∧ (∀ k : Int, 0 ≤ k → k < tBy cn 1 → ∃ b X, ye k.toNat = some b ∧ OBY w b X ∧ YRX g21 (242 * i + 121 * k) X) ∧ (∀ k : Int, 0 ≤ k → k < tBy cn 2 → ∃ b X, si k.toNat = some b ∧ OBS w b X ∧ SIX g22 (26 * i + 13 * k) X)
/-- a row of the reference is another one's -/
noncomputable def RWE (i : Int) (g15 g16 g17 g18 g19 g20 g21 g22 : Nat → Int32) (i' : Int) (g15' g16' g17' g18' g19' g20' g21' g22' : Nat → Int32) : Prop := (∀ j : Int, 0 ≤ j → j < 600 → tBy g15' (600 * i' + j) = tBy g15 (600 * i + j)) ∧ tBy g16' i' = tBy g16 i ∧ tBy g17' i' = tBy g17 i ∧ tBy g18' i' = tBy g18 i ∧ (∀ j : Int, 0 ≤ j → j < 3 → tBy g19' (3 * i' + j) = tBy g19 (3 * i + j)) ∧ (∀ j : Int, 0 ≤ j → j < 102 → tBy g20' (102 * i' + j) = tBy g20 (102 * i + j)) ∧ (∀ j : Int, 0 ≤ j → j < 242 → tBy g21' (242 * i' + j) = tBy g21 (242 * i + j)) ∧ (∀ j : Int, 0 ≤ j → j < 26 → tBy g22' (26 * i' + j) = tBy g22 (26 * i + j))
theorem RWE_rf (i : Int) (g15 g16 g17 g18 g19 g20 g21 g22 : Nat → Int32) : RWE i g15 g16 g17 g18 g19 g20 g21 g22 i g15 g16 g17 g18 g19 g20 g21 g22 := ⟨fun _ _ _ => rfl, rfl, rfl, rfl, fun _ _ _ => rfl, fun _ _ _ => rfl, fun _ _ _ => rfl, fun _ _ _ => rfl⟩
theorem tBy_n {g g' : Nat → Int32} {n : Nat} (h : ∀ j, j < n → g' j = g j) {i : Int} (h0 : 0 ≤ i) (h1 : i < n) : tBy g' i = tBy g i := congrArg Int32.toInt (h i.toNat (by omega))
theorem TLE_gen {w w' : zW} {p p' : Nat} {i i' : Int} {g15 g16 g17 g18 g19 g20 g21 g22 g15' g16' g17' g18' g19' g20' g21' g22' : Nat → Int32} {l f c l' f' c' : Int} {g cn gt ct : Nat → Int32} {bo ye si bt yt it : Nat → Option Nat} (h : TLE w p i g15 g16 g17 g18 g19 g20 g21 g22 l f c g cn bo ye si) (hT : TDC w' p' l' f' c' gt ct bt yt it) (hl : l' = tBy g16' i' ∧ 0 ≤ l' ∧ l' ≤ 600) (hf : f' = tBy g17' i') (hc : c' = tBy g18' i') (hg : ∀ j : Int, 0 ≤ j → j < 600 → tBy g15' (600 * i' + j) = tBy gt j ∧ -128 ≤ tBy gt j ∧ tBy gt j ≤ 127) (e2 : ∀ j, j < 3 → ct j = cn j) (e3 : ∀ j, j < 2 → bt j = bo j) (e4 : ∀ j, j < 2 → yt j = ye j) (e5 : ∀ j, j < 2 → it j = si j) (hb : ∀ j b, bo j = some b → ∀ x, x < 5 → zix w' (b + x) = zix w (b + x)) (hy : ∀ j b, ye j = some b → ∀ x, x < 4 → zix w' (b + x) = zix w (b + x)) (hs : ∀ j b, si j = some b → ∀ x, x < 3 → zix w' (b + x) = zix w (b + x)) (r5 : ∀ j : Int, 0 ≤ j → j < 3 → tBy g19' (3 * i' + j) = tBy g19 (3 * i + j)) (r6 : ∀ j : Int, 0 ≤ j → j < 102 → tBy g20' (102 * i' + j) = tBy g20 (102 * i + j)) (r7 : ∀ j : Int, 0 ≤ j → j < 242 → tBy g21' (242 * i' + j) = tBy g21 (242 * i + j)) (r8 : ∀ j : Int, 0 ≤ j → j < 26 → tBy g22' (26 * i' + j) = tBy g22 (26 * i + j)) : TLE w' p' i' g15' g16' g17' g18' g19' g20' g21' g22' l' f' c' gt ct bt yt it := by
  obtain ⟨-, a2, a3, a4, a5, a6, a7, a8, a9⟩ := h
  have ec : ∀ s : Int, 0 ≤ s → s ≤ 2 → tBy ct s = tBy cn s := fun s s0 s1 => tBy_n (n := 3) e2 s0 (by omega)
  refine ⟨hT, hl, hf, hc, hg, fun s s0 s1 => ?_, fun k k0 k1 => ?_, fun k k0 k1 => ?_, fun k k0 k1 => ?_⟩
  · rw [r5 s s0 (by omega), ec s s0 s1]
    exact a6 s s0 s1
  · rw [ec 0 (by omega) (by omega)] at k1
    have h2 := a6 0 (by omega) (by omega)
    obtain ⟨b, X, x1, x2, x3⟩ := a7 k k0 k1
    refine ⟨b, X, (e3 k.toNat (by omega)).trans x1, OBB_fr x2 (hb _ b x1), BKX_e (fun j j0 j1 => ?_) x3⟩
    have := r6 (51 * k + j) (by omega) (by omega)
    rw [Int.add_assoc, Int.add_assoc]
    exact this
  · rw [ec 1 (by omega) (by omega)] at k1
    have h2 := a6 1 (by omega) (by omega)
    obtain ⟨b, X, x1, x2, x3⟩ := a8 k k0 k1
    refine ⟨b, X, (e4 k.toNat (by omega)).trans x1, OBY_fr x2 (hy _ b x1), YRX_e (fun j j0 j1 => ?_) x3⟩
    have := r7 (121 * k + j) (by omega) (by omega)
    rw [Int.add_assoc, Int.add_assoc]
    exact this
  · rw [ec 2 (by omega) (by omega)] at k1
    have h2 := a6 2 (by omega) (by omega)
    obtain ⟨b, X, x1, x2, x3⟩ := a9 k k0 k1
    refine ⟨b, X, (e5 k.toNat (by omega)).trans x1, OBS_fr x2 (hs _ b x1), SIX_e (fun j j0 j1 => ?_) x3⟩
    have := r8 (13 * k + j) (by omega) (by omega)
    rw [Int.add_assoc, Int.add_assoc]
    exact this
theorem TLE_mv {w w' : zW} {p p' : Nat} {i i' : Int} {g15 g16 g17 g18 g19 g20 g21 g22 g15' g16' g17' g18' g19' g20' g21' g22' : Nat → Int32} {l f c : Int} {g cn gt ct : Nat → Int32} {bo ye si bt yt it : Nat → Option Nat} (h : TLE w p i g15 g16 g17 g18 g19 g20 g21 g22 l f c g cn bo ye si) (hT : TDC w' p' l f c gt ct bt yt it) (e1 : ∀ j, j < 600 → gt j = g j) (e2 : ∀ j, j < 3 → ct j = cn j) (e3 : ∀ j, j < 2 → bt j = bo j) (e4 : ∀ j, j < 2 → yt j = ye j) (e5 : ∀ j, j < 2 → it j = si j) (hb : ∀ j b, bo j = some b → ∀ x, x < 5 → zix w' (b + x) = zix w (b + x)) (hy : ∀ j b, ye j = some b → ∀ x, x < 4 → zix w' (b + x) = zix w (b + x)) (hs : ∀ j b, si j = some b → ∀ x, x < 3 → zix w' (b + x) = zix w (b + x)) (hr : RWE i g15 g16 g17 g18 g19 g20 g21 g22 i' g15' g16' g17' g18' g19' g20' g21' g22') : TLE w' p' i' g15' g16' g17' g18' g19' g20' g21' g22' l f c gt ct bt yt it := by
  obtain ⟨r1, r2, r3, r4, r5, r6, r7, r8⟩ := hr
  obtain ⟨-, a2, a3, a4, a5, -⟩ := id h
  refine TLE_gen h hT (by rw [r2]; exact a2) (by rw [r3]; exact a3) (by rw [r4]; exact a4) (fun j j0 j1 => ?_) e2 e3 e4 e5 hb hy hs r5 r6 r7 r8
  rw [r1 j j0 j1, tBy_n (n := 600) e1 j0 (by omega)]
  exact a5 j j0 j1
noncomputable def TCo (w : zW) (p q : Nat) : Prop := (∃ g k b, zix w (p + 3) = some (rfa 3 2 g) ∧ g k = some b ∧ b ≤ q ∧ q ≤ b + 4) ∨ (∃ g k b, zix w (p + 4) = some (rfa 4 2 g) ∧ g k = some b ∧ b ≤ q ∧ q ≤ b + 3) ∨ (∃ g k b, zix w (p + 5) = some (rfa 5 2 g) ∧ g k = some b ∧ b ≤ q ∧ q ≤ b + 2)
noncomputable def TCp (w : zW) (p q : Nat) : Prop := (p ≤ q ∧ q ≤ p + 5) ∨ TCo w p q
theorem obj_role {ρ : Nat → Nat} {w : zW} (hT : TOP ρ w) {p q : Nat} (hp : TP1 w p) (h : TCo w p q) : 20 ≤ ρ q ∧ ρ q ≤ 42 := by
  obtain ⟨x1, x2, x3, -, p1, -, -, -, p2, p3, p4, p5⟩ := CI_o2 hT.1 (tp1_role hT hp)
  rcases h with ⟨g, k, b, h1, h2, h3, h4⟩ | ⟨g, k, b, h1, h2, h3, h4⟩ | ⟨g, k, b, h1, h2, h3, h4⟩
  · obtain ⟨g', a, c⟩ := CI_rf hT.1 (q := p + 3) (by rw [p3]; rfl) (by rw [p3]; rfl)
    obtain rfl := rfEq (a.symm.trans h1)
    have hb : ρ b = 20 := c k b h2
    obtain ⟨_, _, _, -, -, -, -, b1, b2, b3, b4⟩ := CI_o20 hT.1 hb
    have hq : q = b ∨ q = b + 1 ∨ q = b + 2 ∨ q = b + 3 ∨ q = b + 4 := by omega
    rcases hq with rfl | rfl | rfl | rfl | rfl <;> omega
  · obtain ⟨g', a, c⟩ := CI_rf hT.1 (q := p + 4) (by rw [p4]; rfl) (by rw [p4]; rfl)
    obtain rfl := rfEq (a.symm.trans h1)
    have hb : ρ b = 30 := c k b h2
    obtain ⟨_, -, -, b1, b2, b3⟩ := CI_o30 hT.1 hb
    have hq : q = b ∨ q = b + 1 ∨ q = b + 2 ∨ q = b + 3 := by omega
    rcases hq with rfl | rfl | rfl | rfl <;> omega
  · obtain ⟨g', a, c⟩ := CI_rf hT.1 (q := p + 5) (by rw [p5]; rfl) (by rw [p5]; rfl)
    obtain rfl := rfEq (a.symm.trans h1)
    have hb : ρ b = 40 := c k b h2
    obtain ⟨_, -, -, b1, b2⟩ := CI_o40 hT.1 hb
    have hq : q = b ∨ q = b + 1 ∨ q = b + 2 := by omega
    rcases hq with rfl | rfl | rfl <;> omega
theorem hi_role {ρ : Nat → Nat} {w : zW} (hT : TOP ρ w) {q : Nat} (h : 20 ≤ ρ q) : 45 ≤ q := by
  obtain ⟨y6, y7, h0, r1, r7, r8, r9, r12, r13, -⟩ := top_o hT
  obtain ⟨_, _, _, -, p1, -, -, -, p2, p3, p4, p5⟩ := CI_o2 hT.1 r1
  obtain ⟨_, _, _, _, _, -, -, -, -, -, -, q1, q2⟩ := CI_o10 hT.1 r9
  have hz := hT.2.2.2.1 q
  have h00 := hT.2.1
  rcases Nat.lt_or_ge q 45 with h45 | h45
  · exfalso
    have hq : q = 0 ∨ q = 1 ∨ q = 2 ∨ q = 3 ∨ q = 4 ∨ q = 5 ∨ q = 6 ∨ q = 7 ∨ q = 8 ∨ q = 9 ∨ q = 10 ∨ q = 11 ∨ q = 12 ∨ q = 13 ∨ (14 ≤ q ∧ q ≤ 44) := by omega
    rcases hq with rfl | rfl | rfl | rfl | rfl | rfl | rfl | rfl | rfl | rfl | rfl | rfl | rfl | rfl | hq
    · omega
    · omega
    · have e : ρ 2 = 3 := p1
      omega
    · have e : ρ 3 = 4 := p2
      omega
    · have e : ρ 4 = 5 := p3
      omega
    · have e : ρ 5 = 6 := p4
      omega
    · have e : ρ 6 = 7 := p5
      omega
    · omega
    · omega
    · omega
    · have e : ρ 10 = 11 := q1
      omega
    · have e : ρ 11 = 12 := q2
      omega
    · omega
    · omega
    · have := hz hq.1 hq.2
      omega
  · exact h45
theorem obj_hi {ρ : Nat → Nat} {w : zW} (hT : TOP ρ w) {p q : Nat} (hp : TP1 w p) (h : TCo w p q) : 45 ≤ q := hi_role hT (obj_role hT hp h).1
noncomputable def TLD (w : zW) (p : Nat) (i : Int) (g15 g16 g17 g18 g19 g20 g21 g22 : Nat → Int32) : Prop := ∃ (l f c : Int) (g cn : Nat → Int32) (bo ye si : Nat → Option Nat), TLE w p i g15 g16 g17 g18 g19 g20 g21 g22 l f c g cn bo ye si
/-- the frame of what is told at a place -/
theorem tcp_b {w : zW} {p : Nat} {bo : Nat → Option Nat} (h : zix w (p + 3) = some (rfa 3 2 bo)) : ∀ j b, bo j = some b → ∀ x, x < 5 → TCo w p (b + x) := fun j b hb x hx => (Or.inl ⟨bo, j, b, h, hb, by omega, by omega⟩)
theorem tcp_y {w : zW} {p : Nat} {bo : Nat → Option Nat} (h : zix w (p + 4) = some (rfa 4 2 bo)) : ∀ j b, bo j = some b → ∀ x, x < 4 → TCo w p (b + x) := fun j b hb x hx => (Or.inr (Or.inl ⟨bo, j, b, h, hb, by omega, by omega⟩))
theorem tcp_s {w : zW} {p : Nat} {bo : Nat → Option Nat} (h : zix w (p + 5) = some (rfa 5 2 bo)) : ∀ j b, bo j = some b → ∀ x, x < 3 → TCo w p (b + x) := fun j b hb x hx => (Or.inr (Or.inr ⟨bo, j, b, h, hb, by omega, by omega⟩))
theorem TLD_fr {w w' : zW} {p : Nat} {i : Int} {g15 g16 g17 g18 g19 g20 g21 g22 g15' g16' g17' g18' g19' g20' g21' g22' : Nat → Int32} (h : TLD w p i g15 g16 g17 g18 g19 g20 g21 g22) (hf : ∀ q, TCp w p q → zix w' q = zix w q) (hr : RWE i g15 g16 g17 g18 g19 g20 g21 g22 i g15' g16' g17' g18' g19' g20' g21' g22') : TLD w' p i g15' g16' g17' g18' g19' g20' g21' g22' := by
  obtain ⟨l, f, c, g, cn, bo, ye, si, h⟩ := h
  have hc : ∀ j, j ≤ 5 → zix w' (p + j) = zix w (p + j) := fun j hj => hf _ (Or.inl (by omega))
  exact ⟨l, f, c, g, cn, bo, ye, si, TLE_mv h (TDC_fr h.1 hc) (fun _ _ => rfl) (fun _ _ => rfl) (fun _ _ => rfl) (fun _ _ => rfl) (fun _ _ => rfl) (fun j b hb x hx => hf _ (Or.inr (tcp_b h.1.2.2.2.1 j b hb x hx))) (fun j b hb x hx => hf _ (Or.inr (tcp_y h.1.2.2.2.2.1 j b hb x hx))) (fun j b hb x hx => hf _ (Or.inr (tcp_s h.1.2.2.2.2.2 j b hb x hx))) hr⟩
noncomputable def ARS (w : zW) (g15 g16 g17 g18 g19 g20 g21 g22 kp : Nat → Int32) : Prop := zix w 15 = some (.inl (0, 2400, .inl g15)) ∧ zix w 16 = some (.inl (1, 4, .inl g16)) ∧ zix w 17 = some (.inl (1, 4, .inl g17)) ∧ zix w 18 = some (.inl (1, 4, .inl g18)) ∧ zix w 19 = some (.inl (1, 12, .inl g19)) ∧ zix w 20 = some (.inl (1, 408, .inl g20)) ∧ zix w 21 = some (.inl (1, 968, .inl g21)) ∧ zix w 22 = some (.inl (1, 104, .inl g22)) ∧ zix w 44 = some (.inl (2, 3, .inl kp))
noncomputable def XX (w : zW) (g15 g16 g17 g18 g19 g20 g21 g22 kp : Nat → Int32) (gi : Nat → Option Nat) : Prop := ARS w g15 g16 g17 g18 g19 g20 g21 g22 kp ∧ zix w 7 = some (rfa 6 3 gi) ∧ (∀ j : Int, 0 ≤ j → j < 2400 → -128 ≤ tBy g15 j ∧ tBy g15 j ≤ 127) ∧ TLD w 1 0 g15 g16 g17 g18 g19 g20 g21 g22 ∧ ∀ k : Nat, k < 3 → (gi k = none ∧ (kp k).toInt = 0) ∨ ∃ q, gi k = some q ∧ (kp k).toInt ≠ 0 ∧ 45 ≤ q ∧ TLD w q ((k : Int) + 1) g15 g16 g17 g18 g19 g20 g21 g22
noncomputable def XT (w : zW) : Prop := ∃ (g15 g16 g17 g18 g19 g20 g21 g22 kp : Nat → Int32) (gi : Nat → Option Nat), XX w g15 g16 g17 g18 g19 g20 g21 g22 kp gi
/-- a stretch that keeps what is told, and the reference's rows -/
theorem XT_fr {w w' : zW} (h : XT w) (hf : ∀ q, TC w q → zix w' q = zix w q) (ha : ∀ q, (15 ≤ q ∧ q ≤ 22) ∨ q = 44 → zix w' q = zix w q) : XT w' := by
  obtain ⟨g15, g16, g17, g18, g19, g20, g21, g22, kp, gi, ⟨a1, a2, a3, a4, a5, a6, a7, a8, a9⟩, h7, hb, h1, hk⟩ := h
  refine ⟨g15, g16, g17, g18, g19, g20, g21, g22, kp, gi, ⟨(ha 15 (by omega)).trans a1, (ha 16 (by omega)).trans a2, (ha 17 (by omega)).trans a3, (ha 18 (by omega)).trans a4, (ha 19 (by omega)).trans a5, (ha 20 (by omega)).trans a6, (ha 21 (by omega)).trans a7, (ha 22 (by omega)).trans a8, (ha 44 (by omega)).trans a9⟩, (hf 7 (Or.inl rfl)).trans h7, hb, TLD_fr h1 (fun q hq => hf q (Or.inr ⟨1, Or.inl rfl, hq⟩)) (RWE_rf _ _ _ _ _ _ _ _ _), fun k hk3 => ?_⟩
  rcases hk k hk3 with e | ⟨q, e1, e2, e4, e3⟩
  · exact Or.inl e
  · exact Or.inr ⟨q, e1, e2, e4, TLD_fr e3 (fun x hx => hf x (Or.inr ⟨q, Or.inr ⟨gi, k, h7, e1⟩, hx⟩)) (RWE_rf _ _ _ _ _ _ _ _ _)⟩
theorem XT_keep {w w' : zW} (h : XT w) (hk : KEEP2 w w') : XT w' := XT_fr h hk.2 fun q hq => hk.1 q (by omega) (by omega)
theorem tc_out {ρ : Nat → Nat} {w : zW} (hT : TOP ρ w) {q : Nat} (h : TC w q) : q < 14 ∨ 44 < q := Classical.byContradiction fun hn => by
  have := tc_role hT h
  rw [hT.2.2.2.1 q (by omega) (by omega)] at this
  unfold TRL at this
  omega
theorem XT_same {ρ : Nat → Nat} {w w' : zW} (hT : TOP ρ w) (h : XT w) (hs : SAME2 w w') : XT w' := XT_fr h (fun q hq => hs.1.2 q (tc_out hT hq)) hs.2
theorem two_x {tab : List zM} {d a : Nat} {As : List Value} {w : zW} {mc ms : Nat} {r : Option Value} {w1 : zW} {mc' ms' : Nat} {P : zQ} (run : ∀ Q : zQ, Q r w1 → zCl tab d a As w mc ms Q) (hx : zCl tab d a As w mc' ms' P) : P r w1 := by
  obtain ⟨r', w', ⟨h1, h2⟩, h⟩ := zCl_two d a As w mc ms (fun r' w' => r' = r ∧ w' = w1) mc' ms' P (run _ ⟨rfl, rfl⟩) hx
  rw [h1, h2] at h
  exact h
theorem arEq {t n t' n' : Nat} {g g' : Nat → Int32} (h : (some (.inl (t, n, .inl g)) : Option va_E) = some (.inl (t', n', .inl g'))) : g = g' :=
  congrArg (fun o : Option va_E => match o with
    | some (.inl (_, _, .inl g)) => g
    | _ => fun _ => 0) h
