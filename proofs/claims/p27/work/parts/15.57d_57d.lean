/-! A TEXT, line by line, exactly. -/
noncomputable def nmF (g : Nat → Int32) (n : Int) {α : Type} (tk : Int → Int → Int → α → α) : Nat → Int → Int → α → Int × Int × α
  | 0, k, a, x => (k, a, x)
  | m + 1, k, a, x => if tK g n a = 2 then nmF g n tk m (k + 1) (tE g n a) (tk k (tV g n a) (tS g n a) x) else (k, a, x)
noncomputable def tlH (g : Nat → Int32) (n : Int) {α : Type} (fw : Int) (r : Int × Int × α) : Bool × Int × α :=
  if r.1 < fw ∨ tK g n r.2.1 ≠ 3 then (false, r.2.1, r.2.2) else (true, tE g n r.2.1, r.2.2)
noncomputable def tlG (g : Nat → Int32) (n : Int) {α : Type} (bg : Int → Int → α → α) (tk : Int → Int → Int → Int → α → α) (ms fw : Int → Int) (L a : Int) (x : α) : Bool × Int × α :=
  tlH g n (fw L) (nmF g n (tk L) (ms L).toNat 0 (tE g n a) (bg L (tS g n a) x))
noncomputable def tkW (g : Nat → Int32) (n a : Int) : Int := wv g (tS g n a) (tE g n a - tS g n a).toNat
noncomputable def tlF (g : Nat → Int32) (n : Int) {α : Type} (ln : Int → Int) (bg : Int → Int → α → α) (tk : Int → Int → Int → Int → α → α) (ms fw : Int → Int) (a : Int) (x : α) : Bool × Int × α :=
  if tK g n a = 1 ∧ ln (tkW g n a) ≠ -1 then tlG g n bg tk ms fw (ln (tkW g n a)) a x else (false, a, x)
noncomputable def teF (g : Nat → Int32) (n : Int) {α : Type} (tl : Int → α → Bool × Int × α) : Nat → Int → α → Bool × Int × α
  | 0, a, x => (true, a, x)
  | m + 1, a, x => if tK g n a = 0 then (true, a, x) else match tl a x with
    | (true, a', x') => teF g n tl m a' x'
    | (false, a', x') => (false, a', x')
theorem nmF_s {g : Nat → Int32} {n : Int} {α : Type} {tk : Int → Int → Int → α → α} {ms k a : Int} {x : α} (h : k < ms) (hk : tK g n a = 2) : nmF g n tk (ms - (k + 1)).toNat (k + 1) (tE g n a) (tk k (tV g n a) (tS g n a) x) = nmF g n tk (ms - k).toNat k a x := by
  rw [show (ms - k).toNat = (ms - (k + 1)).toNat + 1 by omega]
  show _ = if _ then _ else _
  rw [if_pos hk]
theorem nmF_e {g : Nat → Int32} {n : Int} {α : Type} {tk : Int → Int → Int → α → α} {ms k a : Int} {x : α} (h : ms ≤ k ∨ tK g n a ≠ 2) : nmF g n tk (ms - k).toNat k a x = (k, a, x) := by
  cases e : (ms - k).toNat with
  | zero => rfl
  | succ m =>
    show (if _ then _ else _) = _
    rw [if_neg (by omega)]
theorem teF_s {g : Nat → Int32} {n : Int} {α : Type} {tl : Int → α → Bool × Int × α} {ms k a a' : Int} {x x' : α} (h : k < ms) (hk : tK g n a ≠ 0) (ht : tl a x = (true, a', x')) : teF g n tl (ms - (k + 1)).toNat a' x' = teF g n tl (ms - k).toNat a x := by
  rw [show (ms - k).toNat = (ms - (k + 1)).toNat + 1 by omega]
  show _ = if _ then _ else _
  rw [if_neg hk, ht]
theorem teF_f {g : Nat → Int32} {n : Int} {α : Type} {tl : Int → α → Bool × Int × α} {ms k a a' : Int} {x x' : α} (h : k < ms) (hk : tK g n a ≠ 0) (ht : tl a x = (false, a', x')) : teF g n tl (ms - k).toNat a x = (false, a', x') := by
  rw [show (ms - k).toNat = (ms - (k + 1)).toNat + 1 by omega]
  show (if _ then _ else _) = _
  rw [if_neg hk, ht]
theorem teF_e {g : Nat → Int32} {n : Int} {α : Type} {tl : Int → α → Bool × Int × α} {ms k a : Int} {x : α} (h : ms ≤ k ∨ tK g n a = 0) : teF g n tl (ms - k).toNat a x = (true, a, x) := by
  cases e : (ms - k).toNat with
  | zero => rfl
  | succ m =>
    show (if _ then _ else _) = _
    rw [if_pos (by omega)]
theorem lnB_r (U : Int) : -1 ≤ lnB U ∧ lnB U ≤ 7 := by unfold lnB; (repeat' split) <;> omega
theorem lnY_r (U : Int) : -1 ≤ lnY U ∧ lnY U ≤ 5 := by unfold lnY; (repeat' split) <;> omega
theorem lnS_r (U : Int) : -1 ≤ lnS U ∧ lnS U ≤ 0 := by unfold lnS; (repeat' split) <;> omega
theorem bMs_r (L : Int) : 0 ≤ bMs L ∧ bMs L ≤ 600 := by unfold bMs; (repeat' split) <;> omega
theorem bFw_r (L : Int) : 0 ≤ bFw L ∧ bFw L ≤ 600 := by have := bMs_r L; unfold bFw; split <;> omega
theorem yMs_r (L : Int) : 0 ≤ yMs L ∧ yMs L ≤ 600 := by unfold yMs; (repeat' split) <;> omega
noncomputable abbrev r32 (x : Int) : Prop := -2147483648 ≤ x ∧ x ≤ 2147483647
noncomputable def bOK : tpB → Prop
  | (f, c, _, x1, x2, _, g2, _, _) => (r32 f ∧ r32 c ∧ r32 x2 ∧ (0 ≤ x1 ∧ x1 ≤ 5)) ∧ ∀ i : Int, 0 ≤ tBy g2 i ∧ tBy g2 i ≤ 4
theorem tBy_up {g : Nat → Int32} {i : Int} {e : Int} (h : r32 e) {lo hi : Int} (hg : ∀ i : Int, lo ≤ tBy g i ∧ tBy g i ≤ hi) (he : lo ≤ e ∧ e ≤ hi) : ∀ j : Int, lo ≤ tBy (upd g i.toNat (Int32.ofInt e)) j ∧ tBy (upd g i.toNat (Int32.ofInt e)) j ≤ hi := by
  intro j
  have := hg j
  unfold tBy upd at *
  split
  · rw [zti h.1 h.2]; exact he
  · exact this
theorem bBeg_ok {L s : Int} (hs : r32 s) : ∀ {x : tpB}, bOK x → bOK (bBeg L s x)
  | (f, c, x0, x1, x2, g1, g2, g3, g4), h => by
    obtain ⟨⟨h1, h2, h3, h4⟩, h5⟩ := h
    have f3 := @fW_r f c 3 s ⟨h1, h2, by omega, hs⟩
    have f4 := @fW_r f c 4 s ⟨h1, h2, by omega, hs⟩
    have h6 := h5 (x1 - 1)
    unfold bBeg
    dsimp only
    (repeat' split) <;> first | exact ⟨⟨by assumption, by assumption, h3, by omega⟩, h5⟩ | exact ⟨⟨f3.1, f3.2, h3, by omega⟩, h5⟩ | exact ⟨⟨f4.1, f4.2, h3, by omega⟩, h5⟩ | exact ⟨⟨h1, h2, h3, by omega⟩, tBy_up (by omega) h5 (by omega)⟩
theorem bKp_ok {L k v f c : Int} (hv : r32 v) : ∀ {D : tdB}, bOK (f, c, D) → bOK (f, c, bKp L k v D)
  | (x0, x1, x2, g1, g2, g3, g4), h => by
    obtain ⟨⟨h1, h2, h3, h4⟩, h5⟩ := h
    unfold bKp
    dsimp only
    (repeat' split) <;> first | exact ⟨⟨h1, h2, h3, h4⟩, h5⟩ | exact ⟨⟨h1, h2, hv, h4⟩, h5⟩
theorem bOK_fc {f c f' c' : Int} (h1 : r32 f') (h2 : r32 c') : ∀ {D : tdB}, bOK (f, c, D) → bOK (f', c', D)
  | (_, _, _, _, _, _, _), h => ⟨⟨h1, h2, h.1.2.2⟩, h.2⟩
theorem bTake_ok {L k v s : Int} (hs : r32 s) (hv : r32 v) : ∀ {x : tpB}, bOK x → bOK (bTake L k v s x)
  | (f, c, D), h => by
    have hfc : r32 f ∧ r32 c := by
      obtain ⟨x0, x1, x2, g1, g2, g3, g4⟩ := D
      exact ⟨h.1.1, h.1.2.1⟩
    have w6 := @wI_r f c 1 6 v s ⟨hfc.1, hfc.2, hs⟩
    have w3 := @wI_r f c 0 3 v s ⟨hfc.1, hfc.2, hs⟩
    have f3 := @fW_r (wI f c 0 3 v s) (wJ f c 0 3 v s) 3 s ⟨w3.1, w3.2, by omega, hs⟩
    unfold bTake
    dsimp only
    (repeat' split) <;> first | exact bKp_ok hv (bOK_fc w6.1 w6.2 h) | exact bOK_fc w6.1 w6.2 h | exact bOK_fc f3.1 f3.2 h | exact bKp_ok hv (bOK_fc w3.1 w3.2 h) | exact bOK_fc w3.1 w3.2 h
noncomputable def yOK : tpY → Prop
  | (f, c, x0, _, _, _) => r32 f ∧ r32 c ∧ (0 ≤ x0 ∧ x0 ≤ 40)
theorem yBeg_ok {L s : Int} (hs : r32 s) : ∀ {x : tpY}, yOK x → yOK (yBeg L s x)
  | (f, c, x0, g1, g2, g3), h => by
    obtain ⟨h1, h2, h3⟩ := h
    have f3 := @fW_r f c 3 s ⟨h1, h2, by omega, hs⟩
    unfold yBeg
    dsimp only
    split
    · exact ⟨f3.1, f3.2, h3⟩
    · exact ⟨h1, h2, by omega⟩
theorem yTk_ok {L k v s hi : Int} (hs : r32 s) : ∀ {x : tpY}, yOK x → yOK (yTk L k v s hi x)
  | (f, c, x0, g1, g2, g3), h => by
    obtain ⟨h1, h2, h3⟩ := h
    have w3 := @wI_r f c 0 hi v s ⟨h1, h2, hs⟩
    have f3 := @fW_r (wI f c 0 hi v s) (wJ f c 0 hi v s) 2 s ⟨w3.1, w3.2, by omega, hs⟩
    unfold yTk
    dsimp only
    (repeat' split) <;> first | exact ⟨w3.1, w3.2, h3⟩ | exact ⟨f3.1, f3.2, h3⟩
theorem yTake_ok {L k v s : Int} (hs : r32 s) (hv : r32 v) {x : tpY} (h : yOK x) : yOK (yTake L k v s x) := by
  unfold yTake
  split <;> exact yTk_ok hs h
noncomputable def sOK : tpS → Prop
  | (f, c, x0, _, _) => r32 f ∧ r32 c ∧ (0 ≤ x0 ∧ x0 ≤ 6)
theorem sBeg_ok {L s : Int} (hs : r32 s) : ∀ {x : tpS}, sOK x → sOK (sBeg L s x)
  | (f, c, x0, g1, g2), h => by
    obtain ⟨h1, h2, h3⟩ := h
    have f3 := @fW_r f c 3 s ⟨h1, h2, by omega, hs⟩
    unfold sBeg
    dsimp only
    split
    · exact ⟨f3.1, f3.2, h3⟩
    · exact ⟨h1, h2, by omega⟩
theorem sTk_ok {k v s hi : Int} (hs : r32 s) : ∀ {x : tpS}, sOK x → sOK (sTk k v s hi x)
  | (f, c, x0, g1, g2), h => by
    obtain ⟨h1, h2, h3⟩ := h
    have w3 := @wI_r f c 0 hi v s ⟨h1, h2, hs⟩
    have f3 := @fW_r (wI f c 0 hi v s) (wJ f c 0 hi v s) 3 s ⟨w3.1, w3.2, by omega, hs⟩
    unfold sTk
    dsimp only
    (repeat' split) <;> first | exact ⟨w3.1, w3.2, h3⟩ | exact ⟨f3.1, f3.2, h3⟩
theorem sTake_ok {k v s : Int} (hs : r32 s) (hv : r32 v) {x : tpS} (h : sOK x) : sOK (sTake k v s x) := by
  unfold sTake
  split <;> exact sTk_ok hs h
/-- the three sorts' texts -/
noncomputable abbrev tlB (g : Nat → Int32) (n : Int) : Int → tpB → Bool × Int × tpB := tlF g n lnB bBeg bTake bMs bFw
noncomputable abbrev tlY (g : Nat → Int32) (n : Int) : Int → tpY → Bool × Int × tpY := tlF g n lnY yBeg yTake yMs yMs
noncomputable abbrev tlS (g : Nat → Int32) (n : Int) : Int → tpS → Bool × Int × tpS := tlF g n lnS sBeg (fun _ => sTake) (fun _ => 600) (fun _ => 1)
set_option maxHeartbeats 8000000 in
theorem x_bTellLine (w : zW) (d : Nat) (p t q : Nat) (l a0 x f c x0 x1 x2 : Int) (g g1 g2 g3 g4 : Nat → Int32) (hK0 : zix w p = some (.inr (6, [.ref t, .int (Int32.ofInt l), .int (Int32.ofInt (tE g l a0)), .int (Int32.ofInt (tK g l a0)), .int (Int32.ofInt (tS g l a0)), .int (Int32.ofInt x), .int (Int32.ofInt f), .int (Int32.ofInt c)]))) (hK1 : zix w t = some (.inl (0, 600, .inl g))) (hK2 : zix w q = some (.inr (0, [.int (Int32.ofInt x0), .int (Int32.ofInt x1), .int (Int32.ofInt x2), .ref (q + 1), .ref (q + 2), .ref (q + 3), .ref (q + 4)]))) (hK3 : zix w (q + 1) = some (.inl (1, 4, .inl g1))) (hK4 : zix w (q + 2) = some (.inl (1, 5, .inl g2))) (hK5 : zix w (q + 3) = some (.inl (1, 20, .inl g3))) (hK6 : zix w (q + 4) = some (.inl (1, 20, .inl g4))) (hr0 : p < q ∧ t < q ∧ p ≠ t) (hr1 : 0 ≤ a0 ∧ a0 ≤ l ∧ l ≤ 600) (hr2 : bOK (f, c, x0, x1, x2, g1, g2, g3, g4)) (hr3 : tK g l a0 = 2 → x = tV g l a0) (Q : zQ) (h : ∀ (v : Int) (a' x' f' c' x0' x1' x2' : Int) (g1' g2' g3' g4' : Nat → Int32) (w' : zW), wfM (fun j => j ≠ p ∧ (j < q ∨ q + 5 ≤ j)) w w' → zix w' p = some (.inr (6, [.ref t, .int (Int32.ofInt l), .int (Int32.ofInt (tE g l a')), .int (Int32.ofInt (tK g l a')), .int (Int32.ofInt (tS g l a')), .int (Int32.ofInt x'), .int (Int32.ofInt f'), .int (Int32.ofInt c')])) → zix w' q = some (.inr (0, [.int (Int32.ofInt x0'), .int (Int32.ofInt x1'), .int (Int32.ofInt x2'), .ref (q + 1), .ref (q + 2), .ref (q + 3), .ref (q + 4)])) → zix w' (q + 1) = some (.inl (1, 4, .inl g1')) → zix w' (q + 2) = some (.inl (1, 5, .inl g2')) → zix w' (q + 3) = some (.inl (1, 20, .inl g3')) → zix w' (q + 4) = some (.inl (1, 20, .inl g4')) → (tlB g l a0 (f, c, x0, x1, x2, g1, g2, g3, g4) = (decide (v = 1), a', (f', c', x0', x1', x2', g1', g2', g3', g4'))) → (tK g l a' = 2 → x' = tV g l a') → ((v = 0 ∨ v = 1) ∧ 0 ≤ a' ∧ a' ≤ l) → (bOK (f', c', x0', x1', x2', g1', g2', g3', g4')) → Q (some (.int (Int32.ofInt v))) w') : zCl zTab (d + 7) iX7_tellLine [.ref p, .ref q] w 0 0 Q := by
  refine zCl_i (M := kX7_tellLine) rfl (Nat.le_of_ble_eq_true rfl) fun R hR => ?_
  replace hr3 : FX _ := hr3
  have fr0 : wfM (fun j => j ≠ p ∧ (j < q ∨ q + 5 ≤ j)) w w := wfM_rf _ w
  obtain ⟨⟨ho1, ho2, ho3, ho4⟩, ho5⟩ := id hr2
  have hb1 := tS_b (g := g) (n := l) (a := a0) (by omega) (by omega)
  have hb2 := tE_b (g := g) (n := l) (a := a0) (by omega) (by omega)
  have hb3 := tK_r (g := g) (n := l) (a := a0)
  have nX0 : FX (p < q ∧ t < q ∧ p ≠ t) := (show p < q ∧ t < q ∧ p ≠ t by omega)
  have nX1 : FX (∀ j : Nat, (j ≠ p ∧ (j < q ∨ q + 5 ≤ j)) → (j ≠ p ∧ (j < q ∨ q + 5 ≤ j))) := fun j hj => by omega
  have nX2 : FX (t ≠ p ∧ (t < q ∨ q + 5 ≤ t)) := (show t ≠ p ∧ (t < q ∨ q + 5 ≤ t) by omega)
  have nX3 : FX (p ≠ t) := (show p ≠ t by omega)
  have nX4 : FX (∀ j : Nat, (j ≠ p ∧ (j < q ∨ q + 5 ≤ j)) → (j ≠ p)) := fun j hj => by omega
  have nX5 : FX (t ≠ p) := (show t ≠ p by omega)
  have nX6 : FX (q ≠ p) := (show q ≠ p by omega)
  have nX7 : FX ((q + 1) ≠ p) := (show (q + 1) ≠ p by omega)
  have nX8 : FX ((q + 2) ≠ p) := (show (q + 2) ≠ p by omega)
  have nX9 : FX ((q + 3) ≠ p) := (show (q + 3) ≠ p by omega)
  have nX10 : FX ((q + 4) ≠ p) := (show (q + 4) ≠ p by omega)
  refine hR (?_ : R (_, _, _, _, _, _))
  refine hR (c_get hK0 rfl ?_)
  refine hR (?_ : R (_, _, _, _, _, _))
  refine hR (j_ne (by omega) (by omega) (fun hc4 => ?_) (fun hc4 => ?_))
  · skip
    iterate 4 refine hR (?_ : R (_, _, _, _, _, _))
    refine hR (j_ne (by omega) (by omega) (fun hc => by omega) (fun _ => ?_))
    refine hR (?_ : R (_, _, _, _, _, _))
    exact hR (zret_i rfl (Nat.le_refl _) (zbo (by omega)) (h _ _ _ _ _ _ _ _ _ _ _ _ _ fr0 hK0 hK2 hK3 hK4 hK5 hK6 (by show tlB g l a0 _ = _; exact if_neg (fun hq => by have := hq.1; omega)) (by assumption) (by omega) (by assumption)))
  iterate 2 refine hR (?_ : R (_, _, _, _, _, _))
  refine hR (t_abs1 (c_vt0 hK2 ?_))
  refine zcall_i 0 0 (Nat.le_of_ble_eq_true rfl) (Nat.le_of_ble_eq_true rfl) (x_bLineOf _ _ _ _ _ _ _ _ _ _ _ _ _ hK0 hK1 (by omega) (tK_let (by omega) (by omega) (by omega)).2 _ fun ln hp5 => ?_)
  refine (?_ : R (_, _, .int (Int32.ofInt ln) :: [], w, 0, 0))
  have hL := lnB_r (wv g (tS g l a0) (tE g l a0 - tS g l a0).toNat)
  replace hp5 : ln = lnB (tkW g l a0) := hp5
  replace hL : -1 ≤ ln ∧ ln ≤ 7 := by rw [hp5]; exact hL
  iterate 4 refine hR (?_ : R (_, _, _, _, _, _))
  refine hR (j_ne (by omega) (by omega) (fun hc6 => ?_) (fun hc6 => ?_))
  rotate_left
  · skip
    refine hR (?_ : R (_, _, _, _, _, _))
    exact hR (zret_i rfl (Nat.le_refl _) (zbo (by omega)) (h _ _ _ _ _ _ _ _ _ _ _ _ _ fr0 hK0 hK2 hK3 hK4 hK5 hK6 (by show tlB g l a0 _ = _; exact if_neg (fun hq => hq.2 (by omega))) (by assumption) (by omega) (by assumption)))
  iterate 3 refine hR (?_ : R (_, _, _, _, _, _))
  refine hR (t_abs2 (c_vt0 hK2 ?_))
  refine zcall_i 0 0 (Nat.le_of_ble_eq_true rfl) (Nat.le_of_ble_eq_true rfl) (x_bBegin _ _ _ _ _ _ _ _ _ _ _ _ _ _ _ _ _ _ _ _ hK0 hK2 hK3 hK4 hK5 hK6 (show p < q ∧ t < q ∧ p ≠ t from nX0) (by omega) (by omega) ho5 (by omega) _ fun f'_7 c'_8 y0_9 y1_10 y2_11 k1_12 k2_13 k3_14 k4_15 w16 gg17 hC18 hC19 hC20 hC21 hC22 hC23 hp24 => ?_)
  have fr25 := wfM_tr fr0 gg17 nX1
  have hC26 := (gg17.2 t nX2).trans hK1
  refine (?_ : R (_, _, [], w16, 0, 0))
  have hk27 : bOK (f'_7, c'_8, y0_9, y1_10, y2_11, k1_12, k2_13, k3_14, k4_15) := by rw [hp24]; exact bBeg_ok (by omega) hr2
  obtain ⟨⟨hm28_1, hm28_2, hm28_3, hm28_4⟩, hm28_5⟩ := id hk27
  have hMs := bMs_r (ln)
  have hFw := bFw_r (ln)
  refine hR (?_ : R (_, _, _, _, _, _))
  refine hR (c_obj hC18 (zcall_i 0 0 (Nat.le_of_ble_eq_true rfl) (Nat.le_of_ble_eq_true rfl) (x_advance _ _ _ _ _ _ _ _ _ _ _ _ hC18 hC26 (show p ≠ t from nX3) (by omega) _ fun a'_29 k'_30 s'_31 x'_32 w33 gg34 hC35 hp36 => ?_)))
  have fr37 := wfM_tr fr25 gg34 nX4
  have hC38 := (gg34.2 t nX5).trans hC26
  have hC39 := (gg34.2 q nX6).trans hC19
  have hC40 := (gg34.2 (q + 1) nX7).trans hC20
  have hC41 := (gg34.2 (q + 2) nX8).trans hC21
  have hC42 := (gg34.2 (q + 3) nX9).trans hC22
  have hC43 := (gg34.2 (q + 4) nX10).trans hC23
  obtain ⟨rfl, rfl, rfl, hx44⟩ := hp36
  replace hx44 : FX _ := hx44
  refine (?_ : R (_, _, [], w33, 0, 0))
  have hb45 := tS_b (g := g) (n := l) (a := tE g l a0) (by omega) (by omega)
  have hb46 := tE_b (g := g) (n := l) (a := tE g l a0) (by omega) (by omega)
  have hb47 := tK_r (g := g) (n := l) (a := tE g l a0)
  iterate 2 refine hR (?_ : R (_, _, _, _, _, _))
  refine hR (t_abs1 (c_vt0 hC39 ?_))
  refine zcall_i 0 0 (Nat.le_of_ble_eq_true rfl) (Nat.le_of_ble_eq_true rfl) (x_bMost _ _ _ _ (by omega) _ fun v48 hp49 => ?_)
  subst hp49
  refine (?_ : R (_, _, .int (Int32.ofInt (bMs ln)) :: [], w33, 0, 0))
  iterate 3 refine hR (?_ : R (_, _, _, _, _, _))
  have lp44 : ∀ (N : Nat) (nb : Int) (a2 xv f_2 c_2 x0_2 x1_2 x2_2 : Int) (g1_2 g2_2 g3_2 g4_2 : Nat → Int32) (w_44 : zW), (wfM (fun j => j ≠ p ∧ (j < q ∨ q + 5 ≤ j)) w w_44) → (zix w_44 p = some (.inr (6, [.ref t, .int (Int32.ofInt l), .int (Int32.ofInt (tE g l a2)), .int (Int32.ofInt (tK g l a2)), .int (Int32.ofInt (tS g l a2)), .int (Int32.ofInt xv), .int (Int32.ofInt f_2), .int (Int32.ofInt c_2)]))) → (zix w_44 t = some (.inl (0, 600, .inl g))) → (zix w_44 q = some (.inr (0, [.int (Int32.ofInt x0_2), .int (Int32.ofInt x1_2), .int (Int32.ofInt x2_2), .ref (q + 1), .ref (q + 2), .ref (q + 3), .ref (q + 4)]))) → (zix w_44 (q + 1) = some (.inl (1, 4, .inl g1_2))) → (zix w_44 (q + 2) = some (.inl (1, 5, .inl g2_2))) → (zix w_44 (q + 3) = some (.inl (1, 20, .inl g3_2))) → (zix w_44 (q + 4) = some (.inl (1, 20, .inl g4_2))) → (0 ≤ nb ∧ nb ≤ bMs ln) → (nmF g l (bTake ln) (bMs ln - nb).toNat nb a2 (f_2, c_2, x0_2, x1_2, x2_2, g1_2, g2_2, g3_2, g4_2) = nmF g l (bTake ln) (bMs ln).toNat 0 (tE g l a0) (bBeg (ln) (tS g l a0) (f, c, x0, x1, x2, g1, g2, g3, g4))) → (tK g l a2 = 2 → xv = tV g l a2) → (0 ≤ a2 ∧ a2 ≤ l) → (bOK (f_2, c_2, x0_2, x1_2, x2_2, g1_2, g2_2, g3_2, g4_2)) → (601 - nb < N) → R (44, [some (.ref p), some (.ref q), some (.int (Int32.ofInt ln)), some (.int (Int32.ofInt (bMs ln))), some (.int (Int32.ofInt nb))], [], w_44, 0, 0) := by
    intro N
    induction N with
    | zero => intros; omega
    | succ N ih44 =>
      intro nb a2 xv f_2 c_2 x0_2 x1_2 x2_2 g1_2 g2_2 g3_2 g4_2 w_44 fr_44 hCp_44 hCt_44 hCq_44 hCq1_44 hCq2_44 hCq3_44 hCq4_44 hf0_44 hp0_44 hp1_44 hp2_44 hp3_44 hN44
      replace hp1_44 : FX _ := hp1_44
      obtain ⟨⟨hm_1, hm_2, hm_3, hm_4⟩, hm_5⟩ := id hp3_44
      have hb50 := tS_b (g := g) (n := l) (a := a2) (by omega) (by omega)
      have hb51 := tE_b (g := g) (n := l) (a := a2) (by omega) (by omega)
      have hb52 := tK_r (g := g) (n := l) (a := a2)
      have hv2 : tK g l a2 = 2 → 0 ≤ xv ∧ xv ≤ 99 := fun e => by rw [hp1_44 e]; exact (tK_num (by omega) (by omega) e).2
      iterate 2 refine hR (?_ : R (_, _, _, _, _, _))
      refine hR (j_ge (by omega) (by omega) (fun hc53 => ?_) (fun hc53 => ?_))
      · skip
        iterate 3 refine hR (?_ : R (_, _, _, _, _, _))
        refine hR (t_abs1 (c_vt0 hCq_44 ?_))
        refine zcall_i 0 0 (Nat.le_of_ble_eq_true rfl) (Nat.le_of_ble_eq_true rfl) (x_bFew _ _ _ _ _ hCq_44 (by omega) _ fun v54 hp55 => ?_)
        subst hp55
        refine (?_ : R (_, _, .int (Int32.ofInt (bFw ln)) :: .int (Int32.ofInt nb) :: [], w_44, 0, 0))
        refine hR (j_lt (by omega) (by omega) (fun hc56 => ?_) (fun hc56 => ?_))
        · skip
          refine hR (?_ : R (_, _, _, _, _, _))
          exact hR (zret_i rfl (Nat.le_refl _) (zbo (by omega)) (h _ _ _ _ _ _ _ _ _ _ _ _ _ fr_44 hCp_44 hCq_44 hCq1_44 hCq2_44 hCq3_44 hCq4_44 (by show (if tK g l a0 = 1 ∧ lnB (tkW g l a0) ≠ -1 then tlG g l _ _ _ _ (lnB (tkW g l a0)) a0 _ else _) = _; rw [← hp5, if_pos ⟨by omega, by omega⟩]; show tlH g l (bFw ln) (nmF g l (bTake ln) (bMs ln).toNat 0 (tE g l a0) (bBeg (ln) (tS g l a0) (f, c, x0, x1, x2, g1, g2, g3, g4))) = _; rw [← hp0_44, nmF_e (by omega)]; exact if_pos (by dsimp only; omega)) hp1_44 (by omega) hp3_44))
        refine hR (?_ : R (_, _, _, _, _, _))
        refine hR (c_get hCp_44 rfl ?_)
        refine hR (?_ : R (_, _, _, _, _, _))
        refine hR (j_eq (by omega) (by omega) (fun hc57 => ?_) (fun hc57 => ?_))
        rotate_left
        · skip
          refine hR (?_ : R (_, _, _, _, _, _))
          exact hR (zret_i rfl (Nat.le_refl _) (zbo (by omega)) (h _ _ _ _ _ _ _ _ _ _ _ _ _ fr_44 hCp_44 hCq_44 hCq1_44 hCq2_44 hCq3_44 hCq4_44 (by show (if tK g l a0 = 1 ∧ lnB (tkW g l a0) ≠ -1 then tlG g l _ _ _ _ (lnB (tkW g l a0)) a0 _ else _) = _; rw [← hp5, if_pos ⟨by omega, by omega⟩]; show tlH g l (bFw ln) (nmF g l (bTake ln) (bMs ln).toNat 0 (tE g l a0) (bBeg (ln) (tS g l a0) (f, c, x0, x1, x2, g1, g2, g3, g4))) = _; rw [← hp0_44, nmF_e (by omega)]; exact if_pos (by dsimp only; omega)) hp1_44 (by omega) hp3_44))
        refine hR (?_ : R (_, _, _, _, _, _))
        refine hR (c_obj hCp_44 (zcall_i 0 0 (Nat.le_of_ble_eq_true rfl) (Nat.le_of_ble_eq_true rfl) (x_advance _ _ _ _ _ _ _ _ _ _ _ _ hCp_44 hCt_44 (show p ≠ t from nX3) (by omega) _ fun a'_58 k'_59 s'_60 x'_61 w62 gg63 hC64 hp65 => ?_)))
        have fr66 := wfM_tr fr_44 gg63 nX4
        have hC67 := (gg63.2 t nX5).trans hCt_44
        have hC68 := (gg63.2 q nX6).trans hCq_44
        have hC69 := (gg63.2 (q + 1) nX7).trans hCq1_44
        have hC70 := (gg63.2 (q + 2) nX8).trans hCq2_44
        have hC71 := (gg63.2 (q + 3) nX9).trans hCq3_44
        have hC72 := (gg63.2 (q + 4) nX10).trans hCq4_44
        obtain ⟨rfl, rfl, rfl, hx73⟩ := hp65
        replace hx73 : FX _ := hx73
        refine (?_ : R (_, _, [], w62, 0, 0))
        refine hR (?_ : R (_, _, _, _, _, _))
        exact hR (zret_i rfl (Nat.le_refl _) (zbo (by omega)) (h _ _ _ _ _ _ _ _ _ _ _ _ _ fr66 hC64 hC68 hC69 hC70 hC71 hC72 (by show (if tK g l a0 = 1 ∧ lnB (tkW g l a0) ≠ -1 then tlG g l _ _ _ _ (lnB (tkW g l a0)) a0 _ else _) = _; rw [← hp5, if_pos ⟨by omega, by omega⟩]; show tlH g l (bFw ln) (nmF g l (bTake ln) (bMs ln).toNat 0 (tE g l a0) (bBeg (ln) (tS g l a0) (f, c, x0, x1, x2, g1, g2, g3, g4))) = _; rw [← hp0_44, nmF_e (by omega)]; exact if_neg (by dsimp only; omega)) hx73 (by omega) hp3_44))
      refine hR (?_ : R (_, _, _, _, _, _))
      refine hR (c_get hCp_44 rfl ?_)
      refine hR (?_ : R (_, _, _, _, _, _))
      refine hR (j_ne (by omega) (by omega) (fun hc74 => ?_) (fun hc74 => ?_))
      rotate_left
      · skip
        iterate 4 refine hR (?_ : R (_, _, _, _, _, _))
        refine hR (t_abs3 (c_vt0 hCq_44 ?_))
        refine zcall_i 0 0 (Nat.le_of_ble_eq_true rfl) (Nat.le_of_ble_eq_true rfl) (x_bTakeN _ _ _ _ _ _ _ _ _ _ _ _ _ _ _ _ _ _ _ _ _ hCp_44 hCq_44 hCq1_44 hCq2_44 hCq3_44 hCq4_44 (show p < q ∧ t < q ∧ p ≠ t from nX0) (by omega) (by omega) hm_5 (by omega) (by omega) _ fun f'_95 c'_96 y0_97 y1_98 y2_99 k1_100 k2_101 k3_102 k4_103 w104 gg105 hC106 hC107 hC108 hC109 hC110 hC111 hp112 => ?_)
        have fr113 := wfM_tr fr_44 gg105 nX1
        have hC114 := (gg105.2 t nX2).trans hCt_44
        refine (?_ : R (_, _, [], w104, 0, 0))
        have hV := hp1_44 (by omega)
        have hk115 : bOK (f'_95, c'_96, y0_97, y1_98, y2_99, k1_100, k2_101, k3_102, k4_103) := by rw [hp112]; exact bTake_ok (by omega) (by omega) hp3_44
        obtain ⟨⟨hm116_1, hm116_2, hm116_3, hm116_4⟩, hm116_5⟩ := id hk115
        refine hR (t_inc ?_)
        refine hR (?_ : R (_, _, _, _, _, _))
        refine hR (c_obj hC106 (zcall_i 0 0 (Nat.le_of_ble_eq_true rfl) (Nat.le_of_ble_eq_true rfl) (x_advance _ _ _ _ _ _ _ _ _ _ _ _ hC106 hC114 (show p ≠ t from nX3) (by omega) _ fun a'_117 k'_118 s'_119 x'_120 w121 gg122 hC123 hp124 => ?_)))
        have fr125 := wfM_tr fr113 gg122 nX4
        have hC126 := (gg122.2 t nX5).trans hC114
        have hC127 := (gg122.2 q nX6).trans hC107
        have hC128 := (gg122.2 (q + 1) nX7).trans hC108
        have hC129 := (gg122.2 (q + 2) nX8).trans hC109
        have hC130 := (gg122.2 (q + 3) nX9).trans hC110
        have hC131 := (gg122.2 (q + 4) nX10).trans hC111
        obtain ⟨rfl, rfl, rfl, hx132⟩ := hp124
        replace hx132 : FX _ := hx132
        refine (?_ : R (_, _, [], w121, 0, 0))
        have hb133 := tS_b (g := g) (n := l) (a := tE g l a2) (by omega) (by omega)
        have hb134 := tE_b (g := g) (n := l) (a := tE g l a2) (by omega) (by omega)
        have hb135 := tK_r (g := g) (n := l) (a := tE g l a2)
        refine hR (?_ : R (_, _, _, _, _, _))
        exact ih44 _ _ _ _ _ _ _ _ _ _ _ _ _ fr125 hC123 hC126 hC127 hC128 hC129 hC130 hC131 (by omega) (by rw [← hp0_44, hp112, hV]; exact nmF_s (tk := (bTake ln)) (ms := bMs ln) (by omega) (by omega)) hx132 (by omega) hk115 (by omega)
      iterate 3 refine hR (?_ : R (_, _, _, _, _, _))
      refine hR (t_abs1 (c_vt0 hCq_44 ?_))
      refine zcall_i 0 0 (Nat.le_of_ble_eq_true rfl) (Nat.le_of_ble_eq_true rfl) (x_bFew _ _ _ _ _ hCq_44 (by omega) _ fun v75 hp76 => ?_)
      subst hp76
      refine (?_ : R (_, _, .int (Int32.ofInt (bFw ln)) :: .int (Int32.ofInt nb) :: [], w_44, 0, 0))
      refine hR (j_lt (by omega) (by omega) (fun hc77 => ?_) (fun hc77 => ?_))
      · skip
        refine hR (?_ : R (_, _, _, _, _, _))
        exact hR (zret_i rfl (Nat.le_refl _) (zbo (by omega)) (h _ _ _ _ _ _ _ _ _ _ _ _ _ fr_44 hCp_44 hCq_44 hCq1_44 hCq2_44 hCq3_44 hCq4_44 (by show (if tK g l a0 = 1 ∧ lnB (tkW g l a0) ≠ -1 then tlG g l _ _ _ _ (lnB (tkW g l a0)) a0 _ else _) = _; rw [← hp5, if_pos ⟨by omega, by omega⟩]; show tlH g l (bFw ln) (nmF g l (bTake ln) (bMs ln).toNat 0 (tE g l a0) (bBeg (ln) (tS g l a0) (f, c, x0, x1, x2, g1, g2, g3, g4))) = _; rw [← hp0_44, nmF_e (by omega)]; exact if_pos (by dsimp only; omega)) hp1_44 (by omega) hp3_44))
      refine hR (?_ : R (_, _, _, _, _, _))
      refine hR (c_get hCp_44 rfl ?_)
      refine hR (?_ : R (_, _, _, _, _, _))
      refine hR (j_eq (by omega) (by omega) (fun hc78 => ?_) (fun hc78 => ?_))
      rotate_left
      · skip
        refine hR (?_ : R (_, _, _, _, _, _))
        exact hR (zret_i rfl (Nat.le_refl _) (zbo (by omega)) (h _ _ _ _ _ _ _ _ _ _ _ _ _ fr_44 hCp_44 hCq_44 hCq1_44 hCq2_44 hCq3_44 hCq4_44 (by show (if tK g l a0 = 1 ∧ lnB (tkW g l a0) ≠ -1 then tlG g l _ _ _ _ (lnB (tkW g l a0)) a0 _ else _) = _; rw [← hp5, if_pos ⟨by omega, by omega⟩]; show tlH g l (bFw ln) (nmF g l (bTake ln) (bMs ln).toNat 0 (tE g l a0) (bBeg (ln) (tS g l a0) (f, c, x0, x1, x2, g1, g2, g3, g4))) = _; rw [← hp0_44, nmF_e (by omega)]; exact if_pos (by dsimp only; omega)) hp1_44 (by omega) hp3_44))
      refine hR (?_ : R (_, _, _, _, _, _))
      refine hR (c_obj hCp_44 (zcall_i 0 0 (Nat.le_of_ble_eq_true rfl) (Nat.le_of_ble_eq_true rfl) (x_advance _ _ _ _ _ _ _ _ _ _ _ _ hCp_44 hCt_44 (show p ≠ t from nX3) (by omega) _ fun a'_79 k'_80 s'_81 x'_82 w83 gg84 hC85 hp86 => ?_)))
      have fr87 := wfM_tr fr_44 gg84 nX4
      have hC88 := (gg84.2 t nX5).trans hCt_44
      have hC89 := (gg84.2 q nX6).trans hCq_44
      have hC90 := (gg84.2 (q + 1) nX7).trans hCq1_44
      have hC91 := (gg84.2 (q + 2) nX8).trans hCq2_44
      have hC92 := (gg84.2 (q + 3) nX9).trans hCq3_44
      have hC93 := (gg84.2 (q + 4) nX10).trans hCq4_44
      obtain ⟨rfl, rfl, rfl, hx94⟩ := hp86
      replace hx94 : FX _ := hx94
      refine (?_ : R (_, _, [], w83, 0, 0))
      refine hR (?_ : R (_, _, _, _, _, _))
      exact hR (zret_i rfl (Nat.le_refl _) (zbo (by omega)) (h _ _ _ _ _ _ _ _ _ _ _ _ _ fr87 hC85 hC89 hC90 hC91 hC92 hC93 (by show (if tK g l a0 = 1 ∧ lnB (tkW g l a0) ≠ -1 then tlG g l _ _ _ _ (lnB (tkW g l a0)) a0 _ else _) = _; rw [← hp5, if_pos ⟨by omega, by omega⟩]; show tlH g l (bFw ln) (nmF g l (bTake ln) (bMs ln).toNat 0 (tE g l a0) (bBeg (ln) (tS g l a0) (f, c, x0, x1, x2, g1, g2, g3, g4))) = _; rw [← hp0_44, nmF_e (by omega)]; exact if_neg (by dsimp only; omega)) hx94 (by omega) hp3_44))
  exact lp44 400000000 _ _ _ _ _ _ _ _ _ _ _ _ _ fr37 hC35 hC38 hC39 hC40 hC41 hC42 hC43 (by omega) (by rw [hp24, Int.sub_zero]) hx44 (by omega) hk27 (by omega)
set_option maxHeartbeats 8000000 in
theorem x_yTellLine (w : zW) (d : Nat) (p t q : Nat) (l a0 x f c x0 : Int) (g g1 g2 g3 : Nat → Int32) (hK0 : zix w p = some (.inr (6, [.ref t, .int (Int32.ofInt l), .int (Int32.ofInt (tE g l a0)), .int (Int32.ofInt (tK g l a0)), .int (Int32.ofInt (tS g l a0)), .int (Int32.ofInt x), .int (Int32.ofInt f), .int (Int32.ofInt c)]))) (hK1 : zix w t = some (.inl (0, 600, .inl g))) (hK2 : zix w q = some (.inr (9, [.int (Int32.ofInt x0), .ref (q + 1), .ref (q + 2), .ref (q + 3)]))) (hK3 : zix w (q + 1) = some (.inl (1, 40, .inl g1))) (hK4 : zix w (q + 2) = some (.inl (1, 40, .inl g2))) (hK5 : zix w (q + 3) = some (.inl (1, 40, .inl g3))) (hr0 : p < q ∧ t < q ∧ p ≠ t) (hr1 : 0 ≤ a0 ∧ a0 ≤ l ∧ l ≤ 600) (hr2 : yOK (f, c, x0, g1, g2, g3)) (hr3 : tK g l a0 = 2 → x = tV g l a0) (Q : zQ) (h : ∀ (v : Int) (a' x' f' c' x0' : Int) (g1' g2' g3' : Nat → Int32) (w' : zW), wfM (fun j => j ≠ p ∧ (j < q ∨ q + 4 ≤ j)) w w' → zix w' p = some (.inr (6, [.ref t, .int (Int32.ofInt l), .int (Int32.ofInt (tE g l a')), .int (Int32.ofInt (tK g l a')), .int (Int32.ofInt (tS g l a')), .int (Int32.ofInt x'), .int (Int32.ofInt f'), .int (Int32.ofInt c')])) → zix w' q = some (.inr (9, [.int (Int32.ofInt x0'), .ref (q + 1), .ref (q + 2), .ref (q + 3)])) → zix w' (q + 1) = some (.inl (1, 40, .inl g1')) → zix w' (q + 2) = some (.inl (1, 40, .inl g2')) → zix w' (q + 3) = some (.inl (1, 40, .inl g3')) → (tlY g l a0 (f, c, x0, g1, g2, g3) = (decide (v = 1), a', (f', c', x0', g1', g2', g3'))) → (tK g l a' = 2 → x' = tV g l a') → ((v = 0 ∨ v = 1) ∧ 0 ≤ a' ∧ a' ≤ l) → (yOK (f', c', x0', g1', g2', g3')) → Q (some (.int (Int32.ofInt v))) w') : zCl zTab (d + 7) iX7_tellLine [.ref p, .ref q] w 0 0 Q := by
  refine zCl_i (M := kX7_tellLine) rfl (Nat.le_of_ble_eq_true rfl) fun R hR => ?_
  replace hr3 : FX _ := hr3
  have fr0 : wfM (fun j => j ≠ p ∧ (j < q ∨ q + 4 ≤ j)) w w := wfM_rf _ w
  obtain ⟨ho1, ho2, ho3⟩ := id hr2
  have hb1 := tS_b (g := g) (n := l) (a := a0) (by omega) (by omega)
  have hb2 := tE_b (g := g) (n := l) (a := a0) (by omega) (by omega)
  have hb3 := tK_r (g := g) (n := l) (a := a0)
  have nX0 : FX (p < q ∧ t < q ∧ p ≠ t) := (show p < q ∧ t < q ∧ p ≠ t by omega)
  have nX1 : FX (∀ j : Nat, (j ≠ p ∧ (j < q ∨ q + 4 ≤ j)) → (j ≠ p ∧ (j < q ∨ q + 4 ≤ j))) := fun j hj => by omega
  have nX2 : FX (t ≠ p ∧ (t < q ∨ q + 4 ≤ t)) := (show t ≠ p ∧ (t < q ∨ q + 4 ≤ t) by omega)
  have nX3 : FX (p ≠ t) := (show p ≠ t by omega)
  have nX4 : FX (∀ j : Nat, (j ≠ p ∧ (j < q ∨ q + 4 ≤ j)) → (j ≠ p)) := fun j hj => by omega
  have nX5 : FX (t ≠ p) := (show t ≠ p by omega)
  have nX6 : FX (q ≠ p) := (show q ≠ p by omega)
  have nX7 : FX ((q + 1) ≠ p) := (show (q + 1) ≠ p by omega)
  have nX8 : FX ((q + 2) ≠ p) := (show (q + 2) ≠ p by omega)
  have nX9 : FX ((q + 3) ≠ p) := (show (q + 3) ≠ p by omega)
  refine hR (?_ : R (_, _, _, _, _, _))
  refine hR (c_get hK0 rfl ?_)
  refine hR (?_ : R (_, _, _, _, _, _))
  refine hR (j_ne (by omega) (by omega) (fun hc4 => ?_) (fun hc4 => ?_))
  · skip
    iterate 4 refine hR (?_ : R (_, _, _, _, _, _))
    refine hR (j_ne (by omega) (by omega) (fun hc => by omega) (fun _ => ?_))
    refine hR (?_ : R (_, _, _, _, _, _))
    exact hR (zret_i rfl (Nat.le_refl _) (zbo (by omega)) (h _ _ _ _ _ _ _ _ _ _ fr0 hK0 hK2 hK3 hK4 hK5 (by show tlY g l a0 _ = _; exact if_neg (fun hq => by have := hq.1; omega)) (by assumption) (by omega) (by assumption)))
  iterate 2 refine hR (?_ : R (_, _, _, _, _, _))
  refine hR (t_abs1 (c_vt9 hK2 ?_))
  refine zcall_i 0 0 (Nat.le_of_ble_eq_true rfl) (Nat.le_of_ble_eq_true rfl) (x_yLineOf _ _ _ _ _ _ _ _ _ _ _ _ _ hK0 hK1 (by omega) (tK_let (by omega) (by omega) (by omega)).2 _ fun ln hp5 => ?_)
  refine (?_ : R (_, _, .int (Int32.ofInt ln) :: [], w, 0, 0))
  have hL := lnY_r (wv g (tS g l a0) (tE g l a0 - tS g l a0).toNat)
  replace hp5 : ln = lnY (tkW g l a0) := hp5
  replace hL : -1 ≤ ln ∧ ln ≤ 5 := by rw [hp5]; exact hL
  iterate 4 refine hR (?_ : R (_, _, _, _, _, _))
  refine hR (j_ne (by omega) (by omega) (fun hc6 => ?_) (fun hc6 => ?_))
  rotate_left
  · skip
    refine hR (?_ : R (_, _, _, _, _, _))
    exact hR (zret_i rfl (Nat.le_refl _) (zbo (by omega)) (h _ _ _ _ _ _ _ _ _ _ fr0 hK0 hK2 hK3 hK4 hK5 (by show tlY g l a0 _ = _; exact if_neg (fun hq => hq.2 (by omega))) (by assumption) (by omega) (by assumption)))
  iterate 3 refine hR (?_ : R (_, _, _, _, _, _))
  refine hR (t_abs2 (c_vt9 hK2 ?_))
  refine zcall_i 0 0 (Nat.le_of_ble_eq_true rfl) (Nat.le_of_ble_eq_true rfl) (x_yBegin _ _ _ _ _ _ _ _ _ _ _ _ _ _ _ _ _ hK0 hK2 hK3 hK4 hK5 (show p < q ∧ t < q ∧ p ≠ t from nX0) (by omega) (by omega) (by omega) _ fun f'_7 c'_8 y0_9 k1_10 k2_11 k3_12 w13 gg14 hC15 hC16 hC17 hC18 hC19 hp20 => ?_)
  have fr21 := wfM_tr fr0 gg14 nX1
  have hC22 := (gg14.2 t nX2).trans hK1
  refine (?_ : R (_, _, [], w13, 0, 0))
  have hk23 : yOK (f'_7, c'_8, y0_9, k1_10, k2_11, k3_12) := by rw [hp20]; exact yBeg_ok (by omega) hr2
  obtain ⟨hm24_1, hm24_2, hm24_3⟩ := id hk23
  have hMs := yMs_r (ln)
  have hFw := yMs_r (ln)
  refine hR (?_ : R (_, _, _, _, _, _))
  refine hR (c_obj hC15 (zcall_i 0 0 (Nat.le_of_ble_eq_true rfl) (Nat.le_of_ble_eq_true rfl) (x_advance _ _ _ _ _ _ _ _ _ _ _ _ hC15 hC22 (show p ≠ t from nX3) (by omega) _ fun a'_25 k'_26 s'_27 x'_28 w29 gg30 hC31 hp32 => ?_)))
  have fr33 := wfM_tr fr21 gg30 nX4
  have hC34 := (gg30.2 t nX5).trans hC22
  have hC35 := (gg30.2 q nX6).trans hC16
  have hC36 := (gg30.2 (q + 1) nX7).trans hC17
  have hC37 := (gg30.2 (q + 2) nX8).trans hC18
  have hC38 := (gg30.2 (q + 3) nX9).trans hC19
  obtain ⟨rfl, rfl, rfl, hx39⟩ := hp32
  replace hx39 : FX _ := hx39
  refine (?_ : R (_, _, [], w29, 0, 0))
  have hb40 := tS_b (g := g) (n := l) (a := tE g l a0) (by omega) (by omega)
  have hb41 := tE_b (g := g) (n := l) (a := tE g l a0) (by omega) (by omega)
  have hb42 := tK_r (g := g) (n := l) (a := tE g l a0)
  iterate 2 refine hR (?_ : R (_, _, _, _, _, _))
  refine hR (t_abs1 (c_vt9 hC35 ?_))
  refine zcall_i 0 0 (Nat.le_of_ble_eq_true rfl) (Nat.le_of_ble_eq_true rfl) (x_yMost _ _ _ _ (by omega) _ fun v43 hp44 => ?_)
  subst hp44
  refine (?_ : R (_, _, .int (Int32.ofInt (yMs ln)) :: [], w29, 0, 0))
  iterate 3 refine hR (?_ : R (_, _, _, _, _, _))
  have lp44 : ∀ (N : Nat) (nb : Int) (a2 xv f_2 c_2 x0_2 : Int) (g1_2 g2_2 g3_2 : Nat → Int32) (w_44 : zW), (wfM (fun j => j ≠ p ∧ (j < q ∨ q + 4 ≤ j)) w w_44) → (zix w_44 p = some (.inr (6, [.ref t, .int (Int32.ofInt l), .int (Int32.ofInt (tE g l a2)), .int (Int32.ofInt (tK g l a2)), .int (Int32.ofInt (tS g l a2)), .int (Int32.ofInt xv), .int (Int32.ofInt f_2), .int (Int32.ofInt c_2)]))) → (zix w_44 t = some (.inl (0, 600, .inl g))) → (zix w_44 q = some (.inr (9, [.int (Int32.ofInt x0_2), .ref (q + 1), .ref (q + 2), .ref (q + 3)]))) → (zix w_44 (q + 1) = some (.inl (1, 40, .inl g1_2))) → (zix w_44 (q + 2) = some (.inl (1, 40, .inl g2_2))) → (zix w_44 (q + 3) = some (.inl (1, 40, .inl g3_2))) → (0 ≤ nb ∧ nb ≤ yMs ln) → (nmF g l (yTake ln) (yMs ln - nb).toNat nb a2 (f_2, c_2, x0_2, g1_2, g2_2, g3_2) = nmF g l (yTake ln) (yMs ln).toNat 0 (tE g l a0) (yBeg (ln) (tS g l a0) (f, c, x0, g1, g2, g3))) → (tK g l a2 = 2 → xv = tV g l a2) → (0 ≤ a2 ∧ a2 ≤ l) → (yOK (f_2, c_2, x0_2, g1_2, g2_2, g3_2)) → (601 - nb < N) → R (44, [some (.ref p), some (.ref q), some (.int (Int32.ofInt ln)), some (.int (Int32.ofInt (yMs ln))), some (.int (Int32.ofInt nb))], [], w_44, 0, 0) := by
    intro N
    induction N with
    | zero => intros; omega
    | succ N ih44 =>
      intro nb a2 xv f_2 c_2 x0_2 g1_2 g2_2 g3_2 w_44 fr_44 hCp_44 hCt_44 hCq_44 hCq1_44 hCq2_44 hCq3_44 hf0_44 hp0_44 hp1_44 hp2_44 hp3_44 hN44
      replace hp1_44 : FX _ := hp1_44
      obtain ⟨hm_1, hm_2, hm_3⟩ := id hp3_44
      have hb45 := tS_b (g := g) (n := l) (a := a2) (by omega) (by omega)
      have hb46 := tE_b (g := g) (n := l) (a := a2) (by omega) (by omega)
      have hb47 := tK_r (g := g) (n := l) (a := a2)
      have hv2 : tK g l a2 = 2 → 0 ≤ xv ∧ xv ≤ 99 := fun e => by rw [hp1_44 e]; exact (tK_num (by omega) (by omega) e).2
      iterate 2 refine hR (?_ : R (_, _, _, _, _, _))
      refine hR (j_ge (by omega) (by omega) (fun hc48 => ?_) (fun hc48 => ?_))
      · skip
        iterate 3 refine hR (?_ : R (_, _, _, _, _, _))
        refine hR (t_abs1 (c_vt9 hCq_44 ?_))
        refine zcall_i 0 0 (Nat.le_of_ble_eq_true rfl) (Nat.le_of_ble_eq_true rfl) (x_yFew _ _ _ _ _ hCq_44 (by omega) _ fun v49 hp50 => ?_)
        subst hp50
        refine (?_ : R (_, _, .int (Int32.ofInt (yMs ln)) :: .int (Int32.ofInt nb) :: [], w_44, 0, 0))
        refine hR (j_lt (by omega) (by omega) (fun hc => by omega) (fun _ => ?_))
        refine hR (?_ : R (_, _, _, _, _, _))
        refine hR (c_get hCp_44 rfl ?_)
        refine hR (?_ : R (_, _, _, _, _, _))
        refine hR (j_eq (by omega) (by omega) (fun hc51 => ?_) (fun hc51 => ?_))
        rotate_left
        · skip
          refine hR (?_ : R (_, _, _, _, _, _))
          exact hR (zret_i rfl (Nat.le_refl _) (zbo (by omega)) (h _ _ _ _ _ _ _ _ _ _ fr_44 hCp_44 hCq_44 hCq1_44 hCq2_44 hCq3_44 (by show (if tK g l a0 = 1 ∧ lnY (tkW g l a0) ≠ -1 then tlG g l _ _ _ _ (lnY (tkW g l a0)) a0 _ else _) = _; rw [← hp5, if_pos ⟨by omega, by omega⟩]; show tlH g l (yMs ln) (nmF g l (yTake ln) (yMs ln).toNat 0 (tE g l a0) (yBeg (ln) (tS g l a0) (f, c, x0, g1, g2, g3))) = _; rw [← hp0_44, nmF_e (by omega)]; exact if_pos (by dsimp only; omega)) hp1_44 (by omega) hp3_44))
        refine hR (?_ : R (_, _, _, _, _, _))
        refine hR (c_obj hCp_44 (zcall_i 0 0 (Nat.le_of_ble_eq_true rfl) (Nat.le_of_ble_eq_true rfl) (x_advance _ _ _ _ _ _ _ _ _ _ _ _ hCp_44 hCt_44 (show p ≠ t from nX3) (by omega) _ fun a'_52 k'_53 s'_54 x'_55 w56 gg57 hC58 hp59 => ?_)))
        have fr60 := wfM_tr fr_44 gg57 nX4
        have hC61 := (gg57.2 t nX5).trans hCt_44
        have hC62 := (gg57.2 q nX6).trans hCq_44
        have hC63 := (gg57.2 (q + 1) nX7).trans hCq1_44
        have hC64 := (gg57.2 (q + 2) nX8).trans hCq2_44
        have hC65 := (gg57.2 (q + 3) nX9).trans hCq3_44
        obtain ⟨rfl, rfl, rfl, hx66⟩ := hp59
        replace hx66 : FX _ := hx66
        refine (?_ : R (_, _, [], w56, 0, 0))
        refine hR (?_ : R (_, _, _, _, _, _))
        exact hR (zret_i rfl (Nat.le_refl _) (zbo (by omega)) (h _ _ _ _ _ _ _ _ _ _ fr60 hC58 hC62 hC63 hC64 hC65 (by show (if tK g l a0 = 1 ∧ lnY (tkW g l a0) ≠ -1 then tlG g l _ _ _ _ (lnY (tkW g l a0)) a0 _ else _) = _; rw [← hp5, if_pos ⟨by omega, by omega⟩]; show tlH g l (yMs ln) (nmF g l (yTake ln) (yMs ln).toNat 0 (tE g l a0) (yBeg (ln) (tS g l a0) (f, c, x0, g1, g2, g3))) = _; rw [← hp0_44, nmF_e (by omega)]; exact if_neg (by dsimp only; omega)) hx66 (by omega) hp3_44))
      refine hR (?_ : R (_, _, _, _, _, _))
      refine hR (c_get hCp_44 rfl ?_)
      refine hR (?_ : R (_, _, _, _, _, _))
      refine hR (j_ne (by omega) (by omega) (fun hc67 => ?_) (fun hc67 => ?_))
      · skip
        iterate 3 refine hR (?_ : R (_, _, _, _, _, _))
        refine hR (t_abs1 (c_vt9 hCq_44 ?_))
        refine zcall_i 0 0 (Nat.le_of_ble_eq_true rfl) (Nat.le_of_ble_eq_true rfl) (x_yFew _ _ _ _ _ hCq_44 (by omega) _ fun v68 hp69 => ?_)
        subst hp69
        refine (?_ : R (_, _, .int (Int32.ofInt (yMs ln)) :: .int (Int32.ofInt nb) :: [], w_44, 0, 0))
        refine hR (j_lt (by omega) (by omega) (fun _ => ?_) (fun hc => by omega))
        refine hR (?_ : R (_, _, _, _, _, _))
        exact hR (zret_i rfl (Nat.le_refl _) (zbo (by omega)) (h _ _ _ _ _ _ _ _ _ _ fr_44 hCp_44 hCq_44 hCq1_44 hCq2_44 hCq3_44 (by show (if tK g l a0 = 1 ∧ lnY (tkW g l a0) ≠ -1 then tlG g l _ _ _ _ (lnY (tkW g l a0)) a0 _ else _) = _; rw [← hp5, if_pos ⟨by omega, by omega⟩]; show tlH g l (yMs ln) (nmF g l (yTake ln) (yMs ln).toNat 0 (tE g l a0) (yBeg (ln) (tS g l a0) (f, c, x0, g1, g2, g3))) = _; rw [← hp0_44, nmF_e (by omega)]; exact if_pos (by dsimp only; omega)) hp1_44 (by omega) hp3_44))
      iterate 4 refine hR (?_ : R (_, _, _, _, _, _))
      refine hR (t_abs3 (c_vt9 hCq_44 ?_))
      refine zcall_i 0 0 (Nat.le_of_ble_eq_true rfl) (Nat.le_of_ble_eq_true rfl) (x_yTakeN _ _ _ _ _ _ _ _ _ _ _ _ _ _ _ _ _ _ hCp_44 hCq_44 hCq1_44 hCq2_44 hCq3_44 (show p < q ∧ t < q ∧ p ≠ t from nX0) (by omega) (by omega) (by omega) (by omega) _ fun f'_70 c'_71 y0_72 k1_73 k2_74 k3_75 w76 gg77 hC78 hC79 hC80 hC81 hC82 hp83 => ?_)
      have fr84 := wfM_tr fr_44 gg77 nX1
      have hC85 := (gg77.2 t nX2).trans hCt_44
      refine (?_ : R (_, _, [], w76, 0, 0))
      have hV := hp1_44 (by omega)
      have hk86 : yOK (f'_70, c'_71, y0_72, k1_73, k2_74, k3_75) := by rw [hp83]; exact yTake_ok (by omega) (by omega) hp3_44
      obtain ⟨hm87_1, hm87_2, hm87_3⟩ := id hk86
      refine hR (t_inc ?_)
      refine hR (?_ : R (_, _, _, _, _, _))
      refine hR (c_obj hC78 (zcall_i 0 0 (Nat.le_of_ble_eq_true rfl) (Nat.le_of_ble_eq_true rfl) (x_advance _ _ _ _ _ _ _ _ _ _ _ _ hC78 hC85 (show p ≠ t from nX3) (by omega) _ fun a'_88 k'_89 s'_90 x'_91 w92 gg93 hC94 hp95 => ?_)))
      have fr96 := wfM_tr fr84 gg93 nX4
      have hC97 := (gg93.2 t nX5).trans hC85
      have hC98 := (gg93.2 q nX6).trans hC79
      have hC99 := (gg93.2 (q + 1) nX7).trans hC80
      have hC100 := (gg93.2 (q + 2) nX8).trans hC81
      have hC101 := (gg93.2 (q + 3) nX9).trans hC82
      obtain ⟨rfl, rfl, rfl, hx102⟩ := hp95
      replace hx102 : FX _ := hx102
      refine (?_ : R (_, _, [], w92, 0, 0))
      have hb103 := tS_b (g := g) (n := l) (a := tE g l a2) (by omega) (by omega)
      have hb104 := tE_b (g := g) (n := l) (a := tE g l a2) (by omega) (by omega)
      have hb105 := tK_r (g := g) (n := l) (a := tE g l a2)
      refine hR (?_ : R (_, _, _, _, _, _))
      exact ih44 _ _ _ _ _ _ _ _ _ _ fr96 hC94 hC97 hC98 hC99 hC100 hC101 (by omega) (by rw [← hp0_44, hp83, hV]; exact nmF_s (tk := (yTake ln)) (ms := yMs ln) (by omega) (by omega)) hx102 (by omega) hk86 (by omega)
  exact lp44 400000000 _ _ _ _ _ _ _ _ _ _ fr33 hC31 hC34 hC35 hC36 hC37 hC38 (by omega) (by rw [hp20, Int.sub_zero]) hx39 (by omega) hk23 (by omega)
set_option maxHeartbeats 8000000 in
theorem x_sTellLine (w : zW) (d : Nat) (p t q : Nat) (l a0 x f c x0 : Int) (g g1 g2 : Nat → Int32) (hK0 : zix w p = some (.inr (6, [.ref t, .int (Int32.ofInt l), .int (Int32.ofInt (tE g l a0)), .int (Int32.ofInt (tK g l a0)), .int (Int32.ofInt (tS g l a0)), .int (Int32.ofInt x), .int (Int32.ofInt f), .int (Int32.ofInt c)]))) (hK1 : zix w t = some (.inl (0, 600, .inl g))) (hK2 : zix w q = some (.inr (5, [.int (Int32.ofInt x0), .ref (q + 1), .ref (q + 2)]))) (hK3 : zix w (q + 1) = some (.inl (1, 6, .inl g1))) (hK4 : zix w (q + 2) = some (.inl (1, 6, .inl g2))) (hr0 : p < q ∧ t < q ∧ p ≠ t) (hr1 : 0 ≤ a0 ∧ a0 ≤ l ∧ l ≤ 600) (hr2 : sOK (f, c, x0, g1, g2)) (hr3 : tK g l a0 = 2 → x = tV g l a0) (Q : zQ) (h : ∀ (v : Int) (a' x' f' c' x0' : Int) (g1' g2' : Nat → Int32) (w' : zW), wfM (fun j => j ≠ p ∧ (j < q ∨ q + 3 ≤ j)) w w' → zix w' p = some (.inr (6, [.ref t, .int (Int32.ofInt l), .int (Int32.ofInt (tE g l a')), .int (Int32.ofInt (tK g l a')), .int (Int32.ofInt (tS g l a')), .int (Int32.ofInt x'), .int (Int32.ofInt f'), .int (Int32.ofInt c')])) → zix w' q = some (.inr (5, [.int (Int32.ofInt x0'), .ref (q + 1), .ref (q + 2)])) → zix w' (q + 1) = some (.inl (1, 6, .inl g1')) → zix w' (q + 2) = some (.inl (1, 6, .inl g2')) → (tlS g l a0 (f, c, x0, g1, g2) = (decide (v = 1), a', (f', c', x0', g1', g2'))) → (tK g l a' = 2 → x' = tV g l a') → ((v = 0 ∨ v = 1) ∧ 0 ≤ a' ∧ a' ≤ l) → (sOK (f', c', x0', g1', g2')) → Q (some (.int (Int32.ofInt v))) w') : zCl zTab (d + 7) iX7_tellLine [.ref p, .ref q] w 0 0 Q := by
  refine zCl_i (M := kX7_tellLine) rfl (Nat.le_of_ble_eq_true rfl) fun R hR => ?_
  replace hr3 : FX _ := hr3
  have fr0 : wfM (fun j => j ≠ p ∧ (j < q ∨ q + 3 ≤ j)) w w := wfM_rf _ w
  obtain ⟨ho1, ho2, ho3⟩ := id hr2
  have hb1 := tS_b (g := g) (n := l) (a := a0) (by omega) (by omega)
  have hb2 := tE_b (g := g) (n := l) (a := a0) (by omega) (by omega)
  have hb3 := tK_r (g := g) (n := l) (a := a0)
  have nX0 : FX (p < q ∧ t < q ∧ p ≠ t) := (show p < q ∧ t < q ∧ p ≠ t by omega)
  have nX1 : FX (∀ j : Nat, (j ≠ p ∧ (j < q ∨ q + 3 ≤ j)) → (j ≠ p ∧ (j < q ∨ q + 3 ≤ j))) := fun j hj => by omega
  have nX2 : FX (t ≠ p ∧ (t < q ∨ q + 3 ≤ t)) := (show t ≠ p ∧ (t < q ∨ q + 3 ≤ t) by omega)
  have nX3 : FX (p ≠ t) := (show p ≠ t by omega)
  have nX4 : FX (∀ j : Nat, (j ≠ p ∧ (j < q ∨ q + 3 ≤ j)) → (j ≠ p)) := fun j hj => by omega
  have nX5 : FX (t ≠ p) := (show t ≠ p by omega)
  have nX6 : FX (q ≠ p) := (show q ≠ p by omega)
  have nX7 : FX ((q + 1) ≠ p) := (show (q + 1) ≠ p by omega)
  have nX8 : FX ((q + 2) ≠ p) := (show (q + 2) ≠ p by omega)
  refine hR (?_ : R (_, _, _, _, _, _))
  refine hR (c_get hK0 rfl ?_)
  refine hR (?_ : R (_, _, _, _, _, _))
  refine hR (j_ne (by omega) (by omega) (fun hc4 => ?_) (fun hc4 => ?_))
  · skip
    iterate 4 refine hR (?_ : R (_, _, _, _, _, _))
    refine hR (j_ne (by omega) (by omega) (fun hc => by omega) (fun _ => ?_))
    refine hR (?_ : R (_, _, _, _, _, _))
    exact hR (zret_i rfl (Nat.le_refl _) (zbo (by omega)) (h _ _ _ _ _ _ _ _ _ fr0 hK0 hK2 hK3 hK4 (by show tlS g l a0 _ = _; exact if_neg (fun hq => by have := hq.1; omega)) (by assumption) (by omega) (by assumption)))
  iterate 2 refine hR (?_ : R (_, _, _, _, _, _))
  refine hR (t_abs1 (c_vt5 hK2 ?_))
  refine zcall_i 0 0 (Nat.le_of_ble_eq_true rfl) (Nat.le_of_ble_eq_true rfl) (x_sLineOf _ _ _ _ _ _ _ _ _ _ _ _ _ hK0 hK1 (by omega) (tK_let (by omega) (by omega) (by omega)).2 _ fun ln hp5 => ?_)
  refine (?_ : R (_, _, .int (Int32.ofInt ln) :: [], w, 0, 0))
  have hL := lnS_r (wv g (tS g l a0) (tE g l a0 - tS g l a0).toNat)
  replace hp5 : ln = lnS (tkW g l a0) := hp5
  replace hL : -1 ≤ ln ∧ ln ≤ 0 := by rw [hp5]; exact hL
  iterate 4 refine hR (?_ : R (_, _, _, _, _, _))
  refine hR (j_ne (by omega) (by omega) (fun hc6 => ?_) (fun hc6 => ?_))
  rotate_left
  · skip
    refine hR (?_ : R (_, _, _, _, _, _))
    exact hR (zret_i rfl (Nat.le_refl _) (zbo (by omega)) (h _ _ _ _ _ _ _ _ _ fr0 hK0 hK2 hK3 hK4 (by show tlS g l a0 _ = _; exact if_neg (fun hq => hq.2 (by omega))) (by assumption) (by omega) (by assumption)))
  iterate 3 refine hR (?_ : R (_, _, _, _, _, _))
  refine hR (t_abs2 (c_vt5 hK2 ?_))
  refine zcall_i 0 0 (Nat.le_of_ble_eq_true rfl) (Nat.le_of_ble_eq_true rfl) (x_sBegin _ _ _ _ _ _ _ _ _ _ _ _ _ _ _ _ hK0 hK2 hK3 hK4 (show p < q ∧ t < q ∧ p ≠ t from nX0) (by omega) (by omega) (by omega) _ fun f'_7 c'_8 y0_9 k1_10 k2_11 w12 gg13 hC14 hC15 hC16 hC17 hp18 => ?_)
  have fr19 := wfM_tr fr0 gg13 nX1
  have hC20 := (gg13.2 t nX2).trans hK1
  refine (?_ : R (_, _, [], w12, 0, 0))
  have hk21 : sOK (f'_7, c'_8, y0_9, k1_10, k2_11) := by rw [hp18]; exact sBeg_ok (by omega) hr2
  obtain ⟨hm22_1, hm22_2, hm22_3⟩ := id hk21
  have hMs := trivial
  have hFw := trivial
  refine hR (?_ : R (_, _, _, _, _, _))
  refine hR (c_obj hC14 (zcall_i 0 0 (Nat.le_of_ble_eq_true rfl) (Nat.le_of_ble_eq_true rfl) (x_advance _ _ _ _ _ _ _ _ _ _ _ _ hC14 hC20 (show p ≠ t from nX3) (by omega) _ fun a'_23 k'_24 s'_25 x'_26 w27 gg28 hC29 hp30 => ?_)))
  have fr31 := wfM_tr fr19 gg28 nX4
  have hC32 := (gg28.2 t nX5).trans hC20
  have hC33 := (gg28.2 q nX6).trans hC15
  have hC34 := (gg28.2 (q + 1) nX7).trans hC16
  have hC35 := (gg28.2 (q + 2) nX8).trans hC17
  obtain ⟨rfl, rfl, rfl, hx36⟩ := hp30
  replace hx36 : FX _ := hx36
  refine (?_ : R (_, _, [], w27, 0, 0))
  have hb37 := tS_b (g := g) (n := l) (a := tE g l a0) (by omega) (by omega)
  have hb38 := tE_b (g := g) (n := l) (a := tE g l a0) (by omega) (by omega)
  have hb39 := tK_r (g := g) (n := l) (a := tE g l a0)
  iterate 2 refine hR (?_ : R (_, _, _, _, _, _))
  refine hR (t_abs1 (c_vt5 hC33 ?_))
  refine zcall_i 0 0 (Nat.le_of_ble_eq_true rfl) (Nat.le_of_ble_eq_true rfl) (x_sMost _ _ _ _ (by omega) _ fun v40 hp41 => ?_)
  subst hp41
  refine (?_ : R (_, _, .int (Int32.ofInt 600) :: [], w27, 0, 0))
  iterate 3 refine hR (?_ : R (_, _, _, _, _, _))
  have lp44 : ∀ (N : Nat) (nb : Int) (a2 xv f_2 c_2 x0_2 : Int) (g1_2 g2_2 : Nat → Int32) (w_44 : zW), (wfM (fun j => j ≠ p ∧ (j < q ∨ q + 3 ≤ j)) w w_44) → (zix w_44 p = some (.inr (6, [.ref t, .int (Int32.ofInt l), .int (Int32.ofInt (tE g l a2)), .int (Int32.ofInt (tK g l a2)), .int (Int32.ofInt (tS g l a2)), .int (Int32.ofInt xv), .int (Int32.ofInt f_2), .int (Int32.ofInt c_2)]))) → (zix w_44 t = some (.inl (0, 600, .inl g))) → (zix w_44 q = some (.inr (5, [.int (Int32.ofInt x0_2), .ref (q + 1), .ref (q + 2)]))) → (zix w_44 (q + 1) = some (.inl (1, 6, .inl g1_2))) → (zix w_44 (q + 2) = some (.inl (1, 6, .inl g2_2))) → (0 ≤ nb ∧ nb ≤ (600 : Int)) → (nmF g l sTake ((600 : Int) - nb).toNat nb a2 (f_2, c_2, x0_2, g1_2, g2_2) = nmF g l sTake ((600 : Int)).toNat 0 (tE g l a0) (sBeg (ln) (tS g l a0) (f, c, x0, g1, g2))) → (tK g l a2 = 2 → xv = tV g l a2) → (0 ≤ a2 ∧ a2 ≤ l) → (sOK (f_2, c_2, x0_2, g1_2, g2_2)) → (601 - nb < N) → R (44, [some (.ref p), some (.ref q), some (.int (Int32.ofInt ln)), some (.int (Int32.ofInt 600)), some (.int (Int32.ofInt nb))], [], w_44, 0, 0) := by
    intro N
    induction N with
    | zero => intros; omega
    | succ N ih44 =>
      intro nb a2 xv f_2 c_2 x0_2 g1_2 g2_2 w_44 fr_44 hCp_44 hCt_44 hCq_44 hCq1_44 hCq2_44 hf0_44 hp0_44 hp1_44 hp2_44 hp3_44 hN44
      replace hp1_44 : FX _ := hp1_44
      obtain ⟨hm_1, hm_2, hm_3⟩ := id hp3_44
      have hb42 := tS_b (g := g) (n := l) (a := a2) (by omega) (by omega)
      have hb43 := tE_b (g := g) (n := l) (a := a2) (by omega) (by omega)
      have hb44 := tK_r (g := g) (n := l) (a := a2)
      have hv2 : tK g l a2 = 2 → 0 ≤ xv ∧ xv ≤ 99 := fun e => by rw [hp1_44 e]; exact (tK_num (by omega) (by omega) e).2
      iterate 2 refine hR (?_ : R (_, _, _, _, _, _))
      refine hR (j_ge (by omega) (by omega) (fun hc45 => ?_) (fun hc45 => ?_))
      · skip
        iterate 3 refine hR (?_ : R (_, _, _, _, _, _))
        refine hR (t_abs1 (c_vt5 hCq_44 ?_))
        refine zcall_i 0 0 (Nat.le_of_ble_eq_true rfl) (Nat.le_of_ble_eq_true rfl) (x_sFew _ _ _ _ (by omega) _ fun v46 hp47 => ?_)
        subst hp47
        refine (?_ : R (_, _, .int (Int32.ofInt 1) :: .int (Int32.ofInt nb) :: [], w_44, 0, 0))
        refine hR (j_lt (by omega) (by omega) (fun hc48 => ?_) (fun hc48 => ?_))
        · skip
          refine hR (?_ : R (_, _, _, _, _, _))
          exact hR (zret_i rfl (Nat.le_refl _) (zbo (by omega)) (h _ _ _ _ _ _ _ _ _ fr_44 hCp_44 hCq_44 hCq1_44 hCq2_44 (by show (if tK g l a0 = 1 ∧ lnS (tkW g l a0) ≠ -1 then tlG g l _ _ _ _ (lnS (tkW g l a0)) a0 _ else _) = _; rw [← hp5, if_pos ⟨by omega, by omega⟩]; show tlH g l ((1 : Int)) (nmF g l sTake ((600 : Int)).toNat 0 (tE g l a0) (sBeg (ln) (tS g l a0) (f, c, x0, g1, g2))) = _; rw [← hp0_44, nmF_e (by omega)]; exact if_pos (by dsimp only; omega)) hp1_44 (by omega) hp3_44))
        refine hR (?_ : R (_, _, _, _, _, _))
        refine hR (c_get hCp_44 rfl ?_)
        refine hR (?_ : R (_, _, _, _, _, _))
        refine hR (j_eq (by omega) (by omega) (fun hc49 => ?_) (fun hc49 => ?_))
        rotate_left
        · skip
          refine hR (?_ : R (_, _, _, _, _, _))
          exact hR (zret_i rfl (Nat.le_refl _) (zbo (by omega)) (h _ _ _ _ _ _ _ _ _ fr_44 hCp_44 hCq_44 hCq1_44 hCq2_44 (by show (if tK g l a0 = 1 ∧ lnS (tkW g l a0) ≠ -1 then tlG g l _ _ _ _ (lnS (tkW g l a0)) a0 _ else _) = _; rw [← hp5, if_pos ⟨by omega, by omega⟩]; show tlH g l ((1 : Int)) (nmF g l sTake ((600 : Int)).toNat 0 (tE g l a0) (sBeg (ln) (tS g l a0) (f, c, x0, g1, g2))) = _; rw [← hp0_44, nmF_e (by omega)]; exact if_pos (by dsimp only; omega)) hp1_44 (by omega) hp3_44))
        refine hR (?_ : R (_, _, _, _, _, _))
        refine hR (c_obj hCp_44 (zcall_i 0 0 (Nat.le_of_ble_eq_true rfl) (Nat.le_of_ble_eq_true rfl) (x_advance _ _ _ _ _ _ _ _ _ _ _ _ hCp_44 hCt_44 (show p ≠ t from nX3) (by omega) _ fun a'_50 k'_51 s'_52 x'_53 w54 gg55 hC56 hp57 => ?_)))
        have fr58 := wfM_tr fr_44 gg55 nX4
        have hC59 := (gg55.2 t nX5).trans hCt_44
        have hC60 := (gg55.2 q nX6).trans hCq_44
        have hC61 := (gg55.2 (q + 1) nX7).trans hCq1_44
        have hC62 := (gg55.2 (q + 2) nX8).trans hCq2_44
        obtain ⟨rfl, rfl, rfl, hx63⟩ := hp57
        replace hx63 : FX _ := hx63
        refine (?_ : R (_, _, [], w54, 0, 0))
        refine hR (?_ : R (_, _, _, _, _, _))
        exact hR (zret_i rfl (Nat.le_refl _) (zbo (by omega)) (h _ _ _ _ _ _ _ _ _ fr58 hC56 hC60 hC61 hC62 (by show (if tK g l a0 = 1 ∧ lnS (tkW g l a0) ≠ -1 then tlG g l _ _ _ _ (lnS (tkW g l a0)) a0 _ else _) = _; rw [← hp5, if_pos ⟨by omega, by omega⟩]; show tlH g l ((1 : Int)) (nmF g l sTake ((600 : Int)).toNat 0 (tE g l a0) (sBeg (ln) (tS g l a0) (f, c, x0, g1, g2))) = _; rw [← hp0_44, nmF_e (by omega)]; exact if_neg (by dsimp only; omega)) hx63 (by omega) hp3_44))
      refine hR (?_ : R (_, _, _, _, _, _))
      refine hR (c_get hCp_44 rfl ?_)
      refine hR (?_ : R (_, _, _, _, _, _))
      refine hR (j_ne (by omega) (by omega) (fun hc64 => ?_) (fun hc64 => ?_))
      rotate_left
      · skip
        iterate 4 refine hR (?_ : R (_, _, _, _, _, _))
        refine hR (t_abs3 (c_vt5 hCq_44 ?_))
        refine zcall_i 0 0 (Nat.le_of_ble_eq_true rfl) (Nat.le_of_ble_eq_true rfl) (x_sTakeN _ _ _ _ _ _ _ _ _ _ _ _ _ _ _ _ _ hCp_44 hCq_44 hCq1_44 hCq2_44 (show p < q ∧ t < q ∧ p ≠ t from nX0) (by omega) (by omega) (by omega) (by omega) _ fun f'_83 c'_84 y0_85 k1_86 k2_87 w88 gg89 hC90 hC91 hC92 hC93 hp94 => ?_)
        have fr95 := wfM_tr fr_44 gg89 nX1
        have hC96 := (gg89.2 t nX2).trans hCt_44
        refine (?_ : R (_, _, [], w88, 0, 0))
        have hV := hp1_44 (by omega)
        have hk97 : sOK (f'_83, c'_84, y0_85, k1_86, k2_87) := by rw [hp94]; exact sTake_ok (by omega) (by omega) hp3_44
        obtain ⟨hm98_1, hm98_2, hm98_3⟩ := id hk97
        refine hR (t_inc ?_)
        refine hR (?_ : R (_, _, _, _, _, _))
        refine hR (c_obj hC90 (zcall_i 0 0 (Nat.le_of_ble_eq_true rfl) (Nat.le_of_ble_eq_true rfl) (x_advance _ _ _ _ _ _ _ _ _ _ _ _ hC90 hC96 (show p ≠ t from nX3) (by omega) _ fun a'_99 k'_100 s'_101 x'_102 w103 gg104 hC105 hp106 => ?_)))
        have fr107 := wfM_tr fr95 gg104 nX4
        have hC108 := (gg104.2 t nX5).trans hC96
        have hC109 := (gg104.2 q nX6).trans hC91
        have hC110 := (gg104.2 (q + 1) nX7).trans hC92
        have hC111 := (gg104.2 (q + 2) nX8).trans hC93
        obtain ⟨rfl, rfl, rfl, hx112⟩ := hp106
        replace hx112 : FX _ := hx112
        refine (?_ : R (_, _, [], w103, 0, 0))
        have hb113 := tS_b (g := g) (n := l) (a := tE g l a2) (by omega) (by omega)
        have hb114 := tE_b (g := g) (n := l) (a := tE g l a2) (by omega) (by omega)
        have hb115 := tK_r (g := g) (n := l) (a := tE g l a2)
        refine hR (?_ : R (_, _, _, _, _, _))
        exact ih44 _ _ _ _ _ _ _ _ _ fr107 hC105 hC108 hC109 hC110 hC111 (by omega) (by rw [← hp0_44, hp94, hV]; exact nmF_s (tk := sTake) (ms := (600 : Int)) (by omega) (by omega)) hx112 (by omega) hk97 (by omega)
      iterate 3 refine hR (?_ : R (_, _, _, _, _, _))
      refine hR (t_abs1 (c_vt5 hCq_44 ?_))
      refine zcall_i 0 0 (Nat.le_of_ble_eq_true rfl) (Nat.le_of_ble_eq_true rfl) (x_sFew _ _ _ _ (by omega) _ fun v65 hp66 => ?_)
      subst hp66
      refine (?_ : R (_, _, .int (Int32.ofInt 1) :: .int (Int32.ofInt nb) :: [], w_44, 0, 0))
      refine hR (j_lt (by omega) (by omega) (fun hc67 => ?_) (fun hc67 => ?_))
      · skip
        refine hR (?_ : R (_, _, _, _, _, _))
        exact hR (zret_i rfl (Nat.le_refl _) (zbo (by omega)) (h _ _ _ _ _ _ _ _ _ fr_44 hCp_44 hCq_44 hCq1_44 hCq2_44 (by show (if tK g l a0 = 1 ∧ lnS (tkW g l a0) ≠ -1 then tlG g l _ _ _ _ (lnS (tkW g l a0)) a0 _ else _) = _; rw [← hp5, if_pos ⟨by omega, by omega⟩]; show tlH g l ((1 : Int)) (nmF g l sTake ((600 : Int)).toNat 0 (tE g l a0) (sBeg (ln) (tS g l a0) (f, c, x0, g1, g2))) = _; rw [← hp0_44, nmF_e (by omega)]; exact if_pos (by dsimp only; omega)) hp1_44 (by omega) hp3_44))
      refine hR (?_ : R (_, _, _, _, _, _))
      refine hR (c_get hCp_44 rfl ?_)
      refine hR (?_ : R (_, _, _, _, _, _))
      refine hR (j_eq (by omega) (by omega) (fun hc68 => ?_) (fun hc68 => ?_))
      rotate_left
      · skip
        refine hR (?_ : R (_, _, _, _, _, _))
        exact hR (zret_i rfl (Nat.le_refl _) (zbo (by omega)) (h _ _ _ _ _ _ _ _ _ fr_44 hCp_44 hCq_44 hCq1_44 hCq2_44 (by show (if tK g l a0 = 1 ∧ lnS (tkW g l a0) ≠ -1 then tlG g l _ _ _ _ (lnS (tkW g l a0)) a0 _ else _) = _; rw [← hp5, if_pos ⟨by omega, by omega⟩]; show tlH g l ((1 : Int)) (nmF g l sTake ((600 : Int)).toNat 0 (tE g l a0) (sBeg (ln) (tS g l a0) (f, c, x0, g1, g2))) = _; rw [← hp0_44, nmF_e (by omega)]; exact if_pos (by dsimp only; omega)) hp1_44 (by omega) hp3_44))
      refine hR (?_ : R (_, _, _, _, _, _))
      refine hR (c_obj hCp_44 (zcall_i 0 0 (Nat.le_of_ble_eq_true rfl) (Nat.le_of_ble_eq_true rfl) (x_advance _ _ _ _ _ _ _ _ _ _ _ _ hCp_44 hCt_44 (show p ≠ t from nX3) (by omega) _ fun a'_69 k'_70 s'_71 x'_72 w73 gg74 hC75 hp76 => ?_)))
      have fr77 := wfM_tr fr_44 gg74 nX4
      have hC78 := (gg74.2 t nX5).trans hCt_44
      have hC79 := (gg74.2 q nX6).trans hCq_44
      have hC80 := (gg74.2 (q + 1) nX7).trans hCq1_44
      have hC81 := (gg74.2 (q + 2) nX8).trans hCq2_44
      obtain ⟨rfl, rfl, rfl, hx82⟩ := hp76
      replace hx82 : FX _ := hx82
      refine (?_ : R (_, _, [], w73, 0, 0))
      refine hR (?_ : R (_, _, _, _, _, _))
      exact hR (zret_i rfl (Nat.le_refl _) (zbo (by omega)) (h _ _ _ _ _ _ _ _ _ fr77 hC75 hC79 hC80 hC81 (by show (if tK g l a0 = 1 ∧ lnS (tkW g l a0) ≠ -1 then tlG g l _ _ _ _ (lnS (tkW g l a0)) a0 _ else _) = _; rw [← hp5, if_pos ⟨by omega, by omega⟩]; show tlH g l ((1 : Int)) (nmF g l sTake ((600 : Int)).toNat 0 (tE g l a0) (sBeg (ln) (tS g l a0) (f, c, x0, g1, g2))) = _; rw [← hp0_44, nmF_e (by omega)]; exact if_neg (by dsimp only; omega)) hx82 (by omega) hp3_44))
  exact lp44 400000000 _ _ _ _ _ _ _ _ _ fr31 hC29 hC32 hC33 hC34 hC35 (by omega) (by rw [hp18, Int.sub_zero]) hx36 (by omega) hk21 (by omega)
