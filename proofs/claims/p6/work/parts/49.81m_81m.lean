/-! READING: the class, and the relation of what both sides read. -/
def cBY (g1 g2 g3 g4 : Nat → Int32) (r t : Int) : Int := ((fBy g1 g2 g3 g4 r.toNat t.toNat : Nat) : Int)
theorem x_bRead {w : zW} {q : Nat} {g1 g2 g3 g4 : Nat → Int32} (hb : bkAt w q g1 g2 g3 g4) (d : Nat) (a1 a2 : Int) (h1 : 0 ≤ a1 ∧ a1 ≤ 4) (h2 : 0 ≤ a2 ∧ a2 ≤ 5460) (Q : zQ) (h : Q (some (.int (Int32.ofInt (cBY g1 g2 g3 g4 a1 a2)))) w) : zCl zTab (d + 3) iX0_readBy [.ref q, .int (Int32.ofInt a1), .int (Int32.ofInt a2)] w 0 0 Q := by
  obtain ⟨r, rfl⟩ := Int.eq_ofNat_of_zero_le h1.1
  obtain ⟨t, rfl⟩ := Int.eq_ofNat_of_zero_le h2.1
  exact b_readBy hb d r t (by omega) (by omega) Q h
theorem cBY_r {w : zW} {q : Nat} {g1 g2 g3 g4 : Nat → Int32} (hb : bkAt w q g1 g2 g3 g4) {r t : Int} (h1 : 0 ≤ r ∧ r ≤ 4) (h2 : 0 ≤ t ∧ t ≤ 5460) : 0 ≤ cBY g1 g2 g3 g4 r t ∧ cBY g1 g2 g3 g4 r t ≤ 5460 := by
  have := fBy_lt hb (r := r.toNat) (t := t.toNat) (by omega) (by omega)
  unfold cBY
  omega
theorem fOn_c {gk gk' : Nat → Int32} (hk : ∀ i, i < 4 → gk i = gk' i) {B l k : Nat} {κ : Int} (h0 : κ = 0 → k ≤ 3) : fOn gk B l κ k = fOn gk' B l κ k := by
  unfold fOn
  by_cases c : κ = 0
  · rw [if_pos c, if_pos c, hk k (by have := h0 c; omega)]
  · rw [if_neg c, if_neg c]
theorem fRd_c {gk gi gn gk' gi' gn' : Nat → Int32} {r B l : Nat} (hk : ∀ i, i < 4 → gk i = gk' i) (hi : ∀ k, k < 4 → gi (r * 4 + k) = gi' (r * 4 + k)) (hn : ∀ k, k < 4 → gn (r * 4 + k) = gn' (r * 4 + k)) (hb : ∀ k, k < 4 → (gi (r * 4 + k)).toInt = 0 → (gn (r * 4 + k)).toInt.toNat ≤ 3) : ∀ i, i ≤ 4 → fRd gk gi gn r B l i = fRd gk' gi' gn' r B l i
  | 0, _ => rfl
  | i + 1, h => by
    have ih := fRd_c hk hi hn hb (B := B) (l := l) i (by omega)
    show (fOn gk (fRd gk gi gn r B l i).1 (fRd gk gi gn r B l i).2 (gi (r * 4 + i)).toInt (gn (r * 4 + i)).toInt.toNat, fOl (fRd gk gi gn r B l i).2 (gi (r * 4 + i)).toInt (gn (r * 4 + i)).toInt.toNat) = (fOn gk' (fRd gk' gi' gn' r B l i).1 (fRd gk' gi' gn' r B l i).2 (gi' (r * 4 + i)).toInt (gn' (r * 4 + i)).toInt.toNat, fOl (fRd gk' gi' gn' r B l i).2 (gi' (r * 4 + i)).toInt (gn' (r * 4 + i)).toInt.toNat)
    rw [← ih, ← hi i (by omega), ← hn i (by omega), fOn_c hk (hb i (by omega))]
theorem fBy_c {gk gs gi gn gk' gs' gi' gn' : Nat → Int32} {r t : Nat} (hs : gs r = gs' r) (h4 : (gs r).toInt.toNat ≤ 4) (hk : ∀ i, i < 4 → gk i = gk' i) (hi : ∀ k, k < 4 → gi (r * 4 + k) = gi' (r * 4 + k)) (hn : ∀ k, k < 4 → gn (r * 4 + k) = gn' (r * 4 + k)) (hb : ∀ k, k < 4 → (gi (r * 4 + k)).toInt = 0 → (gn (r * 4 + k)).toInt.toNat ≤ 3) : fBy gk gs gi gn r t = fBy gk' gs' gi' gn' r t := by
  unfold fBy
  rw [← hs, fRd_c hk hi hn hb _ h4]
def bkX1 : tpB → Prop
  | (_, _, _, x1, _, _, _, _, _) => 0 ≤ x1 ∧ x1 ≤ 5
def bkXA (w : zW) (b : Nat) : tpB → Prop
  | (_, _, _, _, _, g1, g2, g3, g4) => bkAt w b g1 g2 g3 g4
def rdX (t r : Int) : tpB → Int
  | (_, _, _, x1, _, g1, g2, g3, g4) => if (0 ≤ t ∧ t ≤ 5460) ∧ (0 ≤ r ∧ r < x1) then cBY g1 g2 g3 g4 r t else -1
theorem cby_eq {T : Nat → Int32} {o r t : Int} {w : zW} {b : Nat} (ho : 0 ≤ o) (r0 : 0 ≤ r) (r1 : r < 5) : ∀ {g1 g2 g3 g4 : Nat → Int32} {f c x0 x1 x2 : Int}, bkAt w b g1 g2 g3 g4 → BKX T o (f, c, x0, x1, x2, g1, g2, g3, g4) → cBY g1 g2 g3 g4 r t = rBY T o r t := by
  intro g1 g2 g3 g4 f c x0 x1 x2 hb ⟨_, _, hk, hs, hn⟩
  have hbs := hb.bs r.toNat
  have e1 : g2 r.toNat = rdS T o.toNat r.toNat := by
    have := (hs r r0 r1).1
    unfold tBy at this
    unfold rdS
    rw [show o.toNat + (6 + r.toNat % 5) = (o + (6 + r)).toNat by omega]
    exact (Int32.toInt_inj.mp this).symm
  have e2 : ∀ i, i < 4 → g1 i = rdK T o.toNat i := fun i hi => by
    have := hk (i : Int) (by omega) (by omega)
    unfold tBy at this
    unfold rdK
    rw [show o.toNat + (2 + i % 4) = (o + (2 + (i : Int))).toNat by omega]
    exact (Int32.toInt_inj.mp this).symm
  have e3 : ∀ k, k < 4 → g3 (r.toNat * 4 + k) = rdI T o.toNat (r.toNat * 4 + k) := fun k hk4 => by
    have := (hn r (k : Int) r0 r1 (by omega) (by omega)).1
    unfold tBy at this
    unfold rdI
    rw [show o.toNat + (11 + 8 * ((r.toNat * 4 + k) / 4) + 2 * ((r.toNat * 4 + k) % 4)) = (o + (11 + 8 * r + 2 * (k : Int))).toNat by omega, show r.toNat * 4 + k = (4 * r + (k : Int)).toNat by omega]
    exact (Int32.toInt_inj.mp this).symm
  have e4 : ∀ k, k < 4 → g4 (r.toNat * 4 + k) = rdN T o.toNat (r.toNat * 4 + k) := fun k hk4 => by
    have := (hn r (k : Int) r0 r1 (by omega) (by omega)).2
    unfold tBy at this
    unfold rdN
    rw [show o.toNat + (12 + 8 * ((r.toNat * 4 + k) / 4) + 2 * ((r.toNat * 4 + k) % 4)) = (o + (12 + 8 * r + 2 * (k : Int))).toNat by omega, show r.toNat * 4 + k = (4 * r + (k : Int)).toNat by omega]
    exact (Int32.toInt_inj.mp this).symm
  unfold cBY rBY
  rw [fBy_c e1 (by omega) e2 e3 e4 (fun k hk4 z => by have := (hb.rel (r.toNat * 4 + k) (by omega)).1 z; omega)]
theorem rd_eq {T : Nat → Int32} {o r t : Int} {w : zW} {b : Nat} (ho : 0 ≤ o) : ∀ {X : tpB}, bkXA w b X → BKX T o X → rdX t r X = if (0 ≤ t ∧ t ≤ 5460) ∧ (0 ≤ r ∧ r < tBy T (o + 1)) then rBY T o r t else -1
  | (f, c, x0, x1, x2, g1, g2, g3, g4), hb, hX => by
    have h1 := hX.2.1
    show (if (0 ≤ t ∧ t ≤ 5460) ∧ (0 ≤ r ∧ r < x1) then cBY g1 g2 g3 g4 r t else -1) = _
    rw [← h1.1]
    by_cases h : (0 ≤ t ∧ t ≤ 5460) ∧ (0 ≤ r ∧ r < x1)
    · rw [if_pos h, if_pos h, cby_eq ho h.2.1 (by omega) hb hX]
    · rw [if_neg h, if_neg h]
theorem bkX_1 {T : Nat → Int32} {o : Int} : ∀ {X : tpB}, BKX T o X → bkX1 X
  | (_, _, x0, x1, _, g1, g2, g3, g4), hX => hX.2.1.2
theorem bkAt_X {σ : Nat → Nat} {w : zW} {b : Nat} (hw : CI σ w) (hr : σ b = 20) : ∀ {X : tpB}, OBB w b X → bkXA w b X
  | (_, _, x0, x1, _, g1, g2, g3, g4), hO => by
    obtain ⟨gk, gs, gi, gn, hb⟩ := bkAt_of hw hr
    have e1 := arEq (hb.kin.symm.trans hO.2.1)
    have e2 := arEq (hb.steps.symm.trans hO.2.2.1)
    have e3 := arEq (hb.kinds.symm.trans hO.2.2.2.1)
    have e4 := arEq (hb.nums.symm.trans hO.2.2.2.2)
    subst e1 e2 e3 e4
    exact hb
theorem bk_role {σ : Nat → Nat} {w : zW} (hT : TOP σ w) {p : Nat} (hp : TP1 w p) {bo : Nat → Option Nat} (hrow : zix w (p + 3) = some (rfa 3 2 bo)) {k b : Nat} (h : bo k = some b) : σ b = 20 := by
  obtain ⟨x1, x2, x3, -, p1, -, -, -, p2, p3, p4, p5⟩ := CI_o2 hT.1 (tp1_role hT hp)
  obtain ⟨g', a, c⟩ := CI_rf hT.1 (q := p + 3) (by rw [p3]; rfl) (by rw [p3]; rfl)
  obtain rfl := rfEq (a.symm.trans hrow)
  exact c k b h
theorem x_read {w : zW} (d : Nat) (a1 a2 a3 l f c : Int) (y6 y7 : Value) (cn : Nat → Int32) (bo : Nat → Option Nat) (P : Int → tpB → Prop) (h0 : zix w 0 = some (ob0 y6 y7)) (h1 : zix w 1 = some (td1 l f c)) (h3 : zix w 3 = some (.inl (1, 3, .inl cn))) (hrow : zix w 4 = some (rfa 3 2 bo)) (hr1 : -2147483648 ≤ a1 ∧ a1 ≤ 2147483647) (hr2 : -2147483648 ≤ a2 ∧ a2 ≤ 2147483647) (hr3 : -2147483648 ≤ a3 ∧ a3 ≤ 2147483647) (hcn : tBy cn 0 ≤ 2) (hE : ∀ k : Int, 0 ≤ k → k < tBy cn 0 → ∃ b X, bo k.toNat = some b ∧ OBB w b X ∧ bkX1 X ∧ bkXA w b X ∧ P k X) (Q : zQ) (hN : (a1 < 0 ∨ tBy cn 0 ≤ a1) → Q (some (.int (Int32.ofInt (-1)))) w) (hS : (0 ≤ a1 ∧ a1 < tBy cn 0) → ∀ b X, bo a1.toNat = some b → OBB w b X → bkXA w b X → P a1 X → Q (some (.int (Int32.ofInt (rdX a2 a3 X)))) w) : zCl zTab (d + 4) iX11_read [.ref 0, .int (Int32.ofInt a1), .int (Int32.ofInt a2), .int (Int32.ofInt a3)] w 0 0 Q := by
  refine zCl_i (M := kX11_read) rfl (Nat.le_of_ble_eq_true rfl) fun R hR => ?_
  have bad : ∀ L : zL, Q (some (.int (Int32.ofInt (-1)))) w → R (28, L, [], w, 0, 0) := by
    intro L hx
    refine hR (?_ : R (_, _, _, _, _, _))
    exact hR (zret_i rfl (Nat.le_refl _) trivial hx)
  iterate 2 refine hR (?_ : R (_, _, _, _, _, _))
  refine hR (c_obj h0 (zcall_i 0 0 (Nat.le_refl _) (Nat.le_refl _) (x_bookAt _ a1 l f c y6 y7 cn bo h0 h1 h3 hrow hr1 hcn _ ?_)))
  by_cases hc : 0 ≤ a1 ∧ a1 < tBy cn 0
  · obtain ⟨b, X, hb, hO, hk, hA, hP⟩ := hE a1 hc.1 hc.2
    have hS' := hS hc b X hb hO hA hP
    rw [if_pos hc, hb]
    refine (?_ : R (_, _, .ref b :: [], w, 0, 0))
    obtain ⟨f', c', x0, x1, x2, g1, g2, g3, g4⟩ := X
    obtain ⟨q0, q1, q2, q3, q4⟩ := hO
    replace hS' : Q (some (.int (Int32.ofInt (if (0 ≤ a2 ∧ a2 ≤ 5460) ∧ (0 ≤ a3 ∧ a3 < x1) then cBY g1 g2 g3 g4 a3 a2 else -1)))) w := hS'
    replace hk : 0 ≤ x1 ∧ x1 ≤ 5 := hk
    iterate 4 refine hR (?_ : R (_, _, _, _, _, _))
    refine hR (zcall_i 0 0 (Nat.le_refl _) (Nat.le_refl _) (c_isText w _ a2 (by omega) _ fun v hv => ?_))
    refine (?_ : R (_, _, .int (Int32.ofInt v) :: [], w, 0, 0))
    refine hR (k_eq (by omega) (fun hv2 => bad _ (by rw [if_neg (by omega)] at hS'; exact hS')) (fun hv2 => ?_))
    iterate 2 refine hR (?_ : R (_, _, _, _, _, _))
    refine hR (c_obj q0 (zcall_i 0 0 (Nat.le_refl _) (Nat.le_refl _) (x_bHas w _ b a3 x0 x1 x2 q0 (by omega) _ fun v3 hv3 => ?_)))
    refine (?_ : R (_, _, .int (Int32.ofInt v3) :: [], w, 0, 0))
    refine hR (k_ne (by omega) (fun hv4 => ?_) (fun hv4 => bad _ (by rw [if_neg (by omega)] at hS'; exact hS')))
    rw [if_pos (by omega)] at hS'
    iterate 3 refine hR (?_ : R (_, _, _, _, _, _))
    refine hR (c_obj q0 (zcall_i 0 0 (Nat.le_refl _) (Nat.le_refl _) (x_bRead hA _ a3 a2 (by omega) (by omega) _ ?_)))
    refine (?_ : R (_, _, .int (Int32.ofInt _) :: [], w, 0, 0))
    exact hR (zret_i rfl (Nat.le_refl _) trivial hS')
  · rw [if_neg hc]
    refine (?_ : R (_, _, .null :: [], w, 0, 0))
    iterate 3 refine hR (?_ : R (_, _, _, _, _, _))
    exact bad _ (hN (by omega))
