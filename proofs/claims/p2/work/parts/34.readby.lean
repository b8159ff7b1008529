section CN
variable {R : zS → Prop} {np : Nat} {L : zL} {S : List Value} {w : zW} {k n : Nat}
theorem c_aldN {q len i : Nat} {g : Nat → Int32} {x : Int32} (h2 : zix w q = some (.inl (1, len, .inl g))) (h1 : i < len) (hl : len ≤ 60000) (hx : g i = x) (hk : R (np, L, .int x :: S, w, k, n)) : zai w q (fun ti len g => zif (Nat.beq ti 1) (vp_in (nI i) len ∧ R (np, L, .int (g (nI i).toNatClampNeg) :: S, w, k, n))) := by
  unfold zai
  rw [h2]
  refine ⟨pk_in i len h1 rfl (by omega), ?_⟩
  rw [pk_cl i rfl (by omega), hx]
  exact hk
end CN
/-- a told BOOK at q, as it stands -/
def bkAt (w : zW) (q : Nat) (gk gs gi gn : Nat → Int32) : Prop := (∃ x0 x1 x2 : Int, zix w q = some (.inr (0, [.int (Int32.ofInt x0), .int (Int32.ofInt x1), .int (Int32.ofInt x2), .ref (q + 1), .ref (q + 2), .ref (q + 3), .ref (q + 4)]))) ∧ (zix w (q + 1) = some (.inl (1, 4, .inl gk))) ∧ (zix w (q + 2) = some (.inl (1, 5, .inl gs))) ∧ (zix w (q + 3) = some (.inl (1, 20, .inl gi))) ∧ (zix w (q + 4) = some (.inl (1, 20, .inl gn))) ∧ (zB 0 3 gk) ∧ (zB 0 4 gs) ∧ (zB 0 4 gi) ∧ (zB 0 6 gn) ∧ (∀ j, j < 20 → ((gi j).toInt = 0 → (gn j).toInt ≤ 3) ∧ (1 ≤ (gi j).toInt → (gi j).toInt ≤ 3 → 1 ≤ (gn j).toInt))
theorem bkAt.ob {w : zW} {q : Nat} {gk gs gi gn : Nat → Int32} (h : bkAt w q gk gs gi gn) : ∃ x0 x1 x2 : Int, zix w q = some (.inr (0, [.int (Int32.ofInt x0), .int (Int32.ofInt x1), .int (Int32.ofInt x2), .ref (q + 1), .ref (q + 2), .ref (q + 3), .ref (q + 4)])) := h.1
theorem bkAt.kin {w : zW} {q : Nat} {gk gs gi gn : Nat → Int32} (h : bkAt w q gk gs gi gn) : zix w (q + 1) = some (.inl (1, 4, .inl gk)) := h.2.1
theorem bkAt.steps {w : zW} {q : Nat} {gk gs gi gn : Nat → Int32} (h : bkAt w q gk gs gi gn) : zix w (q + 2) = some (.inl (1, 5, .inl gs)) := h.2.2.1
theorem bkAt.kinds {w : zW} {q : Nat} {gk gs gi gn : Nat → Int32} (h : bkAt w q gk gs gi gn) : zix w (q + 3) = some (.inl (1, 20, .inl gi)) := h.2.2.2.1
theorem bkAt.nums {w : zW} {q : Nat} {gk gs gi gn : Nat → Int32} (h : bkAt w q gk gs gi gn) : zix w (q + 4) = some (.inl (1, 20, .inl gn)) := h.2.2.2.2.1
theorem bkAt.bk {w : zW} {q : Nat} {gk gs gi gn : Nat → Int32} (h : bkAt w q gk gs gi gn) : zB 0 3 gk := h.2.2.2.2.2.1
theorem bkAt.bs {w : zW} {q : Nat} {gk gs gi gn : Nat → Int32} (h : bkAt w q gk gs gi gn) : zB 0 4 gs := h.2.2.2.2.2.2.1
theorem bkAt.bi {w : zW} {q : Nat} {gk gs gi gn : Nat → Int32} (h : bkAt w q gk gs gi gn) : zB 0 4 gi := h.2.2.2.2.2.2.2.1
theorem bkAt.bn {w : zW} {q : Nat} {gk gs gi gn : Nat → Int32} (h : bkAt w q gk gs gi gn) : zB 0 6 gn := h.2.2.2.2.2.2.2.2.1
theorem bkAt.rel {w : zW} {q : Nat} {gk gs gi gn : Nat → Int32} (h : bkAt w q gk gs gi gn) : ∀ j, j < 20 → ((gi j).toInt = 0 → (gn j).toInt ≤ 3) ∧ (1 ≤ (gi j).toInt → (gi j).toInt ≤ 3 → 1 ≤ (gn j).toInt) := h.2.2.2.2.2.2.2.2.2
theorem nI_g {lo hi : Int} {g : Nat → Int32} (h : zB lo hi g) (h0 : 0 ≤ lo) (j : Nat) : g j = nI (g j).toInt.toNat := by
  have h1 := (h j).1
  have e : ((g j).toInt.toNat : Int) = (g j).toInt := Int.toNat_of_nonneg (by omega)
  show g j = Int32.ofInt ((g j).toInt.toNat : Int)
  rw [e, zoi]
theorem bkAt_of {ρ : Nat → Nat} {w : zW} (hw : CI ρ w) {q : Nat} (hq : ρ q = 20) : ∃ gk gs gi gn, bkAt w q gk gs gi gn := by
  obtain ⟨x0, x1, x2, hO, _, _, _, r1, r2, r3, r4⟩ := CI_o20 hw hq
  obtain ⟨gk, k1, k2⟩ := CI_ar hw (q := q + 1) (by rw [r1]; rfl)
  obtain ⟨gs, s1, s2⟩ := CI_ar hw (q := q + 2) (by rw [r2]; rfl)
  obtain ⟨gi, i1, i2⟩ := CI_ar hw (q := q + 3) (by rw [r3]; rfl)
  obtain ⟨gn, n1, n2⟩ := CI_ar hw (q := q + 4) (by rw [r4]; rfl)
  obtain ⟨_, gk', gn', a1, a2, a3⟩ := hw.2.2 (q + 3) r3
  rw [i1] at a1
  rw [show q + 3 + 1 = q + 4 from rfl, n1] at a2
  cases a1
  cases a2
  exact ⟨gk, gs, _, _, ⟨x0, x1, x2, hO⟩, k1, s1, i1, n1, k2, s2, i2, n2, a3⟩
theorem b_shifted {w : zW} {q : Nat} {gk gs gi gn : Nat → Int32} (hb : bkAt w q gk gs gi gn) (d B l k : Nat) (hv : vB l B) (hk : k < 4) (Q : zQ) (h : Q (some (.int (nI (fSh B (k ^^^ (gk k).toInt.toNat) k l)))) w) : zCl zTab (d + 1) iX0_shifted [.ref q, .int (nI B), .int (nI l), .int (nI k)] w 0 0 Q := by
  obtain ⟨x0, x1, x2, hO⟩ := hb.ob
  have hg := nI_g hb.bk (by decide) k
  have hc4 : (gk k).toInt.toNat < 4 := by have := hb.bk k; omega
  generalize (gk k).toInt.toNat = c0 at hg hc4 h
  have hc : k ^^^ c0 < 4 := Nat.xor_lt_two_pow (n := 2) hk hc4
  have hl := hv.1
  have hB := (vB_lt hv).1
  refine zCl_i (M := kX0_shifted) rfl (Nat.le_of_ble_eq_true rfl) fun R hR => ?_
  have loop : ∀ (N i : Nat), i ≤ l → l - i < N → R (16, [some (.ref q), some (.int (nI B)), some (.int (nI l)), some (.int (nI k)), some (.int (nI k ^^^ nI c0)), some (.int (nI (fSh B (k ^^^ c0) k i))), some (.int (nI i))], [], w, 0, 0) := by
    intro N
    induction N with
    | zero => intros; omega
    | succ N ih =>
      intro i h1 hN
      iterate 2 refine hR (?_ : R (_, _, _, _, _, _))
      refine hR (pk_le l i (fun z => ?_) (fun z => ?_) rfl rfl)
      · refine hR (?_ : R (_, _, _, _, _, _))
        have e : i = l := by omega
        subst e
        exact hR (zret_i rfl (Nat.le_refl _) trivial h)
      · iterate 8 refine hR (?_ : R (_, _, _, _, _, _))
        have e2 : nI i + Int32.ofInt 1 = nI (i + 1) := by rw [nI1, nI_add]
        have key := ih (i + 1) (by omega) (by omega)
        have hm : B / 4 ^ i % 4 < 4 := Nat.mod_lt _ (by decide)
        refine hR (And.symm (pk_eq (B / 4 ^ i % 4) k (fun z2 => ?_) (fun z2 => ?_) (n_w (by omega) (by omega)) rfl))
        rotate_left
        · iterate 2 refine hR (?_ : R (_, _, _, _, _, _))
          have e1 : fSh B (k ^^^ c0) k (i + 1) = fSh B (k ^^^ c0) k i := by rw [fSh, if_neg z2]
          rw [← e2, e1] at key
          exact key
        · iterate 10 refine hR (?_ : R (_, _, _, _, _, _))
          have e1 : nI (fSh B (k ^^^ c0) k i) ^^^ ((nI k ^^^ nI c0) <<< (Int32.ofInt 2 * nI i &&& 31)) = nI (fSh B (k ^^^ c0) k (i + 1)) := by
            rw [n_xor k c0, n_a2, n_sl (by omega) (n_ml (by omega) (by omega)), n_xor, fSh, if_pos z2]
          rw [← e2, ← e1] at key
          exact key
  iterate 2 refine hR (?_ : R (_, _, _, _, _, _))
  refine hR (c_get hO rfl ?_)
  refine hR (?_ : R (_, _, _, _, _, _))
  refine hR (c_aldN hb.kin hk (by decide) hg ?_)
  iterate 6 refine hR (?_ : R (_, _, _, _, _, _))
  exact loop (l + 1) 0 (by omega) (by omega)
def fOn (gk : Nat → Int32) (B l : Nat) (κ : Int) (k : Nat) : Nat :=
  if κ = 0 then fSh B (k ^^^ (gk k).toInt.toNat) k l
  else if κ = 1 then (if k ≤ l then fDr B (l - k) else B)
  else if κ = 2 then (if l < k ∨ 6 ≤ l then B else fDb B (l - k))
  else if κ = 3 then (if k < l then fSw B (l - k - 1) else B)
  else fTu B l
def fOl (l : Nat) (κ : Int) (k : Nat) : Nat := if κ = 1 ∧ k ≤ l then l - 1 else if κ = 2 ∧ k ≤ l ∧ l < 6 then l + 1 else l
theorem vB_fOn {gk : Nat → Int32} (hk3 : zB 0 3 gk) {B l k : Nat} {κ : Int} (hv : vB l B) (h0 : κ = 0 → k ≤ 3) (h1 : 1 ≤ κ → κ ≤ 3 → 1 ≤ k) : vB (fOl l κ k) (fOn gk B l κ k) := by
  have hl := hv.1
  unfold fOl fOn
  by_cases c0 : κ = 0
  · rw [if_neg (by omega), if_neg (by omega), if_pos c0]
    refine vB_fSh hv (Nat.xor_lt_two_pow (n := 2) ?_ ?_) l (Nat.le_refl _)
    · have := h0 c0; omega
    · have := hk3 k; omega
  rw [if_neg c0]
  by_cases c1 : κ = 1
  · rw [if_pos c1]
    have := h1 (by omega) (by omega)
    by_cases c : k ≤ l
    · rw [if_pos ⟨c1, c⟩, if_pos c]
      exact vB_fDr hv (by omega)
    · rw [if_neg (by omega), if_neg (by omega), if_neg c]
      exact hv
  rw [if_neg (fun z => c1 z.1), if_neg c1]
  by_cases c2 : κ = 2
  · rw [if_pos c2]
    have := h1 (by omega) (by omega)
    by_cases c : k ≤ l ∧ l < 6
    · rw [if_pos ⟨c2, c⟩, if_neg (by omega)]
      exact vB_fDb hv (by omega) c.2
    · rw [if_neg (by omega), if_pos (by omega)]
      exact hv
  rw [if_neg (fun z => c2 z.1), if_neg c2]
  by_cases c3 : κ = 3
  · rw [if_pos c3]
    have := h1 (by omega) (by omega)
    split
    · exact vB_fSw hv (by omega)
    · exact hv
  · rw [if_neg c3]
    exact vB_fTu l hl
theorem b_stepOn {w : zW} {q : Nat} {gk gs gi gn : Nat → Int32} (hb : bkAt w q gk gs gi gn) (d B l k : Nat) (κ : Int) (hκ : 0 ≤ κ ∧ κ ≤ 4) (hv : vB l B) (hk : k ≤ 6) (hk0 : κ = 0 → k ≤ 3) (hk1 : 1 ≤ κ → κ ≤ 3 → 1 ≤ k) (Q : zQ) (h : Q (some (.int (nI (fOn gk B l κ k)))) w) : zCl zTab (d + 2) iX0_stepOn [.ref q, .int (nI B), .int (Int32.ofInt κ), .int (nI k)] w 0 0 Q := by
  obtain ⟨x0, x1, x2, hO⟩ := hb.ob
  have hl := hv.1
  have hB := (vB_lt hv).1
  have h2 : ∀ z, z = nI (fOn gk B l κ k) → Q (some (.int z)) w := fun z hz => by rw [hz]; exact h
  refine zCl_i (M := kX0_stepOn) rfl (Nat.le_of_ble_eq_true rfl) fun R hR => ?_
  refine hR (?_ : R (_, _, _, _, _, _))
  refine hR (zcall_i 0 0 (Nat.le_of_ble_eq_true rfl) (Nat.le_of_ble_eq_true rfl) (b_lengthOfBits _ _ B l hv _ ?_))
  iterate 2 refine hR (?_ : R (_, _, _, _, _, _))
  refine hR (?_ : _ ∧ _)
  rw [zti (e := κ) (by omega) (by omega)]
  refine ⟨fun hs => ?_, fun hs => ?_⟩
  · have e4 : κ = 4 := by omega
    iterate 2 refine hR (?_ : R (_, _, _, _, _, _))
    refine hR (zcall_i 0 0 (Nat.le_of_ble_eq_true rfl) (Nat.le_of_ble_eq_true rfl) (b_turned _ _ B l hB hl _ ?_))
    refine hR (zret_i rfl (Nat.le_refl _) trivial (h2 _ ?_))
    unfold fOn
    rw [if_neg (by omega), if_neg (by omega), if_neg (by omega), if_neg (by omega)]
  · have hd : κ = 0 ∨ κ = 1 ∨ κ = 2 ∨ κ = 3 := by omega
    rcases hd with e | e | e | e
    · refine ⟨29, by rw [e]; rfl, (?_ : R (_, _, _, _, _, _))⟩
      iterate 4 refine hR (?_ : R (_, _, _, _, _, _))
      refine hR (c_obj hO (zcall_i 0 0 (Nat.le_of_ble_eq_true rfl) (Nat.le_of_ble_eq_true rfl) (b_shifted hb _ B l k hv (by have := hk0 e; omega) _ ?_)))
      refine hR (zret_i rfl (Nat.le_refl _) trivial (h2 _ ?_))
      unfold fOn
      rw [if_pos e]
    · refine ⟨38, by rw [e]; rfl, (?_ : R (_, _, _, _, _, _))⟩
      have := hk1 (by omega) (by omega)
      iterate 2 refine hR (?_ : R (_, _, _, _, _, _))
      refine hR (pk_le k l (fun z => ?_) (fun z => ?_) rfl rfl)
      · iterate 4 refine hR (?_ : R (_, _, _, _, _, _))
        have es : nI l - nI k = nI (l - k) := pk_sub z
        refine hR ?_
        rw [es]
        refine zcall_i 0 0 (Nat.le_of_ble_eq_true rfl) (Nat.le_of_ble_eq_true rfl) (b_dropped _ _ B (l - k) hB (by omega) _ ?_)
        refine hR (zret_i rfl (Nat.le_refl _) trivial (h2 _ ?_))
        unfold fOn
        rw [if_neg (by omega), if_pos e, if_pos z]
      · iterate 2 refine hR (?_ : R (_, _, _, _, _, _))
        refine hR (zret_i rfl (Nat.le_refl _) trivial (h2 _ ?_))
        unfold fOn
        rw [if_neg (by omega), if_pos e, if_neg (by omega)]
    · refine ⟨57, by rw [e]; rfl, (?_ : R (_, _, _, _, _, _))⟩
      have := hk1 (by omega) (by omega)
      iterate 2 refine hR (?_ : R (_, _, _, _, _, _))
      have stay : l < k ∨ 6 ≤ l → R (77, [some (.ref q), some (.int (nI B)), some (.int (Int32.ofInt κ)), some (.int (nI k)), some (.int (nI l))], [], w, 0, 0) := by
        intro z
        iterate 2 refine hR (?_ : R (_, _, _, _, _, _))
        refine hR (zret_i rfl (Nat.le_refl _) trivial (h2 _ ?_))
        unfold fOn
        rw [if_neg (by omega), if_neg (by omega), if_pos e, if_pos z]
      refine hR (pk_lt l k (fun z => stay (.inl z)) (fun z => ?_) rfl rfl)
      iterate 2 refine hR (?_ : R (_, _, _, _, _, _))
      refine hR (pk_lt l 6 (fun z2 => ?_) (fun z2 => stay (.inr z2)) rfl nI6)
      iterate 4 refine hR (?_ : R (_, _, _, _, _, _))
      have es : nI l - nI k = nI (l - k) := pk_sub z
      refine hR ?_
      rw [es]
      refine zcall_i 0 0 (Nat.le_of_ble_eq_true rfl) (Nat.le_of_ble_eq_true rfl) (b_doubled _ _ B (l - k) hB (by omega) _ ?_)
      refine hR (zret_i rfl (Nat.le_refl _) trivial (h2 _ ?_))
      unfold fOn
      rw [if_neg (by omega), if_neg (by omega), if_pos e, if_neg (by omega)]
    · refine ⟨83, by rw [e]; rfl, (?_ : R (_, _, _, _, _, _))⟩
      have := hk1 (by omega) (by omega)
      iterate 2 refine hR (?_ : R (_, _, _, _, _, _))
      refine hR (pk_lt k l (fun z => ?_) (fun z => ?_) rfl rfl)
      · iterate 6 refine hR (?_ : R (_, _, _, _, _, _))
        have es : nI l - nI k - Int32.ofInt 1 = nI (l - k - 1) := by rw [nI1, pk_sub (by omega), pk_sub (by omega)]
        refine hR ?_
        rw [es]
        refine zcall_i 0 0 (Nat.le_of_ble_eq_true rfl) (Nat.le_of_ble_eq_true rfl) (b_swapped _ _ B (l - k - 1) hB (by omega) _ ?_)
        refine hR (zret_i rfl (Nat.le_refl _) trivial (h2 _ ?_))
        unfold fOn
        rw [if_neg (by omega), if_neg (by omega), if_neg (by omega), if_pos e, if_pos z]
      · iterate 2 refine hR (?_ : R (_, _, _, _, _, _))
        refine hR (zret_i rfl (Nat.le_refl _) trivial (h2 _ ?_))
        unfold fOn
        rw [if_neg (by omega), if_neg (by omega), if_neg (by omega), if_pos e, if_neg (by omega)]
/-- the bits and the length behind i steps of a reader's -/
def fRd (gk gi gn : Nat → Int32) (r : Nat) (B l : Nat) : Nat → Nat × Nat
  | 0 => (B, l)
  | i + 1 => (fOn gk (fRd gk gi gn r B l i).1 (fRd gk gi gn r B l i).2 (gi (r * 4 + i)).toInt (gn (r * 4 + i)).toInt.toNat, fOl (fRd gk gi gn r B l i).2 (gi (r * 4 + i)).toInt (gn (r * 4 + i)).toInt.toNat)
theorem vB_fRd {w : zW} {q : Nat} {gk gs gi gn : Nat → Int32} (hb : bkAt w q gk gs gi gn) {r B l : Nat} (hr : r < 5) (hv : vB l B) : ∀ i, i ≤ 4 → vB (fRd gk gi gn r B l i).2 (fRd gk gi gn r B l i).1
  | 0, _ => hv
  | i + 1, hi => by
    have hq := hb.rel (r * 4 + i) (by omega)
    have hn := hb.bn (r * 4 + i)
    exact vB_fOn hb.bk (vB_fRd hb hr hv i (by omega)) (fun z => by have := hq.1 z; omega) (fun z1 z2 => by have := hq.2 z1 z2; omega)
def fBy (gk gs gi gn : Nat → Int32) (r t : Nat) : Nat := fNo (fRd gk gi gn r (tB t) (tLen t) (gs r).toInt.toNat).1 (fRd gk gi gn r (tB t) (tLen t) (gs r).toInt.toNat).2
theorem fBy_lt {w : zW} {q : Nat} {gk gs gi gn : Nat → Int32} (hb : bkAt w q gk gs gi gn) {r t : Nat} (hr : r < 5) (ht : t < 5461) : fBy gk gs gi gn r t ≤ 5460 := by
  refine fNo_lt (vB_fRd hb hr (vB_tB ht) _ ?_)
  have := hb.bs r
  omega
theorem b_readBy {w : zW} {q : Nat} {gk gs gi gn : Nat → Int32} (hb : bkAt w q gk gs gi gn) (d r t : Nat) (hr : r < 5) (ht : t < 5461) (Q : zQ) (h : Q (some (.int (nI (fBy gk gs gi gn r t)))) w) : zCl zTab (d + 3) iX0_readBy [.ref q, .int (nI r), .int (nI t)] w 0 0 Q := by
  obtain ⟨x0, x1, x2, hO⟩ := hb.ob
  have hs := hb.bs r
  have eS := nI_g hb.bs (by decide) r
  unfold fBy at h
  generalize hn : (gs r).toInt.toNat = n at h eS
  have hn4 : n ≤ 4 := by omega
  have hv0 := vB_tB ht
  refine zCl_i (M := kX0_readBy) rfl (Nat.le_of_ble_eq_true rfl) fun R hR => ?_
  have loop : ∀ (N i : Nat) (o : Option Value), zc2 o = false → i ≤ n → n - i < N → R (8, [some (.ref q), some (.int (nI r)), some (.int (nI t)), some (.int (nI (fRd gk gi gn r (tB t) (tLen t) i).1)), some (.int (nI i)), o], [], w, 0, 0) := by
    intro N
    induction N with
    | zero => intros; omega
    | succ N ih =>
      intro i o ho h1 hN
      have hvi := vB_fRd hb hr hv0 i (by omega)
      iterate 2 refine hR (?_ : R (_, _, _, _, _, _))
      refine hR (c_get hO rfl ?_)
      refine hR (?_ : R (_, _, _, _, _, _))
      refine hR (c_aldN hb.steps (by omega) (by decide) eS ?_)
      refine hR (pk_le n i (fun z => ?_) (fun z => ?_) rfl rfl)
      · refine hR (?_ : R (_, _, _, _, _, _))
        have e : i = n := by omega
        subst e
        refine hR (zcall_i 0 0 (Nat.le_of_ble_eq_true rfl) (Nat.le_of_ble_eq_true rfl) (b_numberOfBits _ _ _ _ hvi _ ?_))
        exact hR (zret_i rfl (Nat.le_refl _) trivial h)
      · have ej : nI r * Int32.ofInt 4 + nI i = nI (r * 4 + i) := by rw [nI4, pk_mul, nI_add]
        have key : ∀ y : Int32, y = nI (r * 4 + i) → R (27, [some (.ref q), some (.int (nI r)), some (.int (nI t)), some (.int (nI (fRd gk gi gn r (tB t) (tLen t) i).1)), some (.int (nI i)), some (.int y)], [], w, 0, 0) := by
          intro y hy
          subst hy
          have hrel := hb.rel (r * 4 + i) (by omega)
          have hi4 := hb.bi (r * 4 + i)
          have hn6 := hb.bn (r * 4 + i)
          iterate 3 refine hR (?_ : R (_, _, _, _, _, _))
          refine hR (c_get hO rfl ?_)
          refine hR (?_ : R (_, _, _, _, _, _))
          refine hR (c_aldN hb.kinds (by omega) (by decide) (zoi (gi (r * 4 + i))).symm ?_)
          refine hR (?_ : R (_, _, _, _, _, _))
          refine hR (c_get hO rfl ?_)
          refine hR (?_ : R (_, _, _, _, _, _))
          refine hR (c_aldN hb.nums (by omega) (by decide) (nI_g hb.bn (by decide) (r * 4 + i)) ?_)
          refine hR (c_obj hO (zcall_i 0 0 (Nat.le_of_ble_eq_true rfl) (Nat.le_of_ble_eq_true rfl) (b_stepOn hb _ _ _ (gn (r * 4 + i)).toInt.toNat (gi (r * 4 + i)).toInt hi4 hvi (by omega) (fun z => by have := hrel.1 z; omega) (fun z1 z2 => by have := hrel.2 z1 z2; omega) _ ?_)))
          have k2 := ih (i + 1) (some (.int (nI (r * 4 + i)))) rfl (by omega) (by omega)
          have e2 : nI i + Int32.ofInt 1 = nI (i + 1) := by rw [nI1, nI_add]
          rw [← e2] at k2
          iterate 3 refine hR (?_ : R (_, _, _, _, _, _))
          exact k2
        have k3 := key _ ej
        iterate 6 refine hR (?_ : R (_, _, _, _, _, _))
        exact k3
  refine hR (?_ : R (_, _, _, _, _, _))
  refine hR (zcall_i 0 0 (Nat.le_of_ble_eq_true rfl) (Nat.le_of_ble_eq_true rfl) (r_bitsOf _ _ t rfl ht _ _ ?_))
  iterate 3 refine hR (?_ : R (_, _, _, _, _, _))
  exact loop (n + 1) 0 none rfl (by omega) (by omega)
theorem c_readBy {ρ : Nat → Nat} {w : zW} (d b : Nat) (a1 a2 : Int) (hw : CI ρ w) (hρb : ρ b = 20) (hr0 : 0 ≤ a1 ∧ a1 ≤ 4) (hr1 : 0 ≤ a2 ∧ a2 ≤ 5460) (Q : zQ) (h : ∀ (v : Int), (0 ≤ v ∧ v ≤ 5460) → Q (some (.int (Int32.ofInt v))) w) : zCl zTab (d + 3) iX0_readBy [.ref b, .int (Int32.ofInt a1), .int (Int32.ofInt a2)] w 0 0 Q := by
  obtain ⟨gk, gs, gi, gn, hb⟩ := bkAt_of hw hρb
  obtain ⟨r, rfl⟩ := Int.eq_ofNat_of_zero_le hr0.1
  obtain ⟨t, rfl⟩ := Int.eq_ofNat_of_zero_le hr1.1
  have hl := fBy_lt hb (r := r) (t := t) (by omega) (by omega)
  exact b_readBy hb d r t (by omega) (by omega) Q (h (fBy gk gs gi gn r t : Nat) ⟨by omega, by omega⟩)
theorem c_lengthOf (w : zW) (d : Nat) (a1 : Int) (hr0 : 0 ≤ a1 ∧ a1 ≤ 5460) (Q : zQ) (h : ∀ (v : Int), (v = (tLen a1.toNat : Int) ∧ 0 ≤ v ∧ v ≤ 6) → Q (some (.int (Int32.ofInt v))) w) : zCl zTab (d + 1) iX11_lengthOf [.int (Int32.ofInt a1)] w 0 0 Q := by
  obtain ⟨t, rfl⟩ := Int.eq_ofNat_of_zero_le hr0.1
  have hl := tLen_le t
  exact r_lengthOf d _ t rfl (by omega) w Q (h (tLen t : Nat) ⟨rfl, by omega, by omega⟩)
theorem c_bitsOf (w : zW) (d : Nat) (a1 : Int) (hr0 : 0 ≤ a1 ∧ a1 ≤ 5460) (Q : zQ) (h : ∀ (v : Int), (v = (tB a1.toNat : Int) ∧ 0 ≤ v ∧ v ≤ 8191) → Q (some (.int (Int32.ofInt v))) w) : zCl zTab (d + 2) iX11_bitsOf [.int (Int32.ofInt a1)] w 0 0 Q := by
  obtain ⟨t, rfl⟩ := Int.eq_ofNat_of_zero_le hr0.1
  have hl := tSh_le t (by omega)
  exact r_bitsOf d _ t rfl (by omega) w Q (h (tB t : Nat) ⟨rfl, by omega, by omega⟩)
theorem c_wordOfBits (w : zW) (d : Nat) (a1 a2 : Int) (hr0 : 0 ≤ a1 ∧ a1 ≤ 2147483647) (hr1 : 0 ≤ a2 ∧ a2 ≤ 6) (Q : zQ) (h : ∀ (v : Int), (0 ≤ v ∧ v ≤ 3) → Q (some (.int (Int32.ofInt v))) w) : zCl zTab (d + 1) iX11_wordOfBits [.int (Int32.ofInt a1), .int (Int32.ofInt a2)] w 0 0 Q := by
  obtain ⟨t, rfl⟩ := Int.eq_ofNat_of_zero_le hr0.1
  obtain ⟨j, rfl⟩ := Int.eq_ofNat_of_zero_le hr1.1
  have hm : t / 4 ^ j % 4 < 4 := Nat.mod_lt _ (by decide)
  exact r_wordOfBits d _ _ t j rfl (by omega) rfl (by omega) w Q (h (t / 4 ^ j % 4 : Nat) ⟨by omega, by omega⟩)
theorem c_wordAt (w : zW) (d : Nat) (a1 a2 : Int) (hr0 : 0 ≤ a1 ∧ a1 ≤ 5460) (hr1 : 0 ≤ a2 ∧ a2 < (tLen a1.toNat : Int)) (Q : zQ) (h : ∀ (v : Int), (0 ≤ v ∧ v ≤ 3) → Q (some (.int (Int32.ofInt v))) w) : zCl zTab (d + 3) iX11_wordAt [.int (Int32.ofInt a1), .int (Int32.ofInt a2)] w 0 0 Q := by
  obtain ⟨t, rfl⟩ := Int.eq_ofNat_of_zero_le hr0.1
  obtain ⟨j, rfl⟩ := Int.eq_ofNat_of_zero_le hr1.1
  have hm : tW t j < 4 := Nat.mod_lt _ (by decide)
  exact r_wordAt d _ _ t j rfl (by omega) rfl (by have := hr1.2; simpa using this) w Q (h (tW t j : Nat) ⟨by omega, by omega⟩)
theorem c_driftOf (w : zW) (d : Nat) (a1 a2 : Int) (hr0 : 0 ≤ a1 ∧ a1 ≤ 5460) (hr1 : 0 ≤ a2 ∧ a2 ≤ 5460) (Q : zQ) (h : ∀ (v : Int), (-2147483648 ≤ v ∧ v ≤ 2147483647) → Q (some (.int (Int32.ofInt v))) w) : zCl zTab (d + 3) iX11_driftOf [.int (Int32.ofInt a1), .int (Int32.ofInt a2)] w 0 0 Q := by
  obtain ⟨t, rfl⟩ := Int.eq_ofNat_of_zero_le hr0.1
  obtain ⟨j, rfl⟩ := Int.eq_ofNat_of_zero_le hr1.1
  refine r_driftOf d _ _ t j rfl (by omega) rfl (by omega) w Q ?_
  have := h (nI (eD (ue t) (ue j) (tLen t) (tLen j))).toInt (zrg _)
  rw [zoi] at this
  exact this
