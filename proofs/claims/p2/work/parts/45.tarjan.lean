/-! CIRCLES: what is found, what is open, the way. -/
def TI (fo op de : Int) (gO gP gW : Nat → Int32) : Prop := 0 ≤ de ∧ 0 ≤ op ∧ op ≤ fo ∧ (∃ ls : Nat → Nat, ∀ i : Nat, (i : Int) < fo → ls i < 5461 ∧ (gO (ls i)).toInt = i) ∧ ∃ pos : Nat → Nat, (∀ i j : Nat, i < j → (j : Int) < de → pos i < pos j) ∧ ∀ i : Nat, (i : Int) < de → ((pos i : Nat) : Int) < op ∧ gP (pos i) = gW i
theorem ti_de {fo op de : Int} {gO gP gW : Nat → Int32} (h : TI fo op de gO gP gW) : de ≤ op := by
  obtain ⟨h0, h1, h2, _, pos, h4, h5⟩ := h
  have := pg_hole op.toNat de.toNat pos (fun i hi => by have := (h5 i (by omega)).1; omega) (fun i j hi hj e => by
    by_cases c : i < j
    · have := h4 i j c (by omega); omega
    · by_cases c2 : j < i
      · have := h4 j i c2 (by omega); omega
      · omega)
  omega
theorem ti_lt {fo op de : Int} {gO gP gW : Nat → Int32} (h : TI fo op de gO gP gW) {a : Nat} (ha : a < 5461) (hn : (gO a).toInt = -1) : fo < 5461 := by
  obtain ⟨h0, h1, h2, ⟨ls, h3⟩, _⟩ := h
  have := pg_hole 5461 (fo.toNat + 1) (fun i => if i < fo.toNat then ls i else a) (fun i hi => by
    split
    · exact (h3 i (by omega)).1
    · exact ha) (fun i j hi hj e => by
    split at e <;> split at e
    · have e1 := (h3 i (by omega)).2
      have e2 := (h3 j (by omega)).2
      rw [e] at e1
      omega
    · have e1 := (h3 i (by omega)).2
      rw [e] at e1
      omega
    · have e1 := (h3 j (by omega)).2
      rw [← e] at e1
      omega
    · omega)
  omega
theorem ti_enter {fo op de : Int} {gO gP gW : Nat → Int32} (h : TI fo op de gO gP gW) {a : Int} (ha : 0 ≤ a ∧ a ≤ 5460) (hn : (gO a.toNat).toInt = -1) : TI (fo + 1) (op + 1) (de + 1) (upd gO a.toNat (Int32.ofInt fo)) (upd gP op.toNat (Int32.ofInt a)) (upd gW de.toNat (Int32.ofInt a)) := by
  have hl := ti_lt h (a := a.toNat) (by omega) hn
  obtain ⟨h0, h1, h2, ⟨ls, h3⟩, pos, h4, h5⟩ := h
  refine ⟨by omega, by omega, by omega, ⟨fun i => if i < fo.toNat then ls i else a.toNat, fun i hi => ?_⟩, fun i => if i < de.toNat then pos i else op.toNat, fun i j hij hj => ?_, fun i hi => ?_⟩
  · dsimp only
    by_cases c : i < fo.toNat
    · rw [if_pos c]
      obtain ⟨b1, b2⟩ := h3 i (by omega)
      refine ⟨b1, ?_⟩
      rw [pk_un (fun e => by rw [e] at b2; omega)]
      exact b2
    · rw [if_neg c]
      refine ⟨by omega, ?_⟩
      rw [pk_us, zti (by omega) (by omega)]
      omega
  · dsimp only
    by_cases c : j < de.toNat
    · rw [if_pos (by omega), if_pos c]
      exact h4 i j hij (by omega)
    · rw [if_pos (by omega), if_neg c]
      have := (h5 i (by omega)).1
      omega
  · dsimp only
    by_cases c : i < de.toNat
    · rw [if_pos c]
      obtain ⟨b1, b2⟩ := h5 i (by omega)
      refine ⟨by omega, ?_⟩
      rw [pk_un (by omega), pk_un (by omega)]
      exact b2
    · rw [if_neg c]
      have e : i = de.toNat := by omega
      subst e
      refine ⟨by omega, ?_⟩
      rw [pk_us, pk_us]
/-- the way's last TEXT is left; what lies above its place is closed -/
theorem ti_leave {fo op de bo : Int} {gO gP gW : Nat → Int32} (h : TI fo op de gO gP gW) (hd : 1 ≤ de) (hb : 0 ≤ bo ∧ bo ≤ op) (hq : ∀ j : Nat, (j : Int) < op → gP j = gW (de - 1).toNat → (j : Int) ≤ bo) : TI fo bo (de - 1) gO gP gW := by
  obtain ⟨h0, h1, h2, h3, pos, h4, h5⟩ := h
  refine ⟨by omega, by omega, by omega, h3, pos, fun i j hij hj => h4 i j hij (by omega), fun i hi => ?_⟩
  obtain ⟨b1, b2⟩ := h5 i (by omega)
  refine ⟨?_, b2⟩
  obtain ⟨c1, c2⟩ := h5 (de - 1).toNat (by omega)
  have := hq _ c1 c2
  have := h4 i (de - 1).toNat (by omega) (by omega)
  omega
theorem ti_up {fo op de : Int} {gO gP gW : Nat → Int32} (h : TI fo op de gO gP gW) (hd : 1 ≤ de) : TI fo op (de - 1) gO gP gW := by
  obtain ⟨h0, h1, h2, h3, pos, h4, h5⟩ := h
  exact ⟨by omega, h1, h2, h3, pos, fun i j hij hj => h4 i j hij (by omega), fun i hi => h5 i (by omega)⟩
theorem ti_at {fo op de : Int} {gO gP gW : Nat → Int32} (h : TI fo op de gO gP gW) (hd : 1 ≤ de) : ∃ j : Nat, (j : Int) < op ∧ de - 1 ≤ j ∧ gP j = gW (de - 1).toNat := by
  have hk := h
  obtain ⟨h0, h1, h2, _, pos, h4, h5⟩ := h
  obtain ⟨c1, c2⟩ := h5 (de - 1).toNat (by omega)
  refine ⟨_, c1, ?_, c2⟩
  have := pg_hole (pos (de - 1).toNat) (de - 1).toNat pos (fun i hi => h4 i _ hi (by omega)) (fun i j hi hj e => by
    by_cases c : i < j
    · have := h4 i j c (by omega); omega
    · by_cases c2 : j < i
      · have := h4 j i c2 (by omega); omega
      · omega)
  omega
