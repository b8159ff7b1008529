theorem s_sm : ∀ n, n < 32 → ((nI n &&& 31).toBitVec.smod 32).toNat = n := by decide +kernel
theorem s_2p : ∀ n, n < 7 → Int32.ofInt 1 <<< (nI n &&& 31) = nI (2 ^ n) ∧ 2 ^ n ≤ 64 := by decide +kernel
theorem r_longer (d : Nat) (x y : Int32) (t v : Nat) (hx : x = nI t) (hy : y = nI v) (w : zW) (Q : zQ) (h : Q (some (.int (nI (4 * t + 1 + v)))) w) : zCl zTab (d + 1) iX11_longer [.int x, .int y] w 0 0 Q := by
  have h3 : ∀ z, z = nI (4 * t + 1 + v) → Q (some (.int z)) w := fun z hz => by rw [hz]; exact h
  refine zCl_i (M := kX11_longer) rfl (Nat.le_of_ble_eq_true rfl) fun R hR => ?_
  iterate 7 refine hR (?_ : R (_, _, _, _, _, _))
  exact hR (zret_i rfl (Nat.le_refl _) trivial (h3 _ (by rw [nI4, nI1, hx, hy, pk_mul, nI_add, nI_add])))
theorem s_bit {s k : Nat} (hs : s < 2 ^ 31) (hk : k < 32) : (nI s >>> (nI k &&& 31)) &&& Int32.ofInt 1 = nI (s / 2 ^ k % 2) := by
  rw [pk_shrN hs _ k (s_sm k hk), pk_andN (Nat.lt_of_le_of_lt (Nat.div_le_self _ _) (by omega)) 1 (by decide)]
theorem r_isIn (d : Nat) (x y : Int32) (s k : Nat) (hx : x = nI s) (hs : s < 2 ^ 31) (hy : y = nI k) (hk : k < 32) (w : zW) (Q : zQ) (h1 : s / 2 ^ k % 2 = 1 → Q (some (.int (Int32.ofInt 1))) w) (h0 : ¬ s / 2 ^ k % 2 = 1 → Q (some (.int (Int32.ofInt 0))) w) : zCl zTab (d + 1) iX11_isIn [.int x, .int y] w 0 0 Q := by
  refine zCl_i (M := kX11_isIn) rfl (Nat.le_of_ble_eq_true rfl) fun R hR => ?_
  have e : (x >>> (y &&& 31)) &&& Int32.ofInt 1 = nI (s / 2 ^ k % 2) := by rw [hx, hy, s_bit hs hk]
  have hl : s / 2 ^ k % 2 < 2 := Nat.mod_lt _ (by omega)
  iterate 5 refine hR (?_ : R (_, _, _, _, _, _))
  refine hR (pk_eq (s / 2 ^ k % 2) 0 (fun q => ?_) (fun q => ?_) e rfl)
  · refine hR (?_ : R (_, _, _, _, _, _))
    exact hR (zret_i rfl (Nat.le_refl _) (Or.inl rfl) (h0 (by omega)))
  · iterate 2 refine hR (?_ : R (_, _, _, _, _, _))
    exact hR (zret_i rfl (Nat.le_refl _) (Or.inr rfl) (h1 (by omega)))
theorem fnd_full (u : Nat → Nat) (l : List Nat) (k : Nat) (h : fnd u l k = l.length) : ∀ m, k ≤ m → fnd u l m = l.length
  | 0, hm => by rw [show k = 0 by omega] at h; exact h
  | m + 1, hm => by
    by_cases hk : k = m + 1
    · rw [← hk]; exact h
    · have h2 := fnd_full u l k h m (by omega)
      have e : fnd u l (m + 1) = fnd u l m := if_neg (fun q => by omega)
      omega
set_option maxHeartbeats 2000000 in
theorem r_isLeftOf (d : Nat) (x y : Int32) (l : List Nat) (b : Nat) (hx : x = nI (num l)) (hl : l.length ≤ 6) (hd : ∀ z ∈ l, z < 4) (hy : y = nI b) (hb : b < 5461) (w : zW) (Q : zQ) (h1 : isL (tW b) (tLen b) (num l) → Q (some (.int (Int32.ofInt 1))) w) (h0 : ¬ isL (tW b) (tLen b) (num l) → Q (some (.int (Int32.ofInt 0))) w) : zCl zTab (d + 4) iX11_isLeftOf [.int x, .int y] w 0 0 Q := by
  obtain ⟨n1, n2, n3⟩ := num_t l hl hd
  have hm := tLen_le b
  have hiff := isL_fnd (tW_lt b) hm hl hd
  refine zCl_i (M := kX11_isLeftOf) rfl (Nat.le_of_ble_eq_true rfl) fun R hR => ?_
  have fin : ∀ (f k : Int32) (f9 : Nat), f = nI f9 → f9 ≤ l.length → (f9 = l.length ↔ fnd (tW b) l (tLen b) = l.length) → R (52, [some (.int x), some (.int y), some (.int (nI (tLen (num l)))), some (.int (nI (tLen b))), some (.int f), some (.int k)], [], w, 0, 0) := by
    intro f k f9 hf hf9 he
    iterate 2 refine hR (?_ : R (_, _, _, _, _, _))
    refine hR (pk_eq f9 (tLen (num l)) (fun q => ?_) (fun q => ?_) hf rfl).symm
    · iterate 2 refine hR (?_ : R (_, _, _, _, _, _))
      exact hR (zret_i rfl (Nat.le_refl _) (Or.inr rfl) (h1 (hiff.mpr (he.mp (by omega)))))
    · refine hR (?_ : R (_, _, _, _, _, _))
      exact hR (zret_i rfl (Nat.le_refl _) (Or.inl rfl) (h0 (fun z => q (by have := he.mpr (hiff.mp z); omega))))
  have loop : ∀ (m9 k9 : Nat) (f k : Int32), k9 + m9 = tLen b → f = nI (fnd (tW b) l k9) → k = nI k9 → R (16, [some (.int x), some (.int y), some (.int (nI (tLen (num l)))), some (.int (nI (tLen b))), some (.int f), some (.int k)], [], w, 0, 0) := by
    intro m9
    induction m9 with
    | zero =>
      intro k9 f k hk9 hf hk
      iterate 2 refine hR (?_ : R (_, _, _, _, _, _))
      refine hR (pk_le (tLen b) k9 (fun _ => ?_) (fun z => by omega) rfl hk)
      exact fin f k _ hf (fnd_le _ _ _) (by rw [show k9 = tLen b by omega])
    | succ m9 ih =>
      intro k9 f k hk9 hf hk
      have hfl := fnd_le (tW b) l k9
      iterate 2 refine hR (?_ : R (_, _, _, _, _, _))
      refine hR (pk_le (tLen b) k9 (fun z => by omega) (fun _ => ?_) rfl hk)
      iterate 2 refine hR (?_ : R (_, _, _, _, _, _))
      refine hR (pk_le (tLen (num l)) (fnd (tW b) l k9) (fun q => ?_) (fun q => ?_) rfl hf)
      · have he : fnd (tW b) l k9 = l.length := by omega
        exact fin f k _ hf hfl ⟨fun _ => fnd_full _ _ _ he _ (by omega), fun _ => he⟩
      · iterate 2 refine hR (?_ : R (_, _, _, _, _, _))
        refine hR (zcall_i 0 0 (Nat.le_of_ble_eq_true rfl) (Nat.le_of_ble_eq_true rfl) (r_wordAt _ _ _ b k9 hy hb hk (by omega) _ _ ?_))
        iterate 2 refine hR (?_ : R (_, _, _, _, _, _))
        refine hR (zcall_i 0 0 (Nat.le_of_ble_eq_true rfl) (Nat.le_of_ble_eq_true rfl) (r_wordAt _ _ _ (num l) (fnd (tW b) l k9) hx n2 hf (by omega) _ _ ?_))
        have g1 := tW_lt b k9
        have g2 := tW_lt (num l) (fnd (tW b) l k9)
        have g3 := n3 (fnd (tW b) l k9) (by omega)
        refine hR (pk_eq (tW b k9) (tW (num l) (fnd (tW b) l k9)) (fun q2 => ?_) (fun q2 => ?_) rfl rfl).symm
        · iterate 3 refine hR (?_ : R (_, _, _, _, _, _))
          have e : fnd (tW b) l (k9 + 1) = fnd (tW b) l k9 + 1 := if_pos ⟨by omega, by rw [q2, g3]⟩
          exact ih (k9 + 1) _ _ (by omega) (by rw [hf, nI1, nI_add, e]) (by rw [hk, nI1, nI_add])
        · iterate 2 refine hR (?_ : R (_, _, _, _, _, _))
          have e : fnd (tW b) l (k9 + 1) = fnd (tW b) l k9 := if_neg (fun z => q2 (by rw [z.2, g3]))
          exact ih (k9 + 1) _ _ (by omega) (by rw [hf, e]) (by rw [hk, nI1, nI_add])
  refine hR (?_ : R (_, _, _, _, _, _))
  refine hR (zcall_i 0 0 (Nat.le_of_ble_eq_true rfl) (Nat.le_of_ble_eq_true rfl) (r_lengthOf _ _ (num l) hx n2 _ _ ?_))
  iterate 2 refine hR (?_ : R (_, _, _, _, _, _))
  refine hR (zcall_i 0 0 (Nat.le_of_ble_eq_true rfl) (Nat.le_of_ble_eq_true rfl) (r_lengthOf _ _ b hy hb _ _ ?_))
  iterate 5 refine hR (?_ : R (_, _, _, _, _, _))
  exact loop (tLen b) 0 _ _ (by omega) nI0 nI0
set_option maxHeartbeats 4000000 in
theorem r_mostShared (d : Nat) (x y : Int32) (a b : Nat) (hx : x = nI a) (ha : a < 5461) (hy : y = nI b) (hb : b < 5461) (w : zW) (Q : zQ) (h : Q (some (.int (nI (bst (tW a) (tW b) (tLen a) (tLen b) (2 ^ tLen a))))) w) : zCl zTab (d + 5) iX11_mostShared [.int x, .int y] w 0 0 Q := by
  have hn := tLen_le a
  have h2p := s_2p (tLen a) (by omega)
  refine zCl_i (M := kX11_mostShared) rfl (Nat.le_of_ble_eq_true rfl) fun R hR => ?_
  have loop : ∀ (m9 s9 : Nat) (be ke : Int32) (z5 z6 : Option Value), s9 + m9 = 2 ^ tLen a → be = nI (bst (tW a) (tW b) (tLen a) (tLen b) s9) → ke = nI s9 → R (10, [some (.int x), some (.int y), some (.int (nI (tLen a))), some (.int be), some (.int ke), z5, z6], [], w, 0, 0) := by
    intro m9
    induction m9 with
    | zero =>
      intro s9 be ke z5 z6 hs hbe hke
      iterate 4 refine hR (?_ : R (_, _, _, _, _, _))
      refine hR (pk_le (2 ^ tLen a) s9 (fun _ => ?_) (fun z => by omega) h2p.1 hke)
      refine hR (?_ : R (_, _, _, _, _, _))
      have h3 : ∀ z, z = nI (bst (tW a) (tW b) (tLen a) (tLen b) (2 ^ tLen a)) → Q (some (.int z)) w := fun z hz => by rw [hz]; exact h
      exact hR (zret_i rfl (Nat.le_refl _) trivial (h3 _ (by rw [hbe, show s9 = 2 ^ tLen a by omega])))
    | succ m9 ih =>
      intro s9 be ke z5 z6 hs hbe hke
      have hpl := pick_len (tW a) s9 (tLen a)
      have hpx := pick_lt (tW_lt a) s9 (tLen a)
      obtain ⟨n1, n2, n3⟩ := num_t (pick (tW a) s9 (tLen a)) (by omega) hpx
      have hbl := bst_lt (v := tW b) (m := tLen b) (tW_lt a) hn s9
      have hb6 := tLen_le (bst (tW a) (tW b) (tLen a) (tLen b) s9)
      have ht6 := tLen_le (num (pick (tW a) s9 (tLen a)))
      have cont : ∀ (bs lf k : Int32), bs = nI (bst (tW a) (tW b) (tLen a) (tLen b) (s9 + 1)) → R (99, [some (.int x), some (.int y), some (.int (nI (tLen a))), some (.int bs), some (.int ke), some (.int lf), some (.int k)], [], w, 0, 0) := by
        intro bs lf k hbs
        iterate 2 refine hR (?_ : R (_, _, _, _, _, _))
        exact ih (s9 + 1) _ _ _ _ (by omega) hbs (by rw [hke, nI1, nI_add])
      have test : ∀ (lf k : Int32), lf = nI (num (pick (tW a) s9 (tLen a))) → btr (num (pick (tW a) s9 (tLen a))) (bst (tW a) (tW b) (tLen a) (tLen b) s9) → R (87, [some (.int x), some (.int y), some (.int (nI (tLen a))), some (.int be), some (.int ke), some (.int lf), some (.int k)], [], w, 0, 0) := by
        intro lf k hlf hbt
        iterate 2 refine hR (?_ : R (_, _, _, _, _, _))
        refine hR (zcall_i 0 0 (Nat.le_of_ble_eq_true rfl) (Nat.le_of_ble_eq_true rfl) (r_isLeftOf _ _ _ (pick (tW a) s9 (tLen a)) b hlf (by omega) hpx hy hb _ _ (fun q => ?_) (fun q => ?_)))
        · refine hR (And.intro (fun hc => absurd hc (by decide)) (fun _ => ?_))
          iterate 2 refine hR (?_ : R (_, _, _, _, _, _))
          exact cont _ _ _ (by rw [hlf, bst_y hbt q])
        · refine hR (And.intro (fun _ => ?_) (fun hc => absurd (by decide) hc))
          exact cont _ _ _ (by rw [hbe, bst_n (fun z => q z.2)])
      have after : ∀ (lf k : Int32), lf = nI (num (pick (tW a) s9 (tLen a))) → R (59, [some (.int x), some (.int y), some (.int (nI (tLen a))), some (.int be), some (.int ke), some (.int lf), some (.int k)], [], w, 0, 0) := by
        intro lf k hlf
        refine hR (?_ : R (_, _, _, _, _, _))
        refine hR (zcall_i 0 0 (Nat.le_of_ble_eq_true rfl) (Nat.le_of_ble_eq_true rfl) (r_lengthOf _ _ (num (pick (tW a) s9 (tLen a))) hlf n2 _ _ ?_))
        refine hR (?_ : R (_, _, _, _, _, _))
        refine hR (zcall_i 0 0 (Nat.le_of_ble_eq_true rfl) (Nat.le_of_ble_eq_true rfl) (r_lengthOf _ _ (bst (tW a) (tW b) (tLen a) (tLen b) s9) hbe hbl _ _ ?_))
        have ed9 : (nI (tLen (num (pick (tW a) s9 (tLen a)))) - nI (tLen (bst (tW a) (tW b) (tLen a) (tLen b) s9))).toInt = (tLen (num (pick (tW a) s9 (tLen a))) : Int) - (tLen (bst (tW a) (tW b) (tLen a) (tLen b) s9) : Int) := pk_sub_toInt (by omega) (by omega)
        have e0 : (0 : Int32).toInt = 0 := rfl
        iterate 3 refine hR (?_ : R (_, _, _, _, _, _))
        refine hR (And.intro (fun hc => ?_) (fun hc => ?_))
        · have z := zlt_i.mp hc
          rw [ed9, e0] at z
          exact test lf _ hlf (Or.inl (by omega))
        refine hR (?_ : R (_, _, _, _, _, _))
        refine hR (And.intro (fun hc2 => ?_) (fun hc2 => ?_))
        · have z1 : ¬ (0 : Int32).toInt < _ := fun q => hc (zlt_i.mpr q)
          rw [ed9, e0] at z1
          have z2 : ¬ _ = (0 : Int32).toInt := fun q => hc2 (zeq_i.mpr q)
          rw [ed9, e0] at z2
          exact cont be _ _ (by rw [hbe, bst_n (fun z => by rcases z.1 with q | q <;> omega)])
        · have z2 := zeq_i.mp hc2
          rw [ed9, e0] at z2
          iterate 2 refine hR (?_ : R (_, _, _, _, _, _))
          refine hR (pk_le (bst (tW a) (tW b) (tLen a) (tLen b) s9) (num (pick (tW a) s9 (tLen a))) (fun q => ?_) (fun q => ?_) hbe hlf)
          · exact cont be _ _ (by rw [hbe, bst_n (fun z => by rcases z.1 with q | q <;> omega)])
          · exact test lf _ hlf (Or.inr ⟨by omega, q⟩)
      have inner : ∀ (r9 k9 : Nat) (lf k : Int32), k9 + r9 = tLen a → lf = nI (num (pick (tW a) s9 k9)) → k = nI k9 → R (24, [some (.int x), some (.int y), some (.int (nI (tLen a))), some (.int be), some (.int ke), some (.int lf), some (.int k)], [], w, 0, 0) := by
        intro r9
        induction r9 with
        | zero =>
          intro k9 lf k hk9 hlf hk
          iterate 2 refine hR (?_ : R (_, _, _, _, _, _))
          refine hR (pk_le (tLen a) k9 (fun _ => ?_) (fun z => by omega) rfl hk)
          exact after lf k (by rw [hlf, show k9 = tLen a by omega])
        | succ r9 ih2 =>
          intro k9 lf k hk9 hlf hk
          iterate 2 refine hR (?_ : R (_, _, _, _, _, _))
          refine hR (pk_le (tLen a) k9 (fun z => by omega) (fun _ => ?_) rfl hk)
          iterate 2 refine hR (?_ : R (_, _, _, _, _, _))
          refine hR (zcall_i 0 0 (Nat.le_of_ble_eq_true rfl) (Nat.le_of_ble_eq_true rfl) (r_isIn _ _ _ s9 k9 hke (by omega) hk (by omega) _ _ (fun q => ?_) (fun q => ?_)))
          · refine hR (And.intro (fun hc => absurd hc (by decide)) (fun _ => ?_))
            iterate 3 refine hR (?_ : R (_, _, _, _, _, _))
            refine hR (zcall_i 0 0 (Nat.le_of_ble_eq_true rfl) (Nat.le_of_ble_eq_true rfl) (r_wordAt _ _ _ a k9 hx ha hk (by omega) _ _ ?_))
            refine hR (zcall_i 0 0 (Nat.le_of_ble_eq_true rfl) (Nat.le_of_ble_eq_true rfl) (r_longer _ _ _ (num (pick (tW a) s9 k9)) (tW a k9) hlf rfl _ _ ?_))
            iterate 3 refine hR (?_ : R (_, _, _, _, _, _))
            exact ih2 (k9 + 1) _ _ (by omega) (by rw [pick_1 q, num_snoc]) (by rw [hk, nI1, nI_add])
          · refine hR (And.intro (fun _ => ?_) (fun hc => absurd (by decide) hc))
            iterate 2 refine hR (?_ : R (_, _, _, _, _, _))
            exact ih2 (k9 + 1) _ _ (by omega) (by rw [hlf, pick_0 q]) (by rw [hk, nI1, nI_add])
      iterate 4 refine hR (?_ : R (_, _, _, _, _, _))
      refine hR (pk_le (2 ^ tLen a) s9 (fun z => by omega) (fun _ => ?_) h2p.1 hke)
      iterate 4 refine hR (?_ : R (_, _, _, _, _, _))
      exact inner (tLen a) 0 _ _ (by omega) nI0 nI0
  refine hR (?_ : R (_, _, _, _, _, _))
  refine hR (zcall_i 0 0 (Nat.le_of_ble_eq_true rfl) (Nat.le_of_ble_eq_true rfl) (r_lengthOf _ _ a hx ha _ _ ?_))
  iterate 5 refine hR (?_ : R (_, _, _, _, _, _))
  exact loop (2 ^ tLen a) 0 _ _ _ _ (by omega) nI0 nI0
noncomputable def vShared (x y p : Int32) : Int32 := if (x < 0 ∨ 5461 ≤ x) ∨ (y < 0 ∨ 5461 ≤ y) then Int32.ofInt (-1) else if p = 0 then nI (tLen (bst (tW x.toNatClampNeg) (tW y.toNatClampNeg) (tLen x.toNatClampNeg) (tLen y.toNatClampNeg) (2 ^ tLen x.toNatClampNeg))) else nI (bst (tW x.toNatClampNeg) (tW y.toNatClampNeg) (tLen x.toNatClampNeg) (tLen y.toNatClampNeg) (2 ^ tLen x.toNatClampNeg))
theorem vShared_in {x y p : Int32} {a b : Nat} (hx : x = nI a) (ha : a < 5461) (hy : y = nI b) (hb : b < 5461) (p0 : ¬ x < 0) (p1 : x < 5461) (q0 : ¬ y < 0) (q1 : y < 5461) : vShared x y p = if p = 0 then nI (tLen (bst (tW a) (tW b) (tLen a) (tLen b) (2 ^ tLen a))) else nI (bst (tW a) (tW b) (tLen a) (tLen b) (2 ^ tLen a)) := by
  unfold vShared
  rw [if_neg (fun z => z.elim (fun z => z.elim p0 (fun z => absurd p1 (Int32.not_lt.mpr z))) (fun z => z.elim q0 (fun z => absurd q1 (Int32.not_lt.mpr z)))), hx, hy, nI_clamp (by omega), nI_clamp (by omega)]
theorem r_shared (d : Nat) (x y p : Int32) (t : zW) (Q : zQ) (h : Q (some (.int (vShared x y p))) (zCw t)) : zCl zTab (d + 6) iX11_shared [.ref 0, .int x, .int y, .int p] (zCw t) 0 0 Q := by
  have h3 : ∀ z, z = vShared x y p → Q (some (.int z)) (zCw t) := fun z hz => by rw [hz]; exact h
  refine zCl_i (M := kX11_shared) rfl (Nat.le_of_ble_eq_true rfl) fun R hR => ?_
  refine hR (?_ : R (_, _, _, _, _, _))
  refine hR (zcall_i 0 0 (Nat.le_of_ble_eq_true rfl) (Nat.le_of_ble_eq_true rfl) (r_isText _ _ _ _ (fun p0 p1 => ?_) (fun q => ?_)))
  · refine hR (And.intro (fun hc => absurd hc (by decide)) (fun _ => ?_))
    refine hR (?_ : R (_, _, _, _, _, _))
    refine hR (zcall_i 0 0 (Nat.le_of_ble_eq_true rfl) (Nat.le_of_ble_eq_true rfl) (r_isText _ _ _ _ (fun q0 q1 => ?_) (fun q => ?_)))
    · obtain ⟨a, ha, hx⟩ := t_of p0 p1
      obtain ⟨b, hb, hy⟩ := t_of q0 q1
      have hbl := bst_lt (v := tW b) (m := tLen b) (tW_lt a) (tLen_le a) (2 ^ tLen a)
      refine hR (And.intro (fun _ => ?_) (fun hc => absurd hc (by decide)))
      iterate 2 refine hR (?_ : R (_, _, _, _, _, _))
      refine hR (zcall_i 0 0 (Nat.le_of_ble_eq_true rfl) (Nat.le_of_ble_eq_true rfl) (r_mostShared _ _ _ a b hx ha hy hb _ _ ?_))
      iterate 2 refine hR (?_ : R (_, _, _, _, _, _))
      refine hR (And.intro (fun hp => ?_) (fun hp => ?_))
      · refine hR (?_ : R (_, _, _, _, _, _))
        refine hR (zcall_i 0 0 (Nat.le_of_ble_eq_true rfl) (Nat.le_of_ble_eq_true rfl) (r_lengthOf _ _ (bst (tW a) (tW b) (tLen a) (tLen b) (2 ^ tLen a)) rfl hbl _ _ ?_))
        exact hR (zret_i rfl (Nat.le_refl _) trivial (h3 _ (by rw [vShared_in hx ha hy hb p0 p1 q0 q1, if_pos hp])))
      · iterate 2 refine hR (?_ : R (_, _, _, _, _, _))
        exact hR (zret_i rfl (Nat.le_refl _) trivial (h3 _ (by rw [vShared_in hx ha hy hb p0 p1 q0 q1, if_neg hp])))
    · refine hR (And.intro (fun hc => absurd (by decide) hc) (fun _ => ?_))
      refine hR (?_ : R (_, _, _, _, _, _))
      exact hR (zret_i rfl (Nat.le_refl _) trivial (h3 _ (by unfold vShared; rw [if_pos (Or.inr q)])))
  · refine hR (And.intro (fun _ => ?_) (fun hc => absurd (by decide) hc))
    refine hR (?_ : R (_, _, _, _, _, _))
    exact hR (zret_i rfl (Nat.le_refl _) trivial (h3 _ (by unfold vShared; rw [if_pos (Or.inl q)])))
