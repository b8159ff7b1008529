theorem m_has (d : Nat) (x y : Int32) (s k : Nat) (hx : x = nI s) (hs : s < 2 ^ 31) (hy : y = nI k) (hk : k < 32) (w : zW) (Q : zQ) (h1 : s / 2 ^ k % 2 = 1 → Q (some (.int (Int32.ofInt 1))) w) (h0 : ¬ s / 2 ^ k % 2 = 1 → Q (some (.int (Int32.ofInt 0))) w) : zCl zTab (d + 1) iX12_has [.int x, .int y] w 0 0 Q := by
  refine zCl_i (M := kX12_has) rfl (Nat.le_of_ble_eq_true rfl) fun R hR => ?_
  have e : (x >>> (y &&& 31)) &&& Int32.ofInt 1 = nI (s / 2 ^ k % 2) := by rw [hx, hy, s_bit hs hk]
  have hl : s / 2 ^ k % 2 < 2 := Nat.mod_lt _ (by omega)
  iterate 6 refine hR (?_ : R (_, _, _, _, _, _))
  refine hR (pk_eq (s / 2 ^ k % 2) 1 (fun q => ?_) (fun q => ?_) e nI1).symm
  · iterate 2 refine hR (?_ : R (_, _, _, _, _, _))
    exact hR (zret_i rfl (Nat.le_refl _) (Or.inr rfl) (h1 q))
  · refine hR (?_ : R (_, _, _, _, _, _))
    exact hR (zret_i rfl (Nat.le_refl _) (Or.inl rfl) (h0 q))
theorem take_s {l : List Nat} {k : Nat} (h : k < l.length) : l.take (k + 1) = l.take k ++ [l.getD k 0] := by
  rw [List.take_add_one, List.getD_eq_getElem?_getD, List.getElem?_eq_getElem h]
  rfl
set_option maxHeartbeats 2000000 in
theorem m_numberOf {c0 c1 c2 c3 c4 c5 c6 c7 c8 c9 c10 c11 c12 c13 : va_E} {x0 x9 x10 x11 x12 x13 x15 x16 x17 x20 x21 x22 x23 x26 x28 x31 x32 x33 x38 x41 x44 : Int32} {x14 : Int64} {g15 g16 g17 g18 g19 g20 g21 g22 g23 g24 g25 g26 g27 g28 g29 g30 g31 g32 g33 g34 g35 g36 g37 g38 g39 g40 g41 g42 g43 g44 : Nat → Int32} {t : zW} (d : Nat) (y : Int32) (l : List Nat) (hy : y = nI l.length) (hl : l.length ≤ 6) (hd : ∀ z ∈ l, z < 4) (hf : ∀ i, i < l.length → g25 i = nI (l.getD i 0)) (Q : zQ) (h : Q (some (.int (nI (num l)))) (zMg c0 c1 c2 c3 c4 c5 c6 c7 c8 c9 c10 c11 c12 c13 x0 x9 x10 x11 x12 x13 x15 x16 x17 x20 x21 x22 x23 x26 x28 x31 x32 x33 x38 x41 x44 x14 g15 g16 g17 g18 g19 g20 g21 g22 g23 g24 g25 g26 g27 g28 g29 g30 g31 g32 g33 g34 g35 g36 g37 g38 g39 g40 g41 g42 g43 g44 t)) : zCl zTab (d + 2) iX12_numberOf [.ref 14, .int y] (zMg c0 c1 c2 c3 c4 c5 c6 c7 c8 c9 c10 c11 c12 c13 x0 x9 x10 x11 x12 x13 x15 x16 x17 x20 x21 x22 x23 x26 x28 x31 x32 x33 x38 x41 x44 x14 g15 g16 g17 g18 g19 g20 g21 g22 g23 g24 g25 g26 g27 g28 g29 g30 g31 g32 g33 g34 g35 g36 g37 g38 g39 g40 g41 g42 g43 g44 t) 0 0 Q := by
  have hP : ∀ k, k ≤ l.length → tSh k ≤ num (l.take k) ∧ num (l.take k) < tSh (k + 1) := fun k hk => (numP k (l.take k) (by rw [List.length_take]; omega) (by omega) (fun z hz => hd z (List.mem_of_mem_take hz))).1
  refine zCl_i (M := kX12_numberOf) rfl (Nat.le_of_ble_eq_true rfl) fun R hR => ?_
  have loop : ∀ (m9 k9 : Nat) (f k : Int32), k9 + m9 = l.length → f = nI (num (l.take k9) - tSh k9) → k = nI k9 → R (4, [some (.ref 14), some (.int y), some (.int f), some (.int k)], [], (zMg c0 c1 c2 c3 c4 c5 c6 c7 c8 c9 c10 c11 c12 c13 x0 x9 x10 x11 x12 x13 x15 x16 x17 x20 x21 x22 x23 x26 x28 x31 x32 x33 x38 x41 x44 x14 g15 g16 g17 g18 g19 g20 g21 g22 g23 g24 g25 g26 g27 g28 g29 g30 g31 g32 g33 g34 g35 g36 g37 g38 g39 g40 g41 g42 g43 g44 t), 0, 0) := by
    intro m9
    induction m9 with
    | zero =>
      intro k9 f k hk9 hff hk
      have p1 := hP k9 (by omega)
      have e9 : k9 = l.length := by omega
      iterate 2 refine hR (?_ : R (_, _, _, _, _, _))
      refine hR (pk_le l.length k9 (fun _ => ?_) (fun z => by omega) hy hk)
      refine hR (?_ : R (_, _, _, _, _, _))
      refine hR (zcall_i 0 0 (Nat.le_of_ble_eq_true rfl) (Nat.le_of_ble_eq_true rfl) (m_shorter _ _ l.length hy (by omega) _ _ ?_))
      iterate 2 refine hR (?_ : R (_, _, _, _, _, _))
      have h3 : ∀ z, z = nI (num l) → Q (some (.int z)) (zMg c0 c1 c2 c3 c4 c5 c6 c7 c8 c9 c10 c11 c12 c13 x0 x9 x10 x11 x12 x13 x15 x16 x17 x20 x21 x22 x23 x26 x28 x31 x32 x33 x38 x41 x44 x14 g15 g16 g17 g18 g19 g20 g21 g22 g23 g24 g25 g26 g27 g28 g29 g30 g31 g32 g33 g34 g35 g36 g37 g38 g39 g40 g41 g42 g43 g44 t) := fun z hz => by rw [hz]; exact h
      refine hR (zret_i rfl (Nat.le_refl _) trivial (h3 _ ?_))
      rw [e9, List.take_length] at hff p1
      rw [hff, nI_add]
      exact congrArg nI (by omega)
    | succ m9 ih =>
      intro k9 f k hk9 hff hk
      have p1 := hP k9 (by omega)
      have e4 := tSh_4 k9 (by omega)
      have ev : g25 k.toNatClampNeg = nI (l.getD k9 0) := by rw [hk, nI_clamp (by omega)]; exact hf k9 (by omega)
      iterate 2 refine hR (?_ : R (_, _, _, _, _, _))
      refine hR (pk_le l.length k9 (fun z => by omega) (fun _ => ?_) hy hk)
      iterate 6 refine hR (?_ : R (_, _, _, _, _, _))
      refine hR (And.intro (by rw [hk]; exact nI_in (by omega) (by omega)) ?_)
      iterate 4 refine hR (?_ : R (_, _, _, _, _, _))
      refine ih (k9 + 1) _ _ (by omega) ?_ (by rw [hk, nI1, nI_add])
      rw [ev, hff, nI4, pk_mul, nI_add, take_s (by omega), num_snoc]
      exact congrArg nI (by omega)
  iterate 4 refine hR (?_ : R (_, _, _, _, _, _))
  exact loop l.length 0 _ _ (by omega) nI0 nI0
set_option maxHeartbeats 4000000 in
theorem m_someOf {c0 c1 c2 c3 c4 c5 c6 c7 c8 c9 c10 c11 c12 c13 : va_E} {x0 x9 x10 x11 x12 x13 x15 x16 x17 x20 x21 x22 x23 x26 x28 x31 x32 x33 x38 x41 x44 : Int32} {x14 : Int64} {g15 g16 g17 g18 g19 g20 g21 g22 g23 g24 g25 g26 g27 g28 g29 g30 g31 g32 g33 g34 g35 g36 g37 g38 g39 g40 g41 g42 g43 g44 : Nat → Int32} {t : zW} (d : Nat) (x y : Int32) (a s9 : Nat) (hx : x = nI a) (ha : a < 5461) (hy : y = nI s9) (hs : s9 < 2 ^ 31) (Q : zQ) (h : ∀ f, Q (some (.int (nI (num (pick (tW a) s9 (tLen a)))))) (zMg c0 c1 c2 c3 c4 c5 c6 c7 c8 c9 c10 c11 c12 c13 x0 x9 x10 x11 x12 x13 x15 x16 x17 x20 x21 x22 x23 x26 x28 x31 x32 x33 x38 x41 x44 x14 g15 g16 g17 g18 g19 g20 g21 g22 g23 g24 f g26 g27 g28 g29 g30 g31 g32 g33 g34 g35 g36 g37 g38 g39 g40 g41 g42 g43 g44 t)) : zCl zTab (d + 4) iX12_someOf [.ref 14, .int x, .int y] (zMg c0 c1 c2 c3 c4 c5 c6 c7 c8 c9 c10 c11 c12 c13 x0 x9 x10 x11 x12 x13 x15 x16 x17 x20 x21 x22 x23 x26 x28 x31 x32 x33 x38 x41 x44 x14 g15 g16 g17 g18 g19 g20 g21 g22 g23 g24 g25 g26 g27 g28 g29 g30 g31 g32 g33 g34 g35 g36 g37 g38 g39 g40 g41 g42 g43 g44 t) 0 0 Q := by
  have hn := tLen_le a
  refine zCl_i (M := kX12_someOf) rfl (Nat.le_of_ble_eq_true rfl) fun R hR => ?_
  have loop : ∀ (m9 k9 : Nat) (n k : Int32) (f : Nat → Int32), k9 + m9 = tLen a → n = nI (pick (tW a) s9 k9).length → k = nI k9 → (∀ i, i < (pick (tW a) s9 k9).length → f i = nI ((pick (tW a) s9 k9).getD i 0)) → (∀ i, k9 ≤ i → i < tLen a → f i = nI (tW a i)) → R (13, [some (.ref 14), some (.int x), some (.int y), some (.int n), some (.int k)], [], (zMg c0 c1 c2 c3 c4 c5 c6 c7 c8 c9 c10 c11 c12 c13 x0 x9 x10 x11 x12 x13 x15 x16 x17 x20 x21 x22 x23 x26 x28 x31 x32 x33 x38 x41 x44 x14 g15 g16 g17 g18 g19 g20 g21 g22 g23 g24 f g26 g27 g28 g29 g30 g31 g32 g33 g34 g35 g36 g37 g38 g39 g40 g41 g42 g43 g44 t), 0, 0) := by
    intro m9
    induction m9 with
    | zero =>
      intro k9 n k f hk9 hnn hk h1 h2
      have e9 : k9 = tLen a := by omega
      have hpl := pick_len (tW a) s9 k9
      have hpx := pick_lt (tW_lt a) s9 k9
      iterate 2 refine hR (?_ : R (_, _, _, _, _, _))
      refine hR (zcall_i 0 0 (Nat.le_of_ble_eq_true rfl) (Nat.le_of_ble_eq_true rfl) (m_sizeOf _ _ a hx ha _ _ ?_))
      refine hR (pk_le (tLen a) k9 (fun _ => ?_) (fun z => by omega) rfl hk)
      iterate 2 refine hR (?_ : R (_, _, _, _, _, _))
      refine hR (zcall_i 0 0 (Nat.le_of_ble_eq_true rfl) (Nat.le_of_ble_eq_true rfl) (m_numberOf _ _ (pick (tW a) s9 k9) hnn (by omega) hpx h1 _ ?_))
      have h3 : ∀ z w, z = nI (num (pick (tW a) s9 (tLen a))) → (∀ z', Q (some (.int (nI (num (pick (tW a) s9 (tLen a)))))) w → z' = z → Q (some (.int z')) w) := fun z w hz z' hq hz' => by rw [hz', hz]; exact hq
      exact hR (zret_i rfl (Nat.le_refl _) trivial (h3 _ _ rfl _ (h f) (by rw [e9])))
    | succ m9 ih =>
      intro k9 n k f hk9 hnn hk h1 h2
      have hpl := pick_len (tW a) s9 k9
      iterate 2 refine hR (?_ : R (_, _, _, _, _, _))
      refine hR (zcall_i 0 0 (Nat.le_of_ble_eq_true rfl) (Nat.le_of_ble_eq_true rfl) (m_sizeOf _ _ a hx ha _ _ ?_))
      refine hR (pk_le (tLen a) k9 (fun z => by omega) (fun _ => ?_) rfl hk)
      iterate 2 refine hR (?_ : R (_, _, _, _, _, _))
      refine hR (zcall_i 0 0 (Nat.le_of_ble_eq_true rfl) (Nat.le_of_ble_eq_true rfl) (m_has _ _ _ s9 k9 hy hs hk (by omega) _ _ (fun q => ?_) (fun q => ?_)))
      · have ev : f k.toNatClampNeg = nI (tW a k9) := by rw [hk, nI_clamp (by omega)]; exact h2 k9 (Nat.le_refl _) (by omega)
        have ec : n.toNatClampNeg = (pick (tW a) s9 k9).length := by rw [hnn, nI_clamp (by omega)]
        refine hR (And.intro (fun hc => absurd hc (by decide)) (fun _ => ?_))
        iterate 6 refine hR (?_ : R (_, _, _, _, _, _))
        refine hR (And.intro (by rw [hk]; exact nI_in (by omega) (by omega)) ?_)
        refine hR (And.intro (by rw [hnn]; exact nI_in (by omega) (by omega)) ?_)
        iterate 3 refine hR (?_ : R (_, _, _, _, _, _))
        refine ih (k9 + 1) _ _ _ (by omega) (by rw [hnn, nI1, nI_add, pick_1 q, List.length_append, List.length_singleton]) (by rw [hk, nI1, nI_add]) (fun i hi => ?_) (fun i hi1 hi2 => ?_)
        · rw [ec, ev]
          rw [pick_1 q] at hi ⊢
          rw [List.length_append, List.length_singleton] at hi
          by_cases hq : i = (pick (tW a) s9 k9).length
          · subst hq
            rw [pk_us, List.getD_eq_getElem?_getD, List.getElem?_append_right (Nat.le_refl _), Nat.sub_self]
            rfl
          · rw [pk_un hq, h1 i (by omega), List.getD_eq_getElem?_getD, List.getD_eq_getElem?_getD, List.getElem?_append_left (by omega)]
        · rw [ec, pk_un (by omega)]
          exact h2 i (by omega) hi2
      · refine hR (And.intro (fun _ => ?_) (fun hc => absurd (by decide) hc))
        iterate 2 refine hR (?_ : R (_, _, _, _, _, _))
        refine ih (k9 + 1) _ _ f (by omega) (by rw [pick_0 q]; exact hnn) (by rw [hk, nI1, nI_add]) (fun i hi => ?_) (fun i hi1 hi2 => h2 i (by omega) hi2)
        rw [pick_0 q] at hi ⊢
        exact h1 i hi
  iterate 3 refine hR (?_ : R (_, _, _, _, _, _))
  refine hR (zcall_i 0 0 (Nat.le_of_ble_eq_true rfl) (Nat.le_of_ble_eq_true rfl) (m_spell25 _ _ a hx ha _ (fun f hf => ?_)))
  iterate 4 refine hR (?_ : R (_, _, _, _, _, _))
  exact loop (tLen a) 0 _ _ f (by omega) nI0 nI0 (fun i hi => absurd hi (Nat.not_lt_zero _)) (fun i _ hi2 => hf i hi2)
set_option maxHeartbeats 2000000 in
theorem m_isLeft {c0 c1 c2 c3 c4 c5 c6 c7 c8 c9 c10 c11 c12 c13 : va_E} {x0 x9 x10 x11 x12 x13 x15 x16 x17 x20 x21 x22 x23 x26 x28 x31 x32 x33 x38 x41 x44 : Int32} {x14 : Int64} {g15 g16 g17 g18 g19 g20 g21 g22 g23 g24 g25 g26 g27 g28 g29 g30 g31 g32 g33 g34 g35 g36 g37 g38 g39 g40 g41 g42 g43 g44 : Nat → Int32} {t : zW} (d : Nat) (x y : Int32) (b t9 : Nat) (hx : x = nI b) (hb : b < 5461) (hy : y = nI t9) (ht : t9 < 5461) (Q : zQ) (h1 : isL (tW b) (tLen b) t9 → ∀ f, Q (some (.int (Int32.ofInt 1))) (zMg c0 c1 c2 c3 c4 c5 c6 c7 c8 c9 c10 c11 c12 c13 x0 x9 x10 x11 x12 x13 x15 x16 x17 x20 x21 x22 x23 x26 x28 x31 x32 x33 x38 x41 x44 x14 g15 g16 g17 g18 g19 g20 g21 g22 g23 g24 f g26 g27 g28 g29 g30 g31 g32 g33 g34 g35 g36 g37 g38 g39 g40 g41 g42 g43 g44 t)) (h0 : ¬ isL (tW b) (tLen b) t9 → ∀ f, Q (some (.int (Int32.ofInt 0))) (zMg c0 c1 c2 c3 c4 c5 c6 c7 c8 c9 c10 c11 c12 c13 x0 x9 x10 x11 x12 x13 x15 x16 x17 x20 x21 x22 x23 x26 x28 x31 x32 x33 x38 x41 x44 x14 g15 g16 g17 g18 g19 g20 g21 g22 g23 g24 f g26 g27 g28 g29 g30 g31 g32 g33 g34 g35 g36 g37 g38 g39 g40 g41 g42 g43 g44 t)) : zCl zTab (d + 5) iX12_isLeft [.ref 14, .int x, .int y] (zMg c0 c1 c2 c3 c4 c5 c6 c7 c8 c9 c10 c11 c12 c13 x0 x9 x10 x11 x12 x13 x15 x16 x17 x20 x21 x22 x23 x26 x28 x31 x32 x33 x38 x41 x44 x14 g15 g16 g17 g18 g19 g20 g21 g22 g23 g24 g25 g26 g27 g28 g29 g30 g31 g32 g33 g34 g35 g36 g37 g38 g39 g40 g41 g42 g43 g44 t) 0 0 Q := by
  have hm := tLen_le b
  have h2p := s_2p (tLen b) (by omega)
  refine zCl_i (M := kX12_isLeft) rfl (Nat.le_of_ble_eq_true rfl) fun R hR => ?_
  have loop : ∀ (m9 s9 : Nat) (se : Int32) (f : Nat → Int32), s9 + m9 = 2 ^ tLen b → se = nI s9 → (∀ s', s' < s9 → num (pick (tW b) s' (tLen b)) ≠ t9) → R (2, [some (.ref 14), some (.int x), some (.int y), some (.int se)], [], (zMg c0 c1 c2 c3 c4 c5 c6 c7 c8 c9 c10 c11 c12 c13 x0 x9 x10 x11 x12 x13 x15 x16 x17 x20 x21 x22 x23 x26 x28 x31 x32 x33 x38 x41 x44 x14 g15 g16 g17 g18 g19 g20 g21 g22 g23 g24 f g26 g27 g28 g29 g30 g31 g32 g33 g34 g35 g36 g37 g38 g39 g40 g41 g42 g43 g44 t), 0, 0) := by
    intro m9
    induction m9 with
    | zero =>
      intro s9 se f hs hse hno
      iterate 3 refine hR (?_ : R (_, _, _, _, _, _))
      refine hR (zcall_i 0 0 (Nat.le_of_ble_eq_true rfl) (Nat.le_of_ble_eq_true rfl) (m_sizeOf _ _ b hx hb _ _ ?_))
      refine hR (?_ : R (_, _, _, _, _, _))
      refine hR (pk_le (2 ^ tLen b) s9 (fun _ => ?_) (fun z => by omega) h2p.1 hse)
      refine hR (?_ : R (_, _, _, _, _, _))
      exact hR (zret_i rfl (Nat.le_refl _) (Or.inl rfl) (h0 (fun ⟨s', q1, q2⟩ => hno s' (by omega) q2) f))
    | succ m9 ih =>
      intro s9 se f hs hse hno
      have n2 := (num_t (pick (tW b) s9 (tLen b)) (Nat.le_trans (pick_len _ _ _) hm) (pick_lt (tW_lt b) s9 (tLen b))).2.1
      iterate 3 refine hR (?_ : R (_, _, _, _, _, _))
      refine hR (zcall_i 0 0 (Nat.le_of_ble_eq_true rfl) (Nat.le_of_ble_eq_true rfl) (m_sizeOf _ _ b hx hb _ _ ?_))
      refine hR (?_ : R (_, _, _, _, _, _))
      refine hR (pk_le (2 ^ tLen b) s9 (fun z => by omega) (fun _ => ?_) h2p.1 hse)
      iterate 3 refine hR (?_ : R (_, _, _, _, _, _))
      refine hR (zcall_i 0 0 (Nat.le_of_ble_eq_true rfl) (Nat.le_of_ble_eq_true rfl) (m_someOf _ _ _ b s9 hx hb hse (by omega) _ (fun f2 => ?_)))
      refine hR (?_ : R (_, _, _, _, _, _))
      refine hR (pk_eq (num (pick (tW b) s9 (tLen b))) t9 (fun q => ?_) (fun q => ?_) rfl hy).symm
      · refine hR (?_ : R (_, _, _, _, _, _))
        exact hR (zret_i rfl (Nat.le_refl _) (Or.inr rfl) (h1 ⟨s9, by omega, q⟩ f2))
      · iterate 2 refine hR (?_ : R (_, _, _, _, _, _))
        refine ih (s9 + 1) _ f2 (by omega) (by rw [hse, nI1, nI_add]) (fun s' hs' => ?_)
        by_cases e : s' = s9
        · rw [e]; exact q
        · exact hno s' (by omega)
  iterate 2 refine hR (?_ : R (_, _, _, _, _, _))
  exact loop (2 ^ tLen b) 0 _ g25 (by omega) nI0 (fun s' hs' => absurd hs' (Nat.not_lt_zero _))
set_option maxHeartbeats 4000000 in
theorem m_shared {c0 c1 c2 c3 c4 c5 c6 c7 c8 c9 c10 c11 c12 c13 : va_E} {x0 x9 x10 x11 x12 x13 x15 x16 x17 x20 x21 x22 x23 x26 x28 x31 x32 x33 x38 x41 x44 : Int32} {x14 : Int64} {g15 g16 g17 g18 g19 g20 g21 g22 g23 g24 g25 g26 g27 g28 g29 g30 g31 g32 g33 g34 g35 g36 g37 g38 g39 g40 g41 g42 g43 g44 : Nat → Int32} {t : zW} (d : Nat) (x y p : Int32) (Q : zQ) (h : ∀ w, Q (some (.int (vShared x y p))) w) : zCl zTab (d + 6) iX12_shared [.ref 14, .int x, .int y, .int p] (zMg c0 c1 c2 c3 c4 c5 c6 c7 c8 c9 c10 c11 c12 c13 x0 x9 x10 x11 x12 x13 x15 x16 x17 x20 x21 x22 x23 x26 x28 x31 x32 x33 x38 x41 x44 x14 g15 g16 g17 g18 g19 g20 g21 g22 g23 g24 g25 g26 g27 g28 g29 g30 g31 g32 g33 g34 g35 g36 g37 g38 g39 g40 g41 g42 g43 g44 t) 0 0 Q := by
  have h3 : ∀ z w, z = vShared x y p → Q (some (.int z)) w := fun z w hz => by rw [hz]; exact h w
  refine zCl_i (M := kX12_shared) rfl (Nat.le_of_ble_eq_true rfl) fun R hR => ?_
  have main : ∀ (a b : Nat), x = nI a → a < 5461 → y = nI b → b < 5461 → (∀ (be se : Int32) (z6 z7 : Option Value) (f : Nat → Int32), be = nI (bst (tW a) (tW b) (tLen a) (tLen b) (2 ^ tLen a)) → R (117, [some (.ref 14), some (.int x), some (.int y), some (.int p), some (.int be), some (.int se), z6, z7], [], (zMg c0 c1 c2 c3 c4 c5 c6 c7 c8 c9 c10 c11 c12 c13 (Int32.ofInt 0) x9 x10 x11 x12 x13 x15 x16 x17 x20 x21 x22 x23 x26 x28 x31 x32 x33 x38 x41 x44 x14 g15 g16 g17 g18 g19 g20 g21 g22 g23 g24 f g26 g27 g28 g29 g30 g31 g32 g33 g34 g35 g36 g37 g38 g39 g40 g41 g42 g43 g44 t), 0, 0)) → ∀ (m9 s9 : Nat) (be se : Int32) (z6 z7 : Option Value) (f : Nat → Int32), s9 + m9 = 2 ^ tLen a → be = nI (bst (tW a) (tW b) (tLen a) (tLen b) s9) → se = nI s9 → R (27, [some (.ref 14), some (.int x), some (.int y), some (.int p), some (.int be), some (.int se), z6, z7], [], (zMg c0 c1 c2 c3 c4 c5 c6 c7 c8 c9 c10 c11 c12 c13 (Int32.ofInt 0) x9 x10 x11 x12 x13 x15 x16 x17 x20 x21 x22 x23 x26 x28 x31 x32 x33 x38 x41 x44 x14 g15 g16 g17 g18 g19 g20 g21 g22 g23 g24 f g26 g27 g28 g29 g30 g31 g32 g33 g34 g35 g36 g37 g38 g39 g40 g41 g42 g43 g44 t), 0, 0) := by
    intro a b hx ha hy hb hexit
    have hn := tLen_le a
    have h2p := s_2p (tLen a) (by omega)
    intro m9
    induction m9 with
    | zero =>
      intro s9 be se z6 z7 f hs hbe hse
      iterate 3 refine hR (?_ : R (_, _, _, _, _, _))
      refine hR (zcall_i 0 0 (Nat.le_of_ble_eq_true rfl) (Nat.le_of_ble_eq_true rfl) (m_sizeOf _ _ a hx ha _ _ ?_))
      refine hR (?_ : R (_, _, _, _, _, _))
      refine hR (pk_le (2 ^ tLen a) s9 (fun _ => ?_) (fun z => by omega) h2p.1 hse)
      exact hexit be se _ _ f (by rw [hbe, show s9 = 2 ^ tLen a by omega])
    | succ m9 ih =>
      intro s9 be se z6 z7 f hs hbe hse
      have hpl := pick_len (tW a) s9 (tLen a)
      have hpx := pick_lt (tW_lt a) s9 (tLen a)
      obtain ⟨n1, n2, n3⟩ := num_t (pick (tW a) s9 (tLen a)) (by omega) hpx
      have hbl := bst_lt (v := tW b) (m := tLen b) (tW_lt a) hn s9
      have hb6 := tLen_le (bst (tW a) (tW b) (tLen a) (tLen b) s9)
      have ht6 := tLen_le (num (pick (tW a) s9 (tLen a)))
      have cont : ∀ (bs tt mo : Int32) (f : Nat → Int32), bs = nI (bst (tW a) (tW b) (tLen a) (tLen b) (s9 + 1)) → R (109, [some (.ref 14), some (.int x), some (.int y), some (.int p), some (.int be), some (.int se), some (.int tt), some (.int mo)], [.int bs], (zMg c0 c1 c2 c3 c4 c5 c6 c7 c8 c9 c10 c11 c12 c13 (Int32.ofInt 0) x9 x10 x11 x12 x13 x15 x16 x17 x20 x21 x22 x23 x26 x28 x31 x32 x33 x38 x41 x44 x14 g15 g16 g17 g18 g19 g20 g21 g22 g23 g24 f g26 g27 g28 g29 g30 g31 g32 g33 g34 g35 g36 g37 g38 g39 g40 g41 g42 g43 g44 t), 0, 0) := by
        intro bs tt mo f hbs
        iterate 3 refine hR (?_ : R (_, _, _, _, _, _))
        exact ih (s9 + 1) _ _ _ _ f (by omega) hbs (by rw [hse, nI1, nI_add])
      have yes : ∀ (tt : Int32) (z7 : Option Value) (f : Nat → Int32), tt = nI (num (pick (tW a) s9 (tLen a))) → btr (num (pick (tW a) s9 (tLen a))) (bst (tW a) (tW b) (tLen a) (tLen b) s9) → R (80, [some (.ref 14), some (.int x), some (.int y), some (.int p), some (.int be), some (.int se), some (.int tt), z7], [], (zMg c0 c1 c2 c3 c4 c5 c6 c7 c8 c9 c10 c11 c12 c13 (Int32.ofInt 0) x9 x10 x11 x12 x13 x15 x16 x17 x20 x21 x22 x23 x26 x28 x31 x32 x33 x38 x41 x44 x14 g15 g16 g17 g18 g19 g20 g21 g22 g23 g24 f g26 g27 g28 g29 g30 g31 g32 g33 g34 g35 g36 g37 g38 g39 g40 g41 g42 g43 g44 t), 0, 0) := by
        intro tt z7 f htt hbt
        iterate 4 refine hR (?_ : R (_, _, _, _, _, _))
        refine hR (And.intro (fun hc => absurd hc (by decide)) (fun _ => ?_))
        iterate 3 refine hR (?_ : R (_, _, _, _, _, _))
        refine hR (zcall_i 0 0 (Nat.le_of_ble_eq_true rfl) (Nat.le_of_ble_eq_true rfl) (m_isLeft _ _ _ b (num (pick (tW a) s9 (tLen a))) hy hb htt n2 _ (fun q f2 => ?_) (fun q f2 => ?_)))
        · refine hR (And.intro (fun hc => absurd hc (by decide)) (fun _ => ?_))
          iterate 2 refine hR (?_ : R (_, _, _, _, _, _))
          exact cont _ _ _ f2 (by rw [htt, bst_y hbt q])
        · refine hR (And.intro (fun _ => ?_) (fun hc => absurd (by decide) hc))
          refine hR (?_ : R (_, _, _, _, _, _))
          exact cont _ _ _ f2 (by rw [hbe, bst_n (fun z => q z.2)])
      have no : ∀ (tt : Int32) (z7 : Option Value) (f : Nat → Int32), ¬ btr (num (pick (tW a) s9 (tLen a))) (bst (tW a) (tW b) (tLen a) (tLen b) s9) → R (84, [some (.ref 14), some (.int x), some (.int y), some (.int p), some (.int be), some (.int se), some (.int tt), z7], [], (zMg c0 c1 c2 c3 c4 c5 c6 c7 c8 c9 c10 c11 c12 c13 (Int32.ofInt 0) x9 x10 x11 x12 x13 x15 x16 x17 x20 x21 x22 x23 x26 x28 x31 x32 x33 x38 x41 x44 x14 g15 g16 g17 g18 g19 g20 g21 g22 g23 g24 f g26 g27 g28 g29 g30 g31 g32 g33 g34 g35 g36 g37 g38 g39 g40 g41 g42 g43 g44 t), 0, 0) := by
        intro tt z7 f hbt
        iterate 3 refine hR (?_ : R (_, _, _, _, _, _))
        refine hR (And.intro (fun _ => ?_) (fun hc => absurd (by decide) hc))
        refine hR (?_ : R (_, _, _, _, _, _))
        exact cont _ _ _ f (by rw [hbe, bst_n (fun z => hbt z.1)])
      iterate 3 refine hR (?_ : R (_, _, _, _, _, _))
      refine hR (zcall_i 0 0 (Nat.le_of_ble_eq_true rfl) (Nat.le_of_ble_eq_true rfl) (m_sizeOf _ _ a hx ha _ _ ?_))
      refine hR (?_ : R (_, _, _, _, _, _))
      refine hR (pk_le (2 ^ tLen a) s9 (fun z => by omega) (fun _ => ?_) h2p.1 hse)
      iterate 3 refine hR (?_ : R (_, _, _, _, _, _))
      refine hR (zcall_i 0 0 (Nat.le_of_ble_eq_true rfl) (Nat.le_of_ble_eq_true rfl) (m_someOf _ _ _ a s9 hx ha hse (by omega) _ (fun f2 => ?_)))
      iterate 2 refine hR (?_ : R (_, _, _, _, _, _))
      refine hR (zcall_i 0 0 (Nat.le_of_ble_eq_true rfl) (Nat.le_of_ble_eq_true rfl) (m_sizeOf _ _ (num (pick (tW a) s9 (tLen a))) rfl n2 _ _ ?_))
      refine hR (?_ : R (_, _, _, _, _, _))
      refine hR (zcall_i 0 0 (Nat.le_of_ble_eq_true rfl) (Nat.le_of_ble_eq_true rfl) (m_sizeOf _ _ (bst (tW a) (tW b) (tLen a) (tLen b) s9) hbe hbl _ _ ?_))
      refine hR (pk_lt (tLen (bst (tW a) (tW b) (tLen a) (tLen b) s9)) (tLen (num (pick (tW a) s9 (tLen a)))) (fun q => ?_) (fun q => ?_) rfl rfl)
      · exact yes _ _ f2 rfl (Or.inl q)
      refine hR (?_ : R (_, _, _, _, _, _))
      refine hR (zcall_i 0 0 (Nat.le_of_ble_eq_true rfl) (Nat.le_of_ble_eq_true rfl) (m_sizeOf _ _ (num (pick (tW a) s9 (tLen a))) rfl n2 _ _ ?_))
      refine hR (?_ : R (_, _, _, _, _, _))
      refine hR (zcall_i 0 0 (Nat.le_of_ble_eq_true rfl) (Nat.le_of_ble_eq_true rfl) (m_sizeOf _ _ (bst (tW a) (tW b) (tLen a) (tLen b) s9) hbe hbl _ _ ?_))
      refine hR (pk_eq (tLen (num (pick (tW a) s9 (tLen a)))) (tLen (bst (tW a) (tW b) (tLen a) (tLen b) s9)) (fun q2 => ?_) (fun q2 => ?_) rfl rfl).symm
      · iterate 2 refine hR (?_ : R (_, _, _, _, _, _))
        refine hR (pk_le (bst (tW a) (tW b) (tLen a) (tLen b) s9) (num (pick (tW a) s9 (tLen a))) (fun q3 => ?_) (fun q3 => ?_) hbe rfl)
        · exact no _ _ f2 (fun z => by rcases z with z | z <;> omega)
        · exact yes _ _ f2 rfl (Or.inr ⟨q2, q3⟩)
      · exact no _ _ f2 (fun z => by rcases z with z | z <;> omega)
  iterate 4 refine hR (?_ : R (_, _, _, _, _, _))
  refine hR (zcall_i 0 0 (Nat.le_of_ble_eq_true rfl) (Nat.le_of_ble_eq_true rfl) (m_isText _ _ _ _ (fun p0 p1 => ?_) (fun q => ?_)))
  · refine hR (And.intro (fun hc => absurd hc (by decide)) (fun _ => ?_))
    refine hR (?_ : R (_, _, _, _, _, _))
    refine hR (zcall_i 0 0 (Nat.le_of_ble_eq_true rfl) (Nat.le_of_ble_eq_true rfl) (m_isText _ _ _ _ (fun q0 q1 => ?_) (fun q => ?_)))
    · obtain ⟨a, ha, hx⟩ := t_of p0 p1
      obtain ⟨b, hb, hy⟩ := t_of q0 q1
      have hbl := bst_lt (v := tW b) (m := tLen b) (tW_lt a) (tLen_le a) (2 ^ tLen a)
      refine hR (And.intro (fun _ => ?_) (fun hc => absurd hc (by decide)))
      iterate 4 refine hR (?_ : R (_, _, _, _, _, _))
      refine main a b hx ha hy hb ?_ (2 ^ tLen a) 0 _ _ _ _ g25 (by omega) nI0 nI0
      intro be se z6 z7 f hbe
      refine hR (?_ : R (_, _, _, _, _, _))
      refine hR (And.intro (fun hp => ?_) (fun hp => ?_))
      · refine hR (?_ : R (_, _, _, _, _, _))
        refine hR (zcall_i 0 0 (Nat.le_of_ble_eq_true rfl) (Nat.le_of_ble_eq_true rfl) (m_sizeOf _ _ (bst (tW a) (tW b) (tLen a) (tLen b) (2 ^ tLen a)) hbe hbl _ _ ?_))
        exact hR (zret_i rfl (Nat.le_refl _) trivial (h3 _ _ (by rw [vShared_in hx ha hy hb p0 p1 q0 q1, if_pos hp])))
      · iterate 2 refine hR (?_ : R (_, _, _, _, _, _))
        exact hR (zret_i rfl (Nat.le_refl _) trivial (h3 _ _ (by rw [vShared_in hx ha hy hb p0 p1 q0 q1, if_neg hp, hbe])))
    · refine hR (And.intro (fun hc => absurd (by decide) hc) (fun _ => ?_))
      refine hR (?_ : R (_, _, _, _, _, _))
      exact hR (zret_i rfl (Nat.le_refl _) trivial (h3 _ _ (by unfold vShared; rw [if_pos (Or.inr q)])))
  · refine hR (And.intro (fun _ => ?_) (fun hc => absurd (by decide) hc))
    refine hR (?_ : R (_, _, _, _, _, _))
    exact hR (zret_i rfl (Nat.le_refl _) trivial (h3 _ _ (by unfold vShared; rw [if_pos (Or.inl q)])))
