/-! LEVELS: what comes behind so many readings, and in how many rows. -/
noncomputable def smF (f : Int → Int) : Nat → Int
  | 0 => 0
  | k + 1 => smF f k + f (k : Int)
theorem sm_cg {f g : Int → Int} : ∀ {k : Nat}, (∀ t : Int, 0 ≤ t → t < (k : Int) → f t = g t) → smF f k = smF g k
  | 0, _ => rfl
  | k + 1, h => by
    show smF f k + f (k : Int) = smF g k + g (k : Int)
    rw [sm_cg (fun t t0 t1 => h t t0 (by omega)), h (k : Int) (by omega) (by omega)]
theorem sm_z : ∀ {k : Nat}, smF (fun _ => 0) k = 0
  | 0 => rfl
  | k + 1 => by
    show smF (fun _ => 0) k + 0 = 0
    rw [sm_z]
    rfl
theorem sm_0 {f : Int → Int} : ∀ {k : Nat}, (∀ t : Int, 0 ≤ t → t < (k : Int) → 0 ≤ f t) → 0 ≤ smF f k
  | 0, _ => Int.le_refl _
  | k + 1, h => by
    have := sm_0 (f := f) (k := k) (fun t t0 t1 => h t t0 (by omega))
    have := h (k : Int) (by omega) (by omega)
    show 0 ≤ smF f k + f (k : Int)
    omega
theorem sm_1 {f : Int → Int} {t : Int} : ∀ {k : Nat}, (∀ t : Int, 0 ≤ t → t < (k : Int) → 0 ≤ f t) → 0 ≤ t → t < (k : Int) → f t ≤ smF f k
  | 0, _, t0, t1 => by omega
  | k + 1, h, t0, t1 => by
    have h' : ∀ t : Int, 0 ≤ t → t < (k : Int) → 0 ≤ f t := fun t t0 t1 => h t t0 (by omega)
    have h0 := sm_0 h'
    have hk := h (k : Int) (by omega) (by omega)
    show f t ≤ smF f k + f (k : Int)
    by_cases e : t = (k : Int)
    · rw [e]
      omega
    · have := sm_1 h' t0 (by omega)
      omega
theorem sm_up {f : Int → Int} {t v : Int} : ∀ {k : Nat}, 0 ≤ t → smF (upI f t v) k = if t < (k : Int) then smF f k - f t + v else smF f k
  | 0, t0 => by
    rw [if_neg (by omega)]
    rfl
  | k + 1, t0 => by
    show smF (upI f t v) k + upI f t v (k : Int) = if t < ((k + 1 : Nat) : Int) then smF f k + f (k : Int) - f t + v else smF f k + f (k : Int)
    rw [sm_up t0]
    by_cases e : (k : Int) = t
    · rw [e, up_eq, if_neg (by omega), if_pos (by omega)]
      omega
    · rw [up_ne e]
      by_cases c : t < (k : Int)
      · rw [if_pos c, if_pos (by omega)]
        omega
      · rw [if_neg c, if_neg (by omega)]
theorem sm_add {f g : Int → Int} : ∀ {k : Nat}, smF (fun t => f t + g t) k = smF f k + smF g k
  | 0 => rfl
  | k + 1 => by
    show smF (fun t => f t + g t) k + (f (k : Int) + g (k : Int)) = smF f k + f (k : Int) + (smF g k + g (k : Int))
    rw [sm_add]
    omega
theorem sm_sw {f : Int → Int → Int} {n : Nat} : ∀ {k : Nat}, smF (fun a => smF (fun b => f a b) n) k = smF (fun b => smF (fun a => f a b) k) n
  | 0 => by
    show (0 : Int) = smF (fun b => 0) n
    rw [sm_z]
  | k + 1 => by
    show smF (fun a => smF (fun b => f a b) n) k + smF (fun b => f (k : Int) b) n = smF (fun b => smF (fun a => f a b) k + f (k : Int) b) n
    rw [sm_sw, sm_add]
/-- from st on, k places -/
noncomputable def smN (g : Int → Int) (st : Int) (k : Nat) : Int := smF (fun j => g (st + j)) k
/-- the places st .. en - 1 of q are the texts of P, each once -/
noncomputable def EN (q : Int → Int) (st en : Int) (P : Int → Prop) : Prop := (0 ≤ st ∧ st ≤ en) ∧ (∀ i : Int, st ≤ i → i < en → (0 ≤ q i ∧ q i ≤ 5460) ∧ P (q i)) ∧ (∀ i j : Int, st ≤ i → i < j → j < en → q i ≠ q j) ∧ ∀ t : Int, 0 ≤ t → t ≤ 5460 → P t → ∃ i : Int, (st ≤ i ∧ i < en) ∧ q i = t
noncomputable def enG (q g : Int → Int) (st : Int) : Nat → Int → Int
  | 0 => fun _ => 0
  | k + 1 => upI (enG q g st k) (q (st + (k : Int))) (g (q (st + (k : Int))))
theorem enG_k {q g : Int → Int} {st en : Int} {P : Int → Prop} (h : EN q st en P) : ∀ k : Nat, st + (k : Int) ≤ en → smF (enG q g st k) 5461 = smN (fun i => g (q i)) st k ∧ (∀ i : Int, st ≤ i → i < st + (k : Int) → enG q g st k (q i) = g (q i)) ∧ ∀ t : Int, (∀ i : Int, st ≤ i → i < st + (k : Int) → q i ≠ t) → enG q g st k t = 0
  | 0, _ => ⟨sm_z, fun i i0 i1 => by omega, fun t _ => rfl⟩
  | k + 1, hk => by
    obtain ⟨a, b, c⟩ := enG_k h k (by omega)
    obtain ⟨h0, h1, h2, h3⟩ := h
    have hq := h1 (st + (k : Int)) (by omega) (by omega)
    have hz := c (q (st + (k : Int))) (fun i i0 i1 => h2 i (st + (k : Int)) i0 i1 (by omega))
    refine ⟨?_, fun i i0 i1 => ?_, fun t ht => ?_⟩
    · show smF (upI (enG q g st k) (q (st + (k : Int))) (g (q (st + (k : Int))))) 5461 = smN (fun i => g (q i)) st k + g (q (st + (k : Int)))
      rw [sm_up hq.1.1, if_pos (by omega), a, hz]
      omega
    · show upI (enG q g st k) (q (st + (k : Int))) (g (q (st + (k : Int)))) (q i) = _
      by_cases e : i = st + (k : Int)
      · rw [e, up_eq]
      · rw [up_ne (h2 i (st + (k : Int)) i0 (by omega) (by omega))]
        exact b i i0 (by omega)
    · show upI (enG q g st k) (q (st + (k : Int))) (g (q (st + (k : Int)))) t = 0
      rw [up_ne (fun e => ht (st + (k : Int)) (by omega) (by omega) e.symm)]
      exact c t (fun i i0 i1 => ht i i0 (by omega))
/-- a sum over the places is the sum over the texts -/
theorem en_sum {q g : Int → Int} {st en : Int} {P : Int → Prop} (h : EN q st en P) (hg : ∀ t : Int, 0 ≤ t → t ≤ 5460 → ¬ P t → g t = 0) : smN (fun i => g (q i)) st (en - st).toNat = smF g 5461 := by
  have h0 := h.1
  obtain ⟨a, b, c⟩ := enG_k (g := g) h (en - st).toNat (by omega)
  rw [← a]
  refine sm_cg (fun t t0 t1 => ?_)
  by_cases hp : P t
  · obtain ⟨i, hi, e⟩ := h.2.2.2 t t0 (by omega) hp
    rw [← e]
    exact b i hi.1 (by omega)
  · rw [hg t t0 (by omega) hp]
    exact c t (fun i i0 i1 e => hp (by rw [← e]; exact (h.2.1 i i0 (by omega)).2))
/-! One level behind another. -/
/-- end, texts, ways, nodeOf -/
noncomputable abbrev LvS := Int × (Int → Int) × (Int → Int) × (Int → Int)
noncomputable def lsA (ok : Int → Bool) (m : Int) (s : LvS) : LvS := if (s.2.2.2 m = -1 ∧ ok m = true) ∧ s.1 < 25750 then (s.1 + 1, upI s.2.1 s.1 m, upI s.2.2.1 s.1 0, upI s.2.2.2 m s.1) else s
noncomputable def lsB (m v : Int) (s : LvS) : LvS := if s.2.2.2 m ≠ -1 then (s.1, s.2.1, upI s.2.2.1 (s.2.2.2 m) (s.2.2.1 (s.2.2.2 m) + v), s.2.2.2) else s
noncomputable def lsS (F : Int → Int → Int) (ok : Int → Bool) (i r : Int) (s : LvS) : LvS := lsB (F r (s.2.1 i)) (s.2.2.1 i) (lsA ok (F r (s.2.1 i)) s)
noncomputable def lsR (F : Int → Int → Int) (ok M : Int → Bool) (i : Int) (s : LvS) : Nat → LvS
  | 0 => s
  | r + 1 => if M (r : Int) = true then lsS F ok i (r : Int) (lsR F ok M i s r) else lsR F ok M i s r
noncomputable def lsN (F : Int → Int → Int) (ok M : Int → Bool) (R st : Int) (s : LvS) : Nat → LvS
  | 0 => s
  | k + 1 => lsR F ok M (st + (k : Int)) (lsN F ok M R st s k) R.toNat
/-- how many rows come to a text, as far as it is counted -/
noncomputable def lpR (F : Int → Int → Int) (M : Int → Bool) (t v : Int) (P : Int → Int) : Nat → Int → Int
  | 0 => P
  | r + 1 => if M (r : Int) = true then upI (lpR F M t v P r) (F (r : Int) t) (lpR F M t v P r (F (r : Int) t) + v) else lpR F M t v P r
/-- what holds while a level is filled: P rows come to each text by now, T rows have gone on in all, c steps are done -/
noncomputable def LI (ok : Int → Bool) (mid : Int) (s0 : LvS) (P : Int → Int) (T c : Int) (s : LvS) : Prop := (mid ≤ s.1 ∧ s.1 ≤ 25750) ∧ (∀ j : Int, j < mid → s.2.1 j = s0.2.1 j ∧ s.2.2.1 j = s0.2.2.1 j) ∧ (∀ t : Int, s.2.2.2 t = -1 ∨ ((mid ≤ s.2.2.2 t ∧ s.2.2.2 t < s.1) ∧ s.2.1 (s.2.2.2 t) = t ∧ ok t = true)) ∧ (∀ j : Int, mid ≤ j → j < s.1 → ((0 ≤ s.2.1 j ∧ s.2.1 j ≤ 5460) ∧ s.2.2.2 (s.2.1 j) = j) ∧ s.2.2.1 j = P (s.2.1 j) ∧ 0 < P (s.2.1 j)) ∧ (∀ t : Int, 0 ≤ P t ∧ (ok t = true → 0 < P t → s.2.2.2 t ≠ -1)) ∧ (s.1 - mid ≤ c ∧ s.1 - mid = (cntP (fun k => decide (s.2.2.2 (k : Int) ≠ -1)) 5461 : Int)) ∧ smN s.2.2.1 mid (s.1 - mid).toNat ≤ T
theorem smN_up {w : Int → Int} {mid idx x : Int} {k : Nat} (h0 : mid ≤ idx) (h1 : idx < mid + (k : Int)) : smN (upI w idx x) mid k = smN w mid k - w idx + x := by
  have e : smN (upI w idx x) mid k = smF (upI (fun j => w (mid + j)) (idx - mid) x) k := by
    refine sm_cg (fun t t0 t1 => ?_)
    by_cases c : t = idx - mid
    · rw [c, up_eq, show mid + (idx - mid) = idx by omega, up_eq]
    · rw [up_ne c, up_ne (by omega)]
  rw [e, sm_up (by omega), if_pos (by omega)]
  show smN w mid k - w (mid + (idx - mid)) + x = _
  rw [show mid + (idx - mid) = idx by omega]
theorem smN_s {w : Int → Int} {mid e : Int} (h : mid ≤ e) : smN w mid (e + 1 - mid).toNat = smN w mid (e - mid).toNat + w e := by
  rw [show (e + 1 - mid).toNat = (e - mid).toNat + 1 by omega]
  show smN w mid (e - mid).toNat + w (mid + (((e - mid).toNat : Nat) : Int)) = _
  rw [show mid + (((e - mid).toNat : Nat) : Int) = e by omega]
theorem smN_cg {w w' : Int → Int} {mid e : Int} (h : ∀ j : Int, mid ≤ j → j < e → w j = w' j) : smN w mid (e - mid).toNat = smN w' mid (e - mid).toNat := sm_cg (fun t t0 t1 => h (mid + t) (by omega) (by omega))
theorem li_S {F : Int → Int → Int} {ok : Int → Bool} {mid i r T c : Int} {s0 s : LvS} {P : Int → Int} (h : LI ok mid s0 P T c s) (m0 : 0 ≤ mid) (hi : i < mid) (hm : 0 ≤ F r (s0.2.1 i) ∧ F r (s0.2.1 i) ≤ 5460) (hv : 0 < s0.2.2.1 i) (hc : mid + 5461 ≤ 25750 ∨ mid + c < 25750) : LI ok mid s0 (upI P (F r (s0.2.1 i)) (P (F r (s0.2.1 i)) + s0.2.2.1 i)) (T + s0.2.2.1 i) (c + 1) (lsS F ok i r s) := by
  obtain ⟨h1, h2, h3, h4, h5, h6, h7⟩ := h
  obtain ⟨q1, q2⟩ := h2 i hi
  unfold lsS
  rw [q1, q2]
  generalize F r (s0.2.1 i) = m at hm ⊢
  generalize s0.2.2.1 i = v at hv ⊢
  have hPm := h5 m
  have hP : ∀ t : Int, 0 ≤ upI P m (P m + v) t := fun t => by
    by_cases e : t = m
    · rw [e, up_eq]
      omega
    · rw [up_ne e]
      exact (h5 t).1
  by_cases z : s.2.2.2 m = -1
  · by_cases o : ok m = true
    · -- a new one
      have p0 : P m = 0 := by
        by_cases p : 0 < P m
        · exact absurd z (hPm.2 o p)
        · omega
      have hlt := cn_lt (p := fun k => decide (s.2.2.2 (k : Int) ≠ -1)) (t := m.toNat) (by (try dsimp only); rw [Int.toNat_of_nonneg hm.1]; exact decide_eq_false (fun q => q z)) 5461 (by omega)
      have room : s.1 < 25750 := by omega
      have qne : ∀ j : Int, mid ≤ j → j < s.1 → s.2.1 j ≠ m := fun j j0 j1 e => by
        have := ((h4 j j0 j1).1).2
        rw [e, z] at this
        omega
      have eA : lsA ok m s = (s.1 + 1, upI s.2.1 s.1 m, upI s.2.2.1 s.1 0, upI s.2.2.2 m s.1) := if_pos ⟨⟨z, o⟩, room⟩
      have eB : lsB m v (lsA ok m s) = (s.1 + 1, upI s.2.1 s.1 m, upI (upI s.2.2.1 s.1 0) s.1 (0 + v), upI s.2.2.2 m s.1) := by
        rw [eA]
        unfold lsB
        (try dsimp only)
        refine (if_pos (by rw [up_eq]; omega)).trans ?_
        rw [up_eq, up_eq]
      rw [eB]
      have cu := cn_up (p := fun k => decide (s.2.2.2 (k : Int) ≠ -1)) (q := fun k => decide (upI s.2.2.2 m s.1 (k : Int) ≠ -1)) (t := m.toNat) (by (try dsimp only); rw [Int.toNat_of_nonneg hm.1]; exact decide_eq_false (fun q => q z)) (by (try dsimp only); rw [Int.toNat_of_nonneg hm.1, up_eq]; exact decide_eq_true (by omega)) (fun x hx => by (try dsimp only); rw [up_ne (by omega)]) 5461 (by omega)
      refine ⟨⟨by (try dsimp only); omega, by (try dsimp only); omega⟩, fun j hj => ?_, fun t => ?_, fun j j0 j1 => ?_, fun t => ⟨hP t, fun ho hp => ?_⟩, ⟨by (try dsimp only); omega, by (try dsimp only); omega⟩, ?_⟩
      · (try dsimp only)
        rw [up_ne (show j ≠ s.1 by omega), up_ne (show j ≠ s.1 by omega), up_ne (show j ≠ s.1 by omega)]
        exact h2 j hj
      · (try dsimp only)
        by_cases e : t = m
        · rw [e, up_eq]
          exact Or.inr ⟨⟨by omega, by omega⟩, up_eq, o⟩
        · rw [up_ne e]
          rcases h3 t with q | ⟨qa, qb, qc⟩
          · exact Or.inl q
          · exact Or.inr ⟨⟨by omega, by omega⟩, by rw [up_ne (by omega)]; exact qb, qc⟩
      · (try dsimp only at j1 ⊢)
        by_cases e : j = s.1
        · rw [e, up_eq, up_eq, up_eq, up_eq]
          exact ⟨⟨hm, rfl⟩, by omega, by omega⟩
        · have j2 : j < s.1 := by omega
          rw [up_ne e, up_ne (qne j j0 j2), up_ne e, up_ne e, up_ne (qne j j0 j2)]
          exact h4 j j0 j2
      · (try dsimp only)
        by_cases e : t = m
        · rw [e, up_eq]
          omega
        · rw [up_ne e]
          rw [up_ne e] at hp
          exact (h5 t).2 ho hp
      · (try dsimp only)
        rw [smN_s (by omega), up_eq, smN_cg (w' := s.2.2.1) (fun j j0 j1 => by rw [up_ne (by omega), up_ne (by omega)])]
        omega
    · have eA : lsA ok m s = s := if_neg (fun q => o q.1.2)
      have eB : lsB m v (lsA ok m s) = s := by
        rw [eA]
        exact if_neg (fun q => q z)
      rw [eB]
      refine ⟨h1, h2, h3, fun j j0 j1 => ?_, fun t => ⟨hP t, fun ho hp => ?_⟩, ⟨by omega, h6.2⟩, by omega⟩
      · have hj := h4 j j0 j1
        have ne : s.2.1 j ≠ m := fun e => by
          have := hj.1.2
          rw [e, z] at this
          omega
        rw [up_ne ne]
        exact hj
      · by_cases e : t = m
        · exact absurd (by rw [← e]; exact ho) o
        · rw [up_ne e] at hp
          exact (h5 t).2 ho hp
  · -- it is there
    have eA : lsA ok m s = s := if_neg (fun q => z q.1.1)
    have eB : lsB m v (lsA ok m s) = (s.1, s.2.1, upI s.2.2.1 (s.2.2.2 m) (s.2.2.1 (s.2.2.2 m) + v), s.2.2.2) := by
      rw [eA]
      exact if_pos z
    rw [eB]
    obtain ⟨qa, qb, qc⟩ := (h3 m).resolve_left z
    refine ⟨h1, fun j hj => ⟨(h2 j hj).1, ?_⟩, h3, fun j j0 j1 => ?_, fun t => ⟨hP t, fun ho hp => ?_⟩, ⟨by (try dsimp only); omega, h6.2⟩, ?_⟩
    · (try dsimp only)
      rw [up_ne (by omega)]
      exact (h2 j hj).2
    · (try dsimp only at j1 ⊢)
      have hj := h4 j j0 j1
      by_cases e : j = s.2.2.2 m
      · have e2 : s.2.1 j = m := by rw [e]; exact qb
        rw [e2] at hj ⊢
        rw [e, up_eq, up_eq]
        rw [e] at hj
        exact ⟨hj.1, by omega, by omega⟩
      · have ne : s.2.1 j ≠ m := fun q => e (by rw [← q]; exact hj.1.2.symm)
        rw [up_ne e, up_ne ne]
        exact hj
    · (try dsimp only)
      by_cases e : t = m
      · rw [e]
        exact z
      · rw [up_ne e] at hp
        exact (h5 t).2 ho hp
    · (try dsimp only)
      rw [smN_up qa.1 (by omega)]
      omega
theorem li_mono {ok : Int → Bool} {mid T T' c c' : Int} {s0 s : LvS} {P : Int → Int} (h : LI ok mid s0 P T c s) (hT : T ≤ T') (hc : c ≤ c') : LI ok mid s0 P T' c' s := by
  obtain ⟨h1, h2, h3, h4, h5, h6, h7⟩ := h
  exact ⟨h1, h2, h3, h4, h5, ⟨by omega, h6.2⟩, by omega⟩
noncomputable def tR (v : Int) : Nat → Int
  | 0 => 0
  | r + 1 => tR v r + v
theorem tR_5 {v : Int} (hv : 0 ≤ v) : ∀ {r : Nat}, r ≤ 5 → tR v r ≤ 5 * v
  | 0, _ => by show (0 : Int) ≤ _; omega
  | 1, _ => by show 0 + v ≤ _; omega
  | 2, _ => by show 0 + v + v ≤ _; omega
  | 3, _ => by show 0 + v + v + v ≤ _; omega
  | 4, _ => by show 0 + v + v + v + v ≤ _; omega
  | 5, _ => by show 0 + v + v + v + v + v ≤ _; omega
  | r + 6, h => by omega
theorem li_R {F : Int → Int → Int} {ok M : Int → Bool} {mid i T c n : Int} {s0 s : LvS} {P : Int → Int} (hF : FOK F n) (h : LI ok mid s0 P T c s) (m0 : 0 ≤ mid) (hi : i < mid) (hq : 0 ≤ s0.2.1 i ∧ s0.2.1 i ≤ 5460) (hv : 0 < s0.2.2.1 i) : ∀ r : Nat, (r : Int) ≤ n → (mid + 5461 ≤ 25750 ∨ mid + c + (r : Int) ≤ 25750) → LI ok mid s0 (lpR F M (s0.2.1 i) (s0.2.2.1 i) P r) (T + tR (s0.2.2.1 i) r) (c + (r : Int)) (lsR F ok M i s r)
  | 0, _, _ => li_mono h (by show T ≤ T + 0; omega) (by omega)
  | r + 1, hr, hc => by
    have ih := li_R (M := M) hF h m0 hi hq hv r (by omega) (by omega)
    have hm := hF (r : Int) (s0.2.1 i) (by omega) (by omega) hq.1 hq.2
    show LI ok mid s0 (if M (r : Int) = true then upI (lpR F M (s0.2.1 i) (s0.2.2.1 i) P r) (F (r : Int) (s0.2.1 i)) (lpR F M (s0.2.1 i) (s0.2.2.1 i) P r (F (r : Int) (s0.2.1 i)) + s0.2.2.1 i) else lpR F M (s0.2.1 i) (s0.2.2.1 i) P r) (T + (tR (s0.2.2.1 i) r + s0.2.2.1 i)) _ (if M (r : Int) = true then lsS F ok i (r : Int) (lsR F ok M i s r) else lsR F ok M i s r)
    by_cases z : M (r : Int) = true
    · rw [if_pos z, if_pos z]
      exact li_mono (li_S (F := F) (r := (r : Int)) ih m0 hi hm hv (by omega)) (by omega) (by omega)
    · rw [if_neg z, if_neg z]
      exact li_mono ih (by omega) (by omega)
noncomputable def lpN (F : Int → Int → Int) (M : Int → Bool) (R : Int) (q w : Int → Int) (st : Int) : Nat → Int → Int
  | 0 => fun _ => 0
  | k + 1 => lpR F M (q (st + (k : Int))) (w (st + (k : Int))) (lpN F M R q w st k) R.toNat
theorem li_0 {ok : Int → Bool} {mid : Int} {s0 : LvS} (he : s0.1 = mid) (h0 : 0 ≤ mid) (h1 : mid ≤ 25750) (hn : ∀ t : Int, s0.2.2.2 t = -1) : LI ok mid s0 (fun _ => 0) 0 0 s0 := by
  refine ⟨⟨by omega, by omega⟩, fun j _ => ⟨rfl, rfl⟩, fun t => Or.inl (hn t), fun j j0 j1 => by omega, fun t => ⟨Int.le_refl _, fun _ p => absurd p (show ¬ (0 : Int) < 0 by decide)⟩, ⟨by omega, ?_⟩, ?_⟩
  · have e : ∀ n, cntP (fun k => decide (s0.2.2.2 (k : Int) ≠ -1)) n = 0 := fun n => by
      induction n with
      | zero => rfl
      | succ n ih =>
        show cntP _ n + (if decide (s0.2.2.2 (n : Int) ≠ -1) = true then 1 else 0) = 0
        rw [ih, if_neg (by rw [decide_eq_false (fun z => z (hn _))]; decide)]
    rw [e]
    omega
  · rw [show (s0.1 - mid).toNat = 0 by omega]
    exact Int.le_refl _
theorem li_N {F : Int → Int → Int} {ok M : Int → Bool} {mid st R : Int} {s0 : LvS} (hF : FOK F R) (hR : 0 ≤ R ∧ R ≤ 5) (he : s0.1 = mid) (s0' : 0 ≤ st) (h1 : mid ≤ 25750) (hn : ∀ t : Int, s0.2.2.2 t = -1) (hq : ∀ i : Int, st ≤ i → i < mid → (0 ≤ s0.2.1 i ∧ s0.2.1 i ≤ 5460) ∧ 0 < s0.2.2.1 i) (hc : mid + 5461 ≤ 25750 ∨ mid + 5 * (mid - st) ≤ 25750) : ∀ k : Nat, st + (k : Int) ≤ mid → LI ok mid s0 (lpN F M R s0.2.1 s0.2.2.1 st k) (5 * smN s0.2.2.1 st k) (5 * (k : Int)) (lsN F ok M R st s0 k)
  | 0, hk => li_mono (li_0 (ok := ok) he (by omega) h1 hn) (by show (0 : Int) ≤ 5 * 0; omega) (by omega)
  | k + 1, hk => by
    have ih := li_N (ok := ok) (M := M) hF hR he s0' h1 hn hq hc k (by omega)
    have hi := hq (st + (k : Int)) (by omega) (by omega)
    have h5 := tR_5 (v := s0.2.2.1 (st + (k : Int))) (by omega) (r := R.toNat) (by omega)
    have h := li_R (M := M) hF ih (by omega) (show st + (k : Int) < mid by omega) hi.1 hi.2 R.toNat (by omega) (by omega)
    refine li_mono h ?_ (by omega)
    show 5 * smN s0.2.2.1 st k + tR (s0.2.2.1 (st + (k : Int))) R.toNat ≤ 5 * (smN s0.2.2.1 st k + s0.2.2.1 (st + (k : Int)))
    omega
theorem lpR_v {F : Int → Int → Int} {M : Int → Bool} {t v x : Int} {P : Int → Int} : ∀ {r : Nat}, lpR F M t v P r x = P x + smF (fun a => if M a = true ∧ F a t = x then v else 0) r
  | 0 => by
    show P x = P x + 0
    omega
  | r + 1 => by
    show (if M (r : Int) = true then upI (lpR F M t v P r) (F (r : Int) t) (lpR F M t v P r (F (r : Int) t) + v) else lpR F M t v P r) x = P x + (smF (fun a => if M a = true ∧ F a t = x then v else 0) r + if M (r : Int) = true ∧ F (r : Int) t = x then v else 0)
    by_cases z : M (r : Int) = true
    · rw [if_pos z]
      by_cases e : F (r : Int) t = x
      · rw [e, up_eq, if_pos ⟨z, rfl⟩, lpR_v]
        omega
      · rw [up_ne (fun q => e q.symm), if_neg (fun q => e q.2), lpR_v]
        omega
    · rw [if_neg z, if_neg (fun q => z q.1), lpR_v]
      omega
theorem lpN_v {F : Int → Int → Int} {M : Int → Bool} {R st x : Int} {q w : Int → Int} : ∀ {k : Nat}, lpN F M R q w st k x = smN (fun i => smF (fun a => if M a = true ∧ F a (q i) = x then w i else 0) R.toNat) st k
  | 0 => rfl
  | k + 1 => by
    show lpR F M (q (st + (k : Int))) (w (st + (k : Int))) (lpN F M R q w st k) R.toNat x = smN (fun i => smF (fun a => if M a = true ∧ F a (q i) = x then w i else 0) R.toNat) st k + smF (fun a => if M a = true ∧ F a (q (st + (k : Int))) = x then w (st + (k : Int)) else 0) R.toNat
    rw [lpR_v, lpN_v]
/-- rows that come to a text, from those of the level before -/
noncomputable def wW (F : Int → Int → Int) (M : Int → Bool) (R : Int) (W : Int → Int) (x : Int) : Int := smF (fun u => smF (fun a => if M a = true ∧ F a u = x then W u else 0) R.toNat) 5461
theorem lp_W {F : Int → Int → Int} {M : Int → Bool} {R st mid x : Int} {q w W : Int → Int} (hE : EN q st mid (fun t => 0 < W t)) (hW : ∀ t : Int, 0 ≤ W t) (hw : ∀ i : Int, st ≤ i → i < mid → w i = W (q i)) : lpN F M R q w st (mid - st).toNat x = wW F M R W x := by
  rw [lpN_v]
  unfold wW
  have h0 := hE.1
  rw [← en_sum (g := fun u => smF (fun a => if M a = true ∧ F a u = x then W u else 0) R.toNat) hE (fun t t0 t1 hp => by
    have e : W t = 0 := by have := hW t; omega
    show smF (fun a => if M a = true ∧ F a t = x then W t else 0) R.toNat = 0
    rw [e]
    exact Eq.trans (sm_cg (g := fun _ => 0) (fun a _ _ => by (try dsimp only); split <;> rfl)) sm_z)]
  exact sm_cg (fun j j0 j1 => by
    (try dsimp only)
    rw [hw (st + j) (by omega) (by omega)])
/-- a level that is filled -/
theorem li_E {F : Int → Int → Int} {ok M : Int → Bool} {mid st R : Int} {s0 s : LvS} {W W' : Int → Int} (hF : FOK F R) (hR : 0 ≤ R ∧ R ≤ 5) (he : s0.1 = mid) (h1 : mid ≤ 25750) (hn : ∀ t : Int, s0.2.2.2 t = -1) (hE : EN s0.2.1 st mid (fun t => 0 < W t)) (hW : ∀ t : Int, 0 ≤ W t) (hw : ∀ i : Int, st ≤ i → i < mid → s0.2.2.1 i = W (s0.2.1 i)) (hc : mid + 5461 ≤ 25750 ∨ mid + 5 * (mid - st) ≤ 25750) (hs : s = lsN F ok M R st s0 (mid - st).toNat) (hW' : ∀ t : Int, W' t = if ok t = true then wW F M R W t else 0) : (mid ≤ s.1 ∧ s.1 ≤ 25750) ∧ (∀ j : Int, j < mid → s.2.1 j = s0.2.1 j ∧ s.2.2.1 j = s0.2.2.1 j) ∧ EN s.2.1 mid s.1 (fun t => 0 < W' t) ∧ (∀ j : Int, mid ≤ j → j < s.1 → s.2.2.1 j = W' (s.2.1 j) ∧ s.2.2.2 (s.2.1 j) = j) ∧ (∀ t : Int, s.2.2.2 t ≠ -1 → (mid ≤ s.2.2.2 t ∧ s.2.2.2 t < s.1) ∧ s.2.1 (s.2.2.2 t) = t) ∧ (s.1 - mid ≤ 5 * (mid - st) ∧ s.1 - mid ≤ 5461) ∧ smN s.2.2.1 mid (s.1 - mid).toNat ≤ 5 * smN s0.2.2.1 st (mid - st).toNat ∧ ∀ t : Int, 0 ≤ W' t := by
  have h0 := hE.1
  have hpos : ∀ i : Int, st ≤ i → i < mid → (0 ≤ s0.2.1 i ∧ s0.2.1 i ≤ 5460) ∧ 0 < s0.2.2.1 i := fun i i0 i1 => by
    have := hE.2.1 i i0 i1
    rw [hw i i0 i1]
    exact this
  have h := li_N (ok := ok) (M := M) hF hR he h0.1 h1 hn hpos hc (mid - st).toNat (by omega)
  rw [← hs] at h
  obtain ⟨a1, a2, a3, a4, a5, a6, a7⟩ := h
  have hP : ∀ t : Int, lpN F M R s0.2.1 s0.2.2.1 st (mid - st).toNat t = wW F M R W t := fun t => lp_W hE hW hw
  have hcn := cn_le (fun k => decide (s.2.2.2 (k : Int) ≠ -1)) 5461
  have okj : ∀ j : Int, mid ≤ j → j < s.1 → ok (s.2.1 j) = true := fun j j0 j1 => by
    have h4 := (a4 j j0 j1).1.2
    rcases a3 (s.2.1 j) with z | ⟨-, -, z⟩
    · rw [h4] at z
      omega
    · exact z
  refine ⟨a1, a2, ⟨⟨by omega, a1.1⟩, fun j j0 j1 => ?_, fun i j i0 ij j1 e => ?_, fun t t0 t1 hp => ?_⟩, fun j j0 j1 => ?_, fun t ht => ?_, ⟨by omega, by omega⟩, a7, fun t => ?_⟩
  · have h4 := a4 j j0 j1
    refine ⟨h4.1.1, ?_⟩
    show 0 < W' (s.2.1 j)
    rw [hW', if_pos (okj j j0 j1), ← hP]
    exact h4.2.2
  · have e1 := (a4 i i0 (by omega)).1.2
    have e2 := (a4 j (by omega) j1).1.2
    rw [e, e2] at e1
    omega
  · have hp : 0 < W' t := hp
    rw [hW'] at hp
    by_cases o : ok t = true
    · rw [if_pos o, ← hP] at hp
      have hne := (a5 t).2 o hp
      obtain ⟨q1, q2, -⟩ := (a3 t).resolve_left hne
      exact ⟨s.2.2.2 t, q1, q2⟩
    · rw [if_neg o] at hp
      omega
  · have h4 := a4 j j0 j1
    refine ⟨?_, h4.1.2⟩
    rw [hW', if_pos (okj j j0 j1), ← hP]
    exact h4.2.1
  · obtain ⟨q1, q2, -⟩ := (a3 t).resolve_left ht
    exact ⟨q1, q2⟩
  · rw [hW']
    by_cases o : ok t = true
    · rw [if_pos o, ← hP]
      exact (a5 t).1
    · rw [if_neg o]
      exact Int.le_refl _
/-! LEVELS in the class's arrays. -/
noncomputable def LQ (s : LvS) (e : Int) (T3 T4 T6 : Nat → Int32) : Prop := e = s.1 ∧ (∀ j : Int, 0 ≤ j → j < s.1 → tBy T3 j = s.2.1 j ∧ tBy T4 j = s.2.2.1 j) ∧ ∀ t : Int, 0 ≤ t → t ≤ 5460 → tBy T6 t = s.2.2.2 t
section LQS
variable {s : LvS} {e m v : Int} {ok : Int → Bool} {T3 T4 T6 : Nat → Int32}
theorem LQ_a (h : LQ s e T3 T4 T6) (m0 : 0 ≤ m ∧ m ≤ 5460) (c1 : tBy T6 m = -1) (c2 : ok m = true) (e0 : 0 ≤ e) (c3 : e < 25750) : LQ (lsA ok m s) (e + 1) (upd T3 (e : Int).toNat (Int32.ofInt m)) (upd T4 (e : Int).toNat (Int32.ofInt 0)) (upd T6 (m : Int).toNat (Int32.ofInt e)) := by
  have h1 := h.1
  have eA : lsA ok m s = (s.1 + 1, upI s.2.1 s.1 m, upI s.2.2.1 s.1 0, upI s.2.2.2 m s.1) := if_pos ⟨⟨by rw [← h.2.2 m m0.1 m0.2]; exact c1, c2⟩, by omega⟩
  rw [eA]
  refine ⟨by (try dsimp only); omega, fun j j0 j1 => ?_, fun t t0 t1 => ?_⟩
  · (try dsimp only at j1 ⊢)
    rw [zupI (by exact ⟨by omega, by omega⟩) e0 j0, zupI (by exact ⟨by omega, by omega⟩) e0 j0]
    by_cases q : j = e
    · rw [if_pos q, if_pos q, q, h1, up_eq, up_eq]
      exact ⟨rfl, rfl⟩
    · rw [if_neg q, if_neg q, up_ne (by omega), up_ne (by omega)]
      exact h.2.1 j j0 (by omega)
  · (try dsimp only)
    rw [zupI (by exact ⟨by omega, by omega⟩) m0.1 t0]
    by_cases q : t = m
    · rw [if_pos q, q, up_eq, h1]
    · rw [if_neg q, up_ne q]
      exact h.2.2 t t0 t1
theorem LQ_n (h : LQ s e T3 T4 T6) (m0 : 0 ≤ m ∧ m ≤ 5460) (c : tBy T6 m ≠ -1 ∨ ok m = false ∨ 25750 ≤ e) : LQ (lsA ok m s) e T3 T4 T6 := by
  have h1 := h.1
  have eA : lsA ok m s = s := if_neg (fun q => by
    rcases c with c | c | c
    · exact c (by rw [h.2.2 m m0.1 m0.2]; exact q.1.1)
    · rw [c] at q
      exact absurd q.1.2 (by decide)
    · omega)
  rw [eA]
  exact h
theorem LQ_b (h : LQ s e T3 T4 T6) (m0 : 0 ≤ m ∧ m ≤ 5460) (c : tBy T6 m ≠ -1) (cr : 0 ≤ tBy T6 m ∧ tBy T6 m < e) (hr : r32 (tBy T4 (tBy T6 m) + v)) : LQ (lsB m v s) e T3 (upd T4 (tBy T6 m : Int).toNat (Int32.ofInt (tBy T4 (tBy T6 m) + v))) T6 := by
  have h1 := h.1
  have hm := h.2.2 m m0.1 m0.2
  have eB : lsB m v s = (s.1, s.2.1, upI s.2.2.1 (s.2.2.2 m) (s.2.2.1 (s.2.2.2 m) + v), s.2.2.2) := if_pos (by rw [← hm]; exact c)
  rw [eB]
  refine ⟨h1, fun j j0 j1 => ⟨(h.2.1 j j0 j1).1, ?_⟩, h.2.2⟩
  (try dsimp only at j1 ⊢)
  rw [zupI hr cr.1 j0]
  by_cases q : j = tBy T6 m
  · rw [if_pos q, q, ← hm, up_eq, (h.2.1 _ cr.1 (by omega)).2]
  · rw [if_neg q, up_ne (by rw [← hm]; exact q)]
    exact (h.2.1 j j0 j1).2
theorem LQ_c (h : LQ s e T3 T4 T6) (m0 : 0 ≤ m ∧ m ≤ 5460) (c : tBy T6 m = -1) : LQ (lsB m v s) e T3 T4 T6 := by
  have eB : lsB m v s = s := if_neg (fun q => q (by rw [← h.2.2 m m0.1 m0.2]; exact c))
  rw [eB]
  exact h
end LQS
theorem lsR_s {F : Int → Int → Int} {ok M : Int → Bool} {i r : Int} {s : LvS} (r0 : 0 ≤ r) : lsR F ok M i s (r + 1).toNat = if M r = true then lsS F ok i r (lsR F ok M i s r.toNat) else lsR F ok M i s r.toNat := by
  rw [show (r + 1).toNat = r.toNat + 1 by omega]
  show (if M ((r.toNat : Nat) : Int) = true then lsS F ok i ((r.toNat : Nat) : Int) (lsR F ok M i s r.toNat) else lsR F ok M i s r.toNat) = _
  rw [Int.toNat_of_nonneg r0]
theorem lsN_s {F : Int → Int → Int} {ok M : Int → Bool} {R st i : Int} {s : LvS} (h : st ≤ i) : lsN F ok M R st s (i + 1 - st).toNat = lsR F ok M i (lsN F ok M R st s (i - st).toNat) R.toNat := by
  rw [show (i + 1 - st).toNat = (i - st).toNat + 1 by omega]
  show lsR F ok M (st + (((i - st).toNat : Nat) : Int)) (lsN F ok M R st s (i - st).toNat) R.toNat = _
  rw [show st + (((i - st).toNat : Nat) : Int) = i by omega]
/-- before a level is filled -/
noncomputable def LFH (F : Int → Int → Int) (R st mid : Int) (s0 : LvS) : Prop := FOK F R ∧ (0 ≤ R ∧ R ≤ 5) ∧ s0.1 = mid ∧ (0 ≤ st ∧ st ≤ mid ∧ mid ≤ 25750) ∧ (∀ t : Int, s0.2.2.2 t = -1) ∧ (∀ i : Int, st ≤ i → i < mid → (0 ≤ s0.2.1 i ∧ s0.2.1 i ≤ 5460) ∧ 0 < s0.2.2.1 i) ∧ (mid + 5461 ≤ 25750 ∨ mid + 5 * (mid - st) ≤ 25750) ∧ smN s0.2.2.1 st (mid - st).toNat ≤ 1953125
theorem smN_m {w : Int → Int} {st mid : Int} (hw : ∀ i : Int, st ≤ i → i < mid → 0 < w i) : ∀ k k' : Nat, k ≤ k' → st + (k' : Int) ≤ mid → smN w st k ≤ smN w st k'
  | k, 0, h, _ => by
    rw [show k = 0 by omega]
    exact Int.le_refl _
  | k, k' + 1, h, hm => by
    by_cases e : k = k' + 1
    · rw [e]
      exact Int.le_refl _
    · have := smN_m hw k k' (by omega) (by omega)
      have := hw (st + (k' : Int)) (by omega) (by omega)
      show smN w st k ≤ smN w st k' + w (st + (k' : Int))
      omega
/-- where the filling stands, at reader r of place i -/
theorem lf_at {F : Int → Int → Int} {ok M : Int → Bool} {R st mid i r : Int} {s0 s : LvS} (h : LFH F R st mid s0) (i0 : st ≤ i) (i1 : i < mid) (r0 : 0 ≤ r) (r1 : r ≤ R) (hs : s = lsR F ok M i (lsN F ok M R st s0 (i - st).toNat) r.toNat) : (mid ≤ s.1 ∧ s.1 ≤ 25750) ∧ (s.2.1 i = s0.2.1 i ∧ s.2.2.1 i = s0.2.2.1 i) ∧ (0 ≤ s0.2.1 i ∧ s0.2.1 i ≤ 5460) ∧ (0 < s.2.2.1 i ∧ s.2.2.1 i ≤ 1953125) ∧ (∀ t : Int, s.2.2.2 t = -1 ∨ (mid ≤ s.2.2.2 t ∧ s.2.2.2 t < s.1)) ∧ ∀ j : Int, mid ≤ j → j < s.1 → 0 < s.2.2.1 j ∧ s.2.2.1 j ≤ 20000000 := by
  obtain ⟨hF, hR, he, hm, hn, hq, hc, hw⟩ := h
  have hN := li_N (ok := ok) (M := M) hF hR he hm.1 hm.2.2 hn hq hc (i - st).toNat (by omega)
  have hi := hq i i0 i1
  have h5 := tR_5 (v := s0.2.2.1 i) (by omega) (r := r.toNat) (by omega)
  have hL := li_R (M := M) hF hN (by omega) i1 hi.1 hi.2 r.toNat (by omega) (by omega)
  rw [← hs] at hL
  obtain ⟨a1, a2, a3, a4, a5, a6, a7⟩ := hL
  have hpos : ∀ i : Int, st ≤ i → i < mid → 0 < s0.2.2.1 i := fun i i0 i1 => (hq i i0 i1).2
  have m1 := smN_m hpos (i - st).toNat (mid - st).toNat (by omega) (by omega)
  have m2 := smN_m hpos ((i - st).toNat + 1) (mid - st).toNat (by omega) (by omega)
  have m3 : smN s0.2.2.1 st ((i - st).toNat + 1) = smN s0.2.2.1 st (i - st).toNat + s0.2.2.1 i := by
    show smN s0.2.2.1 st (i - st).toNat + s0.2.2.1 (st + (((i - st).toNat : Nat) : Int)) = _
    rw [show st + (((i - st).toNat : Nat) : Int) = i by omega]
  have m4 : 0 ≤ smN s0.2.2.1 st (i - st).toNat := sm_0 (fun t t0 t1 => by have := hpos (st + t) (by omega) (by omega); omega)
  refine ⟨a1, a2 i i1, hi.1, by rw [(a2 i i1).2]; omega, fun t => ?_, fun j j0 j1 => ?_⟩
  · rcases a3 t with z | ⟨z, -⟩
    · exact Or.inl z
    · exact Or.inr z
  · have b := a4 j j0 j1
    have b2 : s.2.2.1 j ≤ smN s.2.2.1 mid (s.1 - mid).toNat := by
      have := sm_1 (f := fun x => s.2.2.1 (mid + x)) (t := j - mid) (k := (s.1 - mid).toNat) (fun t t0 t1 => by
        have := a4 (mid + t) (by omega) (by omega)
        omega) (by omega) (by omega)
      rw [show mid + (j - mid) = j by omega] at this
      exact this
    omega
/-- which texts are wanted behind so many readings -/
noncomputable def okW (gW : Nat → Int32) (lev m : Int) : Bool := decide (tBy gW lev = -1 ∨ tBy gW lev = m)
theorem okW_t {gW : Nat → Int32} {lev m : Int} (h : tBy gW lev = -1 ∨ tBy gW lev = m) : okW gW lev m = true := decide_eq_true h
theorem okW_f {gW : Nat → Int32} {lev m : Int} (h : tBy gW lev ≠ -1 ∧ tBy gW lev ≠ m) : okW gW lev m = false := decide_eq_false (fun z => z.elim h.1 h.2)
/-- the rows that come to each text, level by level -/
noncomputable def Wl (F : Int → Int → Int) (ok : Int → Int → Bool) (M : Int → Int → Bool) (R b : Int) : Nat → Int → Int
  | 0 => fun t => if t = b ∧ ok 0 t = true then 1 else 0
  | k + 1 => fun t => if ok ((k : Int) + 1) t = true then wW F (M (k : Int)) R (Wl F ok M R b k) t else 0
/-- the most texts of a level, and those of all before it -/
noncomputable def szB : Nat → Int
  | 0 => 1
  | k + 1 => if 5 * szB k ≤ 5461 then 5 * szB k else 5461
noncomputable def cmB : Nat → Int
  | 0 => 0
  | k + 1 => cmB k + szB k
noncomputable def p5 : Nat → Int
  | 0 => 1
  | k + 1 => 5 * p5 k
theorem cmB_a : ∀ k : Nat, k < 9 → (cmB (k + 1) + 5461 ≤ 25750 ∨ cmB (k + 1) + 5 * szB k ≤ 25750) ∧ cmB (k + 1) ≤ 25750 ∧ cmB (k + 2) ≤ 25750 ∧ (szB k ≤ 5461 ∧ 1 ≤ szB k) ∧ p5 k ≤ 1953125 := by decide +kernel
/-- levels 0 .. k stand -/
noncomputable def SPQ (F : Int → Int → Int) (ok : Int → Int → Bool) (M : Int → Int → Bool) (R b : Int) (k : Nat) (gS T3 T4 T6 : Nat → Int32) : Prop := (∀ L : Nat, L ≤ k → (0 ≤ tBy gS (L : Int) ∧ tBy gS (L : Int) ≤ tBy gS ((L : Int) + 1)) ∧ tBy gS ((L : Int) + 1) ≤ cmB (L + 1) ∧ tBy gS ((L : Int) + 1) - tBy gS (L : Int) ≤ szB L ∧ EN (fun j => tBy T3 j) (tBy gS (L : Int)) (tBy gS ((L : Int) + 1)) (fun t => 0 < Wl F ok M R b L t) ∧ (∀ i : Int, tBy gS (L : Int) ≤ i → i < tBy gS ((L : Int) + 1) → tBy T4 i = Wl F ok M R b L (tBy T3 i)) ∧ smN (fun j => tBy T4 j) (tBy gS (L : Int)) (tBy gS ((L : Int) + 1) - tBy gS (L : Int)).toNat ≤ p5 L) ∧ (∀ L : Nat, L ≤ k → ∀ t : Int, 0 ≤ Wl F ok M R b L t) ∧ ∀ t : Int, 0 ≤ t → t ≤ 5460 → tBy T6 t = -1
theorem EN_cg {q q' : Int → Int} {st en : Int} {P P' : Int → Prop} (h : EN q st en P) (e : ∀ i : Int, st ≤ i → i < en → q i = q' i) (ep : ∀ t : Int, P t ↔ P' t) : EN q' st en P' := by
  obtain ⟨h0, h1, h2, h3⟩ := h
  refine ⟨h0, fun i i0 i1 => ?_, fun i j i0 ij j1 => ?_, fun t t0 t1 hp => ?_⟩
  · rw [← e i i0 i1]
    have := h1 i i0 i1
    exact ⟨this.1, (ep _).mp this.2⟩
  · rw [← e i i0 (by omega), ← e j (by omega) j1]
    exact h2 i j i0 ij j1
  · obtain ⟨i, hi, e2⟩ := h3 t t0 t1 ((ep t).mpr hp)
    exact ⟨i, hi, by rw [← e i hi.1 hi.2]; exact e2⟩
/-- what is asked for before level k + 1 is filled -/
theorem spq_f {F : Int → Int → Int} {ok : Int → Int → Bool} {M : Int → Int → Bool} {R b : Int} {k : Nat} {gS T3 T4 T6 : Nat → Int32} (h : SPQ F ok M R b k gS T3 T4 T6) (hk : k < 9) (hF : FOK F R) (hR : 0 ≤ R ∧ R ≤ 5) : LFH F R (tBy gS (k : Int)) (tBy gS ((k : Int) + 1)) (tBy gS ((k : Int) + 1), (fun j => tBy T3 j), (fun j => tBy T4 j), (fun _ => -1)) ∧ LQ (tBy gS ((k : Int) + 1), (fun j => tBy T3 j), (fun j => tBy T4 j), (fun _ => -1)) (tBy gS ((k : Int) + 1)) T3 T4 T6 := by
  obtain ⟨h1, h2, h3⟩ := h
  obtain ⟨a1, a2, a3, a4, a5, a6⟩ := h1 k (Nat.le_refl _)
  obtain ⟨c1, c2, c3, c4, c5⟩ := cmB_a k hk
  refine ⟨⟨hF, hR, rfl, ⟨a1.1, a1.2, by omega⟩, fun _ => rfl, fun i i0 i1 => ?_, by (try dsimp only); omega, by (try dsimp only); omega⟩, rfl, fun j j0 j1 => ⟨rfl, rfl⟩, fun t t0 t1 => h3 t t0 t1⟩
  have e := a4.2.1 i i0 i1
  refine ⟨e.1, ?_⟩
  show 0 < tBy T4 i
  rw [a5 i i0 i1]
  exact e.2
theorem spq_m {F : Int → Int → Int} {ok : Int → Int → Bool} {M : Int → Int → Bool} {R b : Int} {k : Nat} {gS T3 T4 T6 : Nat → Int32} (h : SPQ F ok M R b k gS T3 T4 T6) (L : Nat) : ∀ d : Nat, L + d ≤ k → tBy gS ((L : Int) + 1) ≤ tBy gS (((L + d : Nat) : Int) + 1)
  | 0, _ => Int.le_refl _
  | d + 1, hd => by
    have ih := spq_m h L d (by omega)
    have := (h.1 (L + d + 1) (by omega)).1.2
    rw [show ((L + d + 1 : Nat) : Int) = ((L + d : Nat) : Int) + 1 by omega] at this
    rw [show ((L + (d + 1) : Nat) : Int) = ((L + d : Nat) : Int) + 1 by omega]
    omega
theorem spq_s {F : Int → Int → Int} {ok : Int → Int → Bool} {M : Int → Int → Bool} {R b e : Int} {k : Nat} {gS T3 T4 T6 U3 U4 U6 : Nat → Int32} (h : SPQ F ok M R b k gS T3 T4 T6) (hk : k < 9) (hF : FOK F R) (hR : 0 ≤ R ∧ R ≤ 5) (hq : LQ (lsN F (ok ((k : Int) + 1)) (M (k : Int)) R (tBy gS (k : Int)) (tBy gS ((k : Int) + 1), (fun j => tBy T3 j), (fun j => tBy T4 j), (fun _ => -1)) (tBy gS ((k : Int) + 1) - tBy gS (k : Int)).toNat) e U3 U4 U6) : (tBy gS ((k : Int) + 1) ≤ e ∧ e ≤ 25750) ∧ (∀ j : Int, tBy gS ((k : Int) + 1) ≤ j → j < e → 0 ≤ tBy U3 j ∧ tBy U3 j ≤ 5460) ∧ (∀ t : Int, 0 ≤ t → t ≤ 5460 → tBy U6 t ≠ -1 → ∃ j : Int, (tBy gS ((k : Int) + 1) ≤ j ∧ j < e) ∧ tBy U3 j = t) ∧ ∀ T6' : Nat → Int32, (∀ t : Int, 0 ≤ t → t ≤ 5460 → tBy T6' t = -1) → SPQ F ok M R b (k + 1) (upd gS ((k : Int) + 2).toNat (Int32.ofInt e)) U3 U4 T6' := by
  have hm := spq_m h
  obtain ⟨h1, h2, h3⟩ := h
  obtain ⟨a1, a2, a3, a4, a5, a6⟩ := h1 k (Nat.le_refl _)
  obtain ⟨c1, c2, c3, c4, c5⟩ := cmB_a k hk
  obtain ⟨b1, b2, b3, b4, b5, b6, b7, b8⟩ := li_E (st := tBy gS (k : Int)) (mid := tBy gS ((k : Int) + 1)) (ok := ok ((k : Int) + 1)) (M := M (k : Int)) (s0 := (tBy gS ((k : Int) + 1), (fun j => tBy T3 j), (fun j => tBy T4 j), (fun _ => -1))) (W := Wl F ok M R b k) (W' := Wl F ok M R b (k + 1)) hF hR rfl (by omega) (fun _ => rfl) a4 (h2 k (Nat.le_refl _)) a5 (by omega) rfl (fun t => rfl)
  generalize lsN F (ok ((k : Int) + 1)) (M (k : Int)) R (tBy gS (k : Int)) (tBy gS ((k : Int) + 1), (fun j => tBy T3 j), (fun j => tBy T4 j), (fun _ => -1)) (tBy gS ((k : Int) + 1) - tBy gS (k : Int)).toNat = s at hq b1 b2 b3 b4 b5 b6 b7
  have e1 := hq.1
  have hu : ∀ j : Int, 0 ≤ j → j < tBy gS ((k : Int) + 1) → tBy U3 j = tBy T3 j ∧ tBy U4 j = tBy T4 j := fun j j0 j1 => by
    have x1 := hq.2.1 j j0 (by omega)
    have x2 := b2 j j1
    exact ⟨x1.1.trans x2.1, x1.2.trans x2.2⟩
  have hg : ∀ L : Int, 0 ≤ L → L ≤ (k : Int) + 1 → tBy (upd gS ((k : Int) + 2).toNat (Int32.ofInt e)) L = tBy gS L := fun L l0 l1 => by
    rw [zupI (by exact ⟨by omega, by omega⟩) (by omega) l0, if_neg (by omega)]
  have hg2 : tBy (upd gS ((k : Int) + 2).toNat (Int32.ofInt e)) ((k : Int) + 2) = e := by
    rw [zupI (by exact ⟨by omega, by omega⟩) (by omega) (by omega), if_pos rfl]
  refine ⟨by omega, fun j j0 j1 => ?_, fun t t0 t1 ht => ?_, fun T6' h6 => ⟨fun L hL => ?_, fun L hL => ?_, h6⟩⟩
  · rw [(hq.2.1 j (by omega) (by omega)).1]
    exact (b3.2.1 j j0 (by omega)).1
  · rw [hq.2.2 t t0 t1] at ht
    obtain ⟨x1, x2⟩ := b5 t ht
    exact ⟨s.2.2.2 t, ⟨x1.1, by omega⟩, by rw [(hq.2.1 _ (by omega) (by omega)).1]; exact x2⟩
  · by_cases z : L = k + 1
    · rw [z]
      rw [show ((k + 1 : Nat) : Int) = (k : Int) + 1 by omega, show (k : Int) + 1 + 1 = (k : Int) + 2 by omega, hg _ (by omega) (by omega), hg2]
      have hz : szB (k + 1) = if 5 * szB k ≤ 5461 then 5 * szB k else 5461 := rfl
      have hc : cmB (k + 1 + 1) = cmB (k + 1) + szB (k + 1) := rfl
      have hs : e - tBy gS ((k : Int) + 1) ≤ szB (k + 1) := by
        rw [hz]
        split <;> omega
      have hp : p5 (k + 1) = 5 * p5 k := rfl
      refine ⟨⟨by omega, by omega⟩, by omega, hs, EN_cg (en := e) (by rw [e1]; exact b3) (fun i i0 i1 => ((hq.2.1 i (by omega) (by omega)).1).symm) (fun t => Iff.rfl), fun i i0 i1 => ?_, ?_⟩
      · have x1 := hq.2.1 i (by omega) (by omega)
        rw [x1.1, x1.2]
        exact (b4 i i0 (by omega)).1
      · have e3 : smN (fun j => tBy U4 j) (tBy gS ((k : Int) + 1)) (e - tBy gS ((k : Int) + 1)).toNat = smN s.2.2.1 (tBy gS ((k : Int) + 1)) (e - tBy gS ((k : Int) + 1)).toNat := smN_cg (fun j j0 j1 => (hq.2.1 j (by omega) (by omega)).2)
        rw [e3, e1]
        rw [hp]
        (try dsimp only at b7)
        omega
    · have hL' : L ≤ k := by omega
      obtain ⟨d1, d2, d3, d4, d5, d6⟩ := h1 L hL'
      have mm := hm L (k - L) (by omega)
      rw [show L + (k - L) = k by omega] at mm
      rw [hg (L : Int) (by omega) (by omega), hg ((L : Int) + 1) (by omega) (by omega)]
      refine ⟨d1, d2, d3, EN_cg d4 (fun i i0 i1 => (hu i (by omega) (by omega)).1.symm) (fun t => Iff.rfl), fun i i0 i1 => ?_, ?_⟩
      · rw [(hu i (by omega) (by omega)).1, (hu i (by omega) (by omega)).2]
        exact d5 i i0 i1
      · rw [smN_cg (w' := fun j => tBy T4 j) (fun j j0 j1 => (hu j (by omega) (by omega)).2)]
        exact d6
  · by_cases z : L = k + 1
    · rw [z]
      exact b8
    · exact h2 L (by omega)
theorem spq_0 {F : Int → Int → Int} {ok : Int → Int → Bool} {M : Int → Int → Bool} {R b : Int} {gS T3 T4 T6 : Nat → Int32} (hb : 0 ≤ b ∧ b ≤ 5460) (e0 : tBy gS 0 = 0) (h : (ok 0 b = true ∧ tBy gS 1 = 1 ∧ tBy T3 0 = b ∧ tBy T4 0 = 1) ∨ (ok 0 b = false ∧ tBy gS 1 = 0)) (h6 : ∀ t : Int, 0 ≤ t → t ≤ 5460 → tBy T6 t = -1) : SPQ F ok M R b 0 gS T3 T4 T6 := by
  have w0 : ∀ t : Int, Wl F ok M R b 0 t = if t = b ∧ ok 0 t = true then 1 else 0 := fun t => rfl
  have hW : ∀ t : Int, 0 ≤ Wl F ok M R b 0 t := fun t => by
    rw [w0]
    split <;> omega
  refine ⟨fun L hL => ?_, fun L hL => ?_, h6⟩
  · obtain rfl : L = 0 := by omega
    have hs : szB 0 = 1 := rfl
    have hc : cmB (0 + 1) = 1 := rfl
    have hp : p5 0 = 1 := rfl
    rw [show ((0 : Nat) : Int) + 1 = 1 from rfl, show ((0 : Nat) : Int) = 0 from rfl, e0, hs, hc, hp]
    rcases h with ⟨o, g1, t0, t1⟩ | ⟨o, g1⟩
    · rw [g1]
      have z0 : ∀ i : Int, 0 ≤ i → i < 1 → i = 0 := fun i i0 i1 => by omega
      refine ⟨⟨by omega, by omega⟩, by omega, by omega, ⟨⟨by omega, by omega⟩, fun i i0 i1 => ?_, fun i j i0 ij j1 => by omega, fun t _ _ hp' => ?_⟩, fun i i0 i1 => ?_, ?_⟩
      · rw [z0 i i0 i1]
        (try dsimp only)
        rw [t0]
        exact ⟨hb, by rw [w0, if_pos ⟨rfl, o⟩]; decide⟩
      · have hp' : 0 < Wl F ok M R b 0 t := hp'
        rw [w0] at hp'
        by_cases c : t = b ∧ ok 0 t = true
        · exact ⟨0, ⟨by omega, by omega⟩, by rw [c.1]; exact t0⟩
        · rw [if_neg c] at hp'
          omega
      · rw [z0 i i0 i1, t0, t1, w0, if_pos ⟨rfl, o⟩]
      · show 0 + tBy T4 (0 + ((0 : Nat) : Int)) ≤ 1
        rw [show (0 : Int) + ((0 : Nat) : Int) = 0 from rfl, t1]
        omega
    · rw [g1]
      refine ⟨⟨by omega, by omega⟩, by omega, by omega, ⟨⟨by omega, by omega⟩, fun i i0 i1 => by omega, fun i j i0 ij j1 => by omega, fun t _ _ hp' => ?_⟩, fun i i0 i1 => by omega, ?_⟩
      · exfalso
        have hp' : 0 < Wl F ok M R b 0 t := hp'
        rw [w0] at hp'
        by_cases c : t = b ∧ ok 0 t = true
        · rw [c.1, o] at c
          exact absurd c.2 (by decide)
        · rw [if_neg c] at hp'
          omega
      · show (0 : Int) ≤ 1
        decide
  · obtain rfl : L = 0 := by omega
    exact hW
section SPI
variable {F : Int → Int → Int} {ok : Int → Int → Bool} {M : Int → Int → Bool} {R b lv e : Int} {gS T3 T4 T6 U3 U4 U6 : Nat → Int32}
theorem spqi_f (h : SPQ F ok M R b lv.toNat gS T3 T4 T6) (l0 : 0 ≤ lv) (l1 : lv < 9) (hF : FOK F R) (hR : 0 ≤ R ∧ R ≤ 5) : LFH F R (tBy gS lv) (tBy gS (lv + 1)) (tBy gS (lv + 1), (fun j => tBy T3 j), (fun j => tBy T4 j), (fun _ => -1)) ∧ LQ (tBy gS (lv + 1), (fun j => tBy T3 j), (fun j => tBy T4 j), (fun _ => -1)) (tBy gS (lv + 1)) T3 T4 T6 := by
  have := spq_f h (by omega) hF hR
  rw [Int.toNat_of_nonneg l0] at this
  exact this
theorem spqi_s (h : SPQ F ok M R b lv.toNat gS T3 T4 T6) (l0 : 0 ≤ lv) (l1 : lv < 9) (hF : FOK F R) (hR : 0 ≤ R ∧ R ≤ 5) (hq : LQ (lsN F (ok (lv + 1)) (M lv) R (tBy gS lv) (tBy gS (lv + 1), (fun j => tBy T3 j), (fun j => tBy T4 j), (fun _ => -1)) (tBy gS (lv + 1) - tBy gS lv).toNat) e U3 U4 U6) : (tBy gS (lv + 1) ≤ e ∧ e ≤ 25750) ∧ (∀ j : Int, tBy gS (lv + 1) ≤ j → j < e → 0 ≤ tBy U3 j ∧ tBy U3 j ≤ 5460) ∧ (∀ t : Int, 0 ≤ t → t ≤ 5460 → tBy U6 t ≠ -1 → ∃ j : Int, (tBy gS (lv + 1) ≤ j ∧ j < e) ∧ tBy U3 j = t) ∧ ∀ T6' : Nat → Int32, (∀ t : Int, 0 ≤ t → t ≤ 5460 → tBy T6' t = -1) → SPQ F ok M R b (lv + 1).toNat (upd gS (lv + 2 : Int).toNat (Int32.ofInt e)) U3 U4 T6' := by
  have := spq_s (e := e) (U3 := U3) (U4 := U4) (U6 := U6) h (by omega) hF hR (by rw [Int.toNat_of_nonneg l0]; exact hq)
  rw [Int.toNat_of_nonneg l0] at this
  rw [show (lv + 1).toNat = lv.toNat + 1 by omega]
  exact this
end SPI
theorem upL_v {g : Nat → Int32} {i e : Int} (h : r32 e) (hi : 0 ≤ i) : tBy (upd g i.toNat (Int32.ofInt e)) i = e := (zupI h hi hi).trans (if_pos rfl)
theorem st_n {g : Nat → Int32} : tBy (upd (upd g (0 : Int).toNat (Int32.ofInt 0)) (1 : Int).toNat (Int32.ofInt 0)) 0 = 0 ∧ tBy (upd (upd g (0 : Int).toNat (Int32.ofInt 0)) (1 : Int).toNat (Int32.ofInt 0)) 1 = 0 := by
  refine ⟨?_, upL_v (by exact ⟨by omega, by omega⟩) (by omega)⟩
  rw [zupI (by exact ⟨by omega, by omega⟩) (by omega) (by omega), if_neg (by omega)]
  exact upL_v (by exact ⟨by omega, by omega⟩) (by omega)
theorem st_y {g : Nat → Int32} : tBy (upd (upd (upd g (0 : Int).toNat (Int32.ofInt 0)) (1 : Int).toNat (Int32.ofInt 0)) (1 : Int).toNat (Int32.ofInt 1)) 0 = 0 ∧ tBy (upd (upd (upd g (0 : Int).toNat (Int32.ofInt 0)) (1 : Int).toNat (Int32.ofInt 0)) (1 : Int).toNat (Int32.ofInt 1)) 1 = 1 := by
  refine ⟨?_, upL_v (by exact ⟨by omega, by omega⟩) (by omega)⟩
  rw [zupI (by exact ⟨by omega, by omega⟩) (by omega) (by omega), if_neg (by omega)]
  exact st_n.1
/-! Folding back: what a text is worth by what comes of it. -/
noncomputable def fdS (how f c : Int) : Int := if c = -1 then f else if f = -1 then c else if how = 2 then f + c else if how = 0 then (if c < f then c else f) else (if f < c then c else f)
noncomputable def fdN (how : Int) (ch : Int → Int) : Nat → Int
  | 0 => -1
  | r + 1 => fdS how (fdN how ch r) (ch (r : Int))
noncomputable def fdV (how : Int) (ch : Int → Int) (R : Int) : Int := if fdN how ch R.toNat = -1 then 0 else fdN how ch R.toNat
theorem fd_s {how r f c : Int} {ch : Int → Int} (h : f = fdN how ch r.toNat) (r0 : 0 ≤ r) (hc : c = ch r) : fdS how f c = fdN how ch (r + 1).toNat := by
  rw [show (r + 1).toNat = r.toNat + 1 by omega]
  show fdS how f c = fdS how (fdN how ch r.toNat) (ch ((r.toNat : Nat) : Int))
  rw [Int.toNat_of_nonneg r0, ← h, ← hc]
theorem fd_e {how R v r : Int} {ch : Int → Int} (h : r = fdN how ch R.toNat) (hv : (r = -1 ∧ v = 0) ∨ (r ≠ -1 ∧ v = r)) : v = fdV how ch R := by
  unfold fdV
  rw [← h]
  rcases hv with ⟨a, b⟩ | ⟨a, b⟩
  · rw [if_pos a, b]
  · rw [if_neg a, b]
/-- what lies behind a text, in the class's arrays; -1 if it isn't there -/
noncomputable def cvA (g5 g6 : Nat → Int32) (u : Int) : Int := if tBy g6 u = -1 then -1 else tBy g5 (tBy g6 u)
noncomputable def chA (F : Int → Int → Int) (M : Int → Bool) (g5 g6 : Nat → Int32) (t r : Int) : Int := if M r = true then cvA g5 g6 (F r t) else -1
theorem ch_f {F : Int → Int → Int} {M : Int → Bool} {g5 g6 : Nat → Int32} {t r : Int} (h : M r = false) : (-1 : Int) = chA F M g5 g6 t r := (if_neg (by rw [h]; decide)).symm
theorem ch_n {F : Int → Int → Int} {M : Int → Bool} {g5 g6 : Nat → Int32} {t r u : Int} (h : M r = true) (hu : u = F r t) (hn : tBy g6 u = -1) : (-1 : Int) = chA F M g5 g6 t r := by
  unfold chA
  rw [if_pos h, ← hu]
  exact (if_pos hn).symm
theorem ch_y {F : Int → Int → Int} {M : Int → Bool} {g5 g6 : Nat → Int32} {t r u : Int} (h : M r = true) (hu : u = F r t) (hn : tBy g6 u ≠ -1) : tBy g5 (tBy g6 u) = chA F M g5 g6 t r := by
  unfold chA
  rw [if_pos h, ← hu]
  exact (if_neg hn).symm
/-- nodeOf knows the places st .. en - 1 -/
noncomputable def NDQ (g3 g6 : Nat → Int32) (st en : Int) : Prop := (∀ i : Int, st ≤ i → i < en → tBy g6 (tBy g3 i) = i) ∧ ∀ t : Int, 0 ≤ t → t ≤ 5460 → tBy g6 t = -1 ∨ ((st ≤ tBy g6 t ∧ tBy g6 t < en) ∧ tBy g3 (tBy g6 t) = t)
theorem nd_0 {g3 g6 : Nat → Int32} {st : Int} (h : ∀ t : Int, 0 ≤ t → t ≤ 5460 → tBy g6 t = -1) : NDQ g3 g6 st st := ⟨fun i i0 i1 => by omega, fun t t0 t1 => Or.inl (h t t0 t1)⟩
theorem nd_s {g3 g6 : Nat → Int32} {st ii en : Int} (h : NDQ g3 g6 st ii) (s0 : 0 ≤ st) (i0 : st ≤ ii) (i1 : ii < en) (e1 : en ≤ 25750) (hr : ∀ j : Int, st ≤ j → j < en → 0 ≤ tBy g3 j ∧ tBy g3 j ≤ 5460) (hd : ∀ i j : Int, st ≤ i → i < j → j < en → tBy g3 i ≠ tBy g3 j) : NDQ g3 (upd g6 (tBy g3 ii : Int).toNat (Int32.ofInt ii)) st (ii + 1) := by
  have hi := hr ii i0 i1
  have u : ∀ t : Int, 0 ≤ t → tBy (upd g6 (tBy g3 ii : Int).toNat (Int32.ofInt ii)) t = if t = tBy g3 ii then ii else tBy g6 t := fun t t0 => zupI (by exact ⟨by omega, by omega⟩) hi.1 t0
  refine ⟨fun i a b => ?_, fun t t0 t1 => ?_⟩
  · have hii := hr i a (by omega)
    rw [u _ hii.1]
    by_cases e : i = ii
    · rw [e, if_pos rfl]
    · rw [if_neg (hd i ii a (by omega) i1)]
      exact h.1 i a (by omega)
  · rw [u t t0]
    by_cases e : t = tBy g3 ii
    · rw [if_pos e]
      exact Or.inr ⟨⟨by omega, by omega⟩, e.symm⟩
    · rw [if_neg e]
      rcases h.2 t t0 t1 with z | ⟨z, z2⟩
      · exact Or.inl z
      · exact Or.inr ⟨⟨z.1, by omega⟩, z2⟩
