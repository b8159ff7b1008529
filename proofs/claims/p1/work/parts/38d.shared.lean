/-! SHARED: rows of words by bits, their numbers, the greedy way. -/
def num (l : List Nat) : Nat := l.foldl (fun t w => 4 * t + 1 + w) 0
theorem num_snoc (l : List Nat) (w : Nat) : num (l ++ [w]) = 4 * num l + 1 + w := by unfold num; rw [List.foldl_append]; rfl
theorem tSh_4 : ∀ j, j < 8 → tSh (j + 1) = 4 * tSh j + 1 := by decide +kernel
theorem tLen_of {t n : Nat} (hn : n ≤ 6) (h1 : tSh n ≤ t) (h2 : t < tSh (n + 1)) : tLen t = n ∧ t < 5461 := by
  obtain ⟨e0, e1, e2, e3, e4, e5, e6, e7⟩ := tSh_v
  have hc : n = 0 ∨ n = 1 ∨ n = 2 ∨ n = 3 ∨ n = 4 ∨ n = 5 ∨ n = 6 := by omega
  have ht : t < 5461 := by
    rcases hc with rfl | rfl | rfl | rfl | rfl | rfl | rfl <;> simp only [e0, e1, e2, e3, e4, e5, e6, e7] at h1 h2 <;> omega
  refine ⟨?_, ht⟩
  rcases tLen_v t ht with ⟨h3, h⟩ | ⟨h3, h4, h⟩ | ⟨h3, h4, h⟩ | ⟨h3, h4, h⟩ | ⟨h3, h4, h⟩ | ⟨h3, h4, h⟩ | ⟨h3, h⟩ <;> rw [h] <;> rcases hc with rfl | rfl | rfl | rfl | rfl | rfl | rfl <;> simp only [e0, e1, e2, e3, e4, e5, e6, e7] at h1 h2 <;> omega
theorem numP : ∀ (n : Nat) (l : List Nat), l.length = n → n ≤ 6 → (∀ x ∈ l, x < 4) → (tSh n ≤ num l ∧ num l < tSh (n + 1)) ∧ ∀ k, k < n → (num l - tSh n) / 4 ^ (n - 1 - k) % 4 = l.getD k 0
  | 0, l, hl, _, _ => by
    have : l = [] := List.length_eq_zero_iff.mp hl
    subst this
    exact ⟨by decide, fun k hk => absurd hk (Nat.not_lt_zero _)⟩
  | n + 1, l, hl, hn, hx => by
    rcases List.eq_nil_or_concat l with rfl | ⟨L, w, rfl⟩
    · simp at hl
    · rw [List.concat_eq_append] at hl hx ⊢
      have hL : L.length = n := by rw [List.length_append] at hl; simpa using hl
      have hw : w < 4 := hx w (by simp)
      obtain ⟨⟨p1, p2⟩, p3⟩ := numP n L hL (by omega) (fun x h => hx x (by simp [h]))
      have e1 := tSh_4 n (by omega)
      have e2 := tSh_4 (n + 1) (by omega)
      rw [num_snoc]
      refine ⟨by omega, fun k hk => ?_⟩
      have e3 : 4 * num L + 1 + w - tSh (n + 1) = 4 * (num L - tSh n) + w := by omega
      rw [e3]
      by_cases hkn : k = n
      · subst hkn
        rw [show k + 1 - 1 - k = 0 by omega, Nat.pow_zero, Nat.div_one]
        have e4 : (L ++ [w]).getD k 0 = w := by
          rw [List.getD_eq_getElem?_getD, List.getElem?_append_right (by omega), hL, Nat.sub_self]
          rfl
        rw [e4]
        omega
      · have e4 : (L ++ [w]).getD k 0 = L.getD k 0 := by
          rw [List.getD_eq_getElem?_getD, List.getD_eq_getElem?_getD, List.getElem?_append_left (by omega)]
        rw [e4, ← p3 k (by omega), show n + 1 - 1 - k = (n - 1 - k) + 1 by omega, Nat.pow_succ', ← Nat.div_div_eq_div_mul, show (4 * (num L - tSh n) + w) / 4 = num L - tSh n by omega]
theorem num_t (l : List Nat) (hl : l.length ≤ 6) (hx : ∀ x ∈ l, x < 4) : tLen (num l) = l.length ∧ num l < 5461 ∧ ∀ k, k < l.length → tW (num l) k = l.getD k 0 := by
  obtain ⟨⟨p1, p2⟩, p3⟩ := numP l.length l rfl hl hx
  obtain ⟨q1, q2⟩ := tLen_of hl p1 p2
  refine ⟨q1, q2, fun k hk => ?_⟩
  rw [← p3 k hk]
  unfold tW tF
  rw [q1]
theorem num_inj {l l' : List Nat} (hl : l.length ≤ 6) (hx : ∀ x ∈ l, x < 4) (hl' : l'.length ≤ 6) (hx' : ∀ x ∈ l', x < 4) (h : num l = num l') : l = l' := by
  obtain ⟨a1, -, a3⟩ := num_t l hl hx
  obtain ⟨b1, -, b3⟩ := num_t l' hl' hx'
  have hlen : l.length = l'.length := by rw [← a1, ← b1, h]
  apply List.ext_getElem hlen
  intro k h1 h2
  have e1 := a3 k h1
  have e2 := b3 k h2
  rw [h] at e1
  rw [e1, List.getD_eq_getElem?_getD, List.getD_eq_getElem?_getD, List.getElem?_eq_getElem h1, List.getElem?_eq_getElem h2] at e2
  exact e2
def pick (u : Nat → Nat) (s : Nat) : Nat → List Nat
  | 0 => []
  | k + 1 => if s / 2 ^ k % 2 = 1 then pick u s k ++ [u k] else pick u s k
theorem pick_1 {u : Nat → Nat} {s k : Nat} (h : s / 2 ^ k % 2 = 1) : pick u s (k + 1) = pick u s k ++ [u k] := if_pos h
theorem pick_0 {u : Nat → Nat} {s k : Nat} (h : ¬ s / 2 ^ k % 2 = 1) : pick u s (k + 1) = pick u s k := if_neg h
theorem pick_len (u : Nat → Nat) (s : Nat) : ∀ k, (pick u s k).length ≤ k
  | 0 => Nat.le_refl _
  | k + 1 => by
    have h := pick_len u s k
    by_cases hb : s / 2 ^ k % 2 = 1
    · rw [pick_1 hb, List.length_append, List.length_singleton]; omega
    · rw [pick_0 hb]; omega
theorem pick_lt {u : Nat → Nat} (hu : ∀ i, u i < 4) (s : Nat) : ∀ k, ∀ x ∈ pick u s k, x < 4
  | 0, x, h => absurd h List.not_mem_nil
  | k + 1, x, h => by
    by_cases hb : s / 2 ^ k % 2 = 1
    · rw [pick_1 hb] at h
      rcases List.mem_append.mp h with h | h
      · exact pick_lt hu s k x h
      · rw [List.mem_singleton.mp h]; exact hu k
    · rw [pick_0 hb] at h
      exact pick_lt hu s k x h
theorem pick_cong {u : Nat → Nat} {s s' : Nat} : ∀ k, (∀ j, j < k → s / 2 ^ j % 2 = s' / 2 ^ j % 2) → pick u s k = pick u s' k
  | 0, _ => rfl
  | k + 1, h => by
    have h1 := pick_cong (u := u) k (fun j hj => h j (by omega))
    have h2 := h k (by omega)
    by_cases hb : s / 2 ^ k % 2 = 1
    · rw [pick_1 hb, pick_1 (by rw [← h2]; exact hb), h1]
    · rw [pick_0 hb, pick_0 (by rw [← h2]; exact hb), h1]
theorem pick_pre (u : Nat → Nat) (s : Nat) (j : Nat) : ∀ k, j ≤ k → ∃ l, pick u s k = pick u s j ++ l
  | 0, h => ⟨[], by rw [show j = 0 by omega]; rfl⟩
  | k + 1, h => by
    by_cases hj : j = k + 1
    · exact ⟨[], by rw [hj, List.append_nil]⟩
    · obtain ⟨l, hl⟩ := pick_pre u s j k (by omega)
      by_cases hb : s / 2 ^ k % 2 = 1
      · exact ⟨l ++ [u k], by rw [pick_1 hb, hl, List.append_assoc]⟩
      · exact ⟨l, by rw [pick_0 hb, hl]⟩
/-- how many of l's words the greedy way has found behind k words -/
def fnd (u : Nat → Nat) (l : List Nat) : Nat → Nat
  | 0 => 0
  | k + 1 => if fnd u l k < l.length ∧ u k = l.getD (fnd u l k) 0 then fnd u l k + 1 else fnd u l k
theorem fnd_le (u : Nat → Nat) (l : List Nat) : ∀ k, fnd u l k ≤ l.length
  | 0 => Nat.zero_le _
  | k + 1 => by
    have h := fnd_le u l k
    unfold fnd
    split <;> omega
theorem fnd_pick (u : Nat → Nat) (l : List Nat) : ∀ k, ∃ s, s < 2 ^ k ∧ pick u s k = l.take (fnd u l k)
  | 0 => ⟨0, by decide, by simp [pick, fnd]⟩
  | k + 1 => by
    obtain ⟨s, hs, hp⟩ := fnd_pick u l k
    have h2 : 2 ^ (k + 1) = 2 * 2 ^ k := Nat.pow_succ'
    by_cases hc : fnd u l k < l.length ∧ u k = l.getD (fnd u l k) 0
    · have e : fnd u l (k + 1) = fnd u l k + 1 := if_pos hc
      have hbit : (s + 2 ^ k) / 2 ^ k % 2 = 1 := by
        rw [Nat.add_div_right _ (Nat.two_pow_pos k), Nat.div_eq_of_lt hs]
      refine ⟨s + 2 ^ k, by omega, ?_⟩
      rw [pick_1 hbit, pick_cong (s' := s) k (fun j hj => ?_), hp, e, List.take_add_one, hc.2]
      · have hc1 := hc.1
        have e5 : l.getD (fnd u l k) 0 = l[fnd u l k] := by rw [List.getD_eq_getElem?_getD, List.getElem?_eq_getElem hc1]; rfl
        rw [List.getElem?_eq_getElem hc1]
        exact congrArg (fun z => List.take (fnd u l k) l ++ [z]) e5
      · have e3 : 2 ^ k = 2 ^ j * (2 * 2 ^ (k - j - 1)) := by
          rw [← Nat.pow_succ', ← Nat.pow_add]
          congr 1
          omega
        rw [e3, Nat.add_mul_div_left _ _ (Nat.two_pow_pos j), Nat.add_mul_mod_self_left]
    · have e : fnd u l (k + 1) = fnd u l k := if_neg hc
      have hbit : ¬ s / 2 ^ k % 2 = 1 := by rw [Nat.div_eq_of_lt hs]; decide
      exact ⟨s, by omega, by rw [pick_0 hbit, e]; exact hp⟩
theorem pick_fnd (u : Nat → Nat) (s m : Nat) : ∀ k, k ≤ m → (pick u s k).length ≤ fnd u (pick u s m) k
  | 0, _ => Nat.zero_le _
  | k + 1, hk => by
    have h := pick_fnd u s m k (by omega)
    have hmono : fnd u (pick u s m) k ≤ fnd u (pick u s m) (k + 1) := by
      conv => rhs; unfold fnd
      split
      · exact Nat.le_succ _
      · exact Nat.le_refl _
    by_cases hb : s / 2 ^ k % 2 = 1
    · obtain ⟨r, hr⟩ := pick_pre u s (k + 1) m hk
      rw [pick_1 hb] at hr ⊢
      rw [List.length_append, List.length_singleton]
      by_cases hq : (pick u s k).length < fnd u (pick u s m) k
      · omega
      · have he : fnd u (pick u s m) k = (pick u s k).length := by omega
        have hget : (pick u s m).getD (pick u s k).length 0 = u k := by
          rw [hr, List.getD_eq_getElem?_getD, List.append_assoc, List.getElem?_append_right (Nat.le_refl _), Nat.sub_self]
          rfl
        have hlt : (pick u s k).length < (pick u s m).length := by
          rw [hr]
          simp
        have : fnd u (pick u s m) (k + 1) = fnd u (pick u s m) k + 1 := if_pos ⟨by rw [he]; exact hlt, by rw [he, hget]⟩
        omega
    · rw [pick_0 hb]
      omega
/-- left of the other: some of its words make it -/
def isL (u : Nat → Nat) (m t : Nat) : Prop := ∃ s, s < 2 ^ m ∧ num (pick u s m) = t
theorem isL_fnd {u : Nat → Nat} (hu : ∀ i, u i < 4) {m : Nat} (hm : m ≤ 6) {l : List Nat} (hl : l.length ≤ 6) (hx : ∀ x ∈ l, x < 4) : isL u m (num l) ↔ fnd u l m = l.length := by
  constructor
  · rintro ⟨s, hs, hn⟩
    have e := num_inj (Nat.le_trans (pick_len u s m) hm) (pick_lt hu s m) hl hx hn
    have h1 := pick_fnd u s m m (Nat.le_refl _)
    rw [e] at h1
    have h2 := fnd_le u l m
    omega
  · intro h
    obtain ⟨s, hs, hp⟩ := fnd_pick u l m
    exact ⟨s, hs, by rw [hp, h, List.take_length]⟩
theorem tW_lt (t : Nat) : ∀ i, tW t i < 4 := fun i => Nat.mod_lt _ (by omega)
def btr (t b : Nat) : Prop := tLen b < tLen t ∨ (tLen t = tLen b ∧ t < b)
noncomputable def bst (u v : Nat → Nat) (n m : Nat) : Nat → Nat
  | 0 => 0
  | s + 1 => @ite Nat (btr (num (pick u s n)) (bst u v n m s) ∧ isL v m (num (pick u s n))) (Classical.propDecidable _) (num (pick u s n)) (bst u v n m s)
theorem bst_lt {u v : Nat → Nat} (hu : ∀ i, u i < 4) {n m : Nat} (hn : n ≤ 6) : ∀ s, bst u v n m s < 5461
  | 0 => by show 0 < 5461; omega
  | s + 1 => by
    have h := bst_lt (v := v) (m := m) hu hn s
    have h2 := (num_t (pick u s n) (Nat.le_trans (pick_len u s n) hn) (pick_lt hu s n)).2.1
    unfold bst
    split
    · exact h2
    · exact h
theorem bst_y {u v : Nat → Nat} {n m s : Nat} (h1 : btr (num (pick u s n)) (bst u v n m s)) (h2 : isL v m (num (pick u s n))) : bst u v n m (s + 1) = num (pick u s n) := if_pos ⟨h1, h2⟩
theorem bst_n {u v : Nat → Nat} {n m s : Nat} (h : ¬ (btr (num (pick u s n)) (bst u v n m s) ∧ isL v m (num (pick u s n)))) : bst u v n m (s + 1) = bst u v n m s := if_neg h
