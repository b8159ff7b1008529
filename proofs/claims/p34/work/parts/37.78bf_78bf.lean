/-! COUNTING over the TEXTS. -/
noncomputable def cntF (p : Nat → Bool) : Nat → Nat
  | 0 => 0
  | n + 1 => cntF p n + (if p n = true then 1 else 0)
theorem cntF_le (p : Nat → Bool) : ∀ n, cntF p n ≤ n
  | 0 => Nat.le_refl _
  | n + 1 => by
    have := cntF_le p n
    unfold cntF
    split <;> omega
theorem cntF_lt (p : Nat → Bool) {t : Nat} (ht : p t = false) : ∀ n, t < n → cntF p n < n
  | 0, h => by omega
  | n + 1, h => by
    unfold cntF
    have h1 := cntF_le p n
    by_cases e : t = n
    · subst e; rw [ht]; simp only [Bool.false_eq_true, if_false]; omega
    · have := cntF_lt p ht n (by omega)
      split <;> omega
theorem cntF_cong {p p' : Nat → Bool} : ∀ n, (∀ s, s < n → p' s = p s) → cntF p' n = cntF p n
  | 0, _ => rfl
  | n + 1, h => by
    unfold cntF
    rw [cntF_cong n (fun s hs => h s (by omega)), h n (by omega)]
theorem cntF_up {p p' : Nat → Bool} {t : Nat} (h0 : p t = false) (h1 : p' t = true) (h : ∀ s, s ≠ t → p' s = p s) : ∀ n, t < n → cntF p' n = cntF p n + 1
  | 0, q => by omega
  | n + 1, q => by
    unfold cntF
    by_cases e : t = n
    · subst e
      rw [cntF_cong t (fun s hs => h s (by omega)), h0, h1]
      simp
    · rw [cntF_up h0 h1 h n (by omega), h n (fun z => e z.symm)]
      omega
theorem cntF_0 {p : Nat → Bool} : ∀ n, (∀ s, s < n → p s = false) → cntF p n = 0
  | 0, _ => rfl
  | n + 1, h => by
    unfold cntF
    rw [cntF_0 n (fun s hs => h s (by omega)), h n (by omega)]
    rfl
theorem cntF_pos (p : Nat → Bool) {t : Nat} (ht : p t = true) : ∀ n, t < n → 1 ≤ cntF p n
  | 0, h => by omega
  | n + 1, h => by
    unfold cntF
    by_cases e : t = n
    · subst e; rw [ht]; simp
    · have := cntF_pos p ht n (by omega)
      omega
/-- how many TEXTS have another value -/
noncomputable def cN (v : Int) (D : Nat → Int32) : Int := (cntF (fun t => decide ((D t).toInt ≠ v)) 5461 : Nat)
theorem cN_le (v : Int) (D : Nat → Int32) : 0 ≤ cN v D ∧ cN v D ≤ 5461 := by
  have := cntF_le (fun t => decide ((D t).toInt ≠ v)) 5461
  unfold cN; omega
theorem cN_lt {v : Int} {D : Nat → Int32} {t : Nat} (ht : t < 5461) (h : (D t).toInt = v) : cN v D < 5461 := by
  have := cntF_lt (fun t => decide ((D t).toInt ≠ v)) (t := t) (by simp [h]) 5461 ht
  unfold cN; omega
theorem cN_pos {v : Int} {D : Nat → Int32} {t : Nat} (ht : t < 5461) (h : (D t).toInt ≠ v) : 1 ≤ cN v D := by
  have := cntF_pos (fun t => decide ((D t).toInt ≠ v)) (t := t) (by simp [h]) 5461 ht
  unfold cN; omega
theorem cN_up {v : Int} {D : Nat → Int32} {t : Nat} {x : Int32} (ht : t < 5461) (h : (D t).toInt = v) (hx : x.toInt ≠ v) : cN v (upd D t x) = cN v D + 1 := by
  unfold cN
  rw [cntF_up (p := fun t => decide ((D t).toInt ≠ v)) (t := t) (by simp [h]) (by simp [upd, hx]) (fun s hs => by simp [upd, hs]) 5461 ht]
  omega
theorem cN_same {v : Int} {D : Nat → Int32} {t : Nat} {x : Int32} (h : (D t).toInt ≠ v) (hx : x.toInt ≠ v) : cN v (upd D t x) = cN v D := by
  unfold cN
  rw [cntF_cong (p := fun t => decide ((D t).toInt ≠ v)) 5461 (fun s _ => ?_)]
  by_cases e : s = t
  · subst e; simp [upd, hx, h]
  · simp [upd, e]
theorem cN_0 {v : Int} {D : Nat → Int32} (h : ∀ t, t < 5461 → (D t).toInt = v) : cN v D = 0 := by
  unfold cN
  rw [cntF_0 5461 (fun s hs => by simp [h s hs])]
  rfl
/-- how many of the first n are not above 0 -/
noncomputable def cP (D : Nat → Int32) (n : Nat) : Int := (cntF (fun t => decide ((D t).toInt ≤ 0)) n : Nat)
theorem cP_le (D : Nat → Int32) (n : Nat) : 0 ≤ cP D n ∧ cP D n ≤ n := by
  have := cntF_le (fun t => decide ((D t).toInt ≤ 0)) n
  unfold cP; omega
theorem cP_lt {D : Nat → Int32} {t : Nat} (ht : t < 5461) (h : 0 < (D t).toInt) : cP D 5461 < 5461 := by
  have := cntF_lt (fun t => decide ((D t).toInt ≤ 0)) (t := t) (by simp; omega) 5461 ht
  unfold cP; omega
theorem cP_s (D : Nat → Int32) (n : Nat) : cP D (n + 1) = cP D n + (if (D n).toInt ≤ 0 then 1 else 0) := by
  unfold cP
  conv => lhs; unfold cntF
  split
  · rename_i h; simp at h; rw [if_pos h]; omega
  · rename_i h; simp at h; rw [if_neg (by omega)]; omega
theorem cP_up {D : Nat → Int32} {t : Nat} {x : Int32} (ht : t < 5461) (h : 0 < (D t).toInt) (hx : x.toInt ≤ 0) : cP (upd D t x) 5461 = cP D 5461 + 1 := by
  unfold cP
  rw [cntF_up (p := fun t => decide ((D t).toInt ≤ 0)) (t := t) (by simp; omega) (by simp [upd, hx]) (fun s hs => by simp [upd, hs]) 5461 ht]
  omega
theorem cP_same {D : Nat → Int32} {t : Nat} {x : Int32} (n : Nat) (h : (D t).toInt ≤ 0 ↔ x.toInt ≤ 0) : cP (upd D t x) n = cP D n := by
  unfold cP
  rw [cntF_cong (p := fun t => decide ((D t).toInt ≤ 0)) n (fun s _ => ?_)]
  by_cases e : s = t
  · subst e; simp [upd, h]
  · simp [upd, e]
noncomputable def sumI (D : Nat → Int32) : Nat → Int
  | 0 => 0
  | n + 1 => sumI D n + (D n).toInt
theorem sumI_o (D : Nat → Int32) {t : Nat} {x : Int32} : ∀ n, n ≤ t → sumI (upd D t x) n = sumI D n
  | 0, _ => rfl
  | n + 1, h => by
    unfold sumI
    rw [sumI_o D n (by omega), pk_un (by omega)]
theorem sumI_u (D : Nat → Int32) {t : Nat} {x : Int32} : ∀ n, t < n → sumI (upd D t x) n = sumI D n - (D t).toInt + x.toInt
  | 0, h => by omega
  | n + 1, h => by
    unfold sumI
    by_cases e : t = n
    · subst e
      rw [sumI_o D t (Nat.le_refl _), pk_us]
      omega
    · rw [sumI_u D n (by omega), pk_un (fun z => e z.symm)]
      omega
theorem sumI_b (D : Nat → Int32) {lo hi : Int} : ∀ n, (∀ t, t < n → lo ≤ (D t).toInt ∧ (D t).toInt ≤ hi) → lo * n ≤ sumI D n ∧ sumI D n ≤ hi * n
  | 0, _ => by unfold sumI; omega
  | n + 1, h => by
    have h1 := sumI_b D n (fun t ht => h t (by omega))
    have h2 := h n (by omega)
    unfold sumI
    rw [Int.natCast_succ, Int.mul_add, Int.mul_add, Int.mul_one, Int.mul_one]
    omega
/-! values below a place -/
noncomputable def zNb (n : Nat) (lo hi : Int) (D : Nat → Int32) : Prop := ∀ t, t < n → lo ≤ (D t).toInt ∧ (D t).toInt ≤ hi
theorem zNb_u {n : Nat} {lo hi : Int} {D : Nat → Int32} (h : zNb n lo hi D) {t : Nat} {e : Int} (h1 : lo ≤ e) (h2 : e ≤ hi) (hl : -2147483648 ≤ lo) (hh : hi ≤ 2147483647) : zNb n lo hi (upd D t (Int32.ofInt e)) := by
  intro j hj
  unfold upd
  split
  · rw [zti (by omega) (by omega)]; exact ⟨h1, h2⟩
  · exact h j hj
theorem zNb_w {n : Nat} {lo hi lo' hi' : Int} {D : Nat → Int32} (h : zNb n lo hi D) (h1 : lo' ≤ lo) (h2 : hi ≤ hi') : zNb n lo' hi' D := by
  intro j hj
  have := h j hj
  omega
/-! how far -/
noncomputable def ffI (D O : Nat → Int32) (c : Int) : Prop := cN 1000000 D = c ∧ (∀ t, t < 5461 → (D t).toInt = 1000000 ∨ (0 ≤ (D t).toInt ∧ (D t).toInt ≤ c)) ∧ (∀ i : Nat, (i : Int) < c → (D (O i).toInt.toNat).toInt ≠ 1000000)
theorem ff_lt {D O : Nat → Int32} {c : Int} (h : ffI D O c) {t : Nat} (ht : t < 5461) (hD : (D t).toInt = 1000000) : c < 5461 := by
  rw [← h.1]; exact cN_lt ht hD
theorem ff_v {D O : Nat → Int32} {c v : Int} (h : ffI D O c) (hO : zB 0 5460 O) {k : Nat} (hk : (k : Int) < c) (hv : v = (D (O k).toInt.toNat).toInt) : 0 ≤ v ∧ v ≤ c := by
  have h1 := hO k
  have h2 := h.2.1 (O k).toInt.toNat (by omega)
  have h3 := h.2.2 k hk
  omega
theorem ff_s {D O : Nat → Int32} {c v t : Int} (h : ffI D O c) (ht0 : 0 ≤ t) (ht : t ≤ 5460) (hD : (D t.toNat).toInt = 1000000) (hc0 : 0 ≤ c) (hc : c < 5461) (hv0 : 0 ≤ v) (hv : v ≤ c) : ffI (upd D t.toNat (Int32.ofInt (v + 1))) (upd O c.toNat (Int32.ofInt t)) (c + 1) := by
  have e1 : (Int32.ofInt (v + 1)).toInt = v + 1 := zti (by omega) (by omega)
  have e2 : (Int32.ofInt t).toInt = t := zti (by omega) (by omega)
  refine ⟨?_, fun s hs => ?_, fun i hi => ?_⟩
  · rw [cN_up (by omega) hD (by omega), h.1]
  · by_cases e : s = t.toNat
    · subst e; rw [pk_us]; omega
    · rw [pk_un e]
      have := h.2.1 s hs
      omega
  · by_cases e : i = c.toNat
    · subst e; rw [pk_us, e2, pk_us]; omega
    · rw [pk_un e]
      by_cases e3 : (O i).toInt.toNat = t.toNat
      · rw [e3, pk_us]; omega
      · rw [pk_un e3]; exact h.2.2 i (by omega)
theorem ff_i {D : Nat → Int32} {i : Int} (h : ∀ j : Nat, (j : Int) < i → (D j).toInt = 1000000) (h0 : 0 ≤ i) : ∀ j : Nat, (j : Int) < i + 1 → (upd D i.toNat (Int32.ofInt 1000000) j).toInt = 1000000 := by
  intro j hj
  by_cases e : j = i.toNat
  · subst e; rw [pk_us]; rfl
  · rw [pk_un e]; exact h j (by omega)
theorem ff_1 {D O : Nat → Int32} {a i : Int} (hD : ∀ j : Nat, (j : Int) < i → (D j).toInt = 1000000) (hi : 5461 ≤ i) (h0 : 0 ≤ a) (h1 : a ≤ 5460) : ffI (upd D a.toNat (Int32.ofInt 0)) (upd O (0 : Int).toNat (Int32.ofInt a)) 1 := by
  have e2 : (Int32.ofInt a).toInt = a := zti (by omega) (by omega)
  have e0 : (Int32.ofInt 0).toInt = 0 := by decide
  refine ⟨?_, fun s hs => ?_, fun i hi => ?_⟩
  · rw [cN_up (by omega) (hD _ (by omega)) (by omega), cN_0 (fun t ht => hD t (by omega))]
    rfl
  · by_cases e : s = a.toNat
    · subst e; rw [pk_us]; omega
    · rw [pk_un e]
      have := hD s (by omega)
      omega
  · have e : i = (0 : Int).toNat := by show i = 0; omega
    subst e
    rw [pk_us, e2, pk_us]
    omega
