/-! TOKENS: pure functions of the tape. -/
/-- a fact that arithmetic is not to look at -/
noncomputable def FX (p : Prop) : Prop := p
noncomputable def runF (P : Int → Bool) (g : Nat → Int32) : Nat → Nat → Nat
  | 0, a => a
  | f + 1, a => match P (g a).toInt with
    | true => runF P g f (a + 1)
    | false => a
theorem runF_t {P : Int → Bool} {g : Nat → Int32} {f a : Nat} (h : P (g a).toInt = true) : runF P g (f + 1) a = runF P g f (a + 1) := by
  show (match P (g a).toInt with
    | true => runF P g f (a + 1)
    | false => a) = _
  rw [h]
theorem runF_f {P : Int → Bool} {g : Nat → Int32} {f a : Nat} (h : P (g a).toInt = false) : runF P g f a = a := by
  cases f with
  | zero => rfl
  | succ f =>
    show (match P (g a).toInt with
      | true => runF P g f (a + 1)
      | false => a) = _
    rw [h]
theorem runF_b {P : Int → Bool} {g : Nat → Int32} : ∀ (f a : Nat), a ≤ runF P g f a ∧ runF P g f a ≤ a + f
  | 0, a => ⟨Nat.le_refl _, Nat.le_refl _⟩
  | f + 1, a => by
    cases h : P (g a).toInt with
    | true =>
      rw [runF_t h]
      have := runF_b (P := P) (g := g) f (a + 1)
      omega
    | false => rw [runF_f h]; omega
theorem runF_all {P : Int → Bool} {g : Nat → Int32} : ∀ (f a i : Nat), a ≤ i → i < runF P g f a → P (g i).toInt = true
  | 0, a, i, h1, h2 => by have : runF P g 0 a = a := rfl; omega
  | f + 1, a, i, h1, h2 => by
    cases h : P (g a).toInt with
    | true =>
      rw [runF_t h] at h2
      rcases Nat.eq_or_lt_of_le h1 with e | e
      · rw [← e]; exact h
      · exact runF_all f (a + 1) i e h2
    | false => rw [runF_f h] at h2; omega
noncomputable def tRun (P : Int → Bool) (g : Nat → Int32) (n a : Int) : Int := ((runF P g (n.toNat - a.toNat) a.toNat : Nat) : Int)
theorem tRun_s {P : Int → Bool} {g : Nat → Int32} {n a : Int} (h0 : 0 ≤ a) (h1 : a < n) (h : P (g a.toNat).toInt = true) : tRun P g n (a + 1) = tRun P g n a := by
  unfold tRun
  have e : n.toNat - a.toNat = (n.toNat - (a + 1).toNat) + 1 := by omega
  have e2 : (a + 1).toNat = a.toNat + 1 := by omega
  rw [e, runF_t h, e2]
theorem tRun_n {P : Int → Bool} {g : Nat → Int32} {n a : Int} (h0 : 0 ≤ a) (h : n ≤ a) : tRun P g n a = a := by
  unfold tRun
  rw [show n.toNat - a.toNat = 0 by omega]
  show ((a.toNat : Nat) : Int) = a
  omega
theorem tRun_f {P : Int → Bool} {g : Nat → Int32} {n a : Int} (h0 : 0 ≤ a) (h : P (g a.toNat).toInt = false) : tRun P g n a = a := by
  unfold tRun
  rw [runF_f h]
  omega
theorem tRun_b {P : Int → Bool} {g : Nat → Int32} {n a : Int} (h0 : 0 ≤ a) (h1 : a ≤ n) : a ≤ tRun P g n a ∧ tRun P g n a ≤ n := by
  have := runF_b (P := P) (g := g) (n.toNat - a.toNat) a.toNat
  unfold tRun
  omega
theorem tRun_all {P : Int → Bool} {g : Nat → Int32} {n a i : Int} (h0 : 0 ≤ a) (h1 : a ≤ i) (h2 : i < tRun P g n a) : P (g i.toNat).toInt = true := by
  unfold tRun at h2
  exact runF_all (n.toNat - a.toNat) a.toNat i.toNat (by omega) (by omega)
noncomputable def cBl (x : Int) : Bool := decide (x = 10 ∨ x = 32)
noncomputable def cLt (x : Int) : Bool := decide (97 ≤ x ∧ x ≤ 122)
noncomputable def cDg (x : Int) : Bool := decide (48 ≤ x ∧ x ≤ 57)
noncomputable def tBy (g : Nat → Int32) (i : Int) : Int := (g i.toNat).toInt
noncomputable def tS (g : Nat → Int32) (n a : Int) : Int := tRun cBl g n a
noncomputable def kOf (g : Nat → Int32) (n s : Int) : Int := if n ≤ s then 0 else if 97 ≤ tBy g s ∧ tBy g s ≤ 122 then 1 else if 48 ≤ tBy g s ∧ tBy g s ≤ 57 then (if tRun cDg g n s ≤ s + 2 then 2 else 4) else if tBy g s = 59 then 3 else 4
noncomputable def eOf (g : Nat → Int32) (n s : Int) : Int := if n ≤ s then s else if 97 ≤ tBy g s ∧ tBy g s ≤ 122 then tRun cLt g n s else if 48 ≤ tBy g s ∧ tBy g s ≤ 57 then tRun cDg g n s else s + 1
noncomputable def vOf (g : Nat → Int32) (s e : Int) : Int := if e = s + 1 then tBy g s - 48 else (tBy g s - 48) * 10 + (tBy g (s + 1) - 48)
noncomputable def tK (g : Nat → Int32) (n a : Int) : Int := kOf g n (tS g n a)
noncomputable def tE (g : Nat → Int32) (n a : Int) : Int := eOf g n (tS g n a)
noncomputable def tV (g : Nat → Int32) (n a : Int) : Int := vOf g (tS g n a) (tE g n a)
theorem tS_b {g : Nat → Int32} {n a : Int} (h0 : 0 ≤ a) (h1 : a ≤ n) : a ≤ tS g n a ∧ tS g n a ≤ n := tRun_b h0 h1
theorem eOf_b {g : Nat → Int32} {n s : Int} (h0 : 0 ≤ s) (h1 : s ≤ n) : s ≤ eOf g n s ∧ eOf g n s ≤ n ∧ (s < n → s < eOf g n s) := by
  unfold eOf
  split
  · omega
  · rename_i h
    have hb := tRun_b (P := cLt) (g := g) h0 h1
    have hd := tRun_b (P := cDg) (g := g) h0 h1
    split
    · rename_i h2
      have e := tRun_s (P := cLt) (g := g) (n := n) h0 (by omega) (by unfold cLt; exact decide_eq_true h2)
      have := tRun_b (P := cLt) (g := g) (n := n) (a := s + 1) (by omega) (by omega)
      omega
    · split
      · rename_i h2
        have e := tRun_s (P := cDg) (g := g) (n := n) h0 (by omega) (by unfold cDg; exact decide_eq_true h2)
        have := tRun_b (P := cDg) (g := g) (n := n) (a := s + 1) (by omega) (by omega)
        omega
      · omega
theorem tE_b {g : Nat → Int32} {n a : Int} (h0 : 0 ≤ a) (h1 : a ≤ n) : tS g n a ≤ tE g n a ∧ tE g n a ≤ n ∧ (tS g n a < n → tS g n a < tE g n a) := by
  have := tS_b (g := g) h0 h1
  exact eOf_b (by omega) (by omega)
theorem kOf_0 {g : Nat → Int32} {n s : Int} (h : n ≤ s) : kOf g n s = 0 ∧ eOf g n s = s := ⟨if_pos h, if_pos h⟩
theorem kOf_1 {g : Nat → Int32} {n s : Int} (h : ¬ n ≤ s) (h1 : 97 ≤ tBy g s ∧ tBy g s ≤ 122) : kOf g n s = 1 ∧ eOf g n s = tRun cLt g n s := by
  unfold kOf eOf
  rw [if_neg h, if_pos h1, if_neg h, if_pos h1]
  exact ⟨rfl, rfl⟩
theorem kOf_2 {g : Nat → Int32} {n s : Int} (h : ¬ n ≤ s) (h1 : ¬ (97 ≤ tBy g s ∧ tBy g s ≤ 122)) (h2 : 48 ≤ tBy g s ∧ tBy g s ≤ 57) : kOf g n s = (if tRun cDg g n s ≤ s + 2 then 2 else 4) ∧ eOf g n s = tRun cDg g n s := by
  unfold kOf eOf
  rw [if_neg h, if_neg h1, if_pos h2, if_neg h, if_neg h1, if_pos h2]
  exact ⟨rfl, rfl⟩
theorem kOf_3 {g : Nat → Int32} {n s : Int} (h : ¬ n ≤ s) (h1 : ¬ (97 ≤ tBy g s ∧ tBy g s ≤ 122)) (h2 : ¬ (48 ≤ tBy g s ∧ tBy g s ≤ 57)) : kOf g n s = (if tBy g s = 59 then 3 else 4) ∧ eOf g n s = s + 1 := by
  unfold kOf eOf
  rw [if_neg h, if_neg h1, if_neg h2, if_neg h, if_neg h1, if_neg h2]
  exact ⟨rfl, rfl⟩
theorem tK_r {g : Nat → Int32} {n a : Int} : tK g n a = 0 ∨ tK g n a = 1 ∨ tK g n a = 2 ∨ tK g n a = 3 ∨ tK g n a = 4 := by
  unfold tK kOf
  split
  · omega
  · split
    · omega
    · split
      · split <;> omega
      · split <;> omega
theorem tK_n {g : Nat → Int32} {n a : Int} (h : tK g n a ≠ 0) : tS g n a < n := by
  rcases Int.lt_or_le (tS g n a) n with h1 | h1
  · exact h1
  · exact absurd (kOf_0 h1).1 h
/-- a word's letters lie between a and z -/
theorem tK_let {g : Nat → Int32} {n a : Int} (h0 : 0 ≤ a) (h1 : a ≤ n) (h : tK g n a = 1) : tE g n a = tRun cLt g n (tS g n a) ∧ ∀ i, tS g n a ≤ i → i < tE g n a → 97 ≤ tBy g i ∧ tBy g i ≤ 122 := by
  have hs := tS_b (g := g) h0 h1
  have hn := tK_n (g := g) (n := n) (a := a) (by omega)
  by_cases c : 97 ≤ tBy g (tS g n a) ∧ tBy g (tS g n a) ≤ 122
  · have e := (kOf_1 (n := n) (by omega) c).2
    refine ⟨e, fun i h2 h3 => ?_⟩
    have := tRun_all (P := cLt) (g := g) (n := n) (a := tS g n a) (i := i) (by omega) h2 (by rw [← e]; exact h3)
    exact of_decide_eq_true this
  · exfalso
    by_cases c2 : 48 ≤ tBy g (tS g n a) ∧ tBy g (tS g n a) ≤ 57
    · have e := (kOf_2 (n := n) (by omega) c c2).1
      unfold tK at h
      rw [e] at h
      split at h <;> omega
    · have e := (kOf_3 (n := n) (by omega) c c2).1
      unfold tK at h
      rw [e] at h
      split at h <;> omega
/-- a number's figures -/
theorem tK_num {g : Nat → Int32} {n a : Int} (h0 : 0 ≤ a) (h1 : a ≤ n) (h : tK g n a = 2) : tE g n a ≤ tS g n a + 2 ∧ 0 ≤ tV g n a ∧ tV g n a ≤ 99 := by
  have hs := tS_b (g := g) h0 h1
  have hn := tK_n (g := g) (n := n) (a := a) (by omega)
  have he := tE_b (g := g) h0 h1
  by_cases c : 97 ≤ tBy g (tS g n a) ∧ tBy g (tS g n a) ≤ 122
  · have e := (kOf_1 (n := n) (by omega) c).1
    unfold tK at h
    omega
  · by_cases c2 : 48 ≤ tBy g (tS g n a) ∧ tBy g (tS g n a) ≤ 57
    · have e := kOf_2 (n := n) (by omega) c c2
      have h2 : tRun cDg g n (tS g n a) ≤ tS g n a + 2 := by
        unfold tK at h
        rw [e.1] at h
        split at h
        · assumption
        · omega
      have e2 : tE g n a = tRun cDg g n (tS g n a) := e.2
      refine ⟨by omega, ?_⟩
      unfold tV vOf
      split
      · omega
      · have := tRun_all (P := cDg) (g := g) (n := n) (a := tS g n a) (i := tS g n a + 1) (by omega) (by omega) (by omega)
        have := of_decide_eq_true this
        unfold tBy at *
        omega
    · have e := (kOf_3 (n := n) (by omega) c c2).1
      unfold tK at h
      rw [e] at h
      split at h <;> omega
/-- what a further FAULT makes of the FAULT and its place -/
noncomputable def fW (f c wh s : Int) : Int := if f = 0 ∨ s < c ∨ (s = c ∧ wh < f) then wh else f
noncomputable def fC (f c wh s : Int) : Int := if f = 0 ∨ s < c ∨ (s = c ∧ wh < f) then s else c
theorem fW_y {f c wh s : Int} (h : f = 0 ∨ s < c ∨ (s = c ∧ wh < f)) : fW f c wh s = wh ∧ fC f c wh s = s := ⟨if_pos h, if_pos h⟩
theorem fW_n {f c wh s : Int} (h : ¬ (f = 0 ∨ s < c ∨ (s = c ∧ wh < f))) : fW f c wh s = f ∧ fC f c wh s = c := ⟨if_neg h, if_neg h⟩
theorem fW_0 {f c wh s : Int} (h : 1 ≤ wh) : fW f c wh s ≠ 0 := by
  unfold fW
  split <;> omega
/-- a word as a number, its first letter the highest figure -/
noncomputable def wv (g : Nat → Int32) (s : Int) : Nat → Int
  | 0 => 0
  | k + 1 => wv g s k * 256 + tBy g (s + k)
theorem wv_b {g : Nat → Int32} {s : Int} : ∀ k : Nat, (∀ i : Int, s ≤ i → i < s + k → 97 ≤ tBy g i ∧ tBy g i ≤ 122) → 0 ≤ wv g s k ∧ wv g s k < 256 ^ k ∧ (1 ≤ k → 97 * 256 ^ (k - 1) ≤ wv g s k)
  | 0, _ => by
    refine ⟨Int.le_refl _, ?_, fun h => absurd h (by decide)⟩
    show (0 : Int) < 256 ^ 0
    decide
  | k + 1, h => by
    obtain ⟨h1, h2, h3⟩ := wv_b k fun i a b => h i a (by omega)
    have hb := h (s + k) (by omega) (by omega)
    have e : (256 : Int) ^ (k + 1) = 256 ^ k * 256 := Int.pow_succ ..
    refine ⟨?_, ?_, fun _ => ?_⟩
    · show 0 ≤ wv g s k * 256 + tBy g (s + k)
      omega
    · show wv g s k * 256 + tBy g (s + k) < _
      rw [e]
      omega
    · show 97 * 256 ^ (k + 1 - 1) ≤ wv g s k * 256 + tBy g (s + k)
      rw [Nat.add_sub_cancel]
      cases k with
      | zero =>
        have e0 : wv g s 0 = 0 := rfl
        have e1 : (256 : Int) ^ 0 = 1 := rfl
        omega
      | succ k =>
        have h4 := h3 (by omega)
        rw [Nat.add_sub_cancel] at h4
        have e3 : (256 : Int) ^ (k + 1) = 256 ^ k * 256 := Int.pow_succ ..
        omega
