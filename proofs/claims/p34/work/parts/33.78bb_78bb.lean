/-! READING: digits of texts. -/
noncomputable def dg (B i : Nat) : Nat := B / 4 ^ i % 4
theorem dg_lt (B i : Nat) : dg B i < 4 := Nat.mod_lt _ (by decide)
theorem dg_app {x y j : Nat} (hy : y < 4 ^ j) (i : Nat) : dg (x * 4 ^ j + y) i = if i < j then dg y i else dg x (i - j) := by
  unfold dg
  split
  · rename_i h
    obtain ⟨k, rfl⟩ : ∃ k, j = i + (k + 1) := ⟨j - i - 1, by omega⟩
    have e : x * 4 ^ (i + (k + 1)) + y = y + 4 ^ i * (x * 4 ^ k * 4) := by
      rw [Nat.pow_add, Nat.pow_succ, Nat.add_comm]
      congr 1
      rw [Nat.mul_left_comm, Nat.mul_assoc]
    rw [e, Nat.add_mul_div_left _ _ (v4p i), Nat.add_mul_mod_self_right]
  · rename_i h
    obtain ⟨k, rfl⟩ : ∃ k, i = j + k := ⟨i - j, by omega⟩
    rw [Nat.pow_add, ← Nat.div_div_eq_div_mul, Nat.add_comm (x * 4 ^ j), Nat.add_mul_div_right _ _ (v4p j), Nat.div_eq_of_lt hy, Nat.zero_add, Nat.add_sub_cancel_left]
theorem dg_div (B j i : Nat) : dg (B / 4 ^ j) i = dg B (j + i) := by
  unfold dg
  rw [Nat.div_div_eq_div_mul, Nat.pow_add]
theorem dg_mod {B j i : Nat} (h : i < j) : dg (B % 4 ^ j) i = dg B i := by
  have e := dg_app (x := B / 4 ^ j) (Nat.mod_lt B (v4p j)) i
  rw [if_pos h, Nat.mul_comm, Nat.div_add_mod] at e
  exact e.symm
theorem dg_xor (a b i : Nat) : dg (a ^^^ b) i = dg a i ^^^ dg b i := by
  unfold dg
  rw [← t_4, Nat.xor_div_two_pow, show (4 : Nat) = 2 ^ 2 by decide, Nat.xor_mod_two_pow]
theorem dg_0 (i : Nat) : dg 0 i = 0 := by
  unfold dg
  rw [Nat.zero_div]
theorem dg_sm {c : Nat} (hc : c < 4) (i : Nat) : dg c i = if i = 0 then c else 0 := by
  unfold dg
  split
  · rename_i h
    rw [h, Nat.pow_zero, Nat.div_one, Nat.mod_eq_of_lt hc]
  · rename_i h
    obtain ⟨k, rfl⟩ : ∃ k, i = k + 1 := ⟨i - 1, by omega⟩
    have h1 := v4p k
    have e : 4 ^ (k + 1) = 4 ^ k * 4 := Nat.pow_succ ..
    rw [Nat.div_eq_of_lt (by rw [e]; omega)]
theorem dg_sh {c : Nat} (hc : c < 4) (j i : Nat) : dg (c * 4 ^ j) i = if i = j then c else 0 := by
  have e := dg_app (x := c) (v4p j) i
  rw [Nat.add_zero] at e
  rw [e, dg_0, dg_sm hc]
  by_cases h : i < j
  · rw [if_pos h, if_neg (by omega)]
  · rw [if_neg h]
    by_cases h2 : i = j
    · rw [if_pos h2, if_pos (by omega)]
    · rw [if_neg h2, if_neg (by omega)]
theorem or_add {x y j : Nat} (hy : y < 4 ^ j) : x * 4 ^ j ||| y = x * 4 ^ j + y := by
  have h := Nat.shiftLeft_add_eq_or_of_lt (i := 2 * j) (b := y) (by rw [t_4]; exact hy) x
  rw [Nat.shiftLeft_eq, t_4] at h
  exact h.symm
theorem dg_fDr (b j i : Nat) : dg (fDr b j) i = if i < j then dg b i else dg b (i + 1) := by
  unfold fDr
  rw [or_add (Nat.mod_lt _ (v4p j)), dg_app (Nat.mod_lt _ (v4p j))]
  by_cases h : i < j
  · rw [if_pos h, if_pos h]
    exact dg_mod h
  · rw [if_neg h, if_neg h, dg_div]
    exact congrArg (dg b) (by omega)
theorem dg_fDb (b j i : Nat) : dg (fDb b j) i = if i < j + 1 then dg b i else dg b (i - 1) := by
  unfold fDb
  have e1 := or_add (x := b / 4 ^ j) (y := b / 4 ^ j % 4) (j := 1) (Nat.mod_lt _ (by decide))
  rw [Nat.pow_one] at e1
  rw [or_add (Nat.mod_lt _ (v4p j)), dg_app (Nat.mod_lt _ (v4p j)), e1]
  have e2 := dg_app (x := b / 4 ^ j) (y := b / 4 ^ j % 4) (j := 1) (Nat.mod_lt _ (by decide)) (i - j)
  rw [Nat.pow_one] at e2
  by_cases h : i < j
  · rw [if_pos h, if_pos (by omega)]
    exact dg_mod h
  · rw [if_neg h, e2]
    by_cases h2 : i = j
    · rw [if_pos (by omega), if_pos (by omega), h2, Nat.sub_self]
      have e3 := dg_sm (dg_lt b j) 0
      rw [if_pos rfl] at e3
      exact e3
    · rw [if_neg (by omega), if_neg (by omega), dg_div]
      exact congrArg (dg b) (by omega)
theorem dg_fSw (b j i : Nat) : dg (fSw b j) i = if i = j then dg b (j + 1) else if i = j + 1 then dg b j else dg b i := by
  have hc : (b / 4 ^ j ^^^ b / 4 ^ (j + 1)) % 4 = dg b j ^^^ dg b (j + 1) := by
    unfold dg
    rw [show (4 : Nat) = 2 ^ 2 by decide, Nat.xor_mod_two_pow]
  have h4 : dg b j ^^^ dg b (j + 1) < 4 := Nat.xor_lt_two_pow (n := 2) (dg_lt b j) (dg_lt b (j + 1))
  unfold fSw
  rw [hc, dg_xor, dg_xor, dg_sh h4, dg_sh h4]
  by_cases h : i = j
  · rw [if_pos h, if_pos h, if_neg (by omega), Nat.xor_zero, h, ← Nat.xor_assoc, Nat.xor_self, Nat.zero_xor]
  · rw [if_neg h, if_neg h]
    by_cases h2 : i = j + 1
    · rw [if_pos h2, if_pos h2, Nat.xor_zero, h2, Nat.xor_comm (dg b j), ← Nat.xor_assoc, Nat.xor_self, Nat.zero_xor]
    · rw [if_neg h2, if_neg h2, Nat.xor_zero, Nat.xor_zero]
theorem dg_fTu (b : Nat) : ∀ n i, i < n → dg (fTu b n) i = dg b (n - 1 - i)
  | 0, i, h => absurd h (Nat.not_lt_zero i)
  | n + 1, i, h => by
    have e1 := or_add (x := fTu b n) (y := b / 4 ^ n % 4) (j := 1) (Nat.mod_lt _ (by decide))
    have e2 := dg_app (x := fTu b n) (y := b / 4 ^ n % 4) (j := 1) (Nat.mod_lt _ (by decide)) i
    rw [Nat.pow_one] at e1 e2
    show dg (fTu b n * 4 ||| b / 4 ^ n % 4) i = _
    rw [e1, e2]
    by_cases h2 : i = 0
    · rw [if_pos (by omega), h2]
      have e3 := dg_sm (dg_lt b n) 0
      rw [if_pos rfl] at e3
      exact e3
    · rw [if_neg (by omega), dg_fTu b n (i - 1) (by omega)]
      exact congrArg (dg b) (by omega)
theorem dg_fSh {b c w : Nat} (hc : c < 4) : ∀ n i, dg (fSh b c w n) i = if i < n ∧ dg b i = w then dg b i ^^^ c else dg b i
  | 0, i => by rw [if_neg (fun h => Nat.not_lt_zero i h.1)]; rfl
  | n + 1, i => by
    have ih := dg_fSh (b := b) (w := w) hc n i
    show dg (if dg b n = w then fSh b c w n ^^^ c * 4 ^ n else fSh b c w n) i = _
    by_cases hw : dg b n = w
    · rw [if_pos hw, dg_xor, ih, dg_sh hc]
      by_cases h : i = n
      · rw [if_pos h, if_neg (fun z => by omega), if_pos ⟨by omega, by rw [h]; exact hw⟩]
      · rw [if_neg h, Nat.xor_zero]
        by_cases h2 : i < n ∧ dg b i = w
        · rw [if_pos h2, if_pos ⟨by omega, h2.2⟩]
        · rw [if_neg h2, if_neg (fun z => h2 ⟨by omega, z.2⟩)]
    · rw [if_neg hw, ih]
      by_cases h2 : i < n ∧ dg b i = w
      · rw [if_pos h2, if_pos ⟨by omega, h2.2⟩]
      · rw [if_neg h2, if_neg (fun z => h2 ⟨by
          have : i ≠ n := fun e => hw (by rw [← e]; exact z.2)
          omega, z.2⟩)]
theorem zupI {g : Nat → Int32} {i e : Int} (h : r32 e) (hi : 0 ≤ i) {j : Int} (hj : 0 ≤ j) : tBy (upd g i.toNat (Int32.ofInt e)) j = if j = i then e else tBy g j := by
  rw [zup h]
  by_cases c : j = i
  · rw [if_pos c, if_pos (by omega)]
  · rw [if_neg c, if_neg (by omega)]
noncomputable def WD (g : Nat → Int32) (B l : Nat) : Prop := vB l B ∧ ∀ k : Nat, k < l → tBy g (k : Int) = ((dg B (l - 1 - k) : Nat) : Int)
noncomputable def STQ (κ k K n : Int) (g : Nat → Int32) (n' : Int) (T : Nat → Int32) : Prop :=
  (κ = 0 ∧ n' = n ∧ ∀ j : Int, 0 ≤ j → tBy T j = if j < n ∧ tBy g j = k then K else tBy g j) ∨
  (κ = 1 ∧ ((n < k ∧ n' = n ∧ T = g) ∨ (k ≤ n ∧ n' = n - 1 ∧ ∀ j : Int, 0 ≤ j → tBy T j = if k ≤ j + 1 ∧ j + 1 < n then tBy g (j + 1) else tBy g j))) ∨
  (κ = 2 ∧ (((n < k ∨ 6 ≤ n) ∧ n' = n ∧ T = g) ∨ (k ≤ n ∧ n < 6 ∧ n' = n + 1 ∧ ∀ j : Int, 0 ≤ j → tBy T j = if k - 1 < j ∧ j ≤ n then tBy g (j - 1) else tBy g j))) ∨
  (κ = 3 ∧ ((n ≤ k ∧ n' = n ∧ T = g) ∨ (k < n ∧ n' = n ∧ ∀ j : Int, 0 ≤ j → tBy T j = if j = k then tBy g (k - 1) else if j = k - 1 then tBy g k else tBy g j))) ∨
  (4 ≤ κ ∧ n' = n ∧ ∀ j : Int, 0 ≤ j → tBy T j = if j < n then tBy g (n - 1 - j) else tBy g j)
theorem WD_at {g : Nat → Int32} {B l : Nat} (h : WD g B l) {j : Int} {i : Nat} (h0 : 0 ≤ j) (h1 : j < (l : Int)) (hi : j + (i : Int) = (l : Int) - 1) : tBy g j = ((dg B i : Nat) : Int) := by
  have e := h.2 j.toNat (by omega)
  rw [show ((j.toNat : Nat) : Int) = j by omega, show l - 1 - j.toNat = i by omega] at e
  exact e
theorem WD_step {gk g T : Nat → Int32} {B l k : Nat} {κ K n' : Int} (hk3 : zB 0 3 gk) (hK : K = (gk k).toInt) (hw : WD g B l) (h0 : κ = 0 → k ≤ 3) (h1 : 1 ≤ κ → κ ≤ 3 → 1 ≤ k) (hs : STQ κ (k : Int) K (l : Int) g n' T) : n' = (fOl l κ k : Int) ∧ WD T (fOn gk B l κ k) (fOl l κ k) := by
  have hv' := vB_fOn hk3 hw.1 h0 h1
  have hl := hw.1.1
  rcases hs with ⟨c, e, f⟩ | ⟨c, f⟩ | ⟨c, f⟩ | ⟨c, f⟩ | ⟨c, e, f⟩
  · have el : fOl l κ k = l := by unfold fOl; rw [if_neg (by omega), if_neg (by omega)]
    have eo : fOn gk B l κ k = fSh B (k ^^^ (gk k).toInt.toNat) k l := by unfold fOn; rw [if_pos c]
    rw [el] at hv' ⊢
    refine ⟨e, hv', fun j hj => ?_⟩
    have hk := h0 c
    have hb := hk3 k
    have hd := WD_at hw (j := j) (i := l - 1 - j) (by omega) (by omega) (by omega)
    rw [eo, f j (by omega), dg_fSh (Nat.xor_lt_two_pow (n := 2) (by omega) (by omega))]
    by_cases c2 : dg B (l - 1 - j) = k
    · rw [if_pos (by omega), if_pos ⟨by omega, c2⟩, c2, ← Nat.xor_assoc, Nat.xor_self, Nat.zero_xor, hK]
      omega
    · rw [if_neg (by omega), if_neg (fun z => c2 z.2)]
      exact hd
  · have hk := h1 (by omega) (by omega)
    have eo : fOn gk B l κ k = if k ≤ l then fDr B (l - k) else B := by unfold fOn; rw [if_neg (by omega), if_pos c]
    rcases f with ⟨c1, e, rfl⟩ | ⟨c1, e, f⟩
    · have el : fOl l κ k = l := by unfold fOl; rw [if_neg (by omega), if_neg (by omega)]
      rw [el, eo, if_neg (by omega)]
      exact ⟨e, hw⟩
    · have el : fOl l κ k = l - 1 := by unfold fOl; rw [if_pos ⟨c, by omega⟩]
      rw [el, eo, if_pos (by omega)]
      rw [el, eo, if_pos (by omega)] at hv'
      refine ⟨by omega, hv', fun j hj => ?_⟩
      rw [f j (by omega), dg_fDr]
      by_cases c2 : k ≤ j + 1
      · rw [if_pos (by omega), if_pos (by omega)]
        exact WD_at hw (by omega) (by omega) (by omega)
      · rw [if_neg (by omega), if_neg (by omega)]
        exact WD_at hw (by omega) (by omega) (by omega)
  · have hk := h1 (by omega) (by omega)
    have eo : fOn gk B l κ k = if l < k ∨ 6 ≤ l then B else fDb B (l - k) := by unfold fOn; rw [if_neg (by omega), if_neg (by omega), if_pos c]
    rcases f with ⟨c1, e, rfl⟩ | ⟨c1, c3, e, f⟩
    · have el : fOl l κ k = l := by unfold fOl; rw [if_neg (by omega), if_neg (by omega)]
      rw [el, eo, if_pos (by omega)]
      exact ⟨e, hw⟩
    · have el : fOl l κ k = l + 1 := by unfold fOl; rw [if_neg (by omega), if_pos ⟨c, by omega, by omega⟩]
      rw [el, eo, if_neg (by omega)]
      rw [el, eo, if_neg (by omega)] at hv'
      refine ⟨by omega, hv', fun j hj => ?_⟩
      rw [f j (by omega), dg_fDb]
      by_cases c2 : k ≤ j
      · rw [if_pos (by omega), if_pos (by omega)]
        exact WD_at hw (by omega) (by omega) (by omega)
      · rw [if_neg (by omega), if_neg (by omega)]
        exact WD_at hw (by omega) (by omega) (by omega)
  · have hk := h1 (by omega) (by omega)
    have el : fOl l κ k = l := by unfold fOl; rw [if_neg (by omega), if_neg (by omega)]
    have eo : fOn gk B l κ k = if k < l then fSw B (l - k - 1) else B := by unfold fOn; rw [if_neg (by omega), if_neg (by omega), if_neg (by omega), if_pos c]
    rcases f with ⟨c1, e, rfl⟩ | ⟨c1, e, f⟩
    · rw [el, eo, if_neg (by omega)]
      exact ⟨e, hw⟩
    · rw [el, eo, if_pos (by omega)]
      rw [el, eo, if_pos (by omega)] at hv'
      refine ⟨e, hv', fun j hj => ?_⟩
      rw [f j (by omega), dg_fSw]
      by_cases c2 : j = k
      · rw [if_pos (show (j : Int) = (k : Int) by omega), if_pos (show l - 1 - j = l - k - 1 by omega)]
        exact WD_at hw (by omega) (by omega) (by omega)
      · rw [if_neg (show ¬ (j : Int) = (k : Int) by omega), if_neg (show ¬ l - 1 - j = l - k - 1 by omega)]
        by_cases c3 : j + 1 = k
        · rw [if_pos (show (j : Int) = (k : Int) - 1 by omega), if_pos (show l - 1 - j = l - k - 1 + 1 by omega)]
          exact WD_at hw (by omega) (by omega) (by omega)
        · rw [if_neg (show ¬ (j : Int) = (k : Int) - 1 by omega), if_neg (show ¬ l - 1 - j = l - k - 1 + 1 by omega)]
          exact WD_at hw (by omega) (by omega) (by omega)
  · have el : fOl l κ k = l := by unfold fOl; rw [if_neg (by omega), if_neg (by omega)]
    have eo : fOn gk B l κ k = fTu B l := by unfold fOn; rw [if_neg (by omega), if_neg (by omega), if_neg (by omega), if_neg (by omega)]
    rw [el, eo]
    rw [el, eo] at hv'
    refine ⟨e, hv', fun j hj => ?_⟩
    rw [f j (by omega), dg_fTu B l _ (by omega), if_pos (by omega)]
    exact WD_at hw (by omega) (by omega) (by omega)
/-- the reference's rows as the functions that a BOOK's readings are told by -/
noncomputable def rdK (T : Nat → Int32) (o : Nat) : Nat → Int32 := fun i => T (o + (2 + i % 4))
noncomputable def rdS (T : Nat → Int32) (o : Nat) : Nat → Int32 := fun i => T (o + (6 + i % 5))
noncomputable def rdI (T : Nat → Int32) (o : Nat) : Nat → Int32 := fun j => T (o + (11 + 8 * (j / 4) + 2 * (j % 4)))
noncomputable def rdN (T : Nat → Int32) (o : Nat) : Nat → Int32 := fun j => T (o + (12 + 8 * (j / 4) + 2 * (j % 4)))
noncomputable def rBY (T : Nat → Int32) (o r t : Int) : Int := ((fBy (rdK T o.toNat) (rdS T o.toNat) (rdI T o.toNat) (rdN T o.toNat) r.toNat t.toNat : Nat) : Int)
noncomputable abbrev rRd (T : Nat → Int32) (o r t k : Int) : Nat × Nat := fRd (rdK T o.toNat) (rdI T o.toNat) (rdN T o.toNat) r.toNat (tB t.toNat) (tLen t.toNat) k.toNat
theorem sp_st {t : Nat} {lf kk : Int} (h0 : 0 ≤ kk) (h1 : kk < (tLen t : Int)) (h : lf = ((tF t / 4 ^ ((tLen t : Int) - 1 - kk).toNat : Nat) : Int)) : lf / 4 = ((tF t / 4 ^ ((tLen t : Int) - 1 - (kk + (-1))).toNat : Nat) : Int) ∧ lf % 4 = ((dg (tB t) (tLen t - 1 - kk.toNat) : Nat) : Int) := by
  have e := tB_w t kk.toNat (by omega)
  have e1 : ((tLen t : Int) - 1 - kk).toNat = tLen t - 1 - kk.toNat := by omega
  have e2 : ((tLen t : Int) - 1 - (kk + (-1))).toNat = (tLen t - 1 - kk.toNat) + 1 := by omega
  rw [e1] at h
  rw [e2, Nat.pow_succ, ← Nat.div_div_eq_div_mul, h]
  unfold dg
  rw [e]
  unfold tW
  exact ⟨by omega, by omega⟩
theorem nb_st {g : Nat → Int32} {B l : Nat} {kk fg : Int} (hw : WD g B l) (h0 : 0 ≤ kk) (h1 : kk < (l : Int)) (hp : fg + ((4 ^ kk.toNat : Nat) : Int) = ((B / 4 ^ (l - kk.toNat) : Nat) : Int)) : 4 * fg + tBy g kk + ((4 ^ (kk + 1).toNat : Nat) : Int) = ((B / 4 ^ (l - (kk + 1).toNat) : Nat) : Int) := by
  have e1 : (kk + 1).toNat = kk.toNat + 1 := by omega
  have e2 : l - kk.toNat = (l - (kk.toNat + 1)) + 1 := by omega
  have e3 := WD_at hw (i := l - (kk.toNat + 1)) h0 h1 (by omega)
  rw [e1, e3, Nat.pow_succ]
  rw [e2, Nat.pow_succ, ← Nat.div_div_eq_div_mul] at hp
  unfold dg
  generalize 4 ^ kk.toNat = p at hp ⊢
  omega
theorem nb_b {B l : Nat} {kk fg : Int} (hv : vB l B) (h1 : kk ≤ (l : Int)) (hp : fg + ((4 ^ kk.toNat : Nat) : Int) = ((B / 4 ^ (l - kk.toNat) : Nat) : Int)) : fg ≤ 8191 := by
  have h0 := vB_lt hv
  have h2 : B / 4 ^ (l - kk.toNat) ≤ B := Nat.div_le_self _ _
  have h4 := v4p kk.toNat
  generalize 4 ^ kk.toNat = p at hp h4
  generalize B / 4 ^ (l - kk.toNat) = q at hp h2
  omega
theorem nb_e {B l : Nat} {kk fg : Int} (hv : vB l B) (h1 : kk = (l : Int)) (hp : fg + ((4 ^ kk.toNat : Nat) : Int) = ((B / 4 ^ (l - kk.toNat) : Nat) : Int)) : ((tSh l : Nat) : Int) + fg = ((B - 4 ^ l + tSh l : Nat) : Int) := by
  have e : kk.toNat = l := by omega
  have e1 : B / 4 ^ l = 1 := hv.2
  have h4 : 4 ^ l ≤ B := by
    rcases Nat.lt_or_ge B (4 ^ l) with c | c
    · rw [Nat.div_eq_of_lt c] at e1
      omega
    · exact c
  rw [e, Nat.sub_self, Nat.pow_zero, Nat.div_one] at hp
  generalize 4 ^ l = p at hp h4 ⊢
  omega
theorem rI_e {T : Nat → Int32} {f a kk : Int} (h0 : 0 ≤ f) (h1 : 0 ≤ a) (h2 : 0 ≤ kk) (h3 : kk < 4) : tBy T (51 * f + (11 + 8 * a + 2 * kk)) = (rdI T (51 * f).toNat (a.toNat * 4 + kk.toNat)).toInt ∧ tBy T (51 * f + (11 + 8 * a + 2 * kk + 1)) = (rdN T (51 * f).toNat (a.toNat * 4 + kk.toNat)).toInt := by
  unfold tBy rdI rdN
  exact ⟨congrArg (fun j => (T j).toInt) (by omega), congrArg (fun j => (T j).toInt) (by omega)⟩
theorem rK_b {T : Nat → Int32} {f : Int} (hg : bkOK T) (h0 : 0 ≤ f) (h1 : f ≤ 1) : zB 0 3 (rdK T (51 * f).toNat) := fun i => by
  have e : (51 * f).toNat = 51 * f.toNat := by omega
  show 0 ≤ (T ((51 * f).toNat + (2 + i % 4))).toInt ∧ (T ((51 * f).toNat + (2 + i % 4))).toInt ≤ 3
  have := bk_ofK (f := f) (a := ((2 + i % 4 : Nat) : Int)) (v := (T ((51 * f).toNat + (2 + i % 4))).toInt) hg h0 (by omega) (by omega) (by omega) (by rw [e]; rfl)
  exact this
theorem rb_f {T : Nat → Int32} {f a kk : Int} (hg : bkOK T) (h0 : 0 ≤ f) (h1 : f ≤ 1) (a0 : 0 ≤ a) (a1 : a ≤ 4) (k0 : 0 ≤ kk) (k1 : kk < 4) : (0 ≤ tBy T (51 * f + (11 + 8 * a + 2 * kk)) ∧ tBy T (51 * f + (11 + 8 * a + 2 * kk)) ≤ 4) ∧ (0 ≤ tBy T (51 * f + (11 + 8 * a + 2 * kk + 1)) ∧ tBy T (51 * f + (11 + 8 * a + 2 * kk + 1)) ≤ 6) ∧ (tBy T (51 * f + (11 + 8 * a + 2 * kk)) = 0 → tBy T (51 * f + (11 + 8 * a + 2 * kk + 1)) ≤ 3) ∧ (1 ≤ tBy T (51 * f + (11 + 8 * a + 2 * kk)) → tBy T (51 * f + (11 + 8 * a + 2 * kk)) ≤ 3 → 1 ≤ tBy T (51 * f + (11 + 8 * a + 2 * kk + 1))) := by
  have e := bk_st hg (b := f.toNat) (r := a.toNat) (k := kk.toNat) (by omega) (by omega) (by omega)
  unfold tBy
  rw [show (51 * f + (11 + 8 * a + 2 * kk)).toNat = 51 * f.toNat + (11 + 8 * a.toNat + 2 * kk.toNat) by omega, show (51 * f + (11 + 8 * a + 2 * kk + 1)).toNat = 51 * f.toNat + (12 + 8 * a.toNat + 2 * kk.toNat) by omega]
  exact e
theorem rb_m {T : Nat → Int32} {f a : Int} (hg : bkOK T) (h0 : 0 ≤ f) (h1 : f ≤ 1) (a0 : 0 ≤ a) (a1 : a ≤ 4) : (0 ≤ tBy T (51 * f + (6 + a)) ∧ tBy T (51 * f + (6 + a)) ≤ 4) ∧ tBy T (51 * f + (6 + a)) = (rdS T (51 * f).toNat a.toNat).toInt := by
  have e := bk_ofM (f := f) (a := 6 + a) (v := tBy T (51 * f + (6 + a))) hg h0 (by omega) (by omega) (by omega) (by unfold tBy; exact congrArg (fun j => (T j).toInt) (by omega))
  refine ⟨e, ?_⟩
  unfold tBy rdS
  exact congrArg (fun j => (T j).toInt) (by omega)
theorem rd_st {T g T' : Nat → Int32} {f a t kk ll n' : Int} (hg : bkOK T) (h0 : 0 ≤ f) (h1 : f ≤ 1) (a0 : 0 ≤ a) (a1 : a ≤ 4) (k0 : 0 ≤ kk) (k1 : kk < 4) (hw : WD g (rRd T (51 * f) a t kk).1 (rRd T (51 * f) a t kk).2) (hl : ll = ((rRd T (51 * f) a t kk).2 : Int)) (hs : STQ (tBy T (51 * f + (11 + 8 * a + 2 * kk))) (tBy T (51 * f + (11 + 8 * a + 2 * kk + 1))) (tBy T (51 * f + (2 + tBy T (51 * f + (11 + 8 * a + 2 * kk + 1))))) ll g n' T') : n' = ((rRd T (51 * f) a t (kk + 1)).2 : Int) ∧ WD T' (rRd T (51 * f) a t (kk + 1)).1 (rRd T (51 * f) a t (kk + 1)).2 := by
  have hf := rb_f hg h0 h1 a0 a1 k0 k1
  have he := rI_e (T := T) h0 a0 k0 k1
  have eN : (kk + 1).toNat = kk.toNat + 1 := by omega
  unfold rRd
  rw [eN]
  generalize hκ : tBy T (51 * f + (11 + 8 * a + 2 * kk)) = κ at hs hf he
  generalize hk : tBy T (51 * f + (11 + 8 * a + 2 * kk + 1)) = k at hs hf he
  obtain ⟨m, rfl⟩ : ∃ m : Nat, k = (m : Int) := ⟨k.toNat, by omega⟩
  rw [hl] at hs
  have e3 : (rdN T (51 * f).toNat (a.toNat * 4 + kk.toNat)).toInt.toNat = m := by rw [← he.2]; rfl
  show n' = ((fOl (rRd T (51 * f) a t kk).2 (rdI T (51 * f).toNat (a.toNat * 4 + kk.toNat)).toInt (rdN T (51 * f).toNat (a.toNat * 4 + kk.toNat)).toInt.toNat : Nat) : Int) ∧ WD T' (fOn (rdK T (51 * f).toNat) (rRd T (51 * f) a t kk).1 (rRd T (51 * f) a t kk).2 (rdI T (51 * f).toNat (a.toNat * 4 + kk.toNat)).toInt (rdN T (51 * f).toNat (a.toNat * 4 + kk.toNat)).toInt.toNat) (fOl (rRd T (51 * f) a t kk).2 (rdI T (51 * f).toNat (a.toNat * 4 + kk.toNat)).toInt (rdN T (51 * f).toNat (a.toNat * 4 + kk.toNat)).toInt.toNat)
  rw [e3, ← he.1]
  have hx : STQ κ (m : Int) ((rdK T (51 * f).toNat m).toInt) ((rRd T (51 * f) a t kk).2 : Int) g n' T' := by
    by_cases c : κ = 0
    · have hm : m ≤ 3 := by have := hf.2.2.1 c; omega
      have ek : tBy T (51 * f + (2 + (m : Int))) = (rdK T (51 * f).toNat m).toInt := by
        unfold tBy rdK
        exact congrArg (fun j => (T j).toInt) (by omega)
      rw [← ek]
      exact hs
    · rcases hs with ⟨z, -⟩ | h
      · exact absurd z c
      · exact Or.inr h
  exact WD_step (rK_b hg h0 h1) rfl hw (fun c => by have := hf.2.2.1 c; omega) (fun c1 c2 => by have := hf.2.2.2 c1 c2; omega) hx
theorem rd_v {T : Nat → Int32} {f a t kk v : Int} (hg : bkOK T) (h0 : 0 ≤ f) (h1 : f ≤ 1) (a0 : 0 ≤ a) (a1 : a ≤ 4) (hk : kk = tBy T (51 * f + (6 + a))) (hv : v = ((fNo (rRd T (51 * f) a t kk).1 (rRd T (51 * f) a t kk).2 : Nat) : Int)) : v = rBY T (51 * f) a t := by
  have e := (rb_m hg h0 h1 a0 a1).2
  rw [hv]
  unfold rBY fBy
  rw [← e, ← hk]
theorem rBY_r {T : Nat → Int32} {f a t : Int} (hg : bkOK T) (h0 : 0 ≤ f) (h1 : f ≤ 1) (a0 : 0 ≤ a) (a1 : a ≤ 4) (t0 : 0 ≤ t) (t1 : t ≤ 5460) : 0 ≤ rBY T (51 * f) a t ∧ rBY T (51 * f) a t ≤ 5460 := by
  have hv : ∀ i : Nat, i ≤ 4 → vB (rRd T (51 * f) a t i).2 (rRd T (51 * f) a t i).1 := by
    intro i
    induction i with
    | zero => intro _; exact vB_tB (by omega)
    | succ i ih =>
      intro hi
      have hf := rb_f (kk := i) hg h0 h1 a0 a1 (by omega) (by omega)
      have he := rI_e (T := T) (kk := i) h0 a0 (by omega) (by omega)
      rw [he.1, he.2] at hf
      exact vB_fOn (rK_b hg h0 h1) (ih (by omega)) (fun z => by have := hf.2.2.1 z; show (rdN T (51 * f).toNat (a.toNat * 4 + (i : Int).toNat)).toInt.toNat ≤ 3; omega) (fun z1 z2 => by have := hf.2.2.2 z1 z2; show 1 ≤ (rdN T (51 * f).toNat (a.toNat * 4 + (i : Int).toNat)).toInt.toNat; omega)
  have hm := rb_m hg h0 h1 a0 a1
  have h4 := hv (rdS T (51 * f).toNat a.toNat).toInt.toNat (by omega)
  have := fNo_lt h4
  unfold rBY fBy
  unfold rRd at this
  rw [Int.toNat_natCast] at this
  omega
