/-! CIRCLES, further: how many there are and the largest. -/
theorem cnt_up {p q : Nat → Bool} {t : Nat} (hp : p t = false) (hq : q t = true) (n : Nat) (ht : t < n) (h : ∀ x : Nat, x < n → x ≠ t → q x = p x) : cntP q n = cntP p n + 1 := by
  have e := cn_cg (p := q) (q := fun x => if x = t then true else p x) n (fun x hx => by
    show q x = if x = t then true else p x
    by_cases e : x = t
    · rw [if_pos e, e]
      exact hq
    · rw [if_neg e]
      exact h x hx e)
  rw [e]
  exact cn_up (p := p) (q := fun x => if x = t then true else p x) hp (if_pos rfl) (fun x hx => if_neg hx) n ht
theorem cnt_z {p : Nat → Bool} : ∀ {k : Nat}, (∀ i : Nat, i < k → p i = false) → cntP p k = 0
  | 0, _ => rfl
  | k + 1, h => by
    show cntP p k + (if p k = true then 1 else 0) = 0
    rw [cnt_z (fun i hi => h i (by omega)), h k (by omega)]
    rfl
theorem cnt_p {p : Nat → Bool} {t : Nat} (h : p t = true) : ∀ n : Nat, t < n → 1 ≤ cntP p n
  | 0, ht => absurd ht (Nat.not_lt_zero _)
  | n + 1, ht => by
    show 1 ≤ cntP p n + (if p n = true then 1 else 0)
    by_cases e : t = n
    · rw [e] at h
      rw [if_pos h]
      omega
    · have := cnt_p h n (by omega)
      omega
/-- the least text of its circle -/
noncomputable def lsP (F : Int → Int → Int) (n t : Int) : Prop := ∀ u : Int, 0 ≤ u → u < t → ¬ MUc F n t u
theorem ls_ex {F : Int → Int → Int} {n : Int} : ∀ (k : Nat) (t : Int), rgT t → t < (k : Int) → ∃ u : Int, rgT u ∧ MUc F n t u ∧ lsP F n u
  | 0, t, ht, hk => by
    have := ht.1
    omega
  | k + 1, t, ht, hk => by
    by_cases c : lsP F n t
    · exact ⟨t, ht, mu_rf, c⟩
    · have c2 : ∃ u : Int, 0 ≤ u ∧ u < t ∧ MUc F n t u := Classical.byContradiction fun w => c fun u u0 u1 hm => w ⟨u, u0, u1, hm⟩
      obtain ⟨u, u0, u1, hm⟩ := c2
      obtain ⟨x, hx, hxm, hl⟩ := ls_ex k u ⟨u0, by have := ht.2; omega⟩ (by omega)
      exact ⟨x, hx, mu_tr hm hxm, hl⟩
noncomputable def csB (F : Int → Int → Int) (n : Int) (S : Int → Prop) : Nat → Bool := fun k => @decide (S (k : Int) ∧ lsP F n (k : Int)) (Classical.propDecidable _)
theorem cs_t {F : Int → Int → Int} {n : Int} {S : Int → Prop} {k : Nat} : csB F n S k = true ↔ S (k : Int) ∧ lsP F n (k : Int) := by
  unfold csB
  exact @decide_eq_true_iff _ (Classical.propDecidable _)
theorem cs_f {F : Int → Int → Int} {n : Int} {S : Int → Prop} {k : Nat} : csB F n S k = false ↔ ¬ (S (k : Int) ∧ lsP F n (k : Int)) := by
  refine ⟨fun z w => ?_, fun z => ?_⟩
  · rw [cs_t.mpr w] at z
    cases z
  · cases e : csB F n S k with
    | true => exact absurd (cs_t.mp e) z
    | false => rfl
/-- m circles are closed -/
noncomputable def CNT (F : Int → Int → Int) (n : Int) (S : Int → Prop) (m : Int) : Prop := m = (cntP (csB F n S) 5461 : Int)
noncomputable def cNM (F : Int → Int → Int) (n : Int) : Int := (cntP (csB F n (fun _ => True)) 5461 : Int)
section CNS
variable {F : Int → Int → Int} {n m t : Int} {S S' : Int → Prop}
theorem cns_0 (h : ∀ x : Int, rgT x → ¬ S x) : CNT F n S 0 := by
  have e : cntP (csB F n S) 5461 = 0 := cnt_z (fun i hi => cs_f.mpr (fun q => h i ⟨by omega, by omega⟩ q.1))
  unfold CNT
  omega
theorem cns_s (h : CNT F n S m) (hS : ∀ x y : Int, rgT x → rgT y → S x → MUc F n x y → S y) (ht : rgT t) (h0 : ¬ S t) (h1 : ∀ x : Int, rgT x → (S' x ↔ S x ∨ MUc F n t x)) : CNT F n S' (m + 1) := by
  obtain ⟨l, hl, hm, hls⟩ := ls_ex (F := F) (n := n) 5461 t ht (by have := ht.2; omega)
  have el : ((l.toNat : Nat) : Int) = l := Int.toNat_of_nonneg hl.1
  have p1 : csB F n S l.toNat = false := cs_f.mpr (fun q => by
    rw [el] at q
    exact h0 (hS l t hl ht q.1 (mu_sy hm)))
  have p2 : csB F n S' l.toNat = true := cs_t.mpr (by
    rw [el]
    exact ⟨(h1 l hl).mpr (Or.inr hm), hls⟩)
  have p3 : ∀ x : Nat, x < 5461 → x ≠ l.toNat → csB F n S' x = csB F n S x := fun x hx hne => by
    have hx2 : rgT (x : Int) := ⟨by omega, by omega⟩
    cases e : csB F n S x with
    | true =>
      obtain ⟨a, b⟩ := cs_t.mp e
      exact cs_t.mpr ⟨(h1 _ hx2).mpr (Or.inl a), b⟩
    | false =>
      refine cs_f.mpr fun q => ?_
      obtain ⟨a, b⟩ := q
      rcases (h1 _ hx2).mp a with z | z
      · exact cs_f.mp e ⟨z, b⟩
      · have hxl : MUc F n (x : Int) l := mu_tr (mu_sy z) hm
        rcases Int.lt_trichotomy (x : Int) l with c | c | c
        · exact hls (x : Int) (by omega) c (mu_sy hxl)
        · omega
        · exact b l hl.1 c hxl
  have e := cnt_up p1 p2 5461 (by have := hl.2; omega) p3
  unfold CNT at h ⊢
  omega
theorem cns_e (h : CNT F n S m) (hS : ∀ x : Int, rgT x → S x) : m = cNM F n := by
  have e := cnt_cg (p := csB F n S) (q := csB F n (fun _ => True)) (k := 5461) (fun i hi => by
    cases e : csB F n S i with
    | true => exact (cs_t.mpr ⟨trivial, (cs_t.mp e).2⟩).symm
    | false => exact (cs_f.mpr (fun q => cs_f.mp e ⟨hS _ ⟨by omega, by omega⟩, q.2⟩)).symm)
  unfold CNT at h
  unfold cNM
  rw [h, e]
theorem cns_b (h : CNT F n S m) (ht : rgT t) (h0 : ¬ S t) : 0 ≤ m ∧ m < 5461 := by
  have p1 : csB F n S t.toNat = false := cs_f.mpr (fun q => by
    rw [Int.toNat_of_nonneg ht.1] at q
    exact h0 q.1)
  have e := cn_lt p1 5461 (by have := ht.2; omega)
  unfold CNT at h
  omega
theorem cz_b (ht : rgT t) : 1 ≤ cSZ F n t ∧ cSZ F n t ≤ 5461 := by
  have e1 := cnt_p (p := czB F n t) (t := t.toNat) (cz_t.mpr (by rw [Int.toNat_of_nonneg ht.1]; exact mu_rf)) 5461 (by have := ht.2; omega)
  have e2 := cn_le (czB F n t) 5461
  unfold cSZ
  omega
/-- the largest of the circles that are closed -/
noncomputable def LGS (F : Int → Int → Int) (n : Int) (S : Int → Prop) (m : Int) : Prop := (0 ≤ m ∧ m ≤ 5461) ∧ (∀ x : Int, rgT x → S x → cSZ F n x ≤ m) ∧ (m = 0 ∨ ∃ x : Int, rgT x ∧ S x ∧ cSZ F n x = m)
theorem lgs_0 (h : ∀ x : Int, rgT x → ¬ S x) : LGS F n S 0 := ⟨⟨by omega, by omega⟩, fun x hx hs => absurd hs (h x hx), Or.inl rfl⟩
theorem lgs_s {m' : Int} (h : LGS F n S m) (ht : rgT t) (h1 : ∀ x : Int, rgT x → (S' x ↔ S x ∨ MUc F n t x)) (hm : m ≤ m' ∧ cSZ F n t ≤ m' ∧ (m' = m ∨ m' = cSZ F n t)) : LGS F n S' m' := by
  have hb := cz_b (F := F) (n := n) ht
  have hr := h.1
  refine ⟨by omega, fun x hx hs => ?_, ?_⟩
  · rcases (h1 x hx).mp hs with z | z
    · have := h.2.1 x hx z
      omega
    · rw [← cz_cg z]
      exact hm.2.1
  · rcases hm.2.2 with e | e
    · rcases h.2.2 with z | ⟨x, hx, hs, e2⟩
      · exact Or.inl (e.trans z)
      · exact Or.inr ⟨x, hx, (h1 x hx).mpr (Or.inl hs), e2.trans e.symm⟩
    · exact Or.inr ⟨t, ht, (h1 t ht).mpr (Or.inr mu_rf), e.symm⟩
noncomputable def CZE (F : Int → Int → Int) (n t x : Int) : Prop := x = cSZ F n t
theorem lgs_t {m' x : Int} (h : LGS F n S m) (ht : rgT t) (h1 : ∀ x : Int, rgT x → (S' x ↔ S x ∨ MUc F n t x)) (hz : CZE F n t x) (hm : m ≤ m' ∧ x ≤ m' ∧ (m' = m ∨ m' = x)) : LGS F n S' m' := by
  have e : x = cSZ F n t := hz
  rw [e] at hm
  exact lgs_s h ht h1 hm
noncomputable def CLM (F : Int → Int → Int) (n m : Int) : Prop := (∀ x : Int, rgT x → cSZ F n x ≤ m) ∧ ∃ x : Int, rgT x ∧ cSZ F n x = m
theorem clm_u (a b : Int) (h : CLM F n a) (h2 : CLM F n b) : a = b := by
  obtain ⟨h3, x, hx, e⟩ := h
  obtain ⟨h4, y, hy, e2⟩ := h2
  have q1 := h3 y hy
  have q2 := h4 x hx
  omega
noncomputable def cLG (F : Int → Int → Int) (n : Int) : Int := EPS (CLM F n)
theorem lgs_e (h : LGS F n S m) (hS : ∀ x : Int, rgT x → S x) : m = cLG F n := by
  refine eps_e clm_u ⟨fun x hx => h.2.1 x hx (hS x hx), ?_⟩
  rcases h.2.2 with z | ⟨x, hx, -, e⟩
  · have z0 : rgT (0 : Int) := ⟨by omega, by omega⟩
    have q1 := h.2.1 0 z0 (hS 0 z0)
    have q2 := (cz_b (F := F) (n := n) z0).1
    omega
  · exact ⟨x, hx, e⟩
end CNS
noncomputable def cirV (F : Int → Int → Int) (n a : Int) : Int := if a = -1 then cNM F n else if a = -2 then cLG F n else if 0 ≤ a ∧ a ≤ 5460 then cSZ F n a else -1
theorem cir_1 {F : Int → Int → Int} {n a : Int} (h : a = -1) : cirV F n a = cNM F n := if_pos h
theorem cir_2 {F : Int → Int → Int} {n a : Int} (h : a = -2) : cirV F n a = cLG F n := (if_neg (by omega)).trans (if_pos h)
theorem cir_t {F : Int → Int → Int} {n a : Int} (h : 0 ≤ a ∧ a ≤ 5460) : cirV F n a = cSZ F n a := (if_neg (by omega)).trans ((if_neg (by omega)).trans (if_pos h))
theorem cir_n {F : Int → Int → Int} {n a : Int} (h : a ≠ -1 ∧ a ≠ -2 ∧ (a < 0 ∨ 5460 < a)) : cirV F n a = -1 := (if_neg h.1).trans ((if_neg h.2.1).trans (if_neg (by omega)))
theorem cir_bad {A B : Prop} {v x : Int} (h : A ∨ B) (hv : v = -1) (hx : x = -1) : (A ∧ v = -1) ∨ (B ∧ v = x) := by
  rcases h with h | h
  · exact Or.inl ⟨h, hv⟩
  · exact Or.inr ⟨h, hv.trans hx.symm⟩
/-! THE CLASS'S ROWS. -/
noncomputable def TJZ (F : Int → Int → Int) (n : Int) (g5 g6 g7 g8 g9 g10 : Nat → Int32) (f k dp : Int) : Prop := TJx F n (tBy g7) (tBy g8) (tBy g9) (tBy g10) (tBy g6) (tBy g5) f k dp
noncomputable def clz (T : Nat → Int32) (x : Int) : Prop := tBy T x ≠ 0
/-- 5461, closed to the kernel -/
noncomputable def nC : Nat := Classical.choose (⟨5461, rfl⟩ : ∃ n : Nat, n = 5461)
theorem nC_e : nC = 5461 := Classical.choose_spec (⟨5461, rfl⟩ : ∃ n : Nat, n = 5461)
/-- how far the way has come: each step is one -/
noncomputable def PRG (g7 g9 : Nat → Int32) (f dp mu : Int) : Prop := mu = smF (fun t => if tBy g7 t = -1 then 0 else tBy g9 t) nC + f - dp
theorem csm_b {f : Int → Int} {c : Int} (c0 : 0 ≤ c) : ∀ k : Nat, (∀ t : Int, 0 ≤ t → t < (k : Int) → 0 ≤ f t ∧ f t ≤ c) → 0 ≤ smF f k ∧ smF f k ≤ c * (k : Int)
  | 0, _ => by
    show (0 : Int) ≤ 0 ∧ (0 : Int) ≤ c * ((0 : Nat) : Int)
    rw [show c * ((0 : Nat) : Int) = 0 from Int.mul_zero c]
    exact ⟨Int.le_refl _, Int.le_refl _⟩
  | k + 1, h => by
    have h1 := csm_b c0 k (fun t t0 t1 => h t t0 (by omega))
    have h2 := h (k : Int) (by omega) (by omega)
    have e : c * ((k + 1 : Nat) : Int) = c * (k : Int) + c := by rw [show ((k + 1 : Nat) : Int) = (k : Int) + 1 from by omega, Int.mul_add, Int.mul_one]
    have e2 : smF f (k + 1) = smF f k + f (k : Int) := rfl
    omega
theorem csm_1 {f g : Int → Int} {t : Int} {k : Nat} (t0 : 0 ≤ t) (t1 : t < (k : Int)) (h : g t = f t + 1) (h2 : ∀ x : Int, 0 ≤ x → x < (k : Int) → x ≠ t → g x = f x) : smF g k = smF f k + 1 := by
  have e : smF g k = smF (upI f t (f t + 1)) k := sm_cg (fun x x0 x1 => by
    by_cases c : x = t
    · rw [c, up_eq, h]
    · rw [up_ne c, h2 x x0 x1 c])
  have e2 := sm_up (f := f) (v := f t + 1) (k := k) t0
  rw [if_pos t1] at e2
  omega
section TJA
variable {F : Int → Int → Int} {n : Int} {g5 g6 g7 g8 g9 g10 : Nat → Int32} {f k dp t v mu : Int}
theorem tj_b {o e d z op wy : Int → Int} (h : TJx F n o e d z op wy f k dp) : (0 ≤ dp ∧ dp ≤ k) ∧ k ≤ f ∧ f ≤ 5461 := by
  obtain ⟨⟨⟨a1, a2, a3⟩, a4, a5, a6⟩, ⟨b1, b2, b3, b4, b5, b6, b7⟩, -⟩ := h
  refine ⟨b1, ?_, a2⟩
  have hm : ∀ m : Nat, (m : Int) < k → (m : Int) ≤ o (op (m : Int)) := fun m => by
    induction m with
    | zero =>
      intro hk
      have hk2 : (0 : Int) < k := hk
      have h1 := b2 0 (Int.le_refl _) hk2
      have h3 := a4 _ h1.1
      have h2 := h1.2.1
      exact (show (0 : Int) ≤ o (op 0) by omega)
    | succ m ih =>
      intro hk
      have em : ((m + 1 : Nat) : Int) = (m : Int) + 1 := by omega
      rw [em] at hk ⊢
      have h1 := ih (by omega)
      have h2 := b3 (m : Int) ((m : Int) + 1) (by omega) (by omega) hk
      omega
  by_cases c : k ≤ 0
  · omega
  · have h1 := hm (k - 1).toNat (by omega)
    rw [Int.toNat_of_nonneg (show 0 ≤ k - 1 by omega)] at h1
    have h2 := b2 (k - 1) (by omega) (by omega)
    have h3 := a4 _ h2.1
    have h4 := h2.2.1
    omega
theorem tj_w (h : TJZ F n g5 g6 g7 g8 g9 g10 f k dp) (h0 : 0 < dp) : (0 ≤ tBy g5 (dp - 1) ∧ tBy g5 (dp - 1) ≤ 5460) ∧ 0 ≤ tBy g9 (tBy g5 (dp - 1)) ∧ tBy g9 (tBy g5 (dp - 1)) ≤ n := by
  obtain ⟨-, ⟨b1, b2, b3, b4, b5, b6, b7⟩, ⟨c1, c2⟩, -⟩ := h
  have h1 := b5 (dp - 1) (by omega) (by omega)
  exact ⟨h1.1, (c1 _ h1.1 h1.2.1).1⟩
/-- room for a text that is not found yet -/
theorem tj_r (h : TJZ F n g5 g6 g7 g8 g9 g10 f k dp) (hv : 0 ≤ v ∧ v ≤ 5460) (h0 : tBy g7 v = -1) : (0 ≤ f ∧ f ≤ 5460) ∧ (0 ≤ k ∧ k ≤ 5460) ∧ 0 ≤ dp ∧ dp ≤ 5460 := by
  have hb := tj_b h
  have h1 := h.1.1
  have e := cn_lt (p := fun k => decide (tBy g7 (k : Int) ≠ -1)) (t := v.toNat) (by
    show decide (tBy g7 ((v.toNat : Nat) : Int) ≠ -1) = false
    rw [Int.toNat_of_nonneg hv.1]
    exact decide_eq_false (fun z => z h0)) 5461 (by omega)
  omega
theorem tje {g9' : Nat → Int32} (hF : FOK F n) (hn : 0 ≤ n) (h : TJZ F n g5 g6 g7 g8 g9 g10 f k dp) (ht : 0 ≤ t ∧ t ≤ 5460) (h0 : tBy g7 t = -1) (hk : dp = 0 → k = 0) (hs : 0 < dp → F (tBy g9 (tBy g5 (dp - 1))) (tBy g5 (dp - 1)) = t ∧ tBy g9 (tBy g5 (dp - 1)) < n) (hd : ∀ x : Int, rgT x → tBy g9' x = if x = t then 0 else if 0 < dp ∧ x = tBy g5 (dp - 1) then tBy g9 x + 1 else tBy g9 x) : TJZ F n (upd g5 (dp : Int).toNat (Int32.ofInt t)) (upd g6 (k : Int).toNat (Int32.ofInt t)) (upd g7 (t : Int).toNat (Int32.ofInt f)) (upd g8 (t : Int).toNat (Int32.ofInt f)) g9' g10 (f + 1) (k + 1) (dp + 1) := by
  have hb := tj_r h ht h0
  have rf : r32 f := ⟨by omega, by omega⟩
  have rt : r32 t := ⟨by omega, by omega⟩
  exact tj_en hF hn h ht h0 hk hs hd (fun x hx => zupI rf ht.1 hx.1) (fun x hx => zupI rf ht.1 hx.1) (fun i i0 => zupI rt (by omega) i0) (fun i i0 => zupI rt (by omega) i0)
theorem tje_0 (hF : FOK F n) (hn : 0 ≤ n) (h : TJZ F n g5 g6 g7 g8 g9 g10 f k 0) (hk : k = 0) (ht : 0 ≤ t ∧ t ≤ 5460) (h0 : tBy g7 t = -1) : TJZ F n (upd g5 (0 : Int).toNat (Int32.ofInt t)) (upd g6 (k : Int).toNat (Int32.ofInt t)) (upd g7 (t : Int).toNat (Int32.ofInt f)) (upd g8 (t : Int).toNat (Int32.ofInt f)) (upd g9 (t : Int).toNat (Int32.ofInt 0)) g10 (f + 1) (k + 1) (0 + 1) :=
  tje hF hn h ht h0 (fun _ => hk) (fun z => absurd z (by omega)) (fun x hx => by
    rw [zupI (show r32 0 from ⟨by omega, by omega⟩) ht.1 hx.1]
    by_cases c : x = t
    · rw [if_pos c, if_pos c]
    · rw [if_neg c, if_neg c, if_neg (show ¬ ((0 : Int) < 0 ∧ x = tBy g5 ((0 : Int) - 1)) from fun z => absurd z.1 (by omega))])
/-- the text on top is found and open -/
theorem tj_o (h : TJZ F n g5 g6 g7 g8 g9 g10 f k dp) (h0 : 0 < dp) (wt : tBy g5 (dp - 1) = t) : rgT t ∧ (0 ≤ tBy g7 t ∧ tBy g7 t < f) ∧ tBy g10 t = 0 ∧ (0 ≤ tBy g9 t ∧ tBy g9 t ≤ n) ∧ tBy g8 t ≤ tBy g7 t ∧ 0 ≤ tBy g8 t := by
  obtain ⟨⟨-, a4, -, -⟩, ⟨b1, b2, b3, b4, b5, b6, b7⟩, ⟨c1, c2⟩, ⟨g1, g2, g3, g4⟩, -⟩ := h
  have h1 := b5 (dp - 1) (by omega) (by omega)
  have h2 := g4 (dp - 1) (by omega) (by omega)
  rw [wt] at h1 h2
  have h3 := (a4 t h1.1).resolve_left h1.2.1
  obtain ⟨q1, u, q2, q3, -⟩ := h2
  have h4 := (a4 u q2.1).resolve_left q2.2.1
  exact ⟨h1.1, h3, h1.2.2, (c1 t h1.1 h1.2.1).1, q1, by omega⟩
theorem tje_t (hF : FOK F n) (hn : 0 ≤ n ∧ n ≤ 5) (h : TJZ F n g5 g6 g7 g8 g9 g10 f k dp) (hc : 0 < dp ∧ tBy g5 (dp - 1) = t ∧ tBy g9 t < n) (hv : v = F (tBy g9 t) t) (hv2 : 0 ≤ v ∧ v ≤ 5460) (hu : tBy g7 v = -1) : TJZ F n (upd g5 (dp : Int).toNat (Int32.ofInt v)) (upd g6 (k : Int).toNat (Int32.ofInt v)) (upd g7 (v : Int).toNat (Int32.ofInt f)) (upd g8 (v : Int).toNat (Int32.ofInt f)) (upd (upd g9 (t : Int).toNat (Int32.ofInt (tBy g9 t + 1))) (v : Int).toNat (Int32.ofInt 0)) g10 (f + 1) (k + 1) (dp + 1) := by
  obtain ⟨o1, o2, o3, o4, -⟩ := tj_o h hc.1 hc.2.1
  refine tje hF hn.1 h hv2 hu (fun z => by omega) (fun _ => ?_) (fun x hx => ?_)
  · rw [hc.2.1]
    exact ⟨hv.symm, hc.2.2⟩
  · rw [zupI (show r32 0 from ⟨by omega, by omega⟩) hv2.1 hx.1, hc.2.1]
    by_cases c : x = v
    · rw [if_pos c, if_pos c]
    · rw [if_neg c, if_neg c, zupI (by exact ⟨by omega, by omega⟩) o1.1 hx.1]
      by_cases c2 : x = t
      · rw [if_pos c2, if_pos (show 0 < dp ∧ x = t from ⟨hc.1, c2⟩), c2]
      · rw [if_neg c2, if_neg (show ¬ (0 < dp ∧ x = t) from fun z => c2 z.2)]
theorem tje_b {m : Int} (hF : FOK F n) (hn : 0 ≤ n ∧ n ≤ 5) (h : TJZ F n g5 g6 g7 g8 g9 g10 f k dp) (hc : 0 < dp ∧ tBy g5 (dp - 1) = t ∧ tBy g9 t < n) (hv : v = F (tBy g9 t) t) (hu : tBy g7 v ≠ -1) (hz : tBy g10 v = 0) (hm : m ≤ tBy g8 t ∧ m ≤ tBy g7 v ∧ (m = tBy g8 t ∨ m = tBy g7 v)) : TJZ F n g5 g6 g7 (upd g8 (t : Int).toNat (Int32.ofInt m)) (upd g9 (t : Int).toNat (Int32.ofInt (tBy g9 t + 1))) g10 f k dp := by
  obtain ⟨o1, o2, o3, o4, -⟩ := tj_o h hc.1 hc.2.1
  have rm : r32 m := by
    rcases hm.2.2 with e | e
    · rw [e]
      exact tBy_r _ _
    · rw [e]
      exact tBy_r _ _
  rw [hv] at hu hz hm
  exact tj_bp hF h hc.1 hc.2.1 hc.2.2 hu (fun x hx => by
    rw [zupI (by exact ⟨by omega, by omega⟩) o1.1 hx.1]
    by_cases c : x = t
    · rw [if_pos c, if_pos c, c]
    · rw [if_neg c, if_neg c]) (fun x hx => zupI rm o1.1 hx.1) (fun _ => hm) (fun q => absurd hz q)
theorem tje_z (hF : FOK F n) (hn : 0 ≤ n ∧ n ≤ 5) (h : TJZ F n g5 g6 g7 g8 g9 g10 f k dp) (hc : 0 < dp ∧ tBy g5 (dp - 1) = t ∧ tBy g9 t < n) (hv : v = F (tBy g9 t) t) (hu : tBy g7 v ≠ -1) (hz : tBy g10 v ≠ 0) : TJZ F n g5 g6 g7 g8 (upd g9 (t : Int).toNat (Int32.ofInt (tBy g9 t + 1))) g10 f k dp := by
  obtain ⟨o1, o2, o3, o4, -⟩ := tj_o h hc.1 hc.2.1
  rw [hv] at hu hz
  exact tj_bp (ev := tBy g8 t) hF h hc.1 hc.2.1 hc.2.2 hu (fun x hx => by
    rw [zupI (by exact ⟨by omega, by omega⟩) o1.1 hx.1]
    by_cases c : x = t
    · rw [if_pos c, if_pos c, c]
    · rw [if_neg c, if_neg c]) (fun x hx => by
    by_cases c : x = t
    · rw [if_pos c, c]
    · rw [if_neg c]) (fun q => absurd q hz) (fun _ => rfl)
/-! how far -/
theorem prg_x (g7 g9 : Nat → Int32) (f dp : Int) : ∃ mu : Int, PRG g7 g9 f dp mu := ⟨_, rfl⟩
theorem prg_b (hn : 0 ≤ n ∧ n ≤ 5) (h : TJZ F n g5 g6 g7 g8 g9 g10 f k dp) (hp : PRG g7 g9 f dp mu) : 0 ≤ mu ∧ mu ≤ 32766 := by
  have hb := tj_b h
  obtain ⟨-, -, ⟨c1, -⟩, -⟩ := h
  have hs := csm_b (f := fun t => if tBy g7 t = -1 then 0 else tBy g9 t) (c := 5) (by omega) nC (fun t t0 t1 => by
    rw [nC_e] at t1
    show 0 ≤ (if tBy g7 t = -1 then 0 else tBy g9 t) ∧ (if tBy g7 t = -1 then 0 else tBy g9 t) ≤ 5
    by_cases c : tBy g7 t = -1
    · rw [if_pos c]
      omega
    · rw [if_neg c]
      have := (c1 t ⟨t0, by omega⟩ c).1
      omega)
  rw [show ((nC : Nat) : Int) = 5461 by have := nC_e; omega] at hs
  unfold PRG at hp
  omega
theorem prg_0 (hn : 0 ≤ n ∧ n ≤ 5) (h : TJZ F n g5 g6 g7 g8 g9 g10 f k 0) (ht : 0 ≤ t ∧ t ≤ 5460) (h0 : tBy g7 t = -1) (hp : PRG g7 g9 f 0 mu) : PRG (upd g7 (t : Int).toNat (Int32.ofInt f)) (upd g9 (t : Int).toNat (Int32.ofInt 0)) (f + 1) (0 + 1) mu := by
  have hb := tj_r h ht h0
  have e : smF (fun x => if tBy (upd g7 (t : Int).toNat (Int32.ofInt f)) x = -1 then 0 else tBy (upd g9 (t : Int).toNat (Int32.ofInt 0)) x) nC = smF (fun x => if tBy g7 x = -1 then 0 else tBy g9 x) nC := sm_cg (fun x x0 x1 => by
    show (if tBy (upd g7 (t : Int).toNat (Int32.ofInt f)) x = -1 then 0 else tBy (upd g9 (t : Int).toNat (Int32.ofInt 0)) x) = if tBy g7 x = -1 then 0 else tBy g9 x
    rw [zupI (by exact ⟨by omega, by omega⟩) ht.1 x0, zupI (show r32 0 from ⟨by omega, by omega⟩) ht.1 x0]
    by_cases c : x = t
    · rw [if_pos c, if_pos c, c, if_pos h0, if_neg (show ¬ f = -1 by omega)]
    · rw [if_neg c, if_neg c])
  unfold PRG at hp ⊢
  rw [e]
  omega
theorem prg_t (hn : 0 ≤ n ∧ n ≤ 5) (h : TJZ F n g5 g6 g7 g8 g9 g10 f k dp) (hc : 0 < dp ∧ tBy g5 (dp - 1) = t ∧ tBy g9 t < n) (hv2 : 0 ≤ v ∧ v ≤ 5460) (hu : tBy g7 v = -1) (hp : PRG g7 g9 f dp mu) : PRG (upd g7 (v : Int).toNat (Int32.ofInt f)) (upd (upd g9 (t : Int).toNat (Int32.ofInt (tBy g9 t + 1))) (v : Int).toNat (Int32.ofInt 0)) (f + 1) (dp + 1) (mu + 1) := by
  obtain ⟨o1, o2, o3, o4, -⟩ := tj_o h hc.1 hc.2.1
  have hb := tj_r h hv2 hu
  have tv : t ≠ v := fun q => by
    rw [← q] at hu
    omega
  have e := csm_1 (f := fun x => if tBy g7 x = -1 then 0 else tBy g9 x) (g := fun x => if tBy (upd g7 (v : Int).toNat (Int32.ofInt f)) x = -1 then 0 else tBy (upd (upd g9 (t : Int).toNat (Int32.ofInt (tBy g9 t + 1))) (v : Int).toNat (Int32.ofInt 0)) x) (t := t) (k := nC) o1.1 (by rw [nC_e]; have := o1.2; omega) (by
    show (if tBy (upd g7 (v : Int).toNat (Int32.ofInt f)) t = -1 then 0 else tBy (upd (upd g9 (t : Int).toNat (Int32.ofInt (tBy g9 t + 1))) (v : Int).toNat (Int32.ofInt 0)) t) = (if tBy g7 t = -1 then 0 else tBy g9 t) + 1
    rw [zupI (by exact ⟨by omega, by omega⟩) hv2.1 o1.1, zupI (show r32 0 from ⟨by omega, by omega⟩) hv2.1 o1.1, if_neg tv, if_neg tv, zupI (by exact ⟨by omega, by omega⟩) o1.1 o1.1, if_pos (show t = t from rfl), if_neg (show ¬ tBy g7 t = -1 by omega), if_neg (show ¬ tBy g7 t = -1 by omega)]) (fun x x0 x1 hx => by
    show (if tBy (upd g7 (v : Int).toNat (Int32.ofInt f)) x = -1 then 0 else tBy (upd (upd g9 (t : Int).toNat (Int32.ofInt (tBy g9 t + 1))) (v : Int).toNat (Int32.ofInt 0)) x) = if tBy g7 x = -1 then 0 else tBy g9 x
    rw [zupI (by exact ⟨by omega, by omega⟩) hv2.1 x0, zupI (show r32 0 from ⟨by omega, by omega⟩) hv2.1 x0, zupI (by exact ⟨by omega, by omega⟩) o1.1 x0]
    by_cases c : x = v
    · rw [if_pos c, if_pos c, c, if_pos hu, if_neg (show ¬ f = -1 by omega)]
    · rw [if_neg c, if_neg c, if_neg hx])
  unfold PRG at hp ⊢
  rw [e]
  omega
theorem prg_z (hn : 0 ≤ n ∧ n ≤ 5) (h : TJZ F n g5 g6 g7 g8 g9 g10 f k dp) (hc : 0 < dp ∧ tBy g5 (dp - 1) = t ∧ tBy g9 t < n) (hp : PRG g7 g9 f dp mu) : PRG g7 (upd g9 (t : Int).toNat (Int32.ofInt (tBy g9 t + 1))) f dp (mu + 1) := by
  obtain ⟨o1, o2, o3, o4, -⟩ := tj_o h hc.1 hc.2.1
  have e := csm_1 (f := fun x => if tBy g7 x = -1 then 0 else tBy g9 x) (g := fun x => if tBy g7 x = -1 then 0 else tBy (upd g9 (t : Int).toNat (Int32.ofInt (tBy g9 t + 1))) x) (t := t) (k := nC) o1.1 (by rw [nC_e]; have := o1.2; omega) (by
    show (if tBy g7 t = -1 then 0 else tBy (upd g9 (t : Int).toNat (Int32.ofInt (tBy g9 t + 1))) t) = (if tBy g7 t = -1 then 0 else tBy g9 t) + 1
    rw [zupI (by exact ⟨by omega, by omega⟩) o1.1 o1.1, if_pos (show t = t from rfl), if_neg (show ¬ tBy g7 t = -1 by omega), if_neg (show ¬ tBy g7 t = -1 by omega)]) (fun x x0 x1 hx => by
    show (if tBy g7 x = -1 then 0 else tBy (upd g9 (t : Int).toNat (Int32.ofInt (tBy g9 t + 1))) x) = if tBy g7 x = -1 then 0 else tBy g9 x
    rw [zupI (by exact ⟨by omega, by omega⟩) o1.1 x0, if_neg hx])
  unfold PRG at hp ⊢
  rw [e]
  omega
theorem prg_l (hp : PRG g7 g9 f dp mu) : PRG g7 g9 f (dp - 1) (mu + 1) := by
  unfold PRG at hp ⊢
  omega
/-! closing -/
noncomputable def OPT (g6 : Nat → Int32) (k t : Int) : Prop := ∃ i : Int, (0 ≤ i ∧ i < k) ∧ tBy g6 i = t
theorem opt_i (h : OPT g6 k t) : OPT g6 (k - 1 + 1) t := by
  rw [show k - 1 + 1 = k by omega]
  exact h
theorem opt_s {bo : Int} (h : OPT g6 (bo + 1) t) (hne : tBy g6 bo ≠ t) : OPT g6 (bo + (-1) + 1) t := by
  obtain ⟨i, hi, e⟩ := h
  have c : i ≠ bo := fun q => hne (by rw [← q]; exact e)
  exact ⟨i, ⟨hi.1, by omega⟩, e⟩
theorem opt_0 {bo : Int} (h : OPT g6 (bo + 1) t) (b0 : 0 ≤ bo) (b1 : bo ≤ 0) : tBy g6 bo = t := by
  obtain ⟨i, hi, e⟩ := h
  rw [show bo = i by omega]
  exact e
noncomputable def CLQ (g6 g10 T : Nat → Int32) (bo ii sz : Int) : Prop := ∀ x : Int, rgT x → ((∃ i : Int, (bo ≤ i ∧ i < ii) ∧ tBy g6 i = x) → tBy T x = sz) ∧ ((¬ ∃ i : Int, (bo ≤ i ∧ i < ii) ∧ tBy g6 i = x) → tBy T x = tBy g10 x)
noncomputable def CLO (g6 g10 T : Nat → Int32) (k bo t : Int) : Prop := (0 ≤ bo ∧ bo < k) ∧ tBy g6 bo = t ∧ CLQ g6 g10 T bo k (k - bo)
theorem clq_0 {bo sz : Int} : CLQ g6 g10 g10 bo bo sz := fun x hx => ⟨fun ⟨i, hi, _⟩ => by omega, fun _ => rfl⟩
theorem clq_s {T : Nat → Int32} {bo ii sz : Int} (h : CLQ g6 g10 T bo ii sz) (h1 : bo ≤ ii) (hr : 0 ≤ tBy g6 ii ∧ tBy g6 ii ≤ 5460) (hs : r32 sz) : CLQ g6 g10 (upd T (tBy g6 ii : Int).toNat (Int32.ofInt sz)) bo (ii + 1) sz := fun x hx => by
  obtain ⟨h2, h3⟩ := h x hx
  rw [zupI hs hr.1 hx.1]
  by_cases c : x = tBy g6 ii
  · rw [if_pos c]
    exact ⟨fun _ => rfl, fun q => absurd ⟨ii, ⟨h1, by omega⟩, c.symm⟩ q⟩
  · rw [if_neg c]
    refine ⟨fun ⟨i, hi, e⟩ => h2 ⟨i, ⟨hi.1, ?_⟩, e⟩, fun q => h3 fun ⟨i, hi, e⟩ => q ⟨i, ⟨hi.1, by omega⟩, e⟩⟩
    have hne : i ≠ ii := fun z => c (by rw [← e, z])
    omega
theorem clo_e {T : Nat → Int32} {bo ii : Int} (hb : 0 ≤ bo ∧ bo < k) (ht : tBy g6 bo = t) (h : CLQ g6 g10 T bo ii (k - bo)) (e : ii = k) : CLO g6 g10 T k bo t := by
  rw [e] at h
  exact ⟨hb, ht, h⟩
theorem tj_op (h : TJZ F n g5 g6 g7 g8 g9 g10 f k dp) : ∀ i : Int, 0 ≤ i → i < k → 0 ≤ tBy g6 i ∧ tBy g6 i ≤ 5460 := fun i i0 i1 => (h.2.1.2.1 i i0 i1).1
theorem tj_ot (h : TJZ F n g5 g6 g7 g8 g9 g10 f k dp) (hc : 0 < dp ∧ tBy g5 (dp - 1) = t) : OPT g6 k t := by
  obtain ⟨-, ⟨b1, b2, b3, b4, b5, b6, b7⟩, -⟩ := h
  have h1 := b5 (dp - 1) (by omega) (by omega)
  rw [hc.2] at h1
  exact b4 t h1
theorem tj_l1 (h : TJZ F n g5 g6 g7 g8 g9 g10 f k dp) (h0 : 0 < dp) (wt : tBy g5 (dp - 1) = t) (hlt : tBy g8 t ≠ tBy g7 t) : 1 < dp := by
  obtain ⟨ha, hD, ⟨c1, c2⟩, ⟨g1, g2, g3, g4⟩, hh⟩ := h
  have g4t := g4 (dp - 1) (by omega) (by omega)
  rw [wt] at g4t
  obtain ⟨q1, u0, q2, q3, q4⟩ := g4t
  obtain ⟨j, hj, hw⟩ := tj_ow hD q2
  refine Classical.byContradiction fun q => ?_
  have hw1 := hw.1
  rw [show j = dp - 1 by omega, wt, q3] at hw1
  omega
/-- the text before on the way -/
theorem tj_bf (h : TJZ F n g5 g6 g7 g8 g9 g10 f k dp) (h0 : 1 < dp) (wt : tBy g5 (dp - 1) = t) : (0 ≤ tBy g5 (dp - 1 - 1) ∧ tBy g5 (dp - 1 - 1) ≤ 5460) ∧ tBy g5 (dp - 1 - 1) ≠ t ∧ tBy g7 (tBy g5 (dp - 1 - 1)) < tBy g7 t ∧ tBy g8 (tBy g5 (dp - 1 - 1)) ≤ tBy g7 (tBy g5 (dp - 1 - 1)) := by
  obtain ⟨-, ⟨b1, b2, b3, b4, b5, b6, b7⟩, -, ⟨g1, g2, g3, g4⟩, -⟩ := h
  have h1 := b5 (dp - 1 - 1) (by omega) (by omega)
  have h2 := b6 (dp - 1 - 1) (dp - 1) (by omega) (by omega) (by omega)
  have h3 := (g4 (dp - 1 - 1) (by omega) (by omega)).1
  rw [wt] at h2
  refine ⟨h1.1, fun q => ?_, h2, h3⟩
  rw [q] at h2
  omega
theorem tjl_n {m b : Int} (hF : FOK F n) (h : TJZ F n g5 g6 g7 g8 g9 g10 f k dp) (hc : 0 < dp ∧ tBy g5 (dp - 1) = t ∧ tBy g9 t = n) (h1 : 1 < dp) (hb : b = tBy g5 (dp - 1 - 1)) (hm : m ≤ tBy g8 b ∧ m ≤ tBy g8 t ∧ (m = tBy g8 b ∨ m = tBy g8 t)) (hne : tBy (upd g8 (b : Int).toNat (Int32.ofInt m)) t ≠ tBy g7 t) : TJZ F n g5 g6 g7 (upd g8 (b : Int).toNat (Int32.ofInt m)) g9 g10 f k (dp - 1) := by
  obtain ⟨q1, q2, q3, q4⟩ := tj_bf h h1 hc.2.1
  rw [← hb] at q1 q2 q3 q4
  have o1 := (tj_o h hc.1 hc.2.1).1
  have rm : r32 m := by
    rcases hm.2.2 with e | e
    · rw [e]
      exact tBy_r _ _
    · rw [e]
      exact tBy_r _ _
  rw [zupI rm q1.1 o1.1, if_neg (show ¬ t = b from fun z => q2 z.symm)] at hne
  have hb2 : tBy g5 (dp - 2) = b := by
    rw [hb, show dp - 1 - 1 = dp - 2 by omega]
  exact (tj_lv (ev := m) (e' := tBy (upd g8 (b : Int).toNat (Int32.ofInt m))) hF h hc.1 hc.2.1 hc.2.2 hne (fun x hx => by
    rw [hb2]
    exact zupI rm q1.1 hx.1) (by
    rw [hb2]
    exact hm)).2
theorem tj_ix {o z op wy : Int → Int} {bo x : Int} (hD : TJd o z op wy k dp) (hb : 0 ≤ bo ∧ bo < k) (hbo : op bo = t) (hx : OPN o z x) : o t ≤ o x ↔ ∃ i : Int, (bo ≤ i ∧ i < k) ∧ op i = x := by
  obtain ⟨b1, b2, b3, b4, b5, b6, b7⟩ := hD
  constructor
  · intro hle
    obtain ⟨i, hi, e⟩ := b4 x hx
    refine ⟨i, ⟨Classical.byContradiction fun q => ?_, hi.2⟩, e⟩
    have h1 := b3 i bo hi.1 (by omega) hb.2
    rw [e, hbo] at h1
    omega
  · rintro ⟨i, hi, e⟩
    by_cases c : i = bo
    · rw [c, hbo] at e
      rw [e]
      exact Int.le_refl _
    · have h1 := b3 bo i hb.1 (by omega) hi.2
      rw [e, hbo] at h1
      omega
theorem tjl_c {g8' T : Nat → Int32} {bo : Int} (hF : FOK F n) (h : TJZ F n g5 g6 g7 g8 g9 g10 f k dp) (hc : 0 < dp ∧ tBy g5 (dp - 1) = t ∧ tBy g9 t = n) (heq : tBy g8 t = tBy g7 t) (he : ∀ x : Int, rgT x → tBy g8' x = tBy g8 x) (hcl : CLO g6 g10 T k bo t) : CZE F n t (k - bo) ∧ TJZ F n g5 g6 g7 g8' g9 T f bo (dp - 1) ∧ (∀ x : Int, rgT x → (clz T x ↔ clz g10 x ∨ MUc F n t x)) ∧ (∀ x y : Int, rgT x → rgT y → clz g10 x → MUc F n x y → clz g10 y) ∧ rgT t ∧ ¬ clz g10 t := by
  obtain ⟨hb, hbo, hq⟩ := hcl
  obtain ⟨hci, suc⟩ := tj_ci hF h hc.1 hc.2.1 hc.2.2 heq
  have hD := h.2.1
  have hh := h.2.2.2.2
  obtain ⟨o1, o2, o3, -⟩ := tj_o h hc.1 hc.2.1
  have z1 : ∀ x : Int, OPN (tBy g7) (tBy g10) x → tBy g7 t ≤ tBy g7 x → tBy T x = k - bo := fun x hx hle => (hq x hx.1).1 ((tj_ix hD hb hbo hx).mp hle)
  have z2 : ∀ x : Int, rgT x → ¬ (OPN (tBy g7) (tBy g10) x ∧ tBy g7 t ≤ tBy g7 x) → tBy T x = tBy g10 x := fun x hx hne => (hq x hx).2 fun q => hne (by
    obtain ⟨i, hi, e⟩ := q
    have hop := hD.2.1 i (by omega) hi.2
    rw [e] at hop
    exact ⟨hop, (tj_ix hD hb hbo hop).mpr ⟨i, hi, e⟩⟩)
  obtain ⟨r1, r2⟩ := tj_cl hF h hc.1 hc.2.1 hc.2.2 heq hb hbo he z1 z2
  refine ⟨r1, r2, fun x hx => ?_, fun x y hx hy hz hm => (hh x hx hz).2 y hy hm, o1, fun q => q o3⟩
  by_cases c : OPN (tBy g7) (tBy g10) x ∧ tBy g7 t ≤ tBy g7 x
  · have hm := ((hci x).mp c).2
    refine ⟨fun _ => Or.inr hm, fun _ => ?_⟩
    unfold clz
    rw [z1 x c.1 c.2]
    omega
  · unfold clz
    rw [z2 x hx c]
    refine ⟨Or.inl, fun q => q.elim id fun hm => absurd ((hci x).mpr ⟨hx, hm⟩) c⟩
/-- before, what is earliest for the text before doesn't change when a circle is closed -/
theorem tjl_e {m b : Int} (h : TJZ F n g5 g6 g7 g8 g9 g10 f k dp) (hc : 0 < dp ∧ tBy g5 (dp - 1) = t ∧ tBy g9 t = n) (h1 : 1 < dp) (hb : b = tBy g5 (dp - 1 - 1)) (hm : m ≤ tBy g8 b ∧ m ≤ tBy g8 t ∧ (m = tBy g8 b ∨ m = tBy g8 t)) (heq : tBy (upd g8 (b : Int).toNat (Int32.ofInt m)) t = tBy g7 t) : tBy g8 t = tBy g7 t ∧ ∀ x : Int, rgT x → tBy (upd g8 (b : Int).toNat (Int32.ofInt m)) x = tBy g8 x := by
  obtain ⟨q1, q2, q3, q4⟩ := tj_bf h h1 hc.2.1
  rw [← hb] at q1 q2 q3 q4
  have o1 := (tj_o h hc.1 hc.2.1).1
  have rm : r32 m := by
    rcases hm.2.2 with e | e
    · rw [e]
      exact tBy_r _ _
    · rw [e]
      exact tBy_r _ _
  rw [zupI rm q1.1 o1.1, if_neg (show ¬ t = b from fun z => q2 z.symm)] at heq
  refine ⟨heq, fun x hx => ?_⟩
  rw [zupI rm q1.1 hx.1]
  by_cases c : x = b
  · rw [if_pos c, c]
    omega
  · rw [if_neg c]
/-- the beginning -/
theorem tj_0 (h7 : ∀ x : Int, 0 ≤ x → x < 5461 → tBy g7 x = -1) (h10 : ∀ x : Int, 0 ≤ x → x < 5461 → tBy g10 x = 0) : TJZ F n g5 g6 g7 g8 g9 g10 0 0 0 := by
  have e : cntP (fun k => decide (tBy g7 (k : Int) ≠ -1)) 5461 = 0 := cnt_z (fun i hi => decide_eq_false (fun q => q (h7 i (by omega) (by omega))))
  have no : ∀ x : Int, rgT x → ¬ tBy g7 x ≠ -1 := fun x hx q => q (h7 x hx.1 (by have := hx.2; omega))
  have zz : ∀ x : Int, rgT x → tBy g10 x = 0 := fun x hx => h10 x hx.1 (by have := hx.2; omega)
  refine ⟨⟨⟨by omega, by omega, by omega⟩, fun x hx => Or.inl (h7 x hx.1 (by have := hx.2; omega)), fun x u hx hu _ q => absurd q (no x hx), fun x hx => ⟨by rw [zz x hx]; exact Int.le_refl _, fun _ => zz x hx⟩⟩, ⟨⟨by omega, by omega⟩, fun i i0 i1 => by omega, fun i j i0 ij j1 => by omega, fun x hx => absurd hx.2.1 (no x hx.1), fun i i0 i1 => by omega, fun i j i0 ij j1 => by omega, fun q => by omega⟩, ⟨fun x hx q => absurd q (no x hx), fun x hx q => absurd (zz x hx) q⟩, ⟨fun i v i0 i1 => by omega, fun i v i0 i1 => by omega, fun i v i0 i1 => by omega, fun i i0 i1 => by omega⟩, fun x hx q => absurd (zz x hx) q⟩
theorem tj_z0 (h : TJZ F n g5 g6 g7 g8 g9 g10 f k dp) (hd : dp ≤ 0) : TJZ F n g5 g6 g7 g8 g9 g10 f k 0 ∧ k = 0 := by
  have hb := tj_b h
  have e : dp = 0 := by omega
  rw [e] at h
  refine ⟨h, ?_⟩
  obtain ⟨-, ⟨b1, b2, b3, b4, b5, b6, b7⟩, -⟩ := h
  refine Classical.byContradiction fun q => ?_
  have := (b7 (by omega)).1
  omega
theorem clz_0 {T : Nat → Int32} (h : ∀ x : Int, 0 ≤ x → x < 5461 → tBy T x = 0) : ∀ x : Int, rgT x → ¬ clz T x := fun x hx q => q (h x hx.1 (by have := hx.2; omega))
noncomputable def CIRC (F : Int → Int → Int) (n m1 m2 : Int) (T : Nat → Int32) : Prop := m1 = cNM F n ∧ m2 = cLG F n ∧ ∀ x : Int, rgT x → tBy T x = cSZ F n x
theorem circ_e {m1 m2 : Int} (h : TJZ F n g5 g6 g7 g8 g9 g10 f k 0) (hk : k = 0) (ha : ∀ x : Int, 0 ≤ x → x < t → tBy g7 x ≠ -1) (e : t = 5461) (hc : CNT F n (clz g10) m1) (hl : LGS F n (clz g10) m2) : CIRC F n m1 m2 g10 := by
  have hz : ∀ x : Int, rgT x → clz g10 x := fun x hx q => by
    obtain ⟨-, ⟨b1, b2, b3, b4, -⟩, -⟩ := h
    obtain ⟨i, hi, -⟩ := b4 x ⟨hx, ha x hx.1 (by have := hx.2; omega), q⟩
    omega
  exact ⟨cns_e hc hz, lgs_e hl hz, fun x hx => (h.2.2.2.2 x hx (hz x hx)).1⟩
/-- what is found stays found -/
noncomputable def KPD (g T : Nat → Int32) : Prop := ∀ x : Int, rgT x → tBy g x ≠ -1 → tBy T x ≠ -1
theorem kpd_r : KPD g7 g7 := fun _ _ h => h
theorem kpd_t {g g' g'' : Nat → Int32} (h : KPD g g') (h2 : KPD g' g'') : KPD g g'' := fun x hx q => h2 x hx (h x hx q)
theorem kpd_u (hv : 0 ≤ v) (hf : 0 ≤ f ∧ f ≤ 5460) : KPD g7 (upd g7 (v : Int).toNat (Int32.ofInt f)) := fun x hx q => by
  rw [zupI (by exact ⟨by omega, by omega⟩) hv hx.1]
  by_cases c : x = v
  · rw [if_pos c]
    omega
  · rw [if_neg c]
    exact q
theorem kpd_v (hv : 0 ≤ v) (hf : 0 ≤ f ∧ f ≤ 5460) : tBy (upd g7 (v : Int).toNat (Int32.ofInt f)) v ≠ -1 := by
  rw [zupI (by exact ⟨by omega, by omega⟩) hv hv, if_pos rfl]
  omega
end TJA
