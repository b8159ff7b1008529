/-! CIRCLES, the reference's way: an order by ends, then back from the last. -/
noncomputable def GDX (F : Int → Int → Int) (n : Int) (d o u : Int → Int) (dn de : Int) : Prop := (0 ≤ dn ∧ 0 ≤ de ∧ dn + de = (cntP (fun k => decide (d (k : Int) ≠ -1)) 5461 : Int)) ∧ (∀ x : Int, rgT x → (-1 ≤ d x ∧ d x ≤ n) ∧ ∀ r : Int, 0 ≤ r → r < d x → d (F r x) ≠ -1) ∧ (∀ i : Int, 0 ≤ i → i < dn → rgT (o i) ∧ d (o i) = n) ∧ (∀ i j : Int, 0 ≤ i → i < j → j < dn → o i ≠ o j) ∧ (∀ a : Int, 0 ≤ a → a < de → (rgT (u a) ∧ d (u a) ≠ -1) ∧ ∀ i : Int, 0 ≤ i → i < dn → o i ≠ u a) ∧ (∀ a b : Int, 0 ≤ a → a < b → b < de → u a ≠ u b) ∧ (∀ x : Int, rgT x → d x ≠ -1 → (∃ i : Int, (0 ≤ i ∧ i < dn) ∧ o i = x) ∨ ∃ a : Int, (0 ≤ a ∧ a < de) ∧ u a = x) ∧ (∀ a b : Int, 0 ≤ a → a ≤ b → b < de → RTc F n (u a) (u b)) ∧ ∀ i j r : Int, 0 ≤ i → i ≤ j → j < dn → 0 ≤ r → r < n → (∃ k : Int, (0 ≤ k ∧ k ≤ j) ∧ o k = F r (o i)) ∨ RTc F n (F r (o i)) (o j)
section GDS
variable {F : Int → Int → Int} {n : Int} {d o u d' o' u' : Int → Int} {dn de t : Int}
theorem gd_0 (h : ∀ x : Int, rgT x → d x = -1) (hn : 0 ≤ n) : GDX F n d o u 0 0 := by
  have e : cntP (fun k => decide (d (k : Int) ≠ -1)) 5461 = 0 := cnt_z (fun i hi => decide_eq_false (fun q => q (h _ ⟨by omega, by omega⟩)))
  refine ⟨⟨Int.le_refl _, Int.le_refl _, by omega⟩, fun x hx => ⟨by rw [h x hx]; omega, fun r r0 r1 => by rw [h x hx] at r1; omega⟩, fun i i0 i1 => by omega, fun i j i0 ij j1 => by omega, fun a a0 a1 => by omega, fun a b a0 ab b1 => by omega, fun x hx q => absurd (h x hx) q, fun a b a0 ab b1 => by omega, fun i j r i0 ij j1 => by omega⟩
theorem gd_r (h : GDX F n d o u dn de) (ht : rgT t) (h0 : d t = -1) : dn + de < 5461 := by
  have h1 := h.1
  have e := cn_lt (p := fun k => decide (d (k : Int) ≠ -1)) (t := t.toNat) (by
    show decide (d ((t.toNat : Nat) : Int) ≠ -1) = false
    rw [Int.toNat_of_nonneg ht.1]
    exact decide_eq_false (fun z => z h0)) 5461 (by have := ht.2; omega)
  omega
theorem gd_m (h : GDX F n d o u dn de) : dn + de ≤ 5461 := by
  have h1 := h.1
  have e := cn_le (fun k => decide (d (k : Int) ≠ -1)) 5461
  omega
/-- a text that is not tried yet is put on top -/
theorem gd_p (hF : FOK F n) (hn : 0 ≤ n) (h : GDX F n d o u dn de) (ht : rgT t) (h0 : d t = -1) (hs : 0 < de → F (d (u (de - 1))) (u (de - 1)) = t ∧ d (u (de - 1)) < n) (hd : ∀ x : Int, rgT x → d' x = if x = t then 0 else if 0 < de ∧ x = u (de - 1) then d x + 1 else d x) (hu : ∀ a : Int, 0 ≤ a → u' a = if a = de then t else u a) : GDX F n d' o u' dn (de + 1) := by
  obtain ⟨⟨a1, a2, a3⟩, b, c, e, f, g, k, l, m⟩ := h
  have dt : d' t = 0 := (hd t ht).trans (if_pos rfl)
  have dk : ∀ x : Int, rgT x → d x ≠ -1 → d' x ≠ -1 ∧ d x ≤ d' x := fun x hx hne => by
    have hx2 := (b x hx).1
    have hxt : x ≠ t := fun q => hne (by rw [q]; exact h0)
    rw [hd x hx, if_neg hxt]
    split
    · omega
    · omega
  have do_ : ∀ i : Int, 0 ≤ i → i < dn → d' (o i) = d (o i) := fun i i0 i1 => by
    obtain ⟨c1, c2⟩ := c i i0 i1
    rw [hd _ c1, if_neg (show ¬ o i = t from fun q => by rw [q] at c2; omega), if_neg (show ¬ (0 < de ∧ o i = u (de - 1)) from fun q => (f (de - 1) (by omega) (by omega)).2 i i0 i1 q.2)]
  have ud : u' de = t := (hu de a2).trans (if_pos rfl)
  have ui : ∀ a : Int, 0 ≤ a → a < de → u' a = u a := fun a a0 a1 => (hu a a0).trans (if_neg (by omega))
  have kn : ∀ x : Int, rgT x → d' x ≠ -1 → x = t ∨ d x ≠ -1 := fun x hx hne => by
    by_cases c1 : x = t
    · exact Or.inl c1
    · refine Or.inr fun q => hne ?_
      rw [hd x hx, if_neg c1]
      by_cases c2 : 0 < de ∧ x = u (de - 1)
      · have := (f (de - 1) (by omega) (by omega)).1.2
        rw [← c2.2] at this
        exact absurd q this
      · rw [if_neg c2]
        exact q
  refine ⟨⟨a1, by omega, ?_⟩, fun x hx => ?_, fun i i0 i1 => ⟨(c i i0 i1).1, by rw [do_ i i0 i1]; exact (c i i0 i1).2⟩, e, fun a a0 a1 => ?_, fun a a2 a0 ab b1 => ?_, fun x hx hne => ?_, fun a a2 a0 ab b1 => ?_, m⟩
  · have p1 : (fun k : Nat => decide (d (k : Int) ≠ -1)) t.toNat = false := by
      show decide (d ((t.toNat : Nat) : Int) ≠ -1) = false
      rw [Int.toNat_of_nonneg ht.1]
      exact decide_eq_false (fun z => z h0)
    have p2 : (fun k : Nat => decide (d' (k : Int) ≠ -1)) t.toNat = true := by
      show decide (d' ((t.toNat : Nat) : Int) ≠ -1) = true
      rw [Int.toNat_of_nonneg ht.1]
      exact decide_eq_true (by omega)
    have q := cnt_up (p := fun k : Nat => decide (d (k : Int) ≠ -1)) (q := fun k : Nat => decide (d' (k : Int) ≠ -1)) (t := t.toNat) p1 p2 5461 (by have := ht.2; omega) (fun x hx hne => by
      show decide (d' (x : Int) ≠ -1) = decide (d (x : Int) ≠ -1)
      have hx2 : rgT (x : Int) := ⟨by omega, by omega⟩
      refine decide_eq_decide.mpr ⟨fun z => (kn _ hx2 z).resolve_left (fun q => by omega), fun z => (dk _ hx2 z).1⟩)
    omega
  · obtain ⟨b1, b2⟩ := b x hx
    by_cases c1 : x = t
    · rw [c1, dt]
      exact ⟨⟨by omega, hn⟩, fun r r0 r1 => by omega⟩
    · by_cases c2 : 0 < de ∧ x = u (de - 1)
      · have hs2 := hs c2.1
        rw [← c2.2] at hs2
        have h3 := (f (de - 1) (by omega) (by omega)).1.2
        rw [← c2.2] at h3
        rw [hd x hx, if_neg c1, if_pos c2]
        refine ⟨⟨by omega, by omega⟩, fun r r0 r1 => ?_⟩
        by_cases c3 : r = d x
        · rw [c3, hs2.1, dt]
          omega
        · exact (dk _ (hF r x r0 (by omega) hx.1 hx.2) (b2 r r0 (by omega))).1
      · rw [hd x hx, if_neg c1, if_neg c2]
        exact ⟨b1, fun r r0 r1 => (dk _ (hF r x r0 (by omega) hx.1 hx.2) (b2 r r0 r1)).1⟩
  · by_cases c1 : a = de
    · rw [c1, ud]
      refine ⟨⟨ht, by omega⟩, fun i i0 i1 q => ?_⟩
      have := (c i i0 i1).2
      rw [q] at this
      omega
    · rw [ui a a0 (by omega)]
      obtain ⟨f1, f2⟩ := f a a0 (by omega)
      exact ⟨⟨f1.1, (dk _ f1.1 f1.2).1⟩, f2⟩
  · rw [ui a a0 (by omega)]
    by_cases c1 : a2 = de
    · rw [c1, ud]
      intro q
      have := (f a a0 (by omega)).1.2
      rw [q] at this
      exact this h0
    · rw [ui a2 (by omega) (by omega)]
      exact g a a2 a0 ab (by omega)
  · rcases kn x hx hne with q | q
    · exact Or.inr ⟨de, ⟨by omega, by omega⟩, by rw [ud, q]⟩
    · rcases k x hx q with z | ⟨a, ha, z⟩
      · exact Or.inl z
      · exact Or.inr ⟨a, ⟨ha.1, by omega⟩, by rw [ui a ha.1 ha.2]; exact z⟩
  · by_cases c1 : a2 = de
    · rw [c1, ud]
      by_cases c2 : a = de
      · rw [c2, ud]
        exact rt_rf
      · rw [ui a a0 (by omega)]
        have hs2 := hs (by omega)
        have h3 := f (de - 1) (by omega) (by omega)
        have h4 := (b _ h3.1.1).1
        have h5 := h3.1.2
        exact rt_st (l a (de - 1) a0 (by omega) (by omega)) ⟨d (u (de - 1)), ⟨by omega, hs2.2⟩, hs2.1⟩
    · rw [ui a2 (by omega) (by omega), ui a a0 (by omega)]
      exact l a a2 a0 ab (by omega)
/-- what comes of the top is tried already -/
theorem gd_t (hF : FOK F n) (h : GDX F n d o u dn de) (h0 : 0 < de) (wt : u (de - 1) = t) (hdn : d t < n) (hu : d (F (d t) t) ≠ -1) (hd : ∀ x : Int, rgT x → d' x = if x = t then d x + 1 else d x) : GDX F n d' o u dn de := by
  obtain ⟨⟨a1, a2, a3⟩, b, c, e, f, g, k, l, m⟩ := h
  have ft := f (de - 1) (by omega) (by omega)
  rw [wt] at ft
  have bt := (b t ft.1.1).1
  have dk : ∀ x : Int, rgT x → (d' x ≠ -1 ↔ d x ≠ -1) := fun x hx => by
    rw [hd x hx]
    by_cases c1 : x = t
    · rw [if_pos c1, c1]
      have := ft.1.2
      omega
    · rw [if_neg c1]
  refine ⟨⟨a1, a2, ?_⟩, fun x hx => ?_, fun i i0 i1 => ?_, e, fun a a0 a1 => ⟨⟨(f a a0 a1).1.1, (dk _ (f a a0 a1).1.1).mpr (f a a0 a1).1.2⟩, (f a a0 a1).2⟩, g, fun x hx hne => k x hx ((dk x hx).mp hne), l, m⟩
  · rw [a3]
    have q := cnt_cg (p := fun k => decide (d (k : Int) ≠ -1)) (q := fun k => decide (d' (k : Int) ≠ -1)) (k := 5461) (fun i hi => by
      show decide (d (i : Int) ≠ -1) = decide (d' (i : Int) ≠ -1)
      exact decide_eq_decide.mpr (dk _ ⟨by omega, by omega⟩).symm)
    rw [q]
  · obtain ⟨b1, b2⟩ := b x hx
    by_cases c1 : x = t
    · have h3 := ft.1.2
      rw [hd x hx, if_pos c1, c1]
      rw [c1] at b1 b2 hx
      refine ⟨⟨by omega, by omega⟩, fun r r0 r1 => ?_⟩
      by_cases c3 : r = d t
      · rw [c3]
        exact (dk _ (hF _ t (by omega) hdn hx.1 hx.2)).mpr hu
      · exact (dk _ (hF r t r0 (by omega) hx.1 hx.2)).mpr (b2 r r0 (by omega))
    · rw [hd x hx, if_neg c1]
      exact ⟨b1, fun r r0 r1 => (dk _ (hF r x r0 (by omega) hx.1 hx.2)).mpr (b2 r r0 r1)⟩
  · obtain ⟨c1, c2⟩ := c i i0 i1
    refine ⟨c1, ?_⟩
    rw [hd _ c1, if_neg (show ¬ o i = t from ft.2 i i0 i1)]
    exact c2
/-- the top is done -/
theorem gd_f (hF : FOK F n) (h : GDX F n d o u dn de) (h0 : 0 < de) (wt : u (de - 1) = t) (hdn : d t = n) (ho : ∀ i : Int, 0 ≤ i → o' i = if i = dn then t else o i) : GDX F n d o' u (dn + 1) (de - 1) := by
  obtain ⟨⟨a1, a2, a3⟩, b, c, e, f, g, k, l, m⟩ := h
  have ft := f (de - 1) (by omega) (by omega)
  rw [wt] at ft
  have od : o' dn = t := (ho dn a1).trans (if_pos rfl)
  have oi : ∀ i : Int, 0 ≤ i → i < dn → o' i = o i := fun i i0 i1 => (ho i i0).trans (if_neg (by omega))
  have bt := (b t ft.1.1)
  rw [hdn] at bt
  refine ⟨⟨by omega, by omega, by omega⟩, b, fun i i0 i1 => ?_, fun i j i0 ij j1 => ?_, fun a a0 a1 => ?_, fun a a2 a0 ab b1 => g a a2 a0 ab (by omega), fun x hx hne => ?_, fun a a2 a0 ab b1 => l a a2 a0 ab (by omega), fun i j r i0 ij j1 r0 r1 => ?_⟩
  · by_cases c1 : i = dn
    · rw [c1, od]
      exact ⟨ft.1.1, hdn⟩
    · rw [oi i i0 (by omega)]
      exact c i i0 (by omega)
  · rw [oi i i0 (by omega)]
    by_cases c1 : j = dn
    · rw [c1, od]
      exact ft.2 i i0 (by omega)
    · rw [oi j (by omega) (by omega)]
      exact e i j i0 ij (by omega)
  · obtain ⟨f1, f2⟩ := f a a0 (by omega)
    refine ⟨f1, fun i i0 i1 => ?_⟩
    by_cases c1 : i = dn
    · rw [c1, od, ← wt]
      exact fun q => g a (de - 1) a0 a1 (by omega) q.symm
    · rw [oi i i0 (by omega)]
      exact f2 i i0 (by omega)
  · rcases k x hx hne with ⟨i, hi, q⟩ | ⟨a, ha, q⟩
    · exact Or.inl ⟨i, ⟨hi.1, by omega⟩, by rw [oi i hi.1 hi.2]; exact q⟩
    · by_cases c1 : a = de - 1
      · rw [c1, wt] at q
        exact Or.inl ⟨dn, ⟨a1, by omega⟩, by rw [od]; exact q⟩
      · exact Or.inr ⟨a, ⟨ha.1, by omega⟩, q⟩
  · have key : ∀ x : Int, rgT x → d x = n → (∃ p : Int, (0 ≤ p ∧ p ≤ dn) ∧ o' p = F r x) ∨ RTc F n (F r x) t := fun x hx hdx => by
      have hne := (b x hx).2 r r0 (by omega)
      rcases k (F r x) (hF r x r0 r1 hx.1 hx.2) hne with ⟨p, hp, q⟩ | ⟨a, ha, q⟩
      · exact Or.inl ⟨p, ⟨hp.1, by omega⟩, by rw [oi p hp.1 hp.2]; exact q⟩
      · refine Or.inr ?_
        rw [← q, ← wt]
        exact l a (de - 1) ha.1 (by omega) (by omega)
    by_cases c1 : j = dn
    · rw [c1, od]
      by_cases c2 : i = dn
      · rw [c2, od]
        exact key t ft.1.1 hdn
      · rw [oi i i0 (by omega)]
        obtain ⟨x1, x2⟩ := c i i0 (by omega)
        exact key (o i) x1 x2
    · rw [oi i i0 (by omega), oi j (by omega) (by omega)]
      rcases m i j r i0 ij (by omega) r0 r1 with ⟨p, hp, q⟩ | q
      · exact Or.inl ⟨p, hp, by rw [oi p hp.1 (by omega)]; exact q⟩
      · exact Or.inr q
/-- a way that leaves a set leaves it somewhere -/
theorem rk_x {P : Int → Prop} {x : Int} (h0 : P x) : ∀ (k : Nat) (v : Int), RKc F n k x v → ¬ P v → ∃ y z : Int, RTc F n x y ∧ P y ∧ stp F n y z ∧ ¬ P z ∧ RTc F n z v
  | 0, v, hk, hv => by
    have e : x = v := hk
    rw [← e] at hv
    exact absurd h0 hv
  | k + 1, v, hk, hv => by
    obtain ⟨w, hw, hs⟩ := hk
    by_cases c : P w
    · exact ⟨w, v, ⟨k, hw⟩, c, hs, hv, rt_rf⟩
    · obtain ⟨y, z, h1, h2, h3, h4, h5⟩ := rk_x h0 k w hw c
      exact ⟨y, z, h1, h2, h3, h4, rt_st h5 hs⟩
/-- who is reached by a text is done before somebody of its circle -/
theorem gd_key (hF : FOK F n) (h : GDX F n d o u dn 0) (ha : ∀ x : Int, rgT x → d x ≠ -1) : ∀ (m : Nat) (i j : Int), 0 ≤ i → i < dn → 0 ≤ j → j < dn → dn - i ≤ (m : Int) → RTc F n (o i) (o j) → ∃ l : Int, (j ≤ l ∧ l < dn) ∧ MUc F n (o i) (o l)
  | 0, i, j, i0, i1, j0, j1, hm, hr => by omega
  | m + 1, i, j, i0, i1, j0, j1, hm, hr => by
    by_cases c : j ≤ i
    · exact ⟨i, ⟨c, i1⟩, mu_rf⟩
    · obtain ⟨-, -, hc, he, -, -, hg, -, hk⟩ := id h
      obtain ⟨k, hk2⟩ := id hr
      obtain ⟨y, z, h1, ⟨p, hp, ep⟩, ⟨r, hr2, er⟩, h4, h5⟩ := rk_x (F := F) (n := n) (P := fun y => ∃ p : Int, (0 ≤ p ∧ p ≤ i) ∧ o p = y) ⟨i, ⟨i0, Int.le_refl _⟩, rfl⟩ k (o j) hk2 (fun ⟨p, hp, e⟩ => he p j hp.1 (by omega) j1 e)
      have hz : RTc F n z (o i) := by
        rcases hk p i r hp.1 hp.2 i1 hr2.1 hr2.2 with ⟨q, hq, e⟩ | q
        · rw [ep, er] at e
          exact (h4 ⟨q, hq, e⟩).elim
        · rw [ep, er] at q
          exact q
      have hiz : RTc F n (o i) z := rt_st h1 ⟨r, hr2, er⟩
      have rz : rgT z := rt_in hF (hc i i0 i1).1 hiz
      rcases hg z rz (ha z rz) with ⟨i2, hi2, e⟩ | ⟨a, ha2, -⟩
      · have hlt : i < i2 := Classical.byContradiction fun q => h4 ⟨i2, ⟨hi2.1, by omega⟩, e⟩
        rw [← e] at h5 hz hiz
        obtain ⟨l, hl, hm2⟩ := gd_key hF h ha m i2 j hi2.1 hi2.2 j0 j1 (by omega) h5
        exact ⟨l, hl, mu_tr ⟨hiz, hz⟩ hm2⟩
      · omega
end GDS
/-! the progress of the first way -/
noncomputable def PRD (g39 : Nat → Int32) (dn mu : Int) : Prop := mu = smF (fun t => tBy g39 t + 1) nC + dn
noncomputable def GDA (F : Int → Int → Int) (n : Int) (g39 g33 g38 : Nat → Int32) (dn de : Int) : Prop := GDX F n (tBy g39) (tBy g33) (tBy g38) dn de
section GDB
variable {F : Int → Int → Int} {n : Int} {g33 g38 g39 : Nat → Int32} {dn de t v mu : Int}
theorem prd_b (hn : 0 ≤ n ∧ n ≤ 5) (h : GDA F n g39 g33 g38 dn de) (hp : PRD g39 dn mu) : 0 ≤ mu ∧ mu ≤ 38227 := by
  have hb := gd_m h
  have h1 := h.1
  have hs := csm_b (f := fun t => tBy g39 t + 1) (c := 6) (by omega) nC (fun t t0 t1 => by
    rw [nC_e] at t1
    have h2 := (h.2.1 t ⟨t0, by omega⟩).1
    show 0 ≤ tBy g39 t + 1 ∧ tBy g39 t + 1 ≤ 6
    omega)
  rw [show ((nC : Nat) : Int) = 5461 by have := nC_e; omega] at hs
  unfold PRD at hp
  omega
theorem csm_u {f g : Int → Int} {t x : Int} {k : Nat} (t0 : 0 ≤ t) (t1 : t < (k : Int)) (h : g t = f t + x) (h2 : ∀ x : Int, 0 ≤ x → x < (k : Int) → x ≠ t → g x = f x) : smF g k = smF f k + x := by
  have e : smF g k = smF (upI f t (f t + x)) k := sm_cg (fun x x0 x1 => by
    by_cases c : x = t
    · rw [c, up_eq, h]
    · rw [up_ne c, h2 x x0 x1 c])
  have e2 := sm_up (f := f) (v := f t + x) (k := k) t0
  rw [if_pos t1] at e2
  omega
/-- a store into what is tried -/
theorem prd_u {x : Int} (t0 : 0 ≤ t ∧ t ≤ 5460) (hx : r32 x) (hp : PRD g39 dn mu) : PRD (upd g39 (t : Int).toNat (Int32.ofInt x)) dn (mu + (x - tBy g39 t)) := by
  have e := csm_u (f := fun y => tBy g39 y + 1) (g := fun y => tBy (upd g39 (t : Int).toNat (Int32.ofInt x)) y + 1) (t := t) (x := x - tBy g39 t) (k := nC) t0.1 (by rw [nC_e]; have := t0.2; omega) (by
    show tBy (upd g39 (t : Int).toNat (Int32.ofInt x)) t + 1 = tBy g39 t + 1 + (x - tBy g39 t)
    rw [zupI hx t0.1 t0.1, if_pos (show t = t from rfl)]
    omega) (fun y y0 y1 hy => by
    show tBy (upd g39 (t : Int).toNat (Int32.ofInt x)) y + 1 = tBy g39 y + 1
    rw [zupI hx t0.1 y0, if_neg hy])
  unfold PRD at hp ⊢
  rw [e]
  omega
theorem prd_x (g39 : Nat → Int32) (dn : Int) : ∃ mu : Int, PRD g39 dn mu := ⟨_, rfl⟩
theorem prd_e {mu' : Int} (hp : PRD g39 dn mu) (e : mu = mu') : PRD g39 dn mu' := e ▸ hp
theorem prd_f (hp : PRD g39 dn mu) : PRD g39 (dn + 1) (mu + 1) := by
  unfold PRD at hp ⊢
  omega
/-- the top: it is tried, and by whom -/
theorem gda_w (h : GDA F n g39 g33 g38 dn de) (h0 : 0 < de) : (0 ≤ tBy g38 (de - 1) ∧ tBy g38 (de - 1) ≤ 5460) ∧ 0 ≤ tBy g39 (tBy g38 (de - 1)) ∧ tBy g39 (tBy g38 (de - 1)) ≤ n := by
  have h1 := (h.2.2.2.2.1 (de - 1) (by omega) (by omega)).1
  have h2 := (h.2.1 _ h1.1).1
  have h3 := h1.2
  exact ⟨h1.1, by omega, h2.2⟩
theorem gda_0 (hF : FOK F n) (hn : 0 ≤ n) (h : GDA F n g39 g33 g38 dn 0) (ht : 0 ≤ t ∧ t ≤ 5460) (h0 : tBy g39 t = -1) : GDA F n (upd g39 (t : Int).toNat (Int32.ofInt 0)) g33 (upd g38 (0 : Int).toNat (Int32.ofInt t)) dn 1 := by
  have r0 : r32 0 := ⟨by omega, by omega⟩
  have rt : r32 t := ⟨by omega, by omega⟩
  have h2 : GDX F n (tBy (upd g39 (t : Int).toNat (Int32.ofInt 0))) (tBy g33) (tBy (upd g38 (0 : Int).toNat (Int32.ofInt t))) dn (0 + 1) := gd_p hF hn h ht h0 (fun z => absurd z (by omega)) (fun x hx => by
    rw [zupI r0 ht.1 hx.1]
    by_cases c : x = t
    · rw [if_pos c, if_pos c]
    · rw [if_neg c, if_neg c, if_neg (show ¬ ((0 : Int) < 0 ∧ x = tBy g38 ((0 : Int) - 1)) from fun z => absurd z.1 (by omega))]) (fun a a0 => zupI rt (Int.le_refl _) a0)
  exact h2
theorem gda_p (hF : FOK F n) (hn : 0 ≤ n ∧ n ≤ 5) (h : GDA F n g39 g33 g38 dn de) (h0 : 0 < de) (wt : t = tBy g38 (de - 1)) (hdn : tBy g39 t < n) (hv : v = F (tBy g39 t) t) (hv2 : 0 ≤ v ∧ v ≤ 5460) (hu : tBy (upd g39 (t : Int).toNat (Int32.ofInt (tBy g39 t + 1))) v = -1) : GDA F n (upd (upd g39 (t : Int).toNat (Int32.ofInt (tBy g39 t + 1))) (v : Int).toNat (Int32.ofInt 0)) g33 (upd g38 (de : Int).toNat (Int32.ofInt v)) dn (de + 1) ∧ tBy g39 v = -1 ∧ v ≠ t := by
  have hw := gda_w h h0
  rw [← wt] at hw
  have r0 : r32 0 := ⟨by omega, by omega⟩
  have rv : r32 v := ⟨by omega, by omega⟩
  have r1 : r32 (tBy g39 t + 1) := ⟨by omega, by omega⟩
  have vt : v ≠ t := fun q => by
    rw [q, zupI r1 hw.1.1 hw.1.1, if_pos (show t = t from rfl)] at hu
    omega
  have hu2 : tBy g39 v = -1 := by
    rw [zupI r1 hw.1.1 hv2.1, if_neg vt] at hu
    exact hu
  refine ⟨?_, hu2, vt⟩
  have h1 := h.1
  have h2 : GDX F n (tBy (upd (upd g39 (t : Int).toNat (Int32.ofInt (tBy g39 t + 1))) (v : Int).toNat (Int32.ofInt 0))) (tBy g33) (tBy (upd g38 (de : Int).toNat (Int32.ofInt v))) dn (de + 1) := gd_p hF hn.1 h hv2 hu2 (fun _ => by
    rw [← wt]
    exact ⟨hv.symm, hdn⟩) (fun x hx => by
    rw [zupI r0 hv2.1 hx.1, ← wt]
    by_cases c : x = v
    · rw [if_pos c, if_pos c]
    · rw [if_neg c, if_neg c, zupI r1 hw.1.1 hx.1]
      by_cases c2 : x = t
      · rw [if_pos c2, if_pos (show 0 < de ∧ x = t from ⟨h0, c2⟩), c2]
      · rw [if_neg c2, if_neg (show ¬ (0 < de ∧ x = t) from fun z => c2 z.2)]) (fun a a0 => zupI rv h1.2.1 a0)
  exact h2
theorem gda_t (hF : FOK F n) (hn : 0 ≤ n ∧ n ≤ 5) (h : GDA F n g39 g33 g38 dn de) (h0 : 0 < de) (wt : t = tBy g38 (de - 1)) (hdn : tBy g39 t < n) (hv : v = F (tBy g39 t) t) (hv2 : 0 ≤ v ∧ v ≤ 5460) (hu : tBy (upd g39 (t : Int).toNat (Int32.ofInt (tBy g39 t + 1))) v ≠ -1) : GDA F n (upd g39 (t : Int).toNat (Int32.ofInt (tBy g39 t + 1))) g33 g38 dn de := by
  have hw := gda_w h h0
  rw [← wt] at hw
  have r1 : r32 (tBy g39 t + 1) := ⟨by omega, by omega⟩
  have hu2 : tBy g39 (F (tBy g39 t) t) ≠ -1 := by
    rw [← hv]
    rw [zupI r1 hw.1.1 hv2.1] at hu
    by_cases c : v = t
    · rw [c]
      omega
    · rw [if_neg c] at hu
      exact hu
  exact gd_t (d' := tBy (upd g39 (t : Int).toNat (Int32.ofInt (tBy g39 t + 1)))) hF h h0 wt.symm hdn hu2 (fun x hx => by
    rw [zupI r1 hw.1.1 hx.1]
    by_cases c : x = t
    · rw [if_pos c, if_pos c, c]
    · rw [if_neg c, if_neg c])
theorem gda_f (hF : FOK F n) (h : GDA F n g39 g33 g38 dn de) (h0 : 0 < de) (wt : t = tBy g38 (de - 1)) (hdn : tBy g39 t = n) : GDA F n g39 (upd g33 (dn : Int).toNat (Int32.ofInt t)) g38 (dn + 1) (de + (-1)) := by
  have hw := gda_w h h0
  rw [← wt] at hw
  have h1 := h.1
  have h2 := gd_f (o' := tBy (upd g33 (dn : Int).toNat (Int32.ofInt t))) hF h h0 wt.symm hdn (fun i i0 => zupI (by exact ⟨by omega, by omega⟩) h1.1 i0)
  rw [show de - 1 = de + (-1) by omega] at h2
  exact h2
theorem gda_r (h : GDA F n g39 g33 g38 dn de) : (0 ≤ dn ∧ 0 ≤ de) ∧ dn + de ≤ 5461 := by
  have h1 := gd_m h
  have h2 := h.1
  omega
theorem gda_o (h : GDA F n g39 g33 g38 dn de) (h0 : tBy g39 v = -1) (hv : 0 ≤ v ∧ v ≤ 5460) : dn + de < 5461 := gd_r h hv h0
theorem gda_z (h : GDA F n g39 g33 g38 dn de) (hd : de ≤ 0) : GDA F n g39 g33 g38 dn 0 := by
  have h1 := gda_r h
  have e : de = 0 := by omega
  rw [e] at h
  exact h
theorem gda_i (h : ∀ x : Int, 0 ≤ x → x < 5461 → tBy g39 x = -1) (hn : 0 ≤ n) : GDA F n g39 g33 g38 0 0 := gd_0 (fun x hx => h x hx.1 (by have := hx.2; omega)) hn
theorem gda_ok (h : GDA F n g39 g33 g38 dn de) {i : Int} (i0 : 0 ≤ i) (i1 : i < dn) : 0 ≤ tBy g33 i ∧ tBy g33 i ≤ 5460 := (h.2.2.1 i i0 i1).1
/-- what is tried stays tried -/
theorem kpd_w {x : Int} (hv : 0 ≤ t) (hx : r32 x) (h1 : x ≠ -1) : KPD g39 (upd g39 (t : Int).toNat (Int32.ofInt x)) := fun y hy q => by
  rw [zupI hx hv hy.1]
  by_cases c : y = t
  · rw [if_pos c]
    exact h1
  · rw [if_neg c]
    exact q
theorem kpd_x {x : Int} (hv : 0 ≤ t) (hx : r32 x) (h1 : x ≠ -1) : tBy (upd g39 (t : Int).toNat (Int32.ofInt x)) t ≠ -1 := by
  rw [zupI hx hv hv, if_pos (show t = t from rfl)]
  exact h1
end GDB
/-! the rows of who leads to a text -/
noncomputable def CZ1 (T : Nat → Int32) : Prop := ∀ x : Int, 0 ≤ x → x < 5461 → tBy T x = -1
noncomputable def MLn (F : Int → Int → Int) (k : Int) : Int := F (k / 5461) (k % 5461)
noncomputable def GRT (M : Int → Int) (k t e : Int) : Prop := (-1 ≤ e ∧ e < k) ∧ (0 ≤ e → M e = t) ∧ ∀ j : Int, e < j → 0 ≤ j → j < k → M j ≠ t
noncomputable def LST (F : Int → Int → Int) (g42 g43 : Nat → Int32) (k : Int) : Prop := (∀ t : Int, rgT t → GRT (MLn F) k t (tBy g42 t)) ∧ ∀ j : Int, 0 ≤ j → j < k → GRT (MLn F) j (MLn F j) (tBy g43 j)
section LBS
variable {F : Int → Int → Int} {n : Int} {g42 g43 : Nat → Int32} {k v w : Int}
theorem lst_0 (h : ∀ x : Int, 0 ≤ x → x < 5461 → tBy g42 x = -1) : LST F g42 g43 0 := by
  refine ⟨fun t ht => ?_, fun j j0 j1 => by omega⟩
  rw [h t ht.1 (by have := ht.2; omega)]
  exact ⟨by omega, fun q => by omega, fun j j0 j1 j2 => by omega⟩
theorem lst_b (h : LST F g42 g43 k) (hv : 0 ≤ v ∧ v ≤ 5460) : -1 ≤ tBy g42 v ∧ tBy g42 v < k := (h.1 v hv).1
theorem lst_s (h : LST F g42 g43 k) (k0 : 0 ≤ k ∧ k ≤ 27305) (hv : v = MLn F k) (hv2 : 0 ≤ v ∧ v ≤ 5460) (hw : w = MLn F k) : LST F (upd g42 (w : Int).toNat (Int32.ofInt k)) (upd g43 (k : Int).toNat (Int32.ofInt (tBy g42 v))) (k + 1) := by
  have hb := lst_b h hv2
  have hwv : w = v := hw.trans hv.symm
  rw [hwv]
  refine ⟨fun t ht => ?_, fun j j0 j1 => ?_⟩
  · rw [zupI (by exact ⟨by omega, by omega⟩) hv2.1 ht.1]
    by_cases c : t = v
    · rw [if_pos c]
      exact ⟨by omega, fun _ => by rw [c, hv], fun j a b d => by omega⟩
    · rw [if_neg c]
      obtain ⟨h1, h2, h3⟩ := h.1 t ht
      refine ⟨by omega, h2, fun j a b d => ?_⟩
      by_cases c2 : j = k
      · rw [c2, ← hv]
        exact fun q => c q.symm
      · exact h3 j a b (by omega)
  · rw [zupI (by exact ⟨by omega, by omega⟩) k0.1 j0]
    by_cases c : j = k
    · rw [if_pos c, c, ← hv]
      exact h.1 v hv2
    · rw [if_neg c]
      exact h.2 j j0 (by omega)
theorem lst_e {k' : Int} (h : LST F g42 g43 k) (e : k = k') : LST F g42 g43 k' := by
  rw [← e]
  exact h
/-- on the way through a text's row -/
noncomputable def LBW (F : Int → Int → Int) (n : Int) (C : Nat → Int32) (u e : Int) : Prop := ((-1 ≤ e ∧ e < 5461 * n) ∧ (0 ≤ e → MLn F e = u)) ∧ ∀ j : Int, e < j → 0 ≤ j → j < 5461 * n → MLn F j = u → tBy C (j % 5461) ≠ -1
theorem lbw_0 {C : Nat → Int32} {u : Int} (h : LST F g42 g43 (5461 * n)) (hu : 0 ≤ u ∧ u ≤ 5460) : LBW F n C u (tBy g42 u) := by
  obtain ⟨h1, h2, h3⟩ := h.1 u hu
  exact ⟨⟨h1, h2⟩, fun j a b d e => absurd e (h3 j a b d)⟩
theorem lbw_r {C : Nat → Int32} {u e : Int} (h : LBW F n C u e) : -1 ≤ e ∧ e < 5461 * n := h.1.1
theorem lbw_n {C : Nat → Int32} {u e : Int} (hL : LST F g42 g43 (5461 * n)) (h : LBW F n C u e) (e0 : 0 ≤ e) : -1 ≤ tBy g43 e ∧ tBy g43 e < e := (hL.2 e e0 h.1.1.2).1
theorem lbw_s {C : Nat → Int32} {u e : Int} (hL : LST F g42 g43 (5461 * n)) (h : LBW F n C u e) (e0 : 0 ≤ e) (hc : tBy C (e % 5461) ≠ -1) : LBW F n C u (tBy g43 e) := by
  obtain ⟨⟨h1, h2⟩, h3⟩ := h
  obtain ⟨q1, q2, q3⟩ := hL.2 e e0 h1.2
  have hu := h2 e0
  refine ⟨⟨⟨q1.1, by omega⟩, fun z => (q2 z).trans hu⟩, fun j a b d hq => ?_⟩
  rcases Int.lt_trichotomy j e with c | c | c
  · exact absurd (hq.trans hu.symm) (q3 j a b c)
  · rw [c]
    exact hc
  · exact h3 j c b d hq
theorem lbw_p {C U : Nat → Int32} {kk e en m : Int} (hL : LST F g42 g43 (5461 * n)) (h : LBW F n C (tBy U kk) e) (e0 : 0 ≤ e) (k0 : 0 ≤ kk ∧ kk < en) (hm : 0 ≤ m ∧ m ≤ 5460) : LBW F n (upd C (e % 5461 : Int).toNat (Int32.ofInt m)) (tBy (upd U (en : Int).toNat (Int32.ofInt (e % 5461))) kk) (tBy g43 e) := by
  have rm : r32 m := ⟨by omega, by omega⟩
  have x0 : 0 ≤ e % 5461 := by omega
  rw [zupI (show r32 (e % 5461) from ⟨by omega, by omega⟩) (show 0 ≤ en by omega) k0.1, if_neg (show ¬ kk = en by omega)]
  have h2 : LBW F n (upd C (e % 5461 : Int).toNat (Int32.ofInt m)) (tBy U kk) e := by
    refine ⟨h.1, fun j a b d hq => ?_⟩
    rw [zupI rm x0 (show 0 ≤ j % 5461 by omega)]
    by_cases c : j % 5461 = e % 5461
    · rw [if_pos c]
      omega
    · rw [if_neg c]
      exact h.2 j a b d hq
  refine lbw_s hL h2 e0 ?_
  rw [zupI rm x0 x0, if_pos (show e % 5461 = e % 5461 from rfl)]
  omega
theorem lbw_e {C : Nat → Int32} {u e : Int} (h : LBW F n C u e) (he : e = -1) : ∀ r x : Int, 0 ≤ r → r < n → rgT x → F r x = u → tBy C x ≠ -1 := fun r x r0 r1 hx hq => by
  obtain ⟨x0, x1⟩ := hx
  have e1 : (5461 * r + x) % 5461 = x := by omega
  have e2 : (5461 * r + x) / 5461 = r := by omega
  have h1 := h.2 (5461 * r + x) (by omega) (by omega) (by omega) (by
    unfold MLn
    rw [e1, e2]
    exact hq)
  rw [e1] at h1
  exact h1
end LBS
/-! back from a text -/
noncomputable def GBX (F : Int → Int → Int) (n : Int) (c0 c u : Int → Int) (m t en k : Int) : Prop := (((0 ≤ k ∧ k ≤ en) ∧ 1 ≤ en ∧ 0 ≤ m) ∧ en = (cntP (fun x => decide (c0 (x : Int) = -1 ∧ c (x : Int) ≠ -1)) 5461 : Int)) ∧ (∀ x : Int, rgT x → c x = c0 x ∨ (c0 x = -1 ∧ c x = m)) ∧ (∀ i : Int, 0 ≤ i → i < en → (rgT (u i) ∧ c0 (u i) = -1) ∧ c (u i) = m ∧ RTc F n (u i) t) ∧ (∀ i j : Int, 0 ≤ i → i < j → j < en → u i ≠ u j) ∧ (∀ x : Int, rgT x → c0 x = -1 → c x ≠ -1 → ∃ i : Int, (0 ≤ i ∧ i < en) ∧ u i = x) ∧ u 0 = t ∧ ∀ i r x : Int, 0 ≤ i → i < k → 0 ≤ r → r < n → rgT x → F r x = u i → c x ≠ -1
section GBS
variable {F : Int → Int → Int} {n : Int} {c0 c u c' u' : Int → Int} {m t en k x : Int}
theorem gb_0 (ht : rgT t) (h0 : c0 t = -1) (hm : 0 ≤ m) (hc : ∀ x : Int, rgT x → c x = if x = t then m else c0 x) (hu : u 0 = t) : GBX F n c0 c u m t 1 0 := by
  have ct : c t = m := (hc t ht).trans (if_pos rfl)
  refine ⟨⟨by omega, ?_⟩, fun x hx => ?_, fun i i0 i1 => ?_, fun i j i0 ij j1 => by omega, fun x hx h1 h2 => ?_, hu, fun i r x i0 i1 => by omega⟩
  · have e := cnt_up (p := fun _ => false) (q := fun x => decide (c0 (x : Int) = -1 ∧ c (x : Int) ≠ -1)) (t := t.toNat) rfl (by
      show decide (c0 ((t.toNat : Nat) : Int) = -1 ∧ c ((t.toNat : Nat) : Int) ≠ -1) = true
      rw [Int.toNat_of_nonneg ht.1, ct]
      exact decide_eq_true ⟨h0, by omega⟩) 5461 (by have := ht.2; omega) (fun x hx hne => by
      show decide (c0 (x : Int) = -1 ∧ c (x : Int) ≠ -1) = false
      rw [hc (x : Int) ⟨by omega, by omega⟩, if_neg (show ¬ (x : Int) = t by omega)]
      exact decide_eq_false (fun q => q.2 q.1))
    have e2 : cntP (fun _ => false) 5461 = 0 := cnt_z (fun _ _ => rfl)
    rw [e2] at e
    omega
  · rw [hc x hx]
    by_cases q : x = t
    · rw [if_pos q, q]
      exact Or.inr ⟨h0, rfl⟩
    · rw [if_neg q]
      exact Or.inl rfl
  · rw [show i = 0 by omega, hu]
    exact ⟨⟨ht, h0⟩, ct, rt_rf⟩
  · rw [hc x hx] at h2
    by_cases q : x = t
    · exact ⟨0, ⟨by omega, by omega⟩, by rw [hu, q]⟩
    · rw [if_neg q] at h2
      exact absurd h1 h2
theorem gb_r (h : GBX F n c0 c u m t en k) (hx : rgT x) (h1 : c x = -1) : en < 5461 := by
  have h2 := h.1.2
  have e := cn_lt (p := fun x => decide (c0 (x : Int) = -1 ∧ c (x : Int) ≠ -1)) (t := x.toNat) (by
    show decide (c0 ((x.toNat : Nat) : Int) = -1 ∧ c ((x.toNat : Nat) : Int) ≠ -1) = false
    rw [Int.toNat_of_nonneg hx.1]
    exact decide_eq_false (fun z => z.2 h1)) 5461 (by have := hx.2; omega)
  omega
theorem gb_m (h : GBX F n c0 c u m t en k) : en ≤ 5461 := by
  have h2 := h.1.2
  have e := cn_le (fun x => decide (c0 (x : Int) = -1 ∧ c (x : Int) ≠ -1)) 5461
  omega
/-- a text that leads to one of the circle comes to it -/
theorem gbx_s {i r : Int} (h : GBX F n c0 c u m t en k) (hi : 0 ≤ i ∧ i < en) (hr : 0 ≤ r ∧ r < n) (hx : rgT x) (he : F r x = u i) (h1 : c x = -1) (hc : ∀ y : Int, rgT y → c' y = if y = x then m else c y) (hu : ∀ a : Int, 0 ≤ a → u' a = if a = en then x else u a) : GBX F n c0 c' u' m t (en + 1) k := by
  obtain ⟨⟨⟨a1, a2, a3⟩, a4⟩, b, d, e, f, g, l⟩ := h
  have cx : c' x = m := (hc x hx).trans (if_pos rfl)
  have c0x : c0 x = -1 := by
    rcases b x hx with q | ⟨q, -⟩
    · exact q.symm.trans h1
    · exact q
  have ue : u' en = x := (hu en (by omega)).trans (if_pos rfl)
  have ui : ∀ a : Int, 0 ≤ a → a < en → u' a = u a := fun a q0 q1 => (hu a q0).trans (if_neg (by omega))
  have ck : ∀ y : Int, rgT y → c y ≠ -1 → c' y = c y := fun y hy hne => by
    rw [hc y hy, if_neg (show ¬ y = x from fun q => by rw [q] at hne; exact hne h1)]
  refine ⟨⟨by omega, ?_⟩, fun y hy => ?_, fun a q0 q1 => ?_, fun a a' q0 q1 q2 => ?_, fun y hy h2 h3 => ?_, ?_, fun a r' y q0 q1 r0 r1 hy hq => ?_⟩
  · have q := cnt_up (p := fun y => decide (c0 (y : Int) = -1 ∧ c (y : Int) ≠ -1)) (q := fun y => decide (c0 (y : Int) = -1 ∧ c' (y : Int) ≠ -1)) (t := x.toNat) (by
      show decide (c0 ((x.toNat : Nat) : Int) = -1 ∧ c ((x.toNat : Nat) : Int) ≠ -1) = false
      rw [Int.toNat_of_nonneg hx.1]
      exact decide_eq_false (fun z => z.2 h1)) (by
      show decide (c0 ((x.toNat : Nat) : Int) = -1 ∧ c' ((x.toNat : Nat) : Int) ≠ -1) = true
      rw [Int.toNat_of_nonneg hx.1, cx]
      exact decide_eq_true ⟨c0x, by omega⟩) 5461 (by have := hx.2; omega) (fun y hy hne => by
      show decide (c0 (y : Int) = -1 ∧ c' (y : Int) ≠ -1) = decide (c0 (y : Int) = -1 ∧ c (y : Int) ≠ -1)
      rw [hc (y : Int) ⟨by omega, by omega⟩, if_neg (show ¬ (y : Int) = x by omega)])
    omega
  · by_cases q : y = x
    · rw [q, cx]
      exact Or.inr ⟨c0x, rfl⟩
    · rw [hc y hy, if_neg q]
      exact b y hy
  · by_cases q : a = en
    · rw [q, ue]
      refine ⟨⟨hx, c0x⟩, cx, ?_⟩
      have h4 := (d i hi.1 hi.2).2.2
      exact rt_tr (rt_1 ⟨r, hr, he⟩) h4
    · rw [ui a q0 (by omega)]
      obtain ⟨d1, d2, d3⟩ := d a q0 (by omega)
      exact ⟨d1, by rw [ck _ d1.1 (by omega)]; exact d2, d3⟩
  · rw [ui a q0 (by omega)]
    by_cases q : a' = en
    · rw [q, ue]
      intro z
      have := (d a q0 (by omega)).2.1
      rw [z] at this
      omega
    · rw [ui a' (by omega) (by omega)]
      exact e a a' q0 q1 (by omega)
  · by_cases q : y = x
    · exact ⟨en, ⟨by omega, by omega⟩, by rw [ue, q]⟩
    · rw [hc y hy, if_neg q] at h3
      obtain ⟨a, ha, z⟩ := f y hy h2 h3
      exact ⟨a, ⟨ha.1, by omega⟩, by rw [ui a ha.1 ha.2]; exact z⟩
  · rw [ui 0 (by omega) (by omega)]
    exact g
  · rw [ui a q0 (by omega)] at hq
    have h3 := l a r' y q0 q1 r0 r1 hy hq
    rw [ck y hy h3]
    exact h3
theorem gb_k (h : GBX F n c0 c u m t en k) (hk : k < en) (hp : ∀ r x : Int, 0 ≤ r → r < n → rgT x → F r x = u k → c x ≠ -1) : GBX F n c0 c u m t en (k + 1) := by
  obtain ⟨⟨⟨a1, a2, a3⟩, a4⟩, b, d, e, f, g, l⟩ := h
  refine ⟨⟨⟨by omega, a2, a3⟩, a4⟩, b, d, e, f, g, fun i r x i0 i1 r0 r1 hx hq => ?_⟩
  by_cases q : i = k
  · rw [q] at hq
    exact hp r x r0 r1 hx hq
  · exact l i r x i0 (by omega) r0 r1 hx hq
theorem rk_b {S : Int → Prop} {x v : Int} (hF : FOK F n) (hx : rgT x) (hS : ∀ y z : Int, RTc F n x y → rgT y → RTc F n z v → stp F n y z → S z → S y) : ∀ (k : Nat) (w : Int), RKc F n k x w → RTc F n w v → S w → S x
  | 0, w, hk, hr, hs => by
    have e : x = w := hk
    rw [e]
    exact hs
  | k + 1, w, hk, hr, hs => by
    obtain ⟨y, hy, hst⟩ := hk
    have ry : rgT y := rt_in hF hx ⟨k, hy⟩
    exact rk_b hF hx hS k y hy (rt_tr (rt_1 hst) hr) (hS y w ⟨k, hy⟩ ry hr hst hs)
/-- at its end: just the text's circle -/
theorem gb_e (hF : FOK F n) (h : GBX F n c0 c u m t en k) (hk : k = en) (ht : rgT t) (hcl : ∀ x y : Int, rgT x → rgT y → c0 x ≠ -1 → MUc F n x y → c0 y ≠ -1) (hmx : ∀ x : Int, rgT x → c0 x = -1 → RTc F n x t → MUc F n x t) : en = cSZ F n t ∧ (∀ x : Int, rgT x → MUc F n t x → c x = m) ∧ ∀ x : Int, rgT x → ¬ MUc F n t x → c x = c0 x := by
  obtain ⟨⟨⟨a1, a2, a3⟩, a4⟩, b, d, e, f, g, l⟩ := h
  have d0 := d 0 (by omega) (by omega)
  rw [g] at d0
  have hin : ∀ x : Int, rgT x → MUc F n t x → c x = m := fun x hx hm => by
    have h0 : ∀ y : Int, rgT y → MUc F n t y → c0 y = -1 := fun y hy hm2 => Classical.byContradiction fun q => hcl y t hy ht q (mu_sy hm2) d0.1.2
    obtain ⟨kk, hkk⟩ := hm.2
    refine rk_b (S := fun y => c y = m) (v := t) hF hx (fun y z hxy hy hzt hst hz => ?_) kk t hkk rt_rf d0.2.1
    have hz2 : c z = m := hz
    have hm3 : MUc F n t y := ⟨rt_tr hm.1 hxy, rt_tr (rt_1 hst) hzt⟩
    have rz : rgT z := st_in hF hy hst
    have hm4 : MUc F n t z := ⟨rt_st hm3.1 hst, hzt⟩
    obtain ⟨i, hi, ei⟩ := f z rz (h0 z rz hm4) (by rw [hz2]; omega)
    obtain ⟨r, hr, er⟩ := hst
    have h5 := l i r y hi.1 (by omega) hr.1 hr.2 hy (er.trans ei.symm)
    rcases b y hy with q | ⟨-, q⟩
    · rw [h0 y hy hm3] at q
      exact absurd q h5
    · exact q
  have hout : ∀ x : Int, rgT x → ¬ MUc F n t x → c x = c0 x := fun x hx hm => by
    rcases b x hx with q | ⟨q, q2⟩
    · exact q
    · obtain ⟨i, hi, ei⟩ := f x hx q (by rw [q2]; omega)
      have h6 := (d i hi.1 hi.2).2.2
      rw [ei] at h6
      exact absurd (mu_sy (hmx x hx q h6)) hm
  refine ⟨?_, hin, hout⟩
  have h7 : en - 0 = cSZ F n t := by
    refine cz_en (q := u) ⟨⟨by omega, by omega⟩, fun i i0 i1 => ?_, fun i j i0 ij j1 => e i j i0 ij j1, fun x x0 x1 hx => ?_⟩
    · obtain ⟨d1, d2, d3⟩ := d i i0 i1
      exact ⟨d1.1, mu_sy (hmx _ d1.1 d1.2 d3)⟩
    · have hx2 : MUc F n t x := hx
      have h0 : c0 x = -1 := Classical.byContradiction fun q => hcl x t ⟨x0, x1⟩ ht q (mu_sy hx2) d0.1.2
      exact f x ⟨x0, x1⟩ h0 (by rw [hin x ⟨x0, x1⟩ hx2]; omega)
  omega
end GBS
theorem cnt_a : ∀ k : Nat, cntP (fun _ => true) k = k
  | 0 => rfl
  | k + 1 => by
    show cntP (fun _ => true) k + (if true = true then 1 else 0) = k + 1
    rw [cnt_a k]
    rfl
/-! all circles by the reference -/
noncomputable def FCX (F : Int → Int → Int) (n : Int) (c s : Int → Int) (m : Int) : Prop := (∀ x : Int, rgT x → c x = -1 ∨ ((0 ≤ c x ∧ c x < m) ∧ s (c x) = cSZ F n x)) ∧ (∀ x y : Int, rgT x → rgT y → c x ≠ -1 → MUc F n x y → c y ≠ -1) ∧ (∀ i : Int, 0 ≤ i → i < m → ∃ x : Int, rgT x ∧ c x = i) ∧ CNT F n (fun x => c x ≠ -1) m
section FCS
variable {F : Int → Int → Int} {n : Int} {c s c' s' : Int → Int} {m t en : Int}
theorem fcx_0 (h : ∀ x : Int, rgT x → c x = -1) : FCX F n c s 0 := ⟨fun x hx => Or.inl (h x hx), fun x y hx hy q => absurd (h x hx) q, fun i i0 i1 => by omega, cns_0 (fun x hx q => q (h x hx))⟩
theorem fcx_b {C : Nat → Int32} (h : FCX F n (tBy C) s m) (ht : 0 ≤ t ∧ t ≤ 5460) (h0 : tBy C t = -1) : 0 ≤ m ∧ m < 5461 := cns_b h.2.2.2 ht (fun q => q h0)
theorem fc_s (h : FCX F n c s m) (ht : rgT t) (h0 : c t = -1) (hm : 0 ≤ m) (he : en = cSZ F n t) (h1 : ∀ x : Int, rgT x → MUc F n t x → c' x = m) (h2 : ∀ x : Int, rgT x → ¬ MUc F n t x → c' x = c x) (hs : ∀ i : Int, 0 ≤ i → s' i = if i = m then en else s i) : FCX F n c' s' (m + 1) := by
  obtain ⟨a, b, d, e⟩ := h
  have nm : ∀ x : Int, rgT x → c x ≠ -1 → ¬ MUc F n t x := fun x hx hne hmu => b x t hx ht hne (mu_sy hmu) h0
  have iff1 : ∀ x : Int, rgT x → (c' x ≠ -1 ↔ c x ≠ -1 ∨ MUc F n t x) := fun x hx => by
    by_cases q : MUc F n t x
    · rw [h1 x hx q]
      exact ⟨fun _ => Or.inr q, fun _ => by omega⟩
    · rw [h2 x hx q]
      exact ⟨Or.inl, fun z => z.resolve_right q⟩
  refine ⟨fun x hx => ?_, fun x y hx hy hne hmu => ?_, fun i i0 i1 => ?_, cns_s (t := t) e b ht (fun q => q h0) iff1⟩
  · by_cases q : MUc F n t x
    · rw [h1 x hx q, hs m hm, if_pos (show m = m from rfl), he]
      exact Or.inr ⟨by omega, cz_cg q⟩
    · rw [h2 x hx q]
      rcases a x hx with z | ⟨z1, z2⟩
      · exact Or.inl z
      · refine Or.inr ⟨by omega, ?_⟩
        rw [hs _ z1.1, if_neg (show ¬ c x = m by omega)]
        exact z2
  · refine (iff1 y hy).mpr ?_
    rcases (iff1 x hx).mp hne with z | z
    · exact Or.inl (b x y hx hy z hmu)
    · exact Or.inr (mu_tr z hmu)
  · by_cases q : i = m
    · exact ⟨t, ht, by rw [h1 t ht mu_rf, q]⟩
    · obtain ⟨x, hx, ex⟩ := d i i0 (by omega)
      exact ⟨x, hx, by rw [h2 x hx (nm x hx (by omega))]; exact ex⟩
end FCS
noncomputable def GBA (F : Int → Int → Int) (n : Int) (g40 C U : Nat → Int32) (m t en k : Int) : Prop := GBX F n (tBy g40) (tBy C) (tBy U) m t en k
noncomputable def GMX (F : Int → Int → Int) (n : Int) (C : Nat → Int32) (t : Int) : Prop := ∀ x : Int, rgT x → tBy C x = -1 → RTc F n x t → MUc F n x t
section GBT
variable {F : Int → Int → Int} {n m t en k e : Int} {g38 g40 g41 C U : Nat → Int32}
theorem gba_0 (ht : 0 ≤ t ∧ t ≤ 5460) (h0 : tBy g40 t = -1) (hm : 0 ≤ m ∧ m ≤ 5460) : GBA F n g40 (upd g40 (t : Int).toNat (Int32.ofInt m)) (upd g38 (0 : Int).toNat (Int32.ofInt t)) m t 1 0 := gb_0 ht h0 hm.1 (fun x hx => zupI (by exact ⟨by omega, by omega⟩) ht.1 hx.1) ((zupI (by exact ⟨by omega, by omega⟩) (Int.le_refl _) (Int.le_refl _)).trans (if_pos rfl))
theorem gba_r (h : GBA F n g40 C U m t en k) : (0 ≤ k ∧ k ≤ en) ∧ 1 ≤ en ∧ en ≤ 5461 := by
  have h1 := gb_m h
  have h2 := h.1.1
  omega
theorem gba_u (h : GBA F n g40 C U m t en k) (hk : k < en) : 0 ≤ tBy U k ∧ tBy U k ≤ 5460 := (h.2.2.1 k h.1.1.1.1 hk).1.1
theorem gba_f (h : GBA F n g40 C U m t en k) (he : 0 ≤ e) (h1 : tBy C (e % 5461) = -1) : en < 5461 := gb_r (x := e % 5461) h ⟨by omega, by omega⟩ h1
theorem gba_s (h : GBA F n g40 C U m t en k) (hk : k < en) (hm : 0 ≤ m ∧ m ≤ 5460) (hw : LBW F n C (tBy U k) e) (he : 0 ≤ e) (h1 : tBy C (e % 5461) = -1) : GBA F n g40 (upd C (e % 5461 : Int).toNat (Int32.ofInt m)) (upd U (en : Int).toNat (Int32.ofInt (e % 5461))) m t (en + 1) k := by
  have hr := gba_r h
  have rm : r32 m := ⟨by omega, by omega⟩
  have rx : r32 (e % 5461) := ⟨by omega, by omega⟩
  have x0 : 0 ≤ e % 5461 := by omega
  have hlt := lbw_r hw
  have h2 : GBX F n (tBy g40) (tBy (upd C (e % 5461 : Int).toNat (Int32.ofInt m))) (tBy (upd U (en : Int).toNat (Int32.ofInt (e % 5461)))) m t (en + 1) k := gbx_s (i := k) (r := e / 5461) (x := e % 5461) h ⟨hr.1.1, hk⟩ ⟨by omega, by omega⟩ ⟨x0, by omega⟩ (hw.1.2 he) h1 (fun y hy => zupI rm x0 hy.1) (fun a a0 => zupI rx (by omega) a0)
  exact h2
theorem gba_k (h : GBA F n g40 C U m t en k) (hk : k < en) (hw : LBW F n C (tBy U k) e) (he : e = -1) : GBA F n g40 C U m t en (k + 1) := gb_k h hk (lbw_e hw he)
theorem gba_e (hF : FOK F n) (h : GBA F n g40 C U m t en k) (hk : en ≤ k) (ht : 0 ≤ t ∧ t ≤ 5460) (hf : FCX F n (tBy g40) (tBy g41) m) (hg : GMX F n g40 t) (h0 : tBy g40 t = -1) (hm : 0 ≤ m ∧ m ≤ 5460) : FCX F n (tBy C) (tBy (upd g41 (m : Int).toNat (Int32.ofInt en))) (m + 1) ∧ KPD g40 C ∧ tBy C t ≠ -1 := by
  have hr := gba_r h
  obtain ⟨e1, e2, e3⟩ := gb_e hF h (by omega) ht hf.2.1 hg
  refine ⟨fc_s hf ht h0 hm.1 e1 e2 e3 (fun i i0 => zupI (by exact ⟨by omega, by omega⟩) hm.1 i0), fun x hx hne => ?_, ?_⟩
  · by_cases c : MUc F n t x
    · rw [e2 x hx c]
      omega
    · rw [e3 x hx c]
      exact hne
  · rw [e2 t ht mu_rf]
    omega
end GBT
noncomputable def CIRR (F : Int → Int → Int) (n m : Int) (g40 g41 : Nat → Int32) : Prop := m = cNM F n ∧ (∀ x : Int, rgT x → (0 ≤ tBy g40 x ∧ tBy g40 x < m) ∧ tBy g41 (tBy g40 x) = cSZ F n x) ∧ ∀ i : Int, 0 ≤ i → i < m → ∃ x : Int, rgT x ∧ tBy g41 i = cSZ F n x
section CRS
variable {F : Int → Int → Int} {n m k t en dn : Int} {g33 g38 g39 g40 g41 T40 T41 : Nat → Int32}
/-- who comes to the last text that is in no circle is in its circle -/
theorem gd_mx (hF : FOK F n) (h : GDA F n g39 g33 g38 dn 0) (ha : ∀ x : Int, rgT x → tBy g39 x ≠ -1) (hf : FCX F n (tBy g40) (tBy g41) m) (hk : 0 ≤ k ∧ k < dn) (hc : ∀ j : Int, k < j → j < dn → tBy g40 (tBy g33 j) ≠ -1) : GMX F n g40 (tBy g33 k) := fun x hx h0 hr => by
  rcases h.2.2.2.2.2.2.1 x hx (ha x hx) with ⟨i, hi, e⟩ | ⟨a, ha2, -⟩
  · rw [← e] at hr h0 ⊢
    obtain ⟨l, hl, hm⟩ := gd_key hF h ha (dn - i).toNat i k hi.1 hi.2 hk.1 hk.2 (by omega) hr
    by_cases c : l = k
    · rw [c] at hm
      exact hm
    · have rl := (h.2.2.1 l (by omega) hl.2).1
      have ri := (h.2.2.1 i hi.1 hi.2).1
      exact absurd h0 (hf.2.1 _ _ rl ri (hc l (by omega) hl.2) (mu_sy hm))
  · omega
theorem gda_all (h : GDA F n g39 g33 g38 dn 0) (ha : ∀ x : Int, rgT x → tBy g39 x ≠ -1) : dn = 5461 := by
  have h1 := h.1.2.2
  have e : cntP (fun k => decide (tBy g39 (k : Int) ≠ -1)) 5461 = 5461 := by
    have e1 := cnt_cg (p := fun k => decide (tBy g39 (k : Int) ≠ -1)) (q := fun _ => true) (k := 5461) (fun i hi => decide_eq_true (ha _ ⟨by omega, by omega⟩))
    exact e1.trans (cnt_a 5461)
  omega
theorem fc_e (h : FCX F n (tBy g40) (tBy g41) m) (hd : GDA F n g39 g33 g38 dn 0) (ha : ∀ x : Int, rgT x → tBy g39 x ≠ -1) (hk : k = -1) (hc : ∀ j : Int, k < j → j < dn → tBy g40 (tBy g33 j) ≠ -1) : CIRR F n m g40 g41 := by
  have hz : ∀ x : Int, rgT x → tBy g40 x ≠ -1 := fun x hx => by
    rcases hd.2.2.2.2.2.2.1 x hx (ha x hx) with ⟨i, hi, e⟩ | ⟨a, ha2, -⟩
    · rw [← e]
      exact hc i (by omega) hi.2
    · omega
  refine ⟨cns_e h.2.2.2 hz, fun x hx => (h.1 x hx).resolve_left (hz x hx), fun i i0 i1 => ?_⟩
  obtain ⟨x, hx, e⟩ := h.2.2.1 i i0 i1
  refine ⟨x, hx, ?_⟩
  rw [← e]
  exact ((h.1 x hx).resolve_left (hz x hx)).2
/-- the largest -/
noncomputable def LMX (g41 : Nat → Int32) (k mo : Int) : Prop := (mo = 0 ∨ ∃ i : Int, (0 ≤ i ∧ i < k) ∧ tBy g41 i = mo) ∧ ∀ i : Int, 0 ≤ i → i < k → tBy g41 i ≤ mo
theorem lmx_0 : LMX g41 0 0 := ⟨Or.inl rfl, fun i i0 i1 => by omega⟩
theorem lmx_s {mo mo' : Int} (h : LMX g41 k mo) (k0 : 0 ≤ k) (hm : mo ≤ mo' ∧ tBy g41 k ≤ mo' ∧ (mo' = mo ∨ mo' = tBy g41 k)) : LMX g41 (k + 1) mo' := by
  refine ⟨?_, fun i i0 i1 => ?_⟩
  · rcases hm.2.2 with e | e
    · rcases h.1 with z | ⟨i, hi, z⟩
      · exact Or.inl (e.trans z)
      · exact Or.inr ⟨i, ⟨hi.1, by omega⟩, z.trans e.symm⟩
    · exact Or.inr ⟨k, ⟨k0, by omega⟩, e.symm⟩
  · by_cases c : i = k
    · rw [c]
      exact hm.2.1
    · have := h.2 i i0 (by omega)
      omega
theorem lmx_e {mo : Int} (h : LMX g41 k mo) (hC : CIRR F n m g40 g41) (e : k = m) : mo = cLG F n := by
  obtain ⟨h1, h2, h3⟩ := hC
  have z0 : rgT (0 : Int) := ⟨by omega, by omega⟩
  have hle : ∀ x : Int, rgT x → cSZ F n x ≤ mo := fun x hx => by
    obtain ⟨q1, q2⟩ := h2 x hx
    rw [← q2]
    exact h.2 _ q1.1 (by omega)
  refine eps_e clm_u ⟨hle, ?_⟩
  rcases h.1 with z | ⟨i, hi, z⟩
  · have q1 := hle 0 z0
    have q2 := (cz_b (F := F) (n := n) z0).1
    omega
  · obtain ⟨x, hx, ex⟩ := h3 i hi.1 (by omega)
    exact ⟨x, hx, ex.symm.trans z⟩
theorem cirr_b (hC : CIRR F n m g40 g41) (k0 : 0 ≤ k) (k1 : k < m) : 1 ≤ tBy g41 k ∧ tBy g41 k ≤ 5461 := by
  obtain ⟨x, hx, e⟩ := hC.2.2 k k0 k1
  rw [e]
  exact cz_b hx
end CRS
