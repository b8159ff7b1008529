/-! CIRCLES: texts that lead to each other. -/
noncomputable def rgT (t : Int) : Prop := 0 ≤ t ∧ t ≤ 5460
noncomputable def stp (F : Int → Int → Int) (n : Int) (t u : Int) : Prop := ∃ r : Int, (0 ≤ r ∧ r < n) ∧ F r t = u
noncomputable def RKc (F : Int → Int → Int) (n : Int) : Nat → Int → Int → Prop
  | 0 => fun t u => t = u
  | k + 1 => fun t u => ∃ v, RKc F n k t v ∧ stp F n v u
noncomputable def RTc (F : Int → Int → Int) (n : Int) (t u : Int) : Prop := ∃ k, RKc F n k t u
noncomputable def MUc (F : Int → Int → Int) (n : Int) (t u : Int) : Prop := RTc F n t u ∧ RTc F n u t
section RTS
variable {F : Int → Int → Int} {n t u v : Int}
theorem rt_rf : RTc F n t t := ⟨0, rfl⟩
theorem rt_st (h : RTc F n t v) (h2 : stp F n v u) : RTc F n t u := by
  obtain ⟨k, hk⟩ := h
  exact ⟨k + 1, v, hk, h2⟩
theorem rt_1 (h2 : stp F n t u) : RTc F n t u := rt_st rt_rf h2
theorem rk_tr (h : RTc F n t v) : ∀ (k : Nat) (u : Int), RKc F n k v u → RTc F n t u
  | 0, u, hk => by
    have e : v = u := hk
    rw [← e]
    exact h
  | k + 1, u, hk => by
    obtain ⟨x, hx, hs⟩ := hk
    exact rt_st (rk_tr h k x hx) hs
theorem rt_tr (h : RTc F n t v) (h2 : RTc F n v u) : RTc F n t u := by
  obtain ⟨k, hk⟩ := h2
  exact rk_tr h k u hk
theorem st_in (hF : FOK F n) (ht : rgT t) (h : stp F n t u) : rgT u := by
  obtain ⟨r, hr, e⟩ := h
  have hm := hF r t hr.1 hr.2 ht.1 ht.2
  rw [e] at hm
  exact hm
theorem rk_cl {S : Int → Prop} (hF : FOK F n) (hS : ∀ x y : Int, rgT x → S x → stp F n x y → S y) (ht : rgT t) (h0 : S t) : ∀ (k : Nat) (u : Int), RKc F n k t u → rgT u ∧ S u
  | 0, u, hk => by
    have e : t = u := hk
    rw [← e]
    exact ⟨ht, h0⟩
  | k + 1, u, hk => by
    obtain ⟨x, hx, hs⟩ := hk
    obtain ⟨a, b⟩ := rk_cl hF hS ht h0 k x hx
    exact ⟨st_in hF a hs, hS x u a b hs⟩
theorem rt_cl {S : Int → Prop} (hF : FOK F n) (hS : ∀ x y : Int, rgT x → S x → stp F n x y → S y) (ht : rgT t) (h0 : S t) (h : RTc F n t u) : S u := by
  obtain ⟨k, hk⟩ := h
  exact (rk_cl hF hS ht h0 k u hk).2
theorem rt_in (hF : FOK F n) (ht : rgT t) (h : RTc F n t u) : rgT u := by
  obtain ⟨k, hk⟩ := h
  exact (rk_cl (S := fun _ => True) hF (fun _ _ _ _ _ => trivial) ht trivial k u hk).1
theorem mu_rf : MUc F n t t := ⟨rt_rf, rt_rf⟩
theorem mu_sy (h : MUc F n t u) : MUc F n u t := ⟨h.2, h.1⟩
theorem mu_tr (h : MUc F n t v) (h2 : MUc F n v u) : MUc F n t u := ⟨rt_tr h.1 h2.1, rt_tr h2.2 h.2⟩
end RTS
noncomputable def czB (F : Int → Int → Int) (n t : Int) : Nat → Bool := fun k => @decide (MUc F n t (k : Int)) (Classical.propDecidable _)
theorem cz_t {F : Int → Int → Int} {n t : Int} {k : Nat} : czB F n t k = true ↔ MUc F n t (k : Int) := by
  unfold czB
  exact @decide_eq_true_iff _ (Classical.propDecidable _)
/-- how many are in a text's circle -/
noncomputable def cSZ (F : Int → Int → Int) (n t : Int) : Int := (cntP (czB F n t) 5461 : Int)
theorem cnt_cg {p q : Nat → Bool} : ∀ {k : Nat}, (∀ i : Nat, i < k → p i = q i) → cntP p k = cntP q k
  | 0, _ => rfl
  | k + 1, h => by
    show cntP p k + (if p k = true then 1 else 0) = cntP q k + (if q k = true then 1 else 0)
    rw [cnt_cg (fun i hi => h i (by omega)), h k (by omega)]
theorem cz_cg {F : Int → Int → Int} {n t u : Int} (h : MUc F n t u) : cSZ F n t = cSZ F n u := by
  unfold cSZ
  rw [cnt_cg (q := czB F n u) (fun i _ => ?_)]
  cases e : czB F n u i with
  | true => exact cz_t.mpr (mu_tr h (cz_t.mp e))
  | false =>
    cases e2 : czB F n t i with
    | true =>
      have := cz_t.mpr (mu_tr (mu_sy h) (cz_t.mp e2))
      rw [e] at this
      cases this
    | false => rfl
theorem cnt_sm {p : Nat → Bool} : ∀ {k : Nat}, (cntP p k : Int) = smF (fun t => if p t.toNat = true then 1 else 0) k
  | 0 => rfl
  | k + 1 => by
    show ((cntP p k + (if p k = true then 1 else 0) : Nat) : Int) = smF _ k + (if p ((k : Nat) : Int).toNat = true then 1 else 0)
    rw [← cnt_sm, show ((k : Nat) : Int).toNat = k from rfl]
    by_cases c : p k = true
    · rw [if_pos c, if_pos c]
      omega
    · rw [if_neg c, if_neg c]
      omega
/-- places that hold just a circle are as many as it has texts -/
theorem cz_en {F : Int → Int → Int} {n t : Int} {q : Int → Int} {st en : Int} (h : EN q st en (fun u => MUc F n t u)) : en - st = cSZ F n t := by
  have h0 := h.1
  have e := en_sum (g := fun u => if czB F n t u.toNat = true then 1 else 0) h (fun u u0 u1 hp => by
    (try dsimp only)
    rw [if_neg (fun z => hp (by have := cz_t.mp z; rw [Int.toNat_of_nonneg u0] at this; exact this))])
  unfold cSZ
  rw [cnt_sm, ← e]
  have e2 : smN (fun i => if czB F n t (q i).toNat = true then 1 else 0) st (en - st).toNat = smN (fun _ => 1) st (en - st).toNat := smN_cg (fun j j0 j1 => by
    obtain ⟨a, b⟩ := h.2.1 j j0 j1
    rw [if_pos (cz_t.mpr (by rw [Int.toNat_of_nonneg a.1]; exact b))])
  (try dsimp only at e2 ⊢)
  rw [e2]
  show _ = smF (fun _ => 1) (en - st).toNat
  have e3 : ∀ k : Nat, smF (fun _ => (1 : Int)) k = (k : Int) := fun k => by
    induction k with
    | zero => rfl
    | succ k ih =>
      show smF (fun _ => (1 : Int)) k + 1 = _
      rw [ih]
      omega
  rw [e3]
  omega
/-! The class's way: one row of texts that are open, one of texts on the way. -/
noncomputable def OPN (o z : Int → Int) (v : Int) : Prop := rgT v ∧ o v ≠ -1 ∧ z v = 0
noncomputable def OWN (o wy : Int → Int) (dp i v : Int) : Prop := o (wy i) ≤ o v ∧ (i + 1 < dp → o v < o (wy (i + 1)))
/-- orders -/
noncomputable def TJa (o z : Int → Int) (f : Int) : Prop := (0 ≤ f ∧ f ≤ 5461 ∧ f = (cntP (fun k => decide (o (k : Int) ≠ -1)) 5461 : Int)) ∧ (∀ t : Int, rgT t → o t = -1 ∨ (0 ≤ o t ∧ o t < f)) ∧ (∀ t u : Int, rgT t → rgT u → o t = o u → o t ≠ -1 → t = u) ∧ ∀ t : Int, rgT t → 0 ≤ z t ∧ (o t = -1 → z t = 0)
/-- the two rows -/
noncomputable def TJd (o z op wy : Int → Int) (k dp : Int) : Prop := (0 ≤ dp ∧ dp ≤ k) ∧ (∀ i : Int, 0 ≤ i → i < k → OPN o z (op i)) ∧ (∀ i j : Int, 0 ≤ i → i < j → j < k → o (op i) < o (op j)) ∧ (∀ t : Int, OPN o z t → ∃ i : Int, (0 ≤ i ∧ i < k) ∧ op i = t) ∧ (∀ i : Int, 0 ≤ i → i < dp → OPN o z (wy i)) ∧ (∀ i j : Int, 0 ≤ i → i < j → j < dp → o (wy i) < o (wy j)) ∧ (0 < k → 0 < dp ∧ wy 0 = op 0)
/-- what was tried -/
noncomputable def TJf (F : Int → Int → Int) (n : Int) (o z d wy : Int → Int) (dp : Int) : Prop := (∀ t : Int, rgT t → o t ≠ -1 → (0 ≤ d t ∧ d t ≤ n) ∧ (∀ r : Int, 0 ≤ r → r < d t → o (F r t) ≠ -1) ∧ ((∀ i : Int, 0 ≤ i → i < dp → wy i ≠ t) → d t = n)) ∧ ∀ t : Int, rgT t → z t ≠ 0 → ∀ r : Int, 0 ≤ r → r < n → z (F r t) ≠ 0
/-- who leads to whom -/
noncomputable def TJg (F : Int → Int → Int) (n : Int) (o e d z wy : Int → Int) (dp : Int) : Prop := (∀ i v : Int, 0 ≤ i → i < dp → OPN o z v → o (wy i) ≤ o v → RTc F n (wy i) v) ∧ (∀ i v : Int, 0 ≤ i → i < dp → OPN o z v → OWN o wy dp i v → RTc F n v (wy i)) ∧ (∀ i v : Int, 0 ≤ i → i < dp → OPN o z v → OWN o wy dp i v → ∀ r : Int, 0 ≤ r → r < d v → z (F r v) = 0 → e (wy i) ≤ o (F r v)) ∧ ∀ i : Int, 0 ≤ i → i < dp → e (wy i) ≤ o (wy i) ∧ ∃ u : Int, OPN o z u ∧ o u = e (wy i) ∧ RTc F n (wy i) u
/-- the circles that are closed -/
noncomputable def TJh (F : Int → Int → Int) (n : Int) (z : Int → Int) : Prop := ∀ t : Int, rgT t → z t ≠ 0 → z t = cSZ F n t ∧ ∀ u : Int, rgT u → MUc F n t u → z u ≠ 0
noncomputable def TJx (F : Int → Int → Int) (n : Int) (o e d z op wy : Int → Int) (f k dp : Int) : Prop := TJa o z f ∧ TJd o z op wy k dp ∧ TJf F n o z d wy dp ∧ TJg F n o e d z wy dp ∧ TJh F n z
section TJS
variable {F : Int → Int → Int} {n : Int} {o e d z op wy o' e' d' z' op' wy' : Int → Int} {f k dp t : Int}
theorem tj_en (hF : FOK F n) (hn : 0 ≤ n) (h : TJx F n o e d z op wy f k dp) (ht : rgT t) (h0 : o t = -1) (hk : dp = 0 → k = 0) (hs : 0 < dp → F (d (wy (dp - 1))) (wy (dp - 1)) = t ∧ d (wy (dp - 1)) < n) (hd : ∀ x : Int, rgT x → d' x = if x = t then 0 else if 0 < dp ∧ x = wy (dp - 1) then d x + 1 else d x) (ho : ∀ x : Int, rgT x → o' x = if x = t then f else o x) (he : ∀ x : Int, rgT x → e' x = if x = t then f else e x) (hop : ∀ i : Int, 0 ≤ i → op' i = if i = k then t else op i) (hwy : ∀ i : Int, 0 ≤ i → wy' i = if i = dp then t else wy i) : TJx F n o' e' d' z op' wy' (f + 1) (k + 1) (dp + 1) := by
  obtain ⟨⟨⟨a1, a2, a3⟩, a4, a5, a6⟩, ⟨b1, b2, b3, b4, b5, b6, b7⟩, ⟨c1, c2⟩, ⟨g1, g2, g3, g4⟩, hh⟩ := h
  have zt : z t = 0 := (a6 t ht).2 h0
  have oo : ∀ x : Int, rgT x → x ≠ t → o' x = o x := fun x hx hne => (ho x hx).trans (if_neg hne)
  have ot : o' t = f := (ho t ht).trans (if_pos rfl)
  have ol : ∀ x : Int, OPN o z x → x ≠ t ∧ o' x = o x ∧ 0 ≤ o x ∧ o x < f := fun x hx => by
    have hne : x ≠ t := fun q => hx.2.1 (by rw [q]; exact h0)
    have := a4 x hx.1
    have h2 := hx.2.1
    exact ⟨hne, oo x hx.1 hne, by omega, by omega⟩
  have on : ∀ x : Int, OPN o z x → OPN o' z x := fun x hx => ⟨hx.1, by rw [(ol x hx).2.1]; exact hx.2.1, hx.2.2⟩
  have oT : OPN o' z t := ⟨ht, by rw [ot]; omega, zt⟩
  have of_ : ∀ x : Int, OPN o' z x → x ≠ t → OPN o z x := fun x hx hne => ⟨hx.1, by rw [← oo x hx.1 hne]; exact hx.2.1, hx.2.2⟩
  have wd : wy' dp = t := (hwy dp b1.1).trans (if_pos rfl)
  have wi : ∀ i : Int, 0 ≤ i → i < dp → wy' i = wy i := fun i i0 i1 => (hwy i i0).trans (if_neg (by omega))
  have pk : op' k = t := (hop k (by omega)).trans (if_pos rfl)
  have pi : ∀ i : Int, 0 ≤ i → i < k → op' i = op i := fun i i0 i1 => (hop i i0).trans (if_neg (by omega))
  have dT : d' t = 0 := (hd t ht).trans (if_pos rfl)
  have own : ∀ i v : Int, 0 ≤ i → i < dp → OWN o' wy' (dp + 1) i v → OPN o' z v → v ≠ t ∧ OPN o z v ∧ OWN o wy dp i v := fun i v i0 i1 hw hv => by
    obtain ⟨w1, w2⟩ := hw
    have w2 := w2 (by omega)
    have hi := ol _ (b5 i i0 i1)
    have hvt : v ≠ t := fun q => by
      rw [q, ot] at w2
      by_cases c : i + 1 = dp
      · rw [c, wd, ot] at w2
        omega
      · have hj := ol _ (b5 (i + 1) (by omega) (by omega))
        rw [wi (i + 1) (by omega) (by omega), hj.2.1] at w2
        omega
    have hv2 := of_ v hv hvt
    refine ⟨hvt, hv2, ?_, fun c => ?_⟩
    · rw [wi i i0 i1, hi.2.1, (ol v hv2).2.1] at w1
      exact w1
    · have hj := ol _ (b5 (i + 1) (by omega) c)
      rw [wi (i + 1) (by omega) c, hj.2.1, (ol v hv2).2.1] at w2
      exact w2
  have top : ∀ v : Int, OPN o' z v → o' t ≤ o' v → v = t := fun v hv hle => by
    refine Classical.byContradiction fun hne => ?_
    have h2 := ol v (of_ v hv hne)
    rw [ot, h2.2.1] at hle
    omega
  have dv : ∀ v : Int, rgT v → v ≠ t → ∀ r : Int, r < d' v → r < d v ∨ (0 < dp ∧ v = wy (dp - 1) ∧ r = d v ∨ (0 < dp ∧ v = wy (dp - 1) ∧ r < d v)) := fun v hv hne r hr => by
    rw [hd v hv, if_neg hne] at hr
    by_cases c : 0 < dp ∧ v = wy (dp - 1)
    · rw [if_pos c] at hr
      by_cases q : r = d v
      · exact Or.inr (Or.inl ⟨c.1, c.2, q⟩)
      · exact Or.inl (by omega)
    · rw [if_neg c] at hr
      exact Or.inl hr
  refine ⟨⟨?_, fun x hx => ?_, fun x u hx hu hxu hne => ?_, fun x hx => ?_⟩, ⟨?_, fun i i0 i1 => ?_, fun i j i0 ij j1 => ?_, fun x hx => ?_, fun i i0 i1 => ?_, fun i j i0 ij j1 => ?_, fun _ => ?_⟩, ⟨fun x hx hne => ?_, fun x hx hne => ?_⟩, ⟨fun i v i0 i1 hv hle => ?_, fun i v i0 i1 hv hw => ?_, fun i v i0 i1 hv hw r r0 r1 hz => ?_, fun i i0 i1 => ?_⟩, hh⟩
  · have pf : (fun k : Nat => decide (o (k : Int) ≠ -1)) t.toNat = false := by
      (try dsimp only)
      rw [Int.toNat_of_nonneg ht.1]
      exact decide_eq_false (fun q => q h0)
    have l1 := cn_lt (p := fun k : Nat => decide (o (k : Int) ≠ -1)) (t := t.toNat) pf 5461 (by have := ht.2; omega)
    have e1 : cntP (fun k => decide (o' (k : Int) ≠ -1)) 5461 = cntP (fun k => decide (upI o t f (k : Int) ≠ -1)) 5461 := cnt_cg (fun i hi => by
      (try dsimp only)
      rw [ho (i : Int) ⟨by omega, by omega⟩]
      by_cases c : (i : Int) = t
      · rw [if_pos c, c, up_eq]
      · rw [if_neg c, up_ne c])
    have l2 := cn_up (p := fun k => decide (o (k : Int) ≠ -1)) (q := fun k => decide (upI o t f (k : Int) ≠ -1)) (t := t.toNat) pf (by (try dsimp only); rw [Int.toNat_of_nonneg ht.1, up_eq]; exact decide_eq_true (by omega)) (fun x hx => by (try dsimp only); rw [up_ne (by have := ht.1; omega)]) 5461 (by have := ht.2; omega)
    rw [e1]
    exact ⟨by omega, by omega, by omega⟩
  · by_cases c : x = t
    · rw [c, ot]
      omega
    · rw [oo x hx c]
      have := a4 x hx
      omega
  · by_cases c1 : x = t
    · by_cases c2 : u = t
      · rw [c1, c2]
      · rw [c1, ot, oo u hu c2] at hxu
        have := a4 u hu
        omega
    · by_cases c2 : u = t
      · rw [c2, ot, oo x hx c1] at hxu
        have := a4 x hx
        omega
      · rw [oo x hx c1, oo u hu c2] at hxu
        rw [oo x hx c1] at hne
        exact a5 x u hx hu hxu hne
  · refine ⟨(a6 x hx).1, fun q => ?_⟩
    have c : x ≠ t := fun c => by
      rw [c, ot] at q
      omega
    rw [oo x hx c] at q
    exact (a6 x hx).2 q
  · omega
  · by_cases c : i = k
    · rw [c, pk]
      exact oT
    · rw [pi i i0 (by omega)]
      exact on _ (b2 i i0 (by omega))
  · have hi := ol _ (b2 i i0 (by omega))
    rw [pi i i0 (by omega), hi.2.1]
    by_cases c : j = k
    · rw [c, pk, ot]
      exact hi.2.2.2
    · have hj := ol _ (b2 j (by omega) (by omega))
      rw [pi j (by omega) (by omega), hj.2.1]
      exact b3 i j i0 ij (by omega)
  · by_cases c : x = t
    · exact ⟨k, ⟨by omega, by omega⟩, by rw [pk, c]⟩
    · obtain ⟨i, hi, q⟩ := b4 x (of_ x hx c)
      exact ⟨i, ⟨hi.1, by omega⟩, by rw [pi i hi.1 hi.2]; exact q⟩
  · by_cases c : i = dp
    · rw [c, wd]
      exact oT
    · rw [wi i i0 (by omega)]
      exact on _ (b5 i i0 (by omega))
  · have hi := ol _ (b5 i i0 (by omega))
    rw [wi i i0 (by omega), hi.2.1]
    by_cases c : j = dp
    · rw [c, wd, ot]
      exact hi.2.2.2
    · have hj := ol _ (b5 j (by omega) (by omega))
      rw [wi j (by omega) (by omega), hj.2.1]
      exact b6 i j i0 ij (by omega)
  · refine ⟨by omega, ?_⟩
    by_cases c : dp = 0
    · have k0 := hk c
      rw [c] at wd
      rw [k0] at pk
      rw [wd, pk]
    · rw [wi 0 (by omega) (by omega), pi 0 (by omega) (by omega)]
      exact (b7 (by omega)).2
  · by_cases c : x = t
    · rw [c, dT]
      exact ⟨⟨by omega, hn⟩, fun r r0 r1 => by omega, fun q => absurd wd (q dp (by omega) (by omega))⟩
    · rw [oo x hx c] at hne
      obtain ⟨q1, q2, q3⟩ := c1 x hx hne
      have fr : ∀ r : Int, 0 ≤ r → r < d x → o' (F r x) ≠ -1 := fun r r0 r1 => by
        rw [ho _ (hF r x r0 (by omega) hx.1 hx.2)]
        split
        · omega
        · exact q2 r r0 r1
      by_cases c2 : 0 < dp ∧ x = wy (dp - 1)
      · have hs2 := hs c2.1
        rw [← c2.2] at hs2
        have dx : d' x = d x + 1 := by rw [hd x hx, if_neg c, if_pos c2]
        rw [dx]
        refine ⟨⟨by omega, by omega⟩, fun r r0 r1 => ?_, fun q => absurd (by rw [wi (dp - 1) (by omega) (by omega)]; exact c2.2.symm) (q (dp - 1) (by omega) (by omega))⟩
        by_cases c3 : r = d x
        · rw [c3, hs2.1, ot]
          omega
        · exact fr r r0 (by omega)
      · have dx : d' x = d x := by rw [hd x hx, if_neg c, if_neg c2]
        rw [dx]
        exact ⟨q1, fr, fun q => q3 fun i i0 i1 => by rw [← wi i i0 i1]; exact q i i0 (by omega)⟩
  · exact c2 x hx hne
  · by_cases c : i = dp
    · rw [c, wd] at hle ⊢
      rw [top v hv hle]
      exact rt_rf
    · have hi := b5 i i0 (by omega)
      rw [wi i i0 (by omega)] at hle ⊢
      by_cases c2 : v = t
      · have hs2 := hs (by omega)
        have hx := b5 (dp - 1) (by omega) (by omega)
        have r1 : RTc F n (wy i) (wy (dp - 1)) := by
          by_cases c3 : i = dp - 1
          · rw [c3]
            exact rt_rf
          · have := b6 i (dp - 1) i0 (by omega) (by omega)
            exact g1 i _ i0 (by omega) hx (by omega)
        rw [c2]
        exact rt_st r1 ⟨d (wy (dp - 1)), ⟨(c1 _ hx.1 hx.2.1).1.1, hs2.2⟩, hs2.1⟩
      · have hv2 := of_ v hv c2
        rw [(ol _ hi).2.1, (ol v hv2).2.1] at hle
        exact g1 i v i0 (by omega) hv2 hle
  · by_cases c : i = dp
    · rw [c] at hw ⊢
      have := hw.1
      rw [wd] at this ⊢
      rw [top v hv this]
      exact rt_rf
    · obtain ⟨c2, hv2, hw2⟩ := own i v i0 (by omega) hw hv
      rw [wi i i0 (by omega)]
      exact g2 i v i0 (by omega) hv2 hw2
  · by_cases c : i = dp
    · rw [c] at hw
      have := hw.1
      rw [wd] at this
      rw [top v hv this, dT] at r1
      omega
    · obtain ⟨c2, hv2, hw2⟩ := own i v i0 (by omega) hw hv
      have hi := b5 i i0 (by omega)
      rw [wi i i0 (by omega), he _ hi.1, if_neg (ol _ hi).1]
      have hrn : ∀ r : Int, r < d v → o (F r v) ≠ -1 ∧ rgT (F r v) ∨ r < 0 := fun r hr => by
        by_cases q : 0 ≤ r
        · have q1 := c1 v hv2.1 hv2.2.1
          exact Or.inl ⟨q1.2.1 r q hr, hF r v q (by omega) hv2.1.1 hv2.1.2⟩
        · exact Or.inr (by omega)
      rcases dv v hv2.1 c2 r r1 with h1 | ⟨h1, h3, h4⟩ | ⟨h1, h3, h4⟩
      · obtain ⟨q1, q2⟩ := (hrn r h1).resolve_right (by omega)
        rw [oo _ q2 (fun q => q1 (by rw [q]; exact h0))]
        exact g3 i v i0 (by omega) hv2 hw2 r r0 h1 hz
      · have hs2 := hs h1
        rw [← h3] at hs2
        rw [h4, hs2.1, ot]
        have := (g4 i i0 (by omega)).1
        have := (ol _ hi).2.2.2
        omega
      · obtain ⟨q1, q2⟩ := (hrn r h4).resolve_right (by omega)
        rw [oo _ q2 (fun q => q1 (by rw [q]; exact h0))]
        exact g3 i v i0 (by omega) hv2 hw2 r r0 h4 hz
  · by_cases c : i = dp
    · rw [c, wd, he t ht, if_pos rfl, ot]
      exact ⟨Int.le_refl _, t, oT, ot, rt_rf⟩
    · have hi := b5 i i0 (by omega)
      obtain ⟨q1, u, q2, q3, q4⟩ := g4 i i0 (by omega)
      rw [wi i i0 (by omega), he _ hi.1, if_neg (ol _ hi).1, (ol _ hi).2.1]
      exact ⟨q1, u, on u q2, by rw [(ol u q2).2.1]; exact q3, q4⟩
theorem tj_bp {ev : Int} (hF : FOK F n) (h : TJx F n o e d z op wy f k dp) (h0 : 0 < dp) (wt : wy (dp - 1) = t) (hdn : d t < n) (hu : o (F (d t) t) ≠ -1) (hd : ∀ x : Int, rgT x → d' x = if x = t then d x + 1 else d x) (he : ∀ x : Int, rgT x → e' x = if x = t then ev else e x) (hv1 : z (F (d t) t) = 0 → ev ≤ e t ∧ ev ≤ o (F (d t) t) ∧ (ev = e t ∨ ev = o (F (d t) t))) (hv2 : z (F (d t) t) ≠ 0 → ev = e t) : TJx F n o e' d' z op wy f k dp := by
  obtain ⟨ha, ⟨b1, b2, b3, b4, b5, b6, b7⟩, ⟨c1, c2⟩, ⟨g1, g2, g3, g4⟩, hh⟩ := h
  have oT : OPN o z t := by
    rw [← wt]
    exact b5 _ (by omega) (by omega)
  have hx := c1 t oT.1 oT.2.1
  have hur := hF (d t) t hx.1.1 hdn oT.1.1 oT.1.2
  have dt : d' t = d t + 1 := (hd t oT.1).trans (if_pos rfl)
  have et : e' t = ev := (he t oT.1).trans (if_pos rfl)
  have evl : ev ≤ e t := by
    by_cases c : z (F (d t) t) = 0
    · exact (hv1 c).1
    · rw [hv2 c]
      exact Int.le_refl _
  have ele : ∀ x : Int, rgT x → e' x ≤ e x := fun x hx => by
    by_cases c : x = t
    · rw [c, et]
      exact evl
    · rw [he x hx, if_neg c]
      exact Int.le_refl _
  have tw : ∀ i : Int, 0 ≤ i → i < dp → OWN o wy dp i t → wy i = t := fun i i0 i1 hw => by
    by_cases c : i = dp - 1
    · rw [c]
      exact wt
    · have h1 := hw.2 (by omega)
      by_cases c2 : i + 1 = dp - 1
      · rw [c2, wt] at h1
        omega
      · have h2 := b6 (i + 1) (dp - 1) (by omega) (by omega) (by omega)
        rw [wt] at h2
        omega
  refine ⟨ha, ⟨b1, b2, b3, b4, b5, b6, b7⟩, ⟨fun x hx2 hne => ?_, c2⟩, ⟨g1, g2, fun i v i0 i1 hv hw r r0 r1 hz => ?_, fun i i0 i1 => ?_⟩, hh⟩
  · by_cases c : x = t
    · rw [c, dt]
      refine ⟨⟨by omega, by omega⟩, fun r r0 r1 => ?_, fun q => absurd wt (q (dp - 1) (by omega) (by omega))⟩
      by_cases c3 : r = d t
      · rw [c3]
        exact hu
      · exact hx.2.1 r r0 (by omega)
    · rw [hd x hx2, if_neg c]
      exact c1 x hx2 hne
  · have hi := b5 i i0 i1
    by_cases c : v = t
    · rw [c] at hw hz r1 ⊢
      have hwi := tw i i0 i1 hw
      rw [hwi, et]
      rw [dt] at r1
      by_cases c3 : r = d t
      · rw [c3] at hz ⊢
        exact (hv1 hz).2.1
      · have h3 := g3 i t i0 i1 oT hw r r0 (by omega) hz
        rw [hwi] at h3
        omega
    · rw [hd v hv.1, if_neg c] at r1
      exact Int.le_trans (ele _ hi.1) (g3 i v i0 i1 hv hw r r0 r1 hz)
  · have hi := b5 i i0 i1
    obtain ⟨q1, u, q2, q3, q4⟩ := g4 i i0 i1
    by_cases c : wy i = t
    · rw [c] at q1 q3 q4 ⊢
      rw [et]
      refine ⟨by omega, ?_⟩
      by_cases c2 : ev = e t
      · exact ⟨u, q2, by rw [c2]; exact q3, q4⟩
      · have hz : z (F (d t) t) = 0 := Classical.byContradiction fun w => c2 (hv2 w)
        have h4 := (hv1 hz).2.2.resolve_left c2
        exact ⟨F (d t) t, ⟨hur, hu, hz⟩, h4.symm, rt_1 ⟨d t, ⟨hx.1.1, hdn⟩, rfl⟩⟩
    · rw [he _ hi.1, if_neg c]
      exact ⟨q1, u, q2, q3, q4⟩
/-- each open text has an owner on the way -/
theorem tj_ow (h : TJd o z op wy k dp) {v : Int} (hv : OPN o z v) : ∃ i : Int, (0 ≤ i ∧ i < dp) ∧ OWN o wy dp i v := by
  obtain ⟨b1, b2, b3, b4, b5, b6, b7⟩ := h
  obtain ⟨j, hj, ej⟩ := b4 v hv
  obtain ⟨d0, e0⟩ := b7 (by omega)
  have h0 : o (wy 0) ≤ o v := by
    rw [e0]
    by_cases c : j = 0
    · rw [c] at ej
      rw [ej]
      exact Int.le_refl _
    · have := b3 0 j (by omega) (by omega) hj.2
      rw [ej] at this
      omega
  have hm : ∀ m : Nat, (m : Int) < dp → ∃ i : Int, (0 ≤ i ∧ i ≤ (m : Int)) ∧ o (wy i) ≤ o v ∧ (i < (m : Int) → o v < o (wy (i + 1))) := fun m => by
    induction m with
    | zero => exact fun _ => ⟨0, ⟨by omega, by omega⟩, h0, fun q => by omega⟩
    | succ m ih =>
      intro hm
      obtain ⟨i, hi, h1, h2⟩ := ih (by omega)
      by_cases c : i < (m : Int)
      · exact ⟨i, ⟨hi.1, by omega⟩, h1, fun _ => h2 c⟩
      · have ei : i = (m : Int) := by omega
        by_cases c2 : o (wy ((m : Int) + 1)) ≤ o v
        · exact ⟨(m : Int) + 1, ⟨by omega, by omega⟩, c2, fun q => by omega⟩
        · exact ⟨i, ⟨hi.1, by omega⟩, h1, fun _ => by rw [ei]; omega⟩
  obtain ⟨i, hi, h1, h2⟩ := hm (dp - 1).toNat (by omega)
  exact ⟨i, ⟨hi.1, by omega⟩, h1, fun q => h2 (by omega)⟩
/-- leaving a text that isn't the first of its circle -/
theorem tj_lv {ev : Int} (hF : FOK F n) (h : TJx F n o e d z op wy f k dp) (h0 : 0 < dp) (wt : wy (dp - 1) = t) (hdn : d t = n) (hlt : e t ≠ o t) (he : ∀ x : Int, rgT x → e' x = if x = wy (dp - 2) then ev else e x) (hv : ev ≤ e (wy (dp - 2)) ∧ ev ≤ e t ∧ (ev = e (wy (dp - 2)) ∨ ev = e t)) : 1 < dp ∧ TJx F n o e' d z op wy f k (dp - 1) := by
  obtain ⟨ha, hD, ⟨c1, c2⟩, ⟨g1, g2, g3, g4⟩, hh⟩ := h
  obtain ⟨b1, b2, b3, b4, b5, b6, b7⟩ := id hD
  have oT : OPN o z t := by
    rw [← wt]
    exact b5 _ (by omega) (by omega)
  have g4t := g4 (dp - 1) (by omega) (by omega)
  rw [wt] at g4t
  obtain ⟨q1, u0, q2, q3, q4⟩ := g4t
  obtain ⟨j, hj, hw⟩ := tj_ow hD q2
  have hjl : j < dp - 1 := by
    refine Classical.byContradiction fun q => ?_
    have hw1 := hw.1
    rw [show j = dp - 1 by omega, wt] at hw1
    omega
  have d1 : 1 < dp := by omega
  refine ⟨d1, ?_⟩
  have oB := b5 (dp - 2) (by omega) (by omega)
  have oBt : o (wy (dp - 2)) < o t := by
    have := b6 (dp - 2) (dp - 1) (by omega) (by omega) (by omega)
    rw [wt] at this
    exact this
  have rB : RTc F n t (wy (dp - 2)) := by
    refine rt_tr q4 (rt_tr (g2 j u0 hj.1 hj.2 q2 hw) ?_)
    by_cases c : j = dp - 2
    · rw [c]
      exact rt_rf
    · have := b6 j (dp - 2) hj.1 (by omega) (by omega)
      exact g1 j _ hj.1 hj.2 oB (by omega)
  have eB : e' (wy (dp - 2)) = ev := (he _ oB.1).trans (if_pos rfl)
  have eO : ∀ i : Int, 0 ≤ i → i < dp - 2 → e' (wy i) = e (wy i) := fun i i0 i1 => by
    have hi := b5 i i0 (by omega)
    have := b6 i (dp - 2) i0 i1 (by omega)
    rw [he _ hi.1, if_neg (fun q => by rw [q] at this; omega)]
  have own : ∀ i v : Int, 0 ≤ i → i < dp - 1 → OWN o wy (dp - 1) i v → OWN o wy dp i v ∨ (i = dp - 2 ∧ OWN o wy dp (dp - 1) v) := fun i v i0 i1 hw => by
    by_cases c : i = dp - 2
    · by_cases c2 : o v < o t
      · refine Or.inl ⟨hw.1, fun _ => ?_⟩
        rw [show i + 1 = dp - 1 by omega, wt]
        exact c2
      · refine Or.inr ⟨c, ?_, fun q => by omega⟩
        rw [wt]
        omega
    · exact Or.inl ⟨hw.1, fun _ => hw.2 (by omega)⟩
  refine ⟨ha, ⟨⟨by omega, by omega⟩, b2, b3, b4, fun i i0 i1 => b5 i i0 (by omega), fun i j i0 ij j1 => b6 i j i0 ij (by omega), fun q => ⟨by omega, (b7 q).2⟩⟩, ⟨fun x hx hne => ?_, c2⟩, ⟨fun i v i0 i1 => g1 i v i0 (by omega), fun i v i0 i1 hv2 hw2 => ?_, fun i v i0 i1 hv2 hw2 r r0 r1 hz => ?_, fun i i0 i1 => ?_⟩, hh⟩
  · obtain ⟨x1, x2, x3⟩ := c1 x hx hne
    refine ⟨x1, x2, fun q => ?_⟩
    by_cases c : x = t
    · rw [c]
      exact hdn
    · refine x3 fun i i0 i1 => ?_
      by_cases c2 : i = dp - 1
      · rw [c2, wt]
        exact fun w => c w.symm
      · exact q i i0 (by omega)
  · rcases own i v i0 i1 hw2 with w | ⟨c, w⟩
    · exact g2 i v i0 (by omega) hv2 w
    · have h3 := g2 (dp - 1) v (by omega) (by omega) hv2 w
      rw [wt] at h3
      rw [c]
      exact rt_tr h3 rB
  · by_cases c : i = dp - 2
    · rw [c, eB]
      rcases own i v i0 i1 hw2 with w | ⟨-, w⟩
      · have h3 := g3 i v i0 (by omega) hv2 w r r0 r1 hz
        rw [c] at h3
        omega
      · have h3 := g3 (dp - 1) v (by omega) (by omega) hv2 w r r0 r1 hz
        rw [wt] at h3
        omega
    · rw [eO i i0 (by omega)]
      rcases own i v i0 i1 hw2 with w | ⟨w, -⟩
      · exact g3 i v i0 (by omega) hv2 w r r0 r1 hz
      · omega
  · by_cases c : i = dp - 2
    · rw [c, eB]
      obtain ⟨x1, u, x2, x3, x4⟩ := g4 (dp - 2) (by omega) (by omega)
      refine ⟨by omega, ?_⟩
      by_cases c2 : ev = e (wy (dp - 2))
      · exact ⟨u, x2, by rw [c2]; exact x3, x4⟩
      · refine ⟨u0, q2, by rw [hv.2.2.resolve_left c2]; exact q3, rt_tr ?_ q4⟩
        exact g1 (dp - 2) t (by omega) (by omega) oT (by omega)
    · rw [eO i i0 (by omega)]
      exact g4 i i0 (by omega)
/-- the open texts from t on are its circle -/
theorem tj_ci (hF : FOK F n) (h : TJx F n o e d z op wy f k dp) (h0 : 0 < dp) (wt : wy (dp - 1) = t) (hdn : d t = n) (heq : e t = o t) : (∀ x : Int, (OPN o z x ∧ o t ≤ o x) ↔ (rgT x ∧ MUc F n t x)) ∧ ∀ x : Int, OPN o z x → o t ≤ o x → ∀ r : Int, 0 ≤ r → r < n → z (F r x) ≠ 0 ∨ (OPN o z (F r x) ∧ o t ≤ o (F r x)) := by
  obtain ⟨ha, hD, ⟨c1, c2⟩, ⟨g1, g2, g3, g4⟩, hh⟩ := h
  obtain ⟨b1, b2, b3, b4, b5, b6, b7⟩ := id hD
  have oT : OPN o z t := by
    rw [← wt]
    exact b5 _ (by omega) (by omega)
  have own : ∀ x : Int, o t ≤ o x → OWN o wy dp (dp - 1) x := fun x hx => ⟨by rw [wt]; exact hx, fun q => by omega⟩
  have suc : ∀ x : Int, OPN o z x → o t ≤ o x → ∀ r : Int, 0 ≤ r → r < n → z (F r x) ≠ 0 ∨ (OPN o z (F r x) ∧ o t ≤ o (F r x)) := fun x hx hle r r0 r1 => by
    obtain ⟨x1, x2, x3⟩ := c1 x hx.1 hx.2.1
    have dx : d x = n := by
      by_cases c : x = t
      · rw [c]
        exact hdn
      · refine x3 fun i i0 i1 q => ?_
        by_cases c2 : i = dp - 1
        · rw [c2, wt] at q
          exact c q.symm
        · have := b6 i (dp - 1) i0 (by omega) (by omega)
          rw [q, wt] at this
          omega
    by_cases c : z (F r x) = 0
    · refine Or.inr ⟨⟨hF r x r0 r1 hx.1.1 hx.1.2, x2 r r0 (by omega), c⟩, ?_⟩
      have := g3 (dp - 1) x (by omega) (by omega) hx (own x hle) r r0 (by omega) c
      rw [wt, heq] at this
      exact this
    · exact Or.inl c
  refine ⟨fun x => ⟨fun hx => ⟨hx.1.1, ?_, ?_⟩, fun hx => ?_⟩, suc⟩
  · have := g1 (dp - 1) x (by omega) (by omega) hx.1 (by rw [wt]; exact hx.2)
    rw [wt] at this
    exact this
  · have := g2 (dp - 1) x (by omega) (by omega) hx.1 (own x hx.2)
    rw [wt] at this
    exact this
  · have hS := rt_cl (S := fun y => z y ≠ 0 ∨ (OPN o z y ∧ o t ≤ o y)) hF (fun y w hy hs hst => by
      obtain ⟨r, hr, q⟩ := hst
      rw [← q]
      rcases hs with hs | hs
      · exact Or.inl (c2 y hy hs r hr.1 hr.2)
      · exact suc y hs.1 hs.2 r hr.1 hr.2) oT.1 (Or.inr ⟨oT, Int.le_refl _⟩) hx.2.1
    rcases hS with hS | hS
    · exfalso
      have := rt_cl (S := fun y => z y ≠ 0) hF (fun y w hy hs hst => by
        obtain ⟨r, hr, q⟩ := hst
        rw [← q]
        exact c2 y hy hs r hr.1 hr.2) hx.1 hS hx.2.2
      exact this oT.2.2
    · exact hS
/-- leaving the first text of a circle: the circle is closed -/
theorem tj_cl {bo : Int} (hF : FOK F n) (h : TJx F n o e d z op wy f k dp) (h0 : 0 < dp) (wt : wy (dp - 1) = t) (hdn : d t = n) (heq : e t = o t) (hb : 0 ≤ bo ∧ bo < k) (hbo : op bo = t) (he : ∀ x : Int, rgT x → e' x = e x) (hz1 : ∀ x : Int, OPN o z x → o t ≤ o x → z' x = k - bo) (hz2 : ∀ x : Int, rgT x → ¬ (OPN o z x ∧ o t ≤ o x) → z' x = z x) : k - bo = cSZ F n t ∧ TJx F n o e' d z' op wy f bo (dp - 1) := by
  obtain ⟨hci, suc⟩ := tj_ci hF h h0 wt hdn heq
  obtain ⟨⟨⟨a1, a2, a3⟩, a4, a5, a6⟩, ⟨b1, b2, b3, b4, b5, b6, b7⟩, ⟨c1, c2⟩, ⟨g1, g2, g3, g4⟩, hh⟩ := h
  have oT : OPN o z t := by
    rw [← wt]
    exact b5 _ (by omega) (by omega)
  have idx : ∀ i : Int, 0 ≤ i → i < k → (o t ≤ o (op i) ↔ bo ≤ i) := fun i i0 i1 => by
    rcases Int.lt_trichotomy i bo with c | c | c
    · have := b3 i bo i0 c hb.2
      rw [hbo] at this
      omega
    · rw [c, hbo]
      omega
    · have := b3 bo i hb.1 c i1
      rw [hbo] at this
      omega
  have hsz : k - bo = cSZ F n t := by
    refine cz_en (q := op) ⟨⟨hb.1, by omega⟩, fun i i0 i1 => ?_, fun i j i0 ij j1 q => ?_, fun x x0 x1 hx => ?_⟩
    · have hi := b2 i (by omega) i1
      exact ⟨hi.1, ((hci _).mp ⟨hi, (idx i (by omega) i1).mpr i0⟩).2⟩
    · have := b3 i j (by omega) ij j1
      rw [q] at this
      omega
    · obtain ⟨p1, p2⟩ := (hci x).mpr ⟨⟨x0, x1⟩, hx⟩
      obtain ⟨i, hi, q⟩ := b4 x p1
      exact ⟨i, ⟨(idx i hi.1 hi.2).mp (by rw [q]; exact p2), hi.2⟩, q⟩
  refine ⟨hsz, ?_⟩
  have zp : ∀ x : Int, OPN o z x → o t ≤ o x → z' x ≠ 0 := fun x hx hle => by
    rw [hz1 x hx hle]
    omega
  have zk : ∀ x : Int, rgT x → z x ≠ 0 → z' x = z x := fun x hx hne => hz2 x hx fun q => hne q.1.2.2
  have zn : ∀ x : Int, rgT x → z' x = 0 → z x = 0 := fun x hx q => Classical.byContradiction fun w => by
    rw [zk x hx w] at q
    exact w q
  have op1 : ∀ x : Int, OPN o z' x → OPN o z x ∧ o x < o t := fun x hx => by
    have h1 : OPN o z x := ⟨hx.1, hx.2.1, zn x hx.1 hx.2.2⟩
    refine ⟨h1, Classical.byContradiction fun q => zp x h1 (by omega) hx.2.2⟩
  have op2 : ∀ x : Int, OPN o z x → o x < o t → OPN o z' x := fun x hx hlt => ⟨hx.1, hx.2.1, by rw [hz2 x hx.1 (fun q => by have := q.2; omega)]; exact hx.2.2⟩
  have wlt : ∀ i : Int, 0 ≤ i → i < dp - 1 → o (wy i) < o t := fun i i0 i1 => by
    have := b6 i (dp - 1) i0 i1 (by omega)
    rw [wt] at this
    exact this
  have own : ∀ i v : Int, 0 ≤ i → i < dp - 1 → OPN o z' v → OWN o wy (dp - 1) i v → OWN o wy dp i v := fun i v i0 i1 hv hw => ⟨hw.1, fun _ => by
    by_cases c : i + 1 = dp - 1
    · rw [c, wt]
      exact (op1 v hv).2
    · exact hw.2 (by omega)⟩
  refine ⟨⟨⟨a1, a2, a3⟩, a4, a5, fun x hx => ?_⟩, ⟨⟨by omega, ?_⟩, fun i i0 i1 => ?_, fun i j i0 ij j1 => b3 i j i0 ij (by omega), fun x hx => ?_, fun i i0 i1 => op2 _ (b5 i i0 (by omega)) (wlt i i0 i1), fun i j i0 ij j1 => b6 i j i0 ij (by omega), fun q => ?_⟩, ⟨fun x hx hne => ?_, fun x hx hne r r0 r1 => ?_⟩, ⟨fun i v i0 i1 hv => g1 i v i0 (by omega) (op1 v hv).1, fun i v i0 i1 hv hw => g2 i v i0 (by omega) (op1 v hv).1 (own i v i0 i1 hv hw), fun i v i0 i1 hv hw r r0 r1 hz => ?_, fun i i0 i1 => ?_⟩, fun x hx hne => ?_⟩
  · by_cases c : OPN o z x ∧ o t ≤ o x
    · rw [hz1 x c.1 c.2]
      exact ⟨by omega, fun q => absurd q c.1.2.1⟩
    · rw [hz2 x hx c]
      exact a6 x hx
  · -- the way is no longer than the row
    refine Classical.byContradiction fun q => ?_
    obtain ⟨i, hi, e1⟩ := b4 (wy bo) (b5 bo hb.1 (by omega))
    have h1 := wlt bo hb.1 (by omega)
    have h2 : i < bo := by
      refine Classical.byContradiction fun w => ?_
      have := (idx i hi.1 hi.2).mpr (by omega)
      rw [e1] at this
      omega
    have hp : ∀ m : Nat, (m : Int) ≤ bo → ∃ i : Int, ((m : Int) ≤ i ∧ i < k) ∧ op i = wy (m : Int) := fun m => by
      induction m with
      | zero =>
        intro _
        obtain ⟨_, e0⟩ := b7 (by omega)
        exact ⟨0, ⟨by omega, by omega⟩, e0.symm⟩
      | succ m ih =>
        intro hm
        obtain ⟨i1, hi1, e2⟩ := ih (by omega)
        obtain ⟨i2, hi2, e3⟩ := b4 (wy ((m : Int) + 1)) (b5 _ (by omega) (by omega))
        have h3 := b6 (m : Int) ((m : Int) + 1) (by omega) (by omega) (by omega)
        rw [← e2, ← e3] at h3
        refine ⟨i2, ⟨?_, hi2.2⟩, by rw [e3]; rfl⟩
        refine Classical.byContradiction fun w => ?_
        by_cases w2 : i2 = i1
        · rw [w2] at h3
          omega
        · have := b3 i2 i1 hi2.1 (by omega) hi1.2
          omega
    obtain ⟨i3, hi3, e3⟩ := hp bo.toNat (by omega)
    rw [Int.toNat_of_nonneg hb.1] at hi3 e3
    by_cases w2 : i3 = i
    · omega
    · have := b3 i i3 hi.1 (by omega) hi3.2
      rw [e1, e3] at this
      omega
  · have hi := b2 i i0 (by omega)
    have := b3 i bo i0 i1 hb.2
    rw [hbo] at this
    exact op2 _ hi this
  · obtain ⟨p1, p2⟩ := op1 x hx
    obtain ⟨i, hi, q⟩ := b4 x p1
    refine ⟨i, ⟨hi.1, Classical.byContradiction fun w => ?_⟩, q⟩
    have := (idx i hi.1 hi.2).mpr (by omega)
    rw [q] at this
    omega
  · obtain ⟨_, e0⟩ := b7 (by omega)
    refine ⟨Classical.byContradiction fun w => ?_, e0⟩
    rw [show dp - 1 = 0 by omega] at wt
    rw [wt, ← hbo] at e0
    have := b3 0 bo (by omega) q hb.2
    rw [e0] at this
    omega
  · obtain ⟨x1, x2, x3⟩ := c1 x hx hne
    refine ⟨x1, x2, fun q => ?_⟩
    by_cases c : x = t
    · rw [c]
      exact hdn
    · refine x3 fun i i0 i1 => ?_
      by_cases c2 : i = dp - 1
      · rw [c2, wt]
        exact fun w => c w.symm
      · exact q i i0 (by omega)
  · by_cases c : OPN o z x ∧ o t ≤ o x
    · rcases suc x c.1 c.2 r r0 r1 with w | w
      · have hm := hF r x r0 r1 hx.1 hx.2
        rw [zk _ hm w]
        exact w
      · exact zp _ w.1 w.2
    · rw [hz2 x hx c] at hne
      have w := c2 x hx hne r r0 r1
      have hm := hF r x r0 r1 hx.1 hx.2
      rw [zk _ hm w]
      exact w
  · have hi := b5 i i0 (by omega)
    have p1 := op1 v hv
    rw [he _ hi.1]
    have hdv := (c1 v p1.1.1 p1.1.2.1).1
    have hm := hF r v r0 (by omega) p1.1.1.1 p1.1.1.2
    exact g3 i v i0 (by omega) p1.1 (own i v i0 i1 hv hw) r r0 r1 (zn _ hm hz)
  · have hi := b5 i i0 (by omega)
    obtain ⟨x1, u, x2, x3, x4⟩ := g4 i i0 (by omega)
    have hl := wlt i i0 i1
    rw [he _ hi.1]
    exact ⟨x1, u, op2 u x2 (by omega), x3, x4⟩
  · by_cases c : OPN o z x ∧ o t ≤ o x
    · have hm := ((hci x).mp c).2
      rw [hz1 x c.1 c.2, hsz]
      refine ⟨cz_cg hm, fun u hu hmu => ?_⟩
      obtain ⟨w1, w2⟩ := (hci u).mpr ⟨hu, mu_tr hm hmu⟩
      exact zp u w1 w2
    · rw [hz2 x hx c] at hne ⊢
      obtain ⟨w1, w2⟩ := hh x hx hne
      refine ⟨w1, fun u hu hmu => ?_⟩
      have w3 := w2 u hu hmu
      rw [zk u hu w3]
      exact w3
end TJS
