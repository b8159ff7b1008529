/-! THE COURSE OF A YEAR: one pure function for both sides. -/
def bShl (x y : Int) : Int := (Int32.ofInt x <<< (Int32.ofInt y &&& 31)).toInt
def bShr (x y : Int) : Int := (Int32.ofInt x >>> (Int32.ofInt y &&& 31)).toInt
def bUsr (x y : Int) : Int := ((Int32.ofInt x).toUInt32 >>> ((Int32.ofInt y).toUInt32 &&& Int32.toUInt32 31)).toInt32.toInt
def bAnd (x y : Int) : Int := (Int32.ofInt x &&& Int32.ofInt y).toInt
def bOr (x y : Int) : Int := (Int32.ofInt x ||| Int32.ofInt y).toInt
def bXor (x y : Int) : Int := (Int32.ofInt x ^^^ Int32.ofInt y).toInt
def hHas (h c : Int) : Int := bAnd (bShr h c) 1
def hClr (h c : Int) : Int := bAnd h (bXor (bShl 1 c) (-1))
def hSet (h c : Int) : Int := bOr h (bShl 1 c)
theorem h_all : ∀ h : Fin 16, ∀ c : Fin 4, (hHas (h.val : Int) (c.val : Int) = 0 ∨ hHas (h.val : Int) (c.val : Int) = 1) ∧ (0 ≤ hClr (h.val : Int) (c.val : Int) ∧ hClr (h.val : Int) (c.val : Int) ≤ 15) ∧ (0 ≤ hSet (h.val : Int) (c.val : Int) ∧ hSet (h.val : Int) (c.val : Int) ≤ 15) ∧ (hHas (h.val : Int) (c.val : Int) = 0 → hClr (h.val : Int) (c.val : Int) = (h.val : Int)) ∧ (hHas (h.val : Int) (c.val : Int) = 1 → hSet (h.val : Int) (c.val : Int) = (h.val : Int)) := by decide +kernel
theorem h_f {h c : Int} (h0 : 0 ≤ h) (h1 : h ≤ 15) (c0 : 0 ≤ c) (c1 : c ≤ 3) : (hHas h c = 0 ∨ hHas h c = 1) ∧ (0 ≤ hClr h c ∧ hClr h c ≤ 15) ∧ (0 ≤ hSet h c ∧ hSet h c ≤ 15) ∧ (hHas h c = 0 → hClr h c = h) ∧ (hHas h c = 1 → hSet h c = h) := by
  have e := h_all ⟨h.toNat, by omega⟩ ⟨c.toNat, by omega⟩
  dsimp only at e
  rw [show ((h.toNat : Nat) : Int) = h by omega, show ((c.toNat : Nat) : Int) = c by omega] at e
  exact e
abbrev CS := Int × Int × Int × (Int → Int) × (Int → Int)
def upI (f : Int → Int) (i v : Int) : Int → Int := fun j => if j = i then v else f j
def cs0 (base : Int) : CS := (0, 0, 0, fun _ => base, fun _ => 0)
def dsS (F : Int → Int → Int) (base rd κ o u : Int) (s : CS) : CS :=
  if κ = 0 then (if 0 ≤ u ∧ u < rd then (s.1, s.2.1, hClr s.2.2.1 o, if hHas s.2.2.1 o = 0 then upI s.2.2.2.1 o (F u (s.2.2.2.1 o)) else s.2.2.2.1, upI s.2.2.2.2 u (s.2.2.2.2 u + 1)) else s)
  else if κ = 1 then (s.1, s.2.1, s.2.2.1, upI s.2.2.2.1 u (s.2.2.2.1 o), s.2.2.2.2)
  else if κ = 2 then (s.1, o, s.2.2.1, s.2.2.2.1, s.2.2.2.2)
  else if κ = 3 then (if o = s.2.1 then s else (s.1, s.2.1, s.2.2.1, upI s.2.2.2.1 o base, s.2.2.2.2))
  else if κ = 4 then (if hHas s.2.2.1 o = 0 then (s.1, s.2.1, hSet s.2.2.1 o, s.2.2.2.1, s.2.2.2.2) else s)
  else (if s.1 < 99 then (s.1 + 1, s.2.1, s.2.2.1, s.2.2.2.1, s.2.2.2.2) else s)
def dsB (rd κ o u : Int) (s : CS) : Int :=
  if κ = 0 then (if 0 ≤ u ∧ u < rd then 1 else 0)
  else if κ = 1 then (if o = u then 0 else 1)
  else if κ = 2 then 1
  else if κ = 3 then (if o = s.2.1 then 0 else 1)
  else if κ = 4 then (if hHas s.2.2.1 o = 0 then 1 else 0)
  else (if s.1 < 99 then 1 else 0)
def CSR (m : Int) (s : CS) (e1 e2 e3 : Int) (gc gt : Nat → Int32) : Prop := e1 = s.1 ∧ e2 = s.2.1 ∧ e3 = s.2.2.1 ∧ (0 ≤ s.1 ∧ s.1 ≤ 99) ∧ (0 ≤ s.2.1 ∧ s.2.1 ≤ 3) ∧ (0 ≤ s.2.2.1 ∧ s.2.2.1 ≤ 15) ∧ (∀ i : Int, 0 ≤ i → i < 4 → tBy gc i = s.2.2.2.1 i ∧ 0 ≤ s.2.2.2.1 i ∧ s.2.2.2.1 i ≤ 5460) ∧ (∀ i : Int, 0 ≤ i → i < 5 → tBy gt i = s.2.2.2.2 i ∧ 0 ≤ s.2.2.2.2 i ∧ s.2.2.2.2 i ≤ m)
theorem csr_c {m : Int} {s : CS} {e1 e2 e3 : Int} {gc gt : Nat → Int32} (h : CSR m s e1 e2 e3 gc gt) {i : Int} (h0 : 0 ≤ i) (h1 : i < 4) : 0 ≤ tBy gc i ∧ tBy gc i ≤ 5460 := by
  have := h.2.2.2.2.2.2.1 i h0 h1
  omega
theorem csr_t {m : Int} {s : CS} {e1 e2 e3 : Int} {gc gt : Nat → Int32} (h : CSR m s e1 e2 e3 gc gt) {i : Int} (h0 : 0 ≤ i) (h1 : i < 5) : 0 ≤ tBy gt i ∧ tBy gt i ≤ m := by
  have := h.2.2.2.2.2.2.2 i h0 h1
  omega
theorem csr_r {m : Int} {s : CS} {e1 e2 e3 : Int} {gc gt : Nat → Int32} (h : CSR m s e1 e2 e3 gc gt) : (0 ≤ e1 ∧ e1 ≤ 99) ∧ (0 ≤ e2 ∧ e2 ≤ 3) ∧ (0 ≤ e3 ∧ e3 ≤ 15) := by
  obtain ⟨rfl, rfl, rfl, b1, b2, b3, -⟩ := h
  exact ⟨b1, b2, b3⟩
theorem csr_m {m m' : Int} {s : CS} {e1 e2 e3 : Int} {gc gt : Nat → Int32} (h : CSR m s e1 e2 e3 gc gt) (hm : m ≤ m') : CSR m' s e1 e2 e3 gc gt := by
  obtain ⟨a1, a2, a3, b1, b2, b3, hc, ht⟩ := h
  exact ⟨a1, a2, a3, b1, b2, b3, hc, fun i i0 i1 => by have := ht i i0 i1; omega⟩
theorem csr_g {m : Int} {s : CS} {e1 e2 e3 : Int} {gc gt gc' gt' : Nat → Int32} (h : CSR m s e1 e2 e3 gc gt) (hc : ∀ i : Int, 0 ≤ i → i < 4 → tBy gc' i = tBy gc i) (ht : ∀ i : Int, 0 ≤ i → i < 5 → tBy gt' i = tBy gt i) : CSR m s e1 e2 e3 gc' gt' := by
  obtain ⟨a1, a2, a3, b1, b2, b3, c, t⟩ := h
  exact ⟨a1, a2, a3, b1, b2, b3, fun i i0 i1 => by rw [hc i i0 i1]; exact c i i0 i1, fun i i0 i1 => by rw [ht i i0 i1]; exact t i i0 i1⟩
section CSX
variable {F : Int → Int → Int} {base rd o u m e1 e2 e3 e3' : Int} {s : CS} {gc gt gc' gt' : Nat → Int32}
theorem cs_0 {gc gt : Nat → Int32} (hb : 0 ≤ base ∧ base ≤ 5460) (hc : ∀ i : Int, 0 ≤ i → i < 4 → tBy gc i = base) (ht : ∀ i : Int, 0 ≤ i → i < 5 → tBy gt i = 0) : CSR 0 (cs0 base) 0 0 0 gc gt := by
  refine ⟨rfl, rfl, rfl, ⟨Int.le_refl _, by show (0 : Int) ≤ 99; decide⟩, ⟨Int.le_refl _, by show (0 : Int) ≤ 3; decide⟩, ⟨Int.le_refl _, by show (0 : Int) ≤ 15; decide⟩, fun i i0 i1 => ⟨hc i i0 i1, hb.1, hb.2⟩, fun i i0 i1 => ⟨ht i i0 i1, Int.le_refl _, Int.le_refl _⟩⟩
theorem cs_r0 (h : CSR m s e1 e2 e3 gc gt) (hu : ¬ (0 ≤ u ∧ u < rd)) : (0 : Int) = dsB rd 0 o u s ∧ CSR (m + 1) (dsS F base rd 0 o u s) e1 e2 e3 gc gt := by
  unfold dsB dsS
  rw [if_pos rfl, if_neg hu, if_pos rfl, if_neg hu]
  exact ⟨rfl, csr_m h (by omega)⟩
theorem cs_rd (h : CSR m s e1 e2 e3 gc gt) (ho : 0 ≤ o ∧ o ≤ 3) (hu : 0 ≤ u ∧ u < rd) (hF : 0 ≤ F u (tBy gc o) ∧ F u (tBy gc o) ≤ 5460) (he : e3' = hClr e3 o) (hgc : ∀ i : Int, 0 ≤ i → i < 4 → tBy gc' i = if hHas e3 o = 0 ∧ i = o then F u (tBy gc o) else tBy gc i) (hgt : ∀ i : Int, 0 ≤ i → i < 5 → tBy gt' i = if i = u then tBy gt u + 1 else tBy gt i) (hrd : rd ≤ 5) : (1 : Int) = dsB rd 0 o u s ∧ CSR (m + 1) (dsS F base rd 0 o u s) e1 e2 e3' gc' gt' := by
  obtain ⟨rfl, rfl, rfl, b1, b2, b3, hc, ht⟩ := h
  have hh := h_f b3.1 b3.2 ho.1 ho.2
  unfold dsB dsS
  rw [if_pos rfl, if_pos hu, if_pos rfl, if_pos hu]
  have co := hc o ho.1 (by omega)
  have tu := ht u hu.1 (by omega)
  refine ⟨rfl, rfl, rfl, he, b1, b2, hh.2.1, fun i i0 i1 => ?_, fun i i0 i1 => ?_⟩
  · have ci := hc i i0 i1
    rw [hgc i i0 i1]
    show (if hHas s.2.2.1 o = 0 ∧ i = o then F u (tBy gc o) else tBy gc i) = (if hHas s.2.2.1 o = 0 then upI s.2.2.2.1 o (F u (s.2.2.2.1 o)) else s.2.2.2.1) i ∧ 0 ≤ (if hHas s.2.2.1 o = 0 then upI s.2.2.2.1 o (F u (s.2.2.2.1 o)) else s.2.2.2.1) i ∧ (if hHas s.2.2.1 o = 0 then upI s.2.2.2.1 o (F u (s.2.2.2.1 o)) else s.2.2.2.1) i ≤ 5460
    by_cases c1 : hHas s.2.2.1 o = 0
    · rw [if_pos c1]
      unfold upI
      by_cases c2 : i = o
      · rw [if_pos ⟨c1, c2⟩, if_pos c2, ← co.1]
        exact ⟨rfl, hF.1, hF.2⟩
      · rw [if_neg (fun z => c2 z.2), if_neg c2]
        exact ci
    · rw [if_neg c1, if_neg (fun z => c1 z.1)]
      exact ci
  · have ti := ht i i0 i1
    rw [hgt i i0 i1]
    show (if i = u then tBy gt u + 1 else tBy gt i) = upI s.2.2.2.2 u (s.2.2.2.2 u + 1) i ∧ 0 ≤ upI s.2.2.2.2 u (s.2.2.2.2 u + 1) i ∧ upI s.2.2.2.2 u (s.2.2.2.2 u + 1) i ≤ m + 1
    unfold upI
    by_cases c2 : i = u
    · rw [if_pos c2, if_pos c2]
      omega
    · rw [if_neg c2, if_neg c2]
      omega
theorem cs_cp (h : CSR m s e1 e2 e3 gc gt) (ho : 0 ≤ o ∧ o ≤ 3) (hgc : ∀ i : Int, 0 ≤ i → i < 4 → tBy gc' i = if i = u then tBy gc o else tBy gc i) : CSR (m + 1) (dsS F base rd 1 o u s) e1 e2 e3 gc' gt := by
  obtain ⟨a1, a2, a3, b1, b2, b3, hc, ht⟩ := h
  have co := hc o ho.1 (by omega)
  unfold dsS
  rw [if_neg (by decide), if_pos rfl]
  refine ⟨a1, a2, a3, b1, b2, b3, fun i i0 i1 => ?_, fun i i0 i1 => by have := ht i i0 i1; show tBy gt i = s.2.2.2.2 i ∧ 0 ≤ s.2.2.2.2 i ∧ s.2.2.2.2 i ≤ m + 1; omega⟩
  have ci := hc i i0 i1
  rw [hgc i i0 i1]
  show (if i = u then tBy gc o else tBy gc i) = upI s.2.2.2.1 u (s.2.2.2.1 o) i ∧ 0 ≤ upI s.2.2.2.1 u (s.2.2.2.1 o) i ∧ upI s.2.2.2.1 u (s.2.2.2.1 o) i ≤ 5460
  unfold upI
  by_cases c2 : i = u
  · rw [if_pos c2, if_pos c2]
    exact co
  · rw [if_neg c2, if_neg c2]
    exact ci
theorem cs_c1 (h : o ≠ u) : (1 : Int) = dsB rd 1 o u s := by
  unfold dsB
  rw [if_neg (by decide), if_pos rfl, if_neg h]
theorem cs_c0 (h : o = u) : (0 : Int) = dsB rd 1 o u s := by
  unfold dsB
  rw [if_neg (by decide), if_pos rfl, if_pos h]
theorem cs_s (h : CSR m s e1 e2 e3 gc gt) (ho : 0 ≤ o ∧ o ≤ 3) : (1 : Int) = dsB rd 2 o u s ∧ CSR (m + 1) (dsS F base rd 2 o u s) e1 o e3 gc gt := by
  obtain ⟨a1, a2, a3, b1, b2, b3, hc, ht⟩ := csr_m h (show m ≤ m + 1 by omega)
  unfold dsB dsS
  rw [if_neg (show ¬ (2 : Int) = 0 by decide), if_neg (show ¬ (2 : Int) = 1 by decide), if_pos (show (2 : Int) = 2 from rfl), if_neg (show ¬ (2 : Int) = 0 by decide), if_neg (show ¬ (2 : Int) = 1 by decide), if_pos (show (2 : Int) = 2 from rfl)]
  exact ⟨rfl, a1, rfl, a3, b1, ho, b3, hc, ht⟩
theorem cs_x (h : CSR m s e1 e2 e3 gc gt) (ho : 0 ≤ o ∧ o ≤ 3) (hb : 0 ≤ base ∧ base ≤ 5460) (hgc : ∀ i : Int, 0 ≤ i → i < 4 → tBy gc' i = if o ≠ e2 ∧ i = o then base else tBy gc i) : (if o = e2 then (0 : Int) else 1) = dsB rd 3 o u s ∧ CSR (m + 1) (dsS F base rd 3 o u s) e1 e2 e3 gc' gt := by
  obtain ⟨a1, a2, a3, b1, b2, b3, hc, ht⟩ := csr_m h (show m ≤ m + 1 by omega)
  subst a2
  unfold dsB dsS
  rw [if_neg (show ¬ (3 : Int) = 0 by decide), if_neg (show ¬ (3 : Int) = 1 by decide), if_neg (show ¬ (3 : Int) = 2 by decide), if_pos (show (3 : Int) = 3 from rfl), if_neg (show ¬ (3 : Int) = 0 by decide), if_neg (show ¬ (3 : Int) = 1 by decide), if_neg (show ¬ (3 : Int) = 2 by decide), if_pos (show (3 : Int) = 3 from rfl)]
  refine ⟨rfl, ?_⟩
  by_cases c : o = s.2.1
  · rw [if_pos c]
    refine ⟨a1, rfl, a3, b1, b2, b3, fun i i0 i1 => ?_, ht⟩
    rw [hgc i i0 i1, if_neg (fun z => z.1 c)]
    exact hc i i0 i1
  · rw [if_neg c]
    refine ⟨a1, rfl, a3, b1, b2, b3, fun i i0 i1 => ?_, ht⟩
    rw [hgc i i0 i1]
    show (if o ≠ s.2.1 ∧ i = o then base else tBy gc i) = upI s.2.2.2.1 o base i ∧ 0 ≤ upI s.2.2.2.1 o base i ∧ upI s.2.2.2.1 o base i ≤ 5460
    unfold upI
    by_cases c2 : i = o
    · rw [if_pos ⟨c, c2⟩, if_pos c2]
      exact ⟨rfl, hb⟩
    · rw [if_neg (fun z => c2 z.2), if_neg c2]
      exact hc i i0 i1
theorem cs_h (h : CSR m s e1 e2 e3 gc gt) (ho : 0 ≤ o ∧ o ≤ 3) (he : e3' = hSet e3 o) : (if hHas e3 o = 0 then (1 : Int) else 0) = dsB rd 4 o u s ∧ CSR (m + 1) (dsS F base rd 4 o u s) e1 e2 e3' gc gt := by
  obtain ⟨a1, a2, a3, b1, b2, b3, hc, ht⟩ := csr_m h (show m ≤ m + 1 by omega)
  subst a3
  have hh := h_f b3.1 b3.2 ho.1 ho.2
  unfold dsB dsS
  rw [if_neg (show ¬ (4 : Int) = 0 by decide), if_neg (show ¬ (4 : Int) = 1 by decide), if_neg (show ¬ (4 : Int) = 2 by decide), if_neg (show ¬ (4 : Int) = 3 by decide), if_pos (show (4 : Int) = 4 from rfl), if_neg (show ¬ (4 : Int) = 0 by decide), if_neg (show ¬ (4 : Int) = 1 by decide), if_neg (show ¬ (4 : Int) = 2 by decide), if_neg (show ¬ (4 : Int) = 3 by decide), if_pos (show (4 : Int) = 4 from rfl)]
  refine ⟨rfl, ?_⟩
  by_cases c : hHas s.2.2.1 o = 0
  · rw [if_pos c]
    exact ⟨a1, a2, he, b1, b2, hh.2.2.1, hc, ht⟩
  · rw [if_neg c]
    exact ⟨a1, a2, by rw [he]; exact hh.2.2.2.2 (by omega), b1, b2, b3, hc, ht⟩
theorem cs_h0 (h : CSR m s e1 e2 e3 gc gt) (ho : 0 ≤ o ∧ o ≤ 3) (hn : hHas e3 o ≠ 0) : (0 : Int) = dsB rd 4 o u s ∧ CSR (m + 1) (dsS F base rd 4 o u s) e1 e2 e3 gc gt := by
  have hr := csr_r h
  have hh := h_f hr.2.2.1 hr.2.2.2 ho.1 ho.2
  have e := cs_h (F := F) (base := base) (rd := rd) (u := u) h ho (e3' := e3) (hh.2.2.2.2 (by omega)).symm
  rw [if_neg hn] at e
  exact e
theorem cs_h1 (h : CSR m s e1 e2 e3 gc gt) (ho : 0 ≤ o ∧ o ≤ 3) (hn : hHas e3 o = 0) : (1 : Int) = dsB rd 4 o u s ∧ CSR (m + 1) (dsS F base rd 4 o u s) e1 e2 (hSet e3 o) gc gt := by
  have e := cs_h (F := F) (base := base) (rd := rd) (u := u) h ho (e3' := hSet e3 o) rfl
  rw [if_pos hn] at e
  exact e
theorem cs_d0 (h : CSR m s e1 e2 e3 gc gt) (hd : ¬ e1 < 99) : (0 : Int) = dsB rd 5 o u s ∧ CSR (m + 1) (dsS F base rd 5 o u s) e1 e2 e3 gc gt := by
  have h2 := csr_m h (show m ≤ m + 1 by omega)
  obtain ⟨a1, -⟩ := id h
  subst a1
  unfold dsB dsS
  rw [if_neg (show ¬ (5 : Int) = 0 by decide), if_neg (show ¬ (5 : Int) = 1 by decide), if_neg (show ¬ (5 : Int) = 2 by decide), if_neg (show ¬ (5 : Int) = 3 by decide), if_neg (show ¬ (5 : Int) = 4 by decide), if_neg hd, if_neg (show ¬ (5 : Int) = 0 by decide), if_neg (show ¬ (5 : Int) = 1 by decide), if_neg (show ¬ (5 : Int) = 2 by decide), if_neg (show ¬ (5 : Int) = 3 by decide), if_neg (show ¬ (5 : Int) = 4 by decide), if_neg hd]
  exact ⟨rfl, h2⟩
theorem cs_d1 (h : CSR m s e1 e2 e3 gc gt) (hd : e1 < 99) : (1 : Int) = dsB rd 5 o u s ∧ CSR (m + 1) (dsS F base rd 5 o u s) (e1 + 1) e2 e3 gc gt := by
  obtain ⟨a1, a2, a3, b1, b2, b3, hc, ht⟩ := csr_m h (show m ≤ m + 1 by omega)
  subst a1
  unfold dsB dsS
  rw [if_neg (show ¬ (5 : Int) = 0 by decide), if_neg (show ¬ (5 : Int) = 1 by decide), if_neg (show ¬ (5 : Int) = 2 by decide), if_neg (show ¬ (5 : Int) = 3 by decide), if_neg (show ¬ (5 : Int) = 4 by decide), if_pos hd, if_neg (show ¬ (5 : Int) = 0 by decide), if_neg (show ¬ (5 : Int) = 1 by decide), if_neg (show ¬ (5 : Int) = 2 by decide), if_neg (show ¬ (5 : Int) = 3 by decide), if_neg (show ¬ (5 : Int) = 4 by decide), if_pos hd]
  exact ⟨rfl, rfl, a2, a3, ⟨by show 0 ≤ s.1 + 1; omega, by show s.1 + 1 ≤ 99; omega⟩, b2, b3, hc, ht⟩
theorem ds_1 (hu : 0 ≤ u ∧ u < rd) : (1 : Int) = dsB rd 0 o u s := by
  unfold dsB
  rw [if_pos rfl, if_pos hu]
theorem ds_x (h : CSR m s e1 e2 e3 gc gt) : dsB rd 3 o u s = if o = e2 then 0 else 1 := by
  rw [h.2.1]
  rfl
theorem ds_h (h : CSR m s e1 e2 e3 gc gt) : dsB rd 4 o u s = if hHas e3 o = 0 then 1 else 0 := by
  rw [h.2.2.1]
  rfl
theorem dsB_r (rd κ o u : Int) (s : CS) : 0 ≤ dsB rd κ o u s ∧ dsB rd κ o u s ≤ 1 := by
  unfold dsB
  (repeat' split) <;> omega
end CSX
def csN (F : Int → Int → Int) (base rd : Int) (K O U : Int → Int) : Nat → CS
  | 0 => cs0 base
  | m + 1 => dsS F base rd (K (m : Int)) (O (m : Int)) (U (m : Int)) (csN F base rd K O U m)
theorem csN_s {F : Int → Int → Int} {base rd : Int} {K O U : Int → Int} {k : Int} (h : 0 ≤ k) : csN F base rd K O U (k + 1).toNat = dsS F base rd (K k) (O k) (U k) (csN F base rd K O U k.toNat) := by
  obtain ⟨n, rfl⟩ := Int.eq_ofNat_of_zero_le h
  rfl
def okN (F : Int → Int → Int) (base rd : Int) (K O U : Int → Int) (k : Int) : Prop := ∀ j : Int, 0 ≤ j → j < k → dsB rd (K j) (O j) (U j) (csN F base rd K O U j.toNat) = 1
theorem okN_s {F : Int → Int → Int} {base rd : Int} {K O U : Int → Int} {k : Int} (h : okN F base rd K O U k) (e : dsB rd (K k) (O k) (U k) (csN F base rd K O U k.toNat) = 1) : okN F base rd K O U (k + 1) := fun j j0 j1 => by
  by_cases c : j = k
  · rw [c]
    exact e
  · exact h j j0 (by omega)
/-- how many of n DEEDS are done -/
def DON (F : Int → Int → Int) (base rd : Int) (K O U : Int → Int) (n v : Int) : Prop := 0 ≤ v ∧ okN F base rd K O U v ∧ (v = n ∨ (v < n ∧ dsB rd (K v) (O v) (U v) (csN F base rd K O U v.toNat) = 0))
theorem DON_u {F : Int → Int → Int} {base rd : Int} {K O U : Int → Int} {n v v' : Int} (h : DON F base rd K O U n v) (h' : DON F base rd K O U n v') : v = v' := by
  obtain ⟨a, b, c⟩ := h
  obtain ⟨a', b', c'⟩ := h'
  rcases Int.lt_trichotomy v v' with e | e | e
  · have z := b' v a e
    rcases c with c | ⟨_, c⟩
    · rcases c' with c' | ⟨d', _⟩ <;> omega
    · omega
  · exact e
  · have z := b v' a' e
    rcases c' with c' | ⟨_, c'⟩
    · rcases c with c | ⟨d, _⟩ <;> omega
    · omega
def DOK (κ o u : Int) : Prop := (0 ≤ κ ∧ κ ≤ 5) ∧ (κ ≠ 5 → 0 ≤ o ∧ o ≤ 3) ∧ (κ = 0 → 0 ≤ u ∧ u ≤ 4) ∧ (κ = 1 → (0 ≤ u ∧ u ≤ 3) ∧ o ≠ u)
def dft (a b : Int) : Int := ((eD (tW a.toNat) (tW b.toNat) (tLen a.toNat) (tLen b.toNat) : Nat) : Int)
theorem dft_r {a b : Int} : 0 ≤ dft a b ∧ dft a b ≤ 12 := by
  have h1 := eD_le (tW a.toNat) (tW b.toNat) (tLen a.toNat) (tLen b.toNat)
  have h2 := tLen_le a.toNat
  have h3 := tLen_le b.toNat
  unfold dft
  omega
def csUn (s : CS) : Nat → Int
  | 0 => 0
  | k + 1 => csUn s k + (if s.2.2.2.1 (k : Int) = s.2.2.2.1 s.2.1 then 0 else 1)
def csWn (base : Int) (C : Int → Int) : Nat → Int
  | 0 => 0
  | k + 1 => if dft (C (csWn base C k)) base < dft (C (k : Int)) base then (k : Int) else csWn base C k
def csU (s : CS) : Int := csUn s 4
def csW (base : Int) (C : Int → Int) : Int := csWn base C 4
theorem csUn_s {s : CS} {k : Int} (h : 0 ≤ k) : csUn s (k + 1).toNat = csUn s k.toNat + (if s.2.2.2.1 k = s.2.2.2.1 s.2.1 then 0 else 1) := by
  obtain ⟨n, rfl⟩ := Int.eq_ofNat_of_zero_le h
  rfl
theorem csWn_s {base : Int} {C : Int → Int} {k : Int} (h : 0 ≤ k) : csWn base C (k + 1).toNat = if dft (C (csWn base C k.toNat)) base < dft (C k) base then k else csWn base C k.toNat := by
  obtain ⟨n, rfl⟩ := Int.eq_ofNat_of_zero_le h
  rfl
theorem csWn_1 {base : Int} {C : Int → Int} : csWn base C 1 = 0 := by
  show (if dft (C 0) base < dft (C ((0 : Nat) : Int)) base then ((0 : Nat) : Int) else 0) = 0
  split <;> rfl
theorem csWn_r {base : Int} {C : Int → Int} : ∀ k : Nat, k ≤ 4 → 0 ≤ csWn base C k ∧ csWn base C k ≤ 3
  | 0, _ => ⟨Int.le_refl _, by show (0 : Int) ≤ 3; decide⟩
  | k + 1, h => by
    have ih := csWn_r (base := base) (C := C) k (by omega)
    show 0 ≤ (if dft (C (csWn base C k)) base < dft (C (k : Int)) base then (k : Int) else csWn base C k) ∧ (if dft (C (csWn base C k)) base < dft (C (k : Int)) base then (k : Int) else csWn base C k) ≤ 3
    split <;> omega
theorem csW_r {base : Int} {C : Int → Int} : 0 ≤ csW base C ∧ csW base C ≤ 3 := csWn_r 4 (Nat.le_refl _)
def csV (base rd : Int) (s : CS) (u : Int) : Int := if u = 0 then s.1 else if u = 1 then s.2.1 else if u = 2 then csU s else if u = 3 then csW base s.2.2.2.1 else if u = 4 then dft (s.2.2.2.1 (csW base s.2.2.2.1)) base else if u = 5 then s.2.2.1 else if 10 ≤ u ∧ u < 14 then s.2.2.2.1 (u - 10) else if 20 ≤ u ∧ u < 20 + rd then s.2.2.2.2 (u - 20) else -2
def sdN (x : Int) : Int := x * 1103515245 + 12345
def drw (x n : Int) : Int := bUsr x 16 % n
theorem usr_r (x : Int) : 0 ≤ bUsr x 16 ∧ bUsr x 16 ≤ 65535 := by
  have e : bUsr x 16 = (x % 4294967296) / 65536 := by
    unfold bUsr
    rw [x_ushr (e := x) (s := 16) (by omega), shr8_16, zti (by omega) (by omega)]
  omega
theorem drw_r (x : Int) {n : Int} (h : 0 < n) : 0 ≤ drw x n ∧ drw x n < n := ⟨Int.emod_nonneg _ (by omega), Int.emod_lt_of_pos _ h⟩
/-- a drawn DEED: the seed and the STATE -/
def dwS (F : Int → Int → Int) (base rd : Int) (p : Int × CS) : Int × CS :=
  if drw (sdN (sdN p.1)) 8 < 5 then (if 0 < rd then (sdN (sdN (sdN p.1)), dsS F base rd 0 (drw (sdN p.1) 4) (drw (sdN (sdN (sdN p.1))) rd) p.2) else (sdN (sdN p.1), p.2))
  else if drw (sdN (sdN p.1)) 8 = 5 then (sdN (sdN (sdN p.1)), dsS F base rd 1 (drw (sdN p.1) 4) (drw (sdN (sdN (sdN p.1))) 4) p.2)
  else if drw (sdN (sdN p.1)) 8 = 6 then (sdN (sdN p.1), dsS F base rd 4 (drw (sdN p.1) 4) (-1) p.2)
  else (sdN (sdN p.1), dsS F base rd 5 (drw (sdN p.1) 4) (-1) p.2)
def dwN (F : Int → Int → Int) (base rd x : Int) : Nat → Int × CS
  | 0 => (x, cs0 base)
  | m + 1 => dwS F base rd (dwN F base rd x m)
theorem dwN_s {F : Int → Int → Int} {base rd x : Int} {k : Int} (h : 0 ≤ k) : dwN F base rd x (k + 1).toNat = dwS F base rd (dwN F base rd x k.toNat) := by
  obtain ⟨n, rfl⟩ := Int.eq_ofNat_of_zero_le h
  rfl
def BKB (gk gs gi gn : Nat → Int32) : Prop := zB 0 3 gk ∧ zB 0 4 gs ∧ zB 0 4 gi ∧ zB 0 6 gn ∧ ∀ j, j < 20 → ((gi j).toInt = 0 → (gn j).toInt ≤ 3) ∧ (1 ≤ (gi j).toInt → (gi j).toInt ≤ 3 → 1 ≤ (gn j).toInt)
def BKF (F : Int → Int → Int) (n0 n1 : Int) (g1 g2 g3 g4 : Nat → Int32) : Prop := (0 ≤ n0 ∧ n0 ≤ 5460) ∧ (0 ≤ n1 ∧ n1 ≤ 5) ∧ BKB g1 g2 g3 g4 ∧ ∀ r t : Int, 0 ≤ r → r ≤ 4 → 0 ≤ t → t ≤ 5460 → cBY g1 g2 g3 g4 r t = F r t ∧ 0 ≤ F r t ∧ F r t ≤ 5460
def RBF (F : Int → Int → Int) (f20 f22 f23 : Int) (g20 : Nat → Int32) : Prop := bkOK g20 ∧ (0 ≤ f20 ∧ f20 ≤ 1) ∧ (0 ≤ f22 ∧ f22 ≤ 5460) ∧ (0 ≤ f23 ∧ f23 ≤ 5) ∧ ∀ r t : Int, 0 ≤ r → r ≤ 4 → 0 ≤ t → t ≤ 5460 → rBY g20 (51 * f20) r t = F r t ∧ 0 ≤ F r t ∧ F r t ≤ 5460
theorem x_fillI (w : zW) (d q : Nat) (a1 : Int) (g : Nat → Int32) (len : Nat) (hK0 : zix w q = some (.inl (1, len, .inl g))) (hr0 : len ≤ 60000 ∧ r32 a1) (Q : zQ) (h : ∀ (T' : Nat → Int32) (w' : zW), wfM (fun j => j ≠ q) w w' → zix w' q = some (.inl (1, len, .inl T')) → (∀ i : Int, 0 ≤ i → i < len → tBy T' i = a1) → Q none w') : zCl zTab (d + 1) iJ7_fill_53178 [.ref q, .int (Int32.ofInt a1)] w 0 0 Q := by
  refine zCl_i (M := kJ7_fill_53178) rfl (Nat.le_of_ble_eq_true rfl) fun R hR => ?_
  have loop : ∀ (N : Nat) (i : Int) (w1 : zW) (g1 : Nat → Int32), 0 ≤ i → i ≤ len → wfM (fun j => j ≠ q) w w1 → zix w1 q = some (.inl (1, len, .inl g1)) → (∀ j : Int, 0 ≤ j → j < i → tBy g1 j = a1) → len - i < N → R (5, [some (.ref q), some (.int (Int32.ofInt a1)), some (.int (Int32.ofInt i)), some (.int (Int32.ofInt len))], [], w1, 0, 0) := by
    intro N
    induction N with
    | zero => intros; omega
    | succ N ih =>
      intro i w1 g1 h0 h1 hf hg hc hN
      iterate 2 refine hR (?_ : R (_, _, _, _, _, _))
      refine hR (j_ge (by omega) (by omega) (fun hc1 => ?_) (fun hc1 => ?_))
      · exact hR (zret_i rfl (Nat.le_refl _) rfl (h g1 w1 hf hg fun j j0 j1 => hc j j0 (by omega)))
      iterate 3 refine hR (?_ : R (_, _, _, _, _, _))
      refine hR (x_ast hg h0 (by omega) hr0.1 fun w2 f2 hg2 => ?_)
      refine hR (t_inc ?_)
      refine hR (?_ : R (_, _, _, _, _, _))
      refine ih (i + 1) _ _ (by omega) (by omega) (wfM_st hf f2 fun j hj => hj) hg2 (fun j j0 j1 => ?_) (by omega)
      rw [zupI hr0.2 h0 j0]
      by_cases e : j = i
      · rw [if_pos e]
      · rw [if_neg e]
        exact hc j j0 (by omega)
  iterate 3 refine hR (?_ : R (_, _, _, _, _, _))
  refine hR (c_len hK0 rfl ?_)
  refine hR (?_ : R (_, _, _, _, _, _))
  exact loop (len + 1) 0 w g (by omega) (by omega) (wfM_rf _ w) hK0 (fun j j0 j1 => by omega) (by omega)
theorem x_driftI (w : zW) (d : Nat) (a1 a2 : Int) (hr0 : 0 ≤ a1 ∧ a1 ≤ 5460) (hr1 : 0 ≤ a2 ∧ a2 ≤ 5460) (Q : zQ) (h : ∀ v : Int, v = dft a1 a2 → Q (some (.int (Int32.ofInt v))) w) : zCl zTab (d + 3) iX11_driftOf [.int (Int32.ofInt a1), .int (Int32.ofInt a2)] w 0 0 Q := by
  obtain ⟨t, rfl⟩ := Int.eq_ofNat_of_zero_le hr0.1
  obtain ⟨j, rfl⟩ := Int.eq_ofNat_of_zero_le hr1.1
  refine r_driftOf d _ _ t j rfl (by omega) rfl (by omega) w Q ?_
  rw [ue_eD]
  exact h _ rfl
theorem x_bReadI (w : zW) (d q : Nat) (a1 a2 n0 n1 n2 : Int) (g1 g2 g3 g4 : Nat → Int32) (hK0 : zix w q = some (.inr (0, [.int (Int32.ofInt n0), .int (Int32.ofInt n1), .int (Int32.ofInt n2), .ref (q + 1), .ref (q + 2), .ref (q + 3), .ref (q + 4)]))) (hK1 : zix w (q + 1) = some (.inl (1, 4, .inl g1))) (hK2 : zix w (q + 2) = some (.inl (1, 5, .inl g2))) (hK3 : zix w (q + 3) = some (.inl (1, 20, .inl g3))) (hK4 : zix w (q + 4) = some (.inl (1, 20, .inl g4))) (hr0 : 0 ≤ a1 ∧ a1 ≤ 4) (hr1 : 0 ≤ a2 ∧ a2 ≤ 5460) (hr2 : BKB g1 g2 g3 g4) (Q : zQ) (h : ∀ v : Int, v = cBY g1 g2 g3 g4 a1 a2 → Q (some (.int (Int32.ofInt v))) w) : zCl zTab (d + 3) iX0_readBy [.ref q, .int (Int32.ofInt a1), .int (Int32.ofInt a2)] w 0 0 Q :=
  x_bRead (q := q) (g1 := g1) (g2 := g2) (g3 := g3) (g4 := g4) ⟨⟨n0, n1, n2, hK0⟩, hK1, hK2, hK3, hK4, hr2⟩ d a1 a2 hr0 hr1 Q (h _ rfl)
