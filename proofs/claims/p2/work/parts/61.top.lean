/-! THE CLASS AS A WHOLE: what holds between its calls. -/
abbrev rfa (ti len : Nat) (g : Nat → Option Nat) : va_E := .inl (ti, len, .inr (.inr (.inr (.inr g))))
theorem up_s {α : Type} {f : Nat → α} {k : Nat} {v : α} : va_up f k v k = v := if_pos rfl
theorem up_n {α : Type} {f : Nat → α} {k j : Nat} {v : α} (h : j ≠ k) : va_up f k v j = f j := if_neg h
theorem rfEq {t n t' n' : Nat} {g g' : Nat → Option Nat} (h : (some (rfa t n g) : Option va_E) = some (rfa t' n' g')) : g = g' :=
  congrArg (fun o : Option va_E => match o with
    | some (.inl (_, _, .inr (.inr (.inr (.inr g))))) => g
    | _ => fun _ => none) h
theorem LE_eq {w w' : zW} {p : Nat} {l : Int} (h : zix w' p = zix w p) (hl : LE w p l) : LE w' p l := by
  obtain ⟨x, fs, a, b⟩ := hl
  exact ⟨x, fs, h.trans a, b⟩
theorem LE_u {w : zW} {p : Nat} {l : Int} {x : Value} {fs : List Value} {y : Int} (hl : LE w p l) (hO : zix w p = some (.inr (7, x :: .int (Int32.ofInt y) :: fs))) (hy : 0 ≤ y ∧ y ≤ 600) : y = l := by
  obtain ⟨x', fs', a, b⟩ := hl
  exact (f1Eq (by omega) (by omega) (a.symm.trans hO)).symm
/-- the tape's length, and that of the images -/
def IM (w : zW) (l : Int) (m : Nat → Option Int) : Prop := LE w 1 l ∧ ∃ g : Nat → Option Nat, zix w 7 = some (rfa 6 3 g) ∧ (∀ k, k < 3 → (g k = none ∧ m k = none) ∨ ∃ q x, g k = some q ∧ m k = some x ∧ 45 ≤ q ∧ LE w q x) ∧ (∀ j k q, j < 3 → k < 3 → g j = some q → g k = some q → j = k)
def TOP (ρ : Nat → Nat) (w : zW) : Prop := CI ρ w ∧ ρ 0 = 1 ∧ AWK ρ w ∧ (∀ q, 14 ≤ q → q ≤ 44 → ρ q = 0) ∧ 45 ≤ w.length
def KEEP (w w' : zW) : Prop := ∀ q, 14 ≤ q → q ≤ 44 → zix w' q = zix w q
theorem KEEP_tr {w w1 w2 : zW} (h : KEEP w w1) (h2 : KEEP w1 w2) : KEEP w w2 := fun q a b => (h2 q a b).trans (h q a b)
def pnr (c : Nat) (o : Option Nat) : Nat := match o with
  | none => c
  | some _ => 0
def pnv (c : Nat) (v : Value) : Nat := match v with
  | .null => c
  | _ => 0
def ph2 (c : Nat) (e : Option va_E) : Nat := match e with
  | some (.inl (_, _, .inr (.inr (.inr (.inr g))))) => pnr c (g 0) + pnr c (g 1)
  | _ => 0
def ph3 (c : Nat) (e : Option va_E) : Nat := match e with
  | some (.inl (_, _, .inr (.inr (.inr (.inr g))))) => pnr c (g 0) + pnr c (g 1) + pnr c (g 2)
  | _ => 0
def ph0 (e : Option va_E) : Nat := match e with
  | some (.inr (_, _ :: _ :: _ :: _ :: _ :: _ :: a :: b :: _)) => pnv 83000 a + pnv 49200 b
  | _ => 0
/-- what is still to be made -/
def phi (w : zW) : Nat := ph0 (zix w 0) + ph3 700 (zix w 7) + ph2 38300 (zix w 12) + ph2 21900 (zix w 13)
theorem phi_eq {w w' : zW} (h0 : zix w' 0 = zix w 0) (h7 : zix w' 7 = zix w 7) (h12 : zix w' 12 = zix w 12) (h13 : zix w' 13 = zix w 13) : phi w' = phi w := by
  unfold phi
  rw [h0, h7, h12, h13]
theorem top_o {ρ : Nat → Nat} {w : zW} (h : TOP ρ w) : ∃ y6 y7 : Option Nat, zix w 0 = some (.inr (10, [.ref 1, .ref 7, .ref 8, .ref 9, .ref 12, .ref 13, va_rf y6, va_rf y7])) ∧ ρ 1 = 2 ∧ ρ 7 = 8 ∧ ρ 8 = 9 ∧ ρ 9 = 10 ∧ ρ 12 = 13 ∧ ρ 13 = 14 ∧ (∀ z, y6 = some z → ρ z = 70) ∧ (∀ z, y7 = some z → ρ z = 80) := CI_o1 h.1 h.2.1
theorem im_role {ρ : Nat → Nat} {w : zW} {l : Int} {m : Nat → Option Int} (h : TOP ρ w) {g : Nat → Option Nat} (hg : zix w 7 = some (rfa 6 3 g)) {k q : Nat} (hq : g k = some q) : ρ q = 2 := by
  obtain ⟨y6, y7, h0, r1, r7, r8, r9, r12, r13, e6, e7⟩ := top_o h
  obtain ⟨g', a, b⟩ := CI_rf h.1 (q := 7) (by rw [r7]; rfl) (by rw [r7]; rfl)
  obtain rfl := rfEq (a.symm.trans hg)
  exact b k q hq
theorem im_eq {w w' : zW} {l : Int} {m : Nat → Option Int} (h1 : zix w' 1 = zix w 1) (h7 : zix w' 7 = zix w 7) (hq : ∀ g k q, zix w 7 = some (rfa 6 3 g) → g k = some q → 45 ≤ q → zix w' q = zix w q) (h : IM w l m) : IM w' l m := by
  obtain ⟨a, g, b, c, d⟩ := h
  refine ⟨LE_eq h1 a, g, h7.trans b, fun k hk => ?_, d⟩
  rcases c k hk with e | ⟨q, x, e1, e2, e3, e4⟩
  · exact Or.inl e
  · exact Or.inr ⟨q, x, e1, e2, e3, LE_eq (hq g k q b e1 e3) e4⟩
/-- a stretch that touches neither what is told nor the object itself -/
theorem top_fr {rs : List Nat} {ρ : Nat → Nat} {w w' : zW} (hT : TOP ρ w) (hc : CI ρ w') (hf : wfR rs ρ w w') (hrs : 0 ∉ rs ∧ 1 ∉ rs ∧ 2 ∉ rs ∧ 8 ∉ rs ∧ 13 ∉ rs ∧ 14 ∉ rs) (hwk : AWK ρ w') : TOP ρ w' ∧ (∀ l m, IM w l m → IM w' l m) ∧ phi w' = phi w ∧ KEEP w w' := by
  obtain ⟨y6, y7, h0, r1, r7, r8, r9, r12, r13, e6, e7⟩ := top_o hT
  have c0 : zix w' 0 = zix w 0 := hf.2 0 (by rw [hT.2.1]; exact hrs.2.1)
  have c1 : zix w' 1 = zix w 1 := hf.2 1 (by rw [r1]; exact hrs.2.2.1)
  have c7 : zix w' 7 = zix w 7 := hf.2 7 (by rw [r7]; exact hrs.2.2.2.1)
  have c12 : zix w' 12 = zix w 12 := hf.2 12 (by rw [r12]; exact hrs.2.2.2.2.1)
  have c13 : zix w' 13 = zix w 13 := hf.2 13 (by rw [r13]; exact hrs.2.2.2.2.2)
  refine ⟨⟨hc, hT.2.1, hwk, hT.2.2.2.1, by rw [hf.1]; exact hT.2.2.2.2⟩, fun l m h => im_eq c1 c7 (fun g k q hg hq _ => hf.2 q ?_) h, phi_eq c0 c7 c12 c13, fun q a b => hf.2 q (by rw [hT.2.2.2.1 q a b]; exact hrs.1)⟩
  · rw [im_role (l := 0) (m := fun _ => none) hT hg hq]; exact hrs.2.2.1
def EXT (ρ σ : Nat → Nat) : Prop := ∀ q, ρ q ≠ 0 → σ q = ρ q
theorem EXT_rf (ρ : Nat → Nat) : EXT ρ ρ := fun _ _ => rfl
theorem EXT_tr {ρ σ τ : Nat → Nat} (h : EXT ρ σ) (h2 : EXT σ τ) : EXT ρ τ := fun q hq => (h2 q (by rw [h q hq]; exact hq)).trans (h q hq)
/-- new cells behind the last one -/
theorem top_gro {ρ σ : Nat → Nat} {w w' : zW} (hT : TOP ρ w) (hc : CI σ w') (hg : GRO ρ w σ w') (hwk : ∀ q, w.length ≤ q → σ q = 60 → WK w' q) : TOP σ w' ∧ (∀ l m, IM w l m → IM w' l m) ∧ phi w' = phi w ∧ KEEP w w' ∧ EXT ρ σ := by
  have hx : EXT ρ σ := fun q hq => (hg.2 q (CI_lt hT.1 hq)).1
  have h45 := hT.2.2.2.2
  have lo : ∀ q, q < 45 → zix w' q = zix w q := fun q hq => (hg.2 q (by omega)).2
  refine ⟨⟨hc, (hx 0 (by rw [hT.2.1]; decide)).trans hT.2.1, fun q hq => ?_, fun q a b => (hg.2 q (by omega)).1.trans (hT.2.2.2.1 q a b), Nat.le_trans h45 hg.1⟩, fun l m h => im_eq (lo 1 (by omega)) (lo 7 (by omega)) (fun g k q hg' hq _ => (hg.2 q ?_).2) h, phi_eq (lo 0 (by omega)) (lo 7 (by omega)) (lo 12 (by omega)) (lo 13 (by omega)), fun q a b => lo q (by omega), hx⟩
  · by_cases e : q < w.length
    · have e1 := (hg.2 q e).1
      rw [hq] at e1
      obtain ⟨x0, hO, hx0, f1, f2, f3, f4⟩ := CI_o60 hT.1 e1.symm
      have l1 : q + 1 < w.length := CI_lt hT.1 (by rw [f1]; decide)
      have l2 : q + 2 < w.length := CI_lt hT.1 (by rw [f2]; decide)
      have l3 : q + 3 < w.length := CI_lt hT.1 (by rw [f3]; decide)
      obtain ⟨sz, gq, gn, gb, ⟨a, b, c⟩, d, e', f⟩ := hT.2.2.1 q e1.symm
      exact ⟨sz, gq, gn, gb, ⟨a, (hg.2 _ e).2.trans b, (hg.2 _ l2).2.trans c⟩, (hg.2 _ l1).2.trans d, (hg.2 _ l3).2.trans e', f⟩
    · exact hwk q (by omega) hq
  · exact CI_lt hT.1 (by rw [im_role (l := 0) (m := fun _ => none) hT hg' hq]; decide)
section RS
variable {R : zS → Prop} {np : Nat} {L : zL} {S : List Value} {w : zW} {k n : Nat} {ρ : Nat → Nat}
theorem c_rst {q ti len re p : Nat} {i : Int} {g : Nat → Option Nat} {fs : List Value} (hw : CI ρ w) (ha : rAr (ρ q) = none) (hr : rRf (ρ q) = some (ti, len, re)) (ht : (Nat.ble 3 ti && Nat.ble ti 8) = true) (hm : ρ q ≠ 23 ∧ ρ q ≠ 24) (hg : zix w q = some (rfa ti len g)) (hp : ρ p = re) (hpo : zix w p = some (.inr (zec ti, fs))) (h0 : 0 ≤ i) (h1 : i < len) (hl : len ≤ 60000) (hk : ∀ w1, CI ρ w1 → wfr q w w1 → zix w1 q = some (rfa ti len (va_up g i.toNat (some p))) → R (np, L, S, w1, k, n)) : zaq w q (fun ti len g => zif (Nat.ble 3 ti && Nat.ble ti 8) (zrn2 (.ref p) (fun q2 => zob w q2 (zec ti) fun _ => vp_in (Int32.ofInt i) len ∧ R (np, L, S, zst w q (.inl (ti, len, .inr (.inr (.inr (.inr (va_up g (Int32.ofInt i).toNatClampNeg (some q2))))))), k, n)) (vp_in (Int32.ofInt i) len ∧ R (np, L, S, zst w q (.inl (ti, len, .inr (.inr (.inr (.inr (va_up g (Int32.ofInt i).toNatClampNeg none)))))), k, n)))) := by
  unfold zaq
  rw [hg]
  dsimp only
  rw [ht]
  show zob w p (zec ti) _
  refine c_obj hpo ⟨zvin h0 h1 hl, ?_⟩
  rw [zcl h0 (by omega)]
  obtain ⟨f1, f2⟩ := wfr_st (c' := rfa ti len (va_up g i.toNat (some p))) hg
  refine hk _ (CI_st hw f1 f2 ?_ hm) f1 f2
  obtain ⟨g', a, b⟩ := CI_rf hw ha hr
  obtain rfl := rfEq (a.symm.trans hg)
  unfold rOK
  rw [ha, hr]
  refine ⟨_, rfl, fun j x hx => ?_⟩
  by_cases e : j = i.toNat
  · subst e
    rw [up_s] at hx
    cases hx
    exact hp
  · rw [up_n e] at hx
    exact b j x hx
theorem c_rsn {q ti len re : Nat} {i : Int} {g : Nat → Option Nat} (hw : CI ρ w) (ha : rAr (ρ q) = none) (hr : rRf (ρ q) = some (ti, len, re)) (ht : (Nat.ble 3 ti && Nat.ble ti 8) = true) (hm : ρ q ≠ 23 ∧ ρ q ≠ 24) (hg : zix w q = some (rfa ti len g)) (h0 : 0 ≤ i) (h1 : i < len) (hl : len ≤ 60000) (hk : ∀ w1, CI ρ w1 → wfr q w w1 → zix w1 q = some (rfa ti len (va_up g i.toNat none)) → R (np, L, S, w1, k, n)) : zaq w q (fun ti len g => zif (Nat.ble 3 ti && Nat.ble ti 8) (zrn2 .null (fun q2 => zob w q2 (zec ti) fun _ => vp_in (Int32.ofInt i) len ∧ R (np, L, S, zst w q (.inl (ti, len, .inr (.inr (.inr (.inr (va_up g (Int32.ofInt i).toNatClampNeg (some q2))))))), k, n)) (vp_in (Int32.ofInt i) len ∧ R (np, L, S, zst w q (.inl (ti, len, .inr (.inr (.inr (.inr (va_up g (Int32.ofInt i).toNatClampNeg none)))))), k, n)))) := by
  unfold zaq
  rw [hg]
  dsimp only
  rw [ht]
  show _ ∧ _
  refine ⟨zvin h0 h1 hl, ?_⟩
  rw [zcl h0 (by omega)]
  obtain ⟨f1, f2⟩ := wfr_st (c' := rfa ti len (va_up g i.toNat none)) hg
  refine hk _ (CI_st hw f1 f2 ?_ hm) f1 f2
  obtain ⟨g', a, b⟩ := CI_rf hw ha hr
  obtain rfl := rfEq (a.symm.trans hg)
  unfold rOK
  rw [ha, hr]
  refine ⟨_, rfl, fun j x hx => ?_⟩
  by_cases e : j = i.toNat
  · subst e
    rw [up_s] at hx
    cases hx
  · rw [up_n e] at hx
    exact b j x hx
/-- an exact reference out of an array -/
theorem c_rldE {q ti len : Nat} {i : Int} {g : Nat → Option Nat} (hg : zix w q = some (rfa ti len g)) (ht : (Nat.ble 3 ti && Nat.ble ti 8) = true) (h0 : 0 ≤ i) (h1 : i < len) (hl : len ≤ 60000) {v : Value} (hv : va_rf (g i.toNat) = v) (hk : R (np, L, v :: S, w, k, n)) : zaq w q (fun ti len g => zif (Nat.ble 3 ti && Nat.ble ti 8) (vp_in (Int32.ofInt i) len ∧ R (np, L, va_rf (g (Int32.ofInt i).toNatClampNeg) :: S, w, k, n))) := by
  unfold zaq
  rw [hg]
  dsimp only
  rw [ht]
  show _ ∧ _
  rw [zcl h0 (by omega), hv]
  exact ⟨zvin h0 h1 hl, hk⟩
end RS
theorem top_st {σ : Nat → Nat} {w1 w2 : zW} {q0 : Nat} (hT : TOP σ w1) (hc : CI σ w2) (f : wfr q0 w1 w2) (hq : σ q0 = 1 ∨ σ q0 = 13 ∨ σ q0 = 14) : TOP σ w2 ∧ (∀ l m, IM w1 l m → IM w2 l m) ∧ KEEP w1 w2 := by
  obtain ⟨y6, y7, h0, r1, r7, r8, r9, r12, r13, e6, e7⟩ := top_o hT
  have hf : wfR [1, 13, 14] σ w1 w2 := wfR_st (wfR_rf _ _ _) f (by rcases hq with h | h | h <;> rw [h] <;> decide)
  refine ⟨⟨hc, hT.2.1, AWK_fr hT.1 hf hT.2.2.1 (by decide), hT.2.2.2.1, by rw [f.1]; exact hT.2.2.2.2⟩, fun l m h => im_eq (f.2 1 (fun e => by rw [← e, r1] at hq; omega)) (f.2 7 (fun e => by rw [← e, r7] at hq; omega)) (fun g k q hg hq' _ => f.2 q (fun e => ?_)) h, fun q a b => f.2 q (fun e => by rw [← e, hT.2.2.2.1 q a b] at hq; omega)⟩
  rw [← e, im_role (l := 0) (m := fun _ => none) hT hg hq'] at hq
  omega
theorem ph2_up {c i p t n : Nat} {g : Nat → Option Nat} (hi : i ≤ 1) (hn : g i = none) : ph2 c (some (rfa t n (va_up g i (some p)))) + c = ph2 c (some (rfa t n g)) := by
  show pnr c (va_up g i (some p) 0) + pnr c (va_up g i (some p) 1) + c = pnr c (g 0) + pnr c (g 1)
  have h : i = 0 ∨ i = 1 := by omega
  rcases h with rfl | rfl
  · rw [up_s, up_n (by decide), hn]; show 0 + _ + c = c + _; omega
  · rw [up_s, up_n (by decide), hn]; show _ + 0 + c = _ + c; omega
theorem phi_13 {w1 w2 : zW} {i p : Nat} {g : Nat → Option Nat} (f : wfr 13 w1 w2) (hg : zix w1 13 = some (rfa 8 2 g)) (hg2 : zix w2 13 = some (rfa 8 2 (va_up g i (some p)))) (hi : i ≤ 1) (hn : g i = none) : phi w2 + 21900 = phi w1 := by
  have := ph2_up (c := 21900) (p := p) (t := 8) (n := 2) hi hn
  unfold phi
  rw [hg, hg2, f.2 0 (by decide), f.2 7 (by decide), f.2 12 (by decide)]
  omega
theorem phi_12 {w1 w2 : zW} {i p : Nat} {g : Nat → Option Nat} (f : wfr 12 w1 w2) (hg : zix w1 12 = some (rfa 7 2 g)) (hg2 : zix w2 12 = some (rfa 7 2 (va_up g i (some p)))) (hi : i ≤ 1) (hn : g i = none) : phi w2 + 38300 = phi w1 := by
  have := ph2_up (c := 38300) (p := p) (t := 7) (n := 2) hi hn
  unfold phi
  rw [hg, hg2, f.2 0 (by decide), f.2 7 (by decide), f.2 13 (by decide)]
  omega
theorem phi_0 {w1 w2 : zW} {a b a2 b2 : Value} {v1 v2 v3 v4 v5 v6 : Value} {c : Nat} (f : wfr 0 w1 w2) (h1 : zix w1 0 = some (.inr (10, [v1, v2, v3, v4, v5, v6, a, b]))) (h2 : zix w2 0 = some (.inr (10, [v1, v2, v3, v4, v5, v6, a2, b2]))) (hc : pnv 83000 a2 + pnv 49200 b2 + c = pnv 83000 a + pnv 49200 b) : phi w2 + c = phi w1 := by
  unfold phi
  rw [h1, h2, f.2 7 (by decide), f.2 12 (by decide), f.2 13 (by decide)]
  show pnv 83000 a2 + pnv 49200 b2 + _ + _ + _ + c = pnv 83000 a + pnv 49200 b + _ + _ + _
  omega
