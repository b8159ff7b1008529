/-! TOOLS for walks in the pure machine. -/
/-- one step, its state by its parts -/
def zsc (C : zCT) (d : Nat) (M : zM) (E : zX) (tab : List zM) (mc ms : Nat) (Q : zQ) (pc : Nat) (L : zL) (S : List Value) (w : zW) (k n : Nat) (K : zS → Prop) : Prop :=
  match zat M.2.2.2.2.2 pc with
  | none => False
  | some e => zins C d M E tab mc ms Q pc L S w k n e.1 e.2.1 e.2.2.1 e.2.2.2 K
theorem zCl_i {tab : List zM} {d a mc ms : Nat} {As : List Value} {w : zW} {Q : zQ} {M : zM} (hM : zix tab a = some M) (hl : (lg_sl As).length ≤ M.2.2.1) (h : ∀ R : zS → Prop, (∀ {pc : Nat} {L : zL} {S : List Value} {w : zW} {k n : Nat}, zsc (zCl tab d) d M none tab mc ms Q pc L S w k n R → R (pc, L, S, w, k, n)) → R (0, zent M.2.2.1 As, [], w, 0, 0)) : zCl tab (d + 1) a As w mc ms Q := by
  unfold zCl
  rw [hM]
  exact ⟨hl, fun R hR => h R (fun {pc L S w k n} q => zR hR (pc, L, S, w, k, n) q)⟩
theorem zcall_i {C : zCT} {a : Nat} {As S : List Value} {w : zW} {k n mc ms np : Nat} {L : zL} {K : zS → Prop} (mc' ms' : Nat) (h1 : k + mc' ≤ mc) (h2 : n + ms' ≤ ms) (h : C a As w mc' ms' (fun r w' => K (np, L, r.toList ++ S, w', k + mc', n + ms'))) : zcall C a As S w k n mc ms np L K := ⟨mc', ms', ⟨h1, h2⟩, h⟩
theorem zret_i {k n mc ms : Nat} {A B : Prop} (h1 : k = mc) (h2 : n ≤ ms) (h3 : A) (h4 : B) : zfin none k n mc ms ∧ A ∧ B := ⟨⟨h1, h2⟩, h3, h4⟩
theorem r_isText (d : Nat) (n : Int32) (w : zW) (Q : zQ) (h1 : ¬ n < 0 → n < 5461 → Q (some (.int (Int32.ofInt 1))) w) (h0 : n < 0 ∨ 5461 ≤ n → Q (some (.int (Int32.ofInt 0))) w) : zCl zTab (d + 1) iX11_isText [.int n] w 0 0 Q := by
  refine zCl_i (M := kX11_isText) rfl (Nat.le_of_ble_eq_true rfl) fun R hR => ?_
  refine hR (?_ : R (_, _, _, _, _, _))
  refine hR (And.intro (fun hc1 => ?_) (fun hc1 => ?_))
  · refine hR (?_ : R (_, _, _, _, _, _))
    refine hR (zret_i rfl (Nat.le_refl _) ?_ ?_)
    · exact Or.inl rfl
    · exact h0 (Or.inl hc1)
  iterate 2 refine hR (?_ : R (_, _, _, _, _, _))
  refine hR (And.intro (fun hc2 => ?_) (fun hc2 => ?_))
  · refine hR (?_ : R (_, _, _, _, _, _))
    refine hR (zret_i rfl (Nat.le_refl _) ?_ ?_)
    · exact Or.inl rfl
    · exact h0 (Or.inr hc2)
  iterate 2 refine hR (?_ : R (_, _, _, _, _, _))
  refine hR (zret_i rfl (Nat.le_refl _) ?_ ?_)
  · exact Or.inr rfl
  · exact h1 hc1 (Int32.not_le.mp hc2)
