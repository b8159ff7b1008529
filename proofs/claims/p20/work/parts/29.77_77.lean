theorem ed_cong {u u' v v' : Nat → Nat} {n m : Nat} (hu : ∀ i, i < n → u i = u' i) (hv : ∀ i, i < m → v i = v' i) : eD u v n m = eD u' v' n m := by
  have key : ∀ (f g : Nat → Nat) (n : Nat), (∀ i, i < n → f i = g i) → rl f n = rl g n := by
    intro f g n
    induction n with
    | zero => intro _; rfl
    | succ n ih => intro hh; show f n :: rl f n = g n :: rl g n; rw [hh n (by omega), ih (fun i hi => hh i (by omega))]
  unfold eD
  rw [key u u' n hu, key v v' m hv]
theorem ue_eD (a b : Nat) : eD (ue a) (ue b) (tLen a) (tLen b) = eD (tW a) (tW b) (tLen a) (tLen b) := by
  rw [← eD_rev (tW a) (tW b) (tLen a) (tLen b)]
  refine ed_cong (fun i hi => ?_) (fun i hi => ?_)
  · have h := tB_w a (tLen a - 1 - i) (by omega)
    rw [show tLen a - 1 - (tLen a - 1 - i) = i by omega] at h
    exact h
  · have h := tB_w b (tLen b - 1 - i) (by omega)
    rw [show tLen b - 1 - (tLen b - 1 - i) = i by omega] at h
    exact h
noncomputable def num (l : List Nat) : Nat := l.foldl (fun t w => 4 * t + 1 + w) 0
