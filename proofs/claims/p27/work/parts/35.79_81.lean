/-! TWO RUNS OF ONE CALL END ALIKE: so what is proved of its answer in one way, and of its world in another, holds together. -/
noncomputable def sim (u v : zS) : Prop := u.1 = v.1 ∧ u.2.1 = v.2.1 ∧ u.2.2.1 = v.2.2.1 ∧ u.2.2.2.1 = v.2.2.2.1
noncomputable def RLx (F G : zF) : Prop := ∀ mc ms Q K mc' ms' Q' K', F mc ms Q K → G mc' ms' Q' K' → (∃ u v, K u ∧ K' v ∧ sim u v) ∨ (∃ r w, Q r w ∧ Q' r w)
section RLs
variable {F G F2 G2 : zF}
theorem rl_F : RLx (fun _ _ _ _ => False) G := fun _ _ _ _ _ _ _ _ h => h.elim
theorem rl_K {u v : zS} (h : sim u v) : RLx (fun _ _ _ K => K u) (fun _ _ _ K => K v) := fun _ _ _ _ _ _ _ _ a b => Or.inl ⟨u, v, a, b, h⟩
theorem rl_zif {b : Nat → Nat → Bool} {c : Nat → Nat → Bool} (h : RLx F G) : RLx (fun mc ms Q K => zif (b mc ms) (F mc ms Q K)) (fun mc ms Q K => zif (c mc ms) (G mc ms Q K)) := by
  intro mc ms Q K mc' ms' Q' K' a d
  have a : zif (b mc ms) (F mc ms Q K) := a
  have d : zif (c mc' ms') (G mc' ms' Q' K') := d
  cases e1 : b mc ms <;> rw [e1] at a
  · exact a.elim
  · cases e2 : c mc' ms' <;> rw [e2] at d
    · exact d.elim
    · exact h _ _ _ _ _ _ _ _ a d
theorem rl_zor {b : Bool} (h : RLx F G) (h2 : RLx F2 G2) : RLx (fun mc ms Q K => zor b (F mc ms Q K) (F2 mc ms Q K)) (fun mc ms Q K => zor b (G mc ms Q K) (G2 mc ms Q K)) := by
  cases b
  · exact h2
  · exact h
theorem rl_and {P P' : Prop} (h : RLx F G) : RLx (fun mc ms Q K => P ∧ F mc ms Q K) (fun mc ms Q K => P' ∧ G mc ms Q K) := fun _ _ _ _ _ _ _ _ a b => h _ _ _ _ _ _ _ _ a.2 b.2
theorem rl_br {P : Prop} (h : RLx F G) (h2 : RLx F2 G2) : RLx (fun mc ms Q K => (P → F mc ms Q K) ∧ (¬ P → F2 mc ms Q K)) (fun mc ms Q K => (P → G mc ms Q K) ∧ (¬ P → G2 mc ms Q K)) := by
  intro _ _ _ _ _ _ _ _ a b
  by_cases hp : P
  · exact h _ _ _ _ _ _ _ _ (a.1 hp) (b.1 hp)
  · exact h2 _ _ _ _ _ _ _ _ (a.2 hp) (b.2 hp)
theorem rl_rb {P : Prop} (h : RLx F G) (h2 : RLx F2 G2) : RLx (fun mc ms Q K => (¬ P → F mc ms Q K) ∧ (P → F2 mc ms Q K)) (fun mc ms Q K => (¬ P → G mc ms Q K) ∧ (P → G2 mc ms Q K)) := by
  intro _ _ _ _ _ _ _ _ a b
  by_cases hp : P
  · exact h2 _ _ _ _ _ _ _ _ (a.2 hp) (b.2 hp)
  · exact h _ _ _ _ _ _ _ _ (a.1 hp) (b.1 hp)
theorem rl_ex {H H' : Int → zF} {o : Option Int} (h : ∀ x, RLx (H x) (H' x)) : RLx (fun mc ms Q K => ∃ x, o = some x ∧ H x mc ms Q K) (fun mc ms Q K => ∃ x, o = some x ∧ H' x mc ms Q K) := by
  rintro _ _ _ _ _ _ _ _ ⟨x, hx, a⟩ ⟨y, hy, b⟩
  rw [hx] at hy
  cases hy
  exact h x _ _ _ _ _ _ _ _ a b
theorem rl_fin {E : zX} {P P' : Prop} {r : Option Value} {w : zW} {k n k' n' : Nat} : RLx (fun mc ms Q _ => zfin E k n mc ms ∧ P ∧ Q r w) (fun mc ms Q _ => zfin E k' n' mc ms ∧ P' ∧ Q r w) := fun _ _ _ _ _ _ _ _ a b => Or.inr ⟨r, w, a.2.2, b.2.2⟩
theorem rl_call {C : zCT} (hC : ∀ a As w mc ms Q mc' ms' Q', C a As w mc ms Q → C a As w mc' ms' Q' → ∃ r w', Q r w' ∧ Q' r w') {a : Nat} {As S : List Value} {w : zW} {np k n k' n' : Nat} {L : zL} : RLx (fun mc ms _ K => zcall C a As S w k n mc ms np L K) (fun mc ms _ K => zcall C a As S w k' n' mc ms np L K) := by
  rintro _ _ _ _ _ _ _ _ ⟨m1, m2, _, h1⟩ ⟨m3, m4, _, h2⟩
  obtain ⟨r, w', x, y⟩ := hC _ _ _ _ _ _ _ _ _ h1 h2
  exact Or.inl ⟨_, _, x, y, rfl, rfl, rfl, rfl⟩
theorem rl_zbr {c : Jvm.ClassFile.Cond} {x y : Int32} (h : RLx F G) (h2 : RLx F2 G2) : RLx (fun mc ms Q K => zbr c x y (F mc ms Q K) (F2 mc ms Q K)) (fun mc ms Q K => zbr c x y (G mc ms Q K) (G2 mc ms Q K)) := by
  cases c
  · exact rl_br h h2
  · exact rl_rb h h2
  all_goals exact rl_br h h2
theorem rl_zbr0 {c : Jvm.ClassFile.Cond} {x : Int32} (h : RLx F G) (h2 : RLx F2 G2) : RLx (fun mc ms Q K => zbr0 c x (F mc ms Q K) (F2 mc ms Q K)) (fun mc ms Q K => zbr0 c x (G mc ms Q K) (G2 mc ms Q K)) := by
  cases c
  · exact rl_br h h2
  · exact rl_rb h h2
  all_goals exact rl_br h h2
theorem rl_zbra {c : Jvm.ClassFile.ACond} {x y : Option Nat} (h : RLx F G) (h2 : RLx F2 G2) : RLx (fun mc ms Q K => zbra c x y (F mc ms Q K) (F2 mc ms Q K)) (fun mc ms Q K => zbra c x y (G mc ms Q K) (G2 mc ms Q K)) := by
  cases c
  · exact rl_br h h2
  · exact rl_rb h h2
theorem rl_z1i {S : List Value} {H H' : Int32 → List Value → zF} (h : ∀ x t, RLx (H x t) (H' x t)) : RLx (fun mc ms Q K => z1i S fun x t => H x t mc ms Q K) (fun mc ms Q K => z1i S fun x t => H' x t mc ms Q K) := by
  rcases S with _ | ⟨v, t⟩
  · exact rl_F
  · cases v <;> first | exact h _ _ | exact rl_F
theorem rl_z1l {S : List Value} {H H' : Int64 → List Value → zF} (h : ∀ x t, RLx (H x t) (H' x t)) : RLx (fun mc ms Q K => z1l S fun x t => H x t mc ms Q K) (fun mc ms Q K => z1l S fun x t => H' x t mc ms Q K) := by
  rcases S with _ | ⟨v, t⟩
  · exact rl_F
  · cases v <;> first | exact h _ _ | exact rl_F
theorem rl_z1r {S : List Value} {H H' : Nat → List Value → zF} (h : ∀ x t, RLx (H x t) (H' x t)) : RLx (fun mc ms Q K => z1r S fun x t => H x t mc ms Q K) (fun mc ms Q K => z1r S fun x t => H' x t mc ms Q K) := by
  rcases S with _ | ⟨v, t⟩
  · exact rl_F
  · cases v <;> first | exact h _ _ | exact rl_F
theorem rl_z1v {S : List Value} {H H' : Value → List Value → zF} (h : ∀ x t, RLx (H x t) (H' x t)) : RLx (fun mc ms Q K => z1v S fun x t => H x t mc ms Q K) (fun mc ms Q K => z1v S fun x t => H' x t mc ms Q K) := by
  rcases S with _ | ⟨v, t⟩
  · exact rl_F
  · exact h _ _
theorem rl_z2i {S : List Value} {H H' : Int32 → Int32 → List Value → zF} (h : ∀ x y t, RLx (H x y t) (H' x y t)) : RLx (fun mc ms Q K => z2i S fun x y t => H x y t mc ms Q K) (fun mc ms Q K => z2i S fun x y t => H' x y t mc ms Q K) := by
  rcases S with _ | ⟨v, t⟩
  · exact rl_F
  · rcases t with _ | ⟨v2, t⟩
    · cases v <;> exact rl_F
    · cases v <;> cases v2 <;> first | exact h _ _ _ | exact rl_F
theorem rl_z2l {S : List Value} {H H' : Int64 → Int64 → List Value → zF} (h : ∀ x y t, RLx (H x y t) (H' x y t)) : RLx (fun mc ms Q K => z2l S fun x y t => H x y t mc ms Q K) (fun mc ms Q K => z2l S fun x y t => H' x y t mc ms Q K) := by
  rcases S with _ | ⟨v, t⟩
  · exact rl_F
  · rcases t with _ | ⟨v2, t⟩
    · cases v <;> exact rl_F
    · cases v <;> cases v2 <;> first | exact h _ _ _ | exact rl_F
theorem rl_zil {S : List Value} {H H' : Int64 → Int32 → List Value → zF} (h : ∀ x y t, RLx (H x y t) (H' x y t)) : RLx (fun mc ms Q K => zil S fun x y t => H x y t mc ms Q K) (fun mc ms Q K => zil S fun x y t => H' x y t mc ms Q K) := by
  rcases S with _ | ⟨v, t⟩
  · exact rl_F
  · rcases t with _ | ⟨v2, t⟩
    · cases v <;> exact rl_F
    · cases v <;> cases v2 <;> first | exact h _ _ _ | exact rl_F
theorem rl_zgf {S : List Value} {H H2 H' H2' : Nat → List Value → zF} (h : ∀ x t, RLx (H x t) (H' x t)) (h2 : ∀ x t, RLx (H2 x t) (H2' x t)) : RLx (fun mc ms Q K => zgf S (fun x t => H x t mc ms Q K) (fun x t => H2 x t mc ms Q K)) (fun mc ms Q K => zgf S (fun x t => H' x t mc ms Q K) (fun x t => H2' x t mc ms Q K)) := by
  rcases S with _ | ⟨v, t⟩
  · exact rl_F
  · cases v <;> first | exact h _ _ | exact h2 _ _ | exact rl_F
theorem rl_zlen1 {S : List Value} {H H2 H' H2' : Nat → List Value → zF} (h : ∀ x t, RLx (H x t) (H' x t)) (h2 : ∀ x t, RLx (H2 x t) (H2' x t)) : RLx (fun mc ms Q K => zlen1 S (fun x t => H x t mc ms Q K) (fun x t => H2 x t mc ms Q K)) (fun mc ms Q K => zlen1 S (fun x t => H' x t mc ms Q K) (fun x t => H2' x t mc ms Q K)) := by
  rcases S with _ | ⟨v, t⟩
  · exact rl_F
  · cases v <;> first | exact h _ _ | exact h2 _ _ | exact rl_F
theorem rl_zvt {w : zW} {q a : Nat} {H H' : Nat → Nat → zF} (h : ∀ x y, RLx (H x y) (H' x y)) : RLx (fun mc ms Q K => zvt w q a fun x y => H x y mc ms Q K) (fun mc ms Q K => zvt w q a fun x y => H' x y mc ms Q K) := by
  unfold zvt
  rcases zix w q with _ | c
  · exact rl_F
  · rcases c with c | ⟨ci, fs⟩
    · exact rl_F
    · dsimp only
      split
      · exact h _ _
      · exact h _ _
      · exact h _ _
      · exact rl_F
theorem rl_zvr {S : List Value} {H H' : Value → Nat → List Value → zF} (h : ∀ x y t, RLx (H x y t) (H' x y t)) : RLx (fun mc ms Q K => zvr S fun x y t => H x y t mc ms Q K) (fun mc ms Q K => zvr S fun x y t => H' x y t mc ms Q K) := by
  rcases S with _ | ⟨v, t⟩
  · exact rl_F
  · rcases t with _ | ⟨v2, t⟩
    · exact rl_F
    · cases v2 <;> first | exact h _ _ _ | exact rl_F
theorem rl_zvr2 {S : List Value} {H H' : Value → Value → List Value → zF} (h : ∀ x y t, RLx (H x y t) (H' x y t)) : RLx (fun mc ms Q K => zvr2 S fun x y t => H x y t mc ms Q K) (fun mc ms Q K => zvr2 S fun x y t => H' x y t mc ms Q K) := by
  rcases S with _ | ⟨v, t⟩
  · exact rl_F
  · rcases t with _ | ⟨v2, t⟩
    · exact rl_F
    · exact h _ _ _
theorem rl_zia {S : List Value} {H H2 H' H2' : Int32 → Nat → List Value → zF} (h : ∀ x y t, RLx (H x y t) (H' x y t)) (h2 : ∀ x y t, RLx (H2 x y t) (H2' x y t)) : RLx (fun mc ms Q K => zia S (fun x y t => H x y t mc ms Q K) (fun x y t => H2 x y t mc ms Q K)) (fun mc ms Q K => zia S (fun x y t => H' x y t mc ms Q K) (fun x y t => H2' x y t mc ms Q K)) := by
  rcases S with _ | ⟨v, t⟩
  · exact rl_F
  · rcases t with _ | ⟨v2, t⟩
    · cases v <;> exact rl_F
    · cases v <;> cases v2 <;> first | exact h _ _ _ | exact h2 _ _ _ | exact rl_F
theorem rl_zvia {S : List Value} {H H' : Value → Int32 → Nat → List Value → zF} (h : ∀ x y z t, RLx (H x y z t) (H' x y z t)) : RLx (fun mc ms Q K => zvia S fun x y z t => H x y z t mc ms Q K) (fun mc ms Q K => zvia S fun x y z t => H' x y z t mc ms Q K) := by
  rcases S with _ | ⟨v, t⟩
  · exact rl_F
  · rcases t with _ | ⟨v2, t⟩
    · exact rl_F
    · rcases t with _ | ⟨v3, t⟩
      · cases v2 <;> exact rl_F
      · cases v2 <;> cases v3 <;> first | exact h _ _ _ _ | exact rl_F
theorem rl_zli {L : zL} {j : Nat} {H H' : Int32 → zF} (h : ∀ x, RLx (H x) (H' x)) : RLx (fun mc ms Q K => zli L j fun x => H x mc ms Q K) (fun mc ms Q K => zli L j fun x => H' x mc ms Q K) := by
  unfold zli
  rcases zget L j with _ | v
  · exact rl_F
  · cases v <;> first | exact h _ | exact rl_F
theorem rl_zll {L : zL} {j : Nat} {H H' : Int64 → zF} (h : ∀ x, RLx (H x) (H' x)) : RLx (fun mc ms Q K => zll L j fun x => H x mc ms Q K) (fun mc ms Q K => zll L j fun x => H' x mc ms Q K) := by
  unfold zll
  rcases zget L j with _ | v
  · exact rl_F
  · cases v <;> first | exact h _ | exact rl_F
theorem rl_zla {L : zL} {j : Nat} {H H' : Value → zF} (h : ∀ x, RLx (H x) (H' x)) : RLx (fun mc ms Q K => zla L j fun x => H x mc ms Q K) (fun mc ms Q K => zla L j fun x => H' x mc ms Q K) := by
  unfold zla
  rcases zget L j with _ | v
  · exact rl_F
  · cases v <;> first | exact h _ | exact rl_F
theorem rl_zob {w : zW} {q ci : Nat} {H H' : List Value → zF} (h : ∀ x, RLx (H x) (H' x)) : RLx (fun mc ms Q K => zob w q ci fun x => H x mc ms Q K) (fun mc ms Q K => zob w q ci fun x => H' x mc ms Q K) := by
  unfold zob
  rcases zix w q with _ | c
  · exact rl_F
  · rcases c with c | ⟨c, fs⟩
    · exact rl_F
    · exact rl_zif (h _)
theorem rl_zai {w : zW} {q : Nat} {H H' : Nat → Nat → (Nat → Int32) → zF} (h : ∀ x y z, RLx (H x y z) (H' x y z)) : RLx (fun mc ms Q K => zai w q fun x y z => H x y z mc ms Q K) (fun mc ms Q K => zai w q fun x y z => H' x y z mc ms Q K) := by
  unfold zai
  rcases zix w q with _ | c
  · exact rl_F
  · rcases c with ⟨ti, len, c⟩ | c
    · rcases c with g | c
      · exact h _ _ _
      · exact rl_F
    · exact rl_F
theorem rl_zaq {w : zW} {q : Nat} {H H' : Nat → Nat → (Nat → Option Nat) → zF} (h : ∀ x y z, RLx (H x y z) (H' x y z)) : RLx (fun mc ms Q K => zaq w q fun x y z => H x y z mc ms Q K) (fun mc ms Q K => zaq w q fun x y z => H' x y z mc ms Q K) := by
  unfold zaq
  rcases zix w q with _ | c
  · exact rl_F
  · rcases c with ⟨ti, len, c⟩ | c
    · rcases c with g | g | g | g | g
      all_goals first | exact h _ _ _ | exact rl_F
    · exact rl_F
theorem rl_zin1 {S : List Value} {H H' : Value → zF} (h : ∀ x, RLx (H x) (H' x)) : RLx (fun mc ms Q K => zin1 S fun x => H x mc ms Q K) (fun mc ms Q K => zin1 S fun x => H' x mc ms Q K) := by
  rcases S with _ | ⟨v, t⟩
  · exact rl_F
  · rcases t with _ | ⟨v2, t⟩
    · exact h _
    · exact rl_F
theorem rl_z2r {S : List Value} {H H' : Option Nat → Option Nat → List Value → zF} (h : ∀ x y t, RLx (H x y t) (H' x y t)) : RLx (fun mc ms Q K => z2r S fun x y t => H x y t mc ms Q K) (fun mc ms Q K => z2r S fun x y t => H' x y t mc ms Q K) := by
  rcases S with _ | ⟨v, t⟩
  · exact rl_F
  · rcases t with _ | ⟨v2, t⟩
    · exact rl_F
    · cases v <;> cases v2 <;> first | exact h _ _ _ | exact rl_F
theorem rl_zasv {S : List Value} {H H' : Value → List Value → zF} (h : ∀ x t, RLx (H x t) (H' x t)) : RLx (fun mc ms Q K => zasv S fun x t => H x t mc ms Q K) (fun mc ms Q K => zasv S fun x t => H' x t mc ms Q K) := by
  rcases S with _ | ⟨v, t⟩
  · exact rl_F
  · cases v <;> first | exact h _ _ | exact rl_F
theorem rl_zrn {S : List Value} {H H2 H' H2' : List Value → zF} (h : ∀ t, RLx (H t) (H' t)) (h2 : ∀ t, RLx (H2 t) (H2' t)) : RLx (fun mc ms Q K => zrn S (fun t => H t mc ms Q K) (fun t => H2 t mc ms Q K)) (fun mc ms Q K => zrn S (fun t => H' t mc ms Q K) (fun t => H2' t mc ms Q K)) := by
  rcases S with _ | ⟨v, t⟩
  · exact rl_F
  · cases v <;> first | exact h _ | exact h2 _ | exact rl_F
theorem rl_zrn2 {v : Value} {H H' : Nat → zF} (h : ∀ t, RLx (H t) (H' t)) (h2 : RLx F G) : RLx (fun mc ms Q K => zrn2 v (fun t => H t mc ms Q K) (F mc ms Q K)) (fun mc ms Q K => zrn2 v (fun t => H' t mc ms Q K) (G mc ms Q K)) := by
  cases v <;> first | exact h _ | exact h2 | exact rl_F
theorem rl_zfld {fs : List Value} {b : Nat} {H H' : Value → zF} (h : ∀ x, RLx (H x) (H' x)) : RLx (fun mc ms Q K => zfld fs b fun x => H x mc ms Q K) (fun mc ms Q K => zfld fs b fun x => H' x mc ms Q K) := by
  unfold zfld
  rcases zix fs b with _ | v
  · exact rl_F
  · exact h _
theorem rl_zext {E : zX} {H H' : Nat → (Nat → Int32) → zF} (h : ∀ x y, RLx (H x y) (H' x y)) : RLx (fun mc ms Q K => zext E fun x y => H x y mc ms Q K) (fun mc ms Q K => zext E fun x y => H' x y mc ms Q K) := by
  rcases E with _ | q
  · exact rl_F
  · exact h _ _
theorem rl_zcpy {S : List Value} {H H' : Nat → Int32 → Nat → Int32 → Int32 → List Value → zF} (h : ∀ a b c d e t, RLx (H a b c d e t) (H' a b c d e t)) : RLx (fun mc ms Q K => zcpy S fun a b c d e t => H a b c d e t mc ms Q K) (fun mc ms Q K => zcpy S fun a b c d e t => H' a b c d e t mc ms Q K) := by
  unfold zcpy
  split
  · exact h _ _ _ _ _ _
  · exact rl_F
theorem rl_znil {S : List Value} (h : RLx F G) : RLx (fun mc ms Q K => znil S (F mc ms Q K)) (fun mc ms Q K => znil S (G mc ms Q K)) := by
  rcases S with _ | ⟨v, t⟩
  · exact h
  · exact rl_F
end RLs
set_option maxHeartbeats 4000000 in
theorem z_two {C : zCT} (hC : ∀ a As w mc ms Q mc' ms' Q', C a As w mc ms Q → C a As w mc' ms' Q' → ∃ r w', Q r w' ∧ Q' r w') {d : Nat} {M : zM} {E : zX} {tab : List zM} {pc : Nat} {L : zL} {S : List Value} {w : zW} {k n k' n' : Nat} {i : Instr} {np a b : Nat} : RLx (fun mc ms Q K => zins C d M E tab mc ms Q pc L S w k n i np a b K) (fun mc ms Q K => zins C d M E tab mc ms Q pc L S w k' n' i np a b K) := by
  cases i <;> first | exact rl_F | exact rl_K ⟨rfl, rfl, rfl, rfl⟩ | (unfold zins; dsimp only; repeat' first | exact rl_F | exact rl_K ⟨rfl, rfl, rfl, rfl⟩ | exact rl_fin | exact rl_call hC | refine rl_z2r fun _ _ _ => ?_ | refine rl_zif ?_ | refine rl_zor ?_ ?_ | refine rl_and ?_ | refine rl_br ?_ ?_ | refine rl_ex fun _ => ?_ | refine rl_zbr ?_ ?_ | refine rl_zbr0 ?_ ?_ | refine rl_zbra ?_ ?_ | refine rl_z1i fun _ _ => ?_ | refine rl_z1l fun _ _ => ?_ | refine rl_z1r fun _ _ => ?_ | refine rl_z1v fun _ _ => ?_ | refine rl_z2i fun _ _ _ => ?_ | refine rl_z2l fun _ _ _ => ?_ | refine rl_zil fun _ _ _ => ?_ | refine rl_zgf (fun _ _ => ?_) (fun _ _ => ?_) | refine rl_zlen1 (fun _ _ => ?_) (fun _ _ => ?_) | refine rl_zvt fun _ _ => ?_ | refine rl_zvr fun _ _ _ => ?_ | refine rl_zvr2 fun _ _ _ => ?_ | refine rl_zia (fun _ _ _ => ?_) (fun _ _ _ => ?_) | refine rl_zvia fun _ _ _ _ => ?_ | refine rl_zli fun _ => ?_ | refine rl_zll fun _ => ?_ | refine rl_zla fun _ => ?_ | refine rl_zob fun _ => ?_ | refine rl_zai fun _ _ _ => ?_ | refine rl_zaq fun _ _ _ => ?_ | refine rl_zin1 fun _ => ?_ | refine rl_zasv fun _ _ => ?_ | refine rl_zrn (fun _ => ?_) (fun _ => ?_) | refine rl_zrn2 (fun _ => ?_) ?_ | refine rl_zfld fun _ => ?_ | refine rl_zext fun _ _ => ?_ | refine rl_zcpy fun _ _ _ _ _ _ => ?_ | refine rl_znil ?_)
theorem zsc_two {C : zCT} (hC : ∀ a As w mc ms Q mc' ms' Q', C a As w mc ms Q → C a As w mc' ms' Q' → ∃ r w', Q r w' ∧ Q' r w') {d : Nat} {M : zM} {E : zX} {tab : List zM} {pc : Nat} {L : zL} {S : List Value} {w : zW} {k n k' n' : Nat} : RLx (fun mc ms Q K => zsc C d M E tab mc ms Q pc L S w k n K) (fun mc ms Q K => zsc C d M E tab mc ms Q pc L S w k' n' K) := by
  unfold zsc
  rcases zat M.2.2.2.2.2 pc with _ | e
  · exact rl_F
  · exact z_two hC
theorem zwp_unf {C : zCT} {d : Nat} {M : zM} {E : zX} {tab : List zM} {mc ms : Nat} {Q : zQ} {x : zS} (h : zwp C d M E tab mc ms Q x) : ∃ P : zS → Prop, (∀ u, P u → zwp C d M E tab mc ms Q u) ∧ zstep C d M E tab mc ms Q x P := by
  refine h (fun y => ∃ P : zS → Prop, (∀ u, P u → zwp C d M E tab mc ms Q u) ∧ zstep C d M E tab mc ms Q y P) ?_
  rintro y ⟨P, hPR, hs⟩
  refine ⟨P, fun u hu => ?_, hs⟩
  obtain ⟨P2, a, b⟩ := hPR u hu
  exact fun R hR => hR u ⟨P2, fun z hz => a z hz R hR, b⟩
theorem zwp_two {C : zCT} (hC : ∀ a As w mc ms Q mc' ms' Q', C a As w mc ms Q → C a As w mc' ms' Q' → ∃ r w', Q r w' ∧ Q' r w') {d : Nat} {M : zM} {E : zX} {tab : List zM} {mc ms mc' ms' : Nat} {Q Q' : zQ} {x : zS} (h : zwp C d M E tab mc ms Q x) : ∀ y, sim x y → zwp C d M E tab mc' ms' Q' y → ∃ r w', Q r w' ∧ Q' r w' := by
  refine h (fun x => ∀ y, sim x y → zwp C d M E tab mc' ms' Q' y → ∃ r w', Q r w' ∧ Q' r w') ?_
  rintro ⟨pc, L, S, w, k, n⟩ ⟨P, hPR, hs⟩ ⟨pc2, L2, S2, w2, k2, n2⟩ ⟨e1, e2, e3, e4⟩ hy
  dsimp only at e1 e2 e3 e4
  subst e1 e2 e3 e4
  obtain ⟨P2, hP2, hs2⟩ := zwp_unf hy
  rcases zsc_two hC mc ms Q P mc' ms' Q' P2 hs hs2 with ⟨u, v, a, b, c⟩ | ⟨r, w', a, b⟩
  · exact hPR u a v c (hP2 v b)
  · exact ⟨r, w', a, b⟩
theorem zCl_two {tab : List zM} : ∀ (d a : Nat) (As : List Value) (w : zW) (mc ms : Nat) (Q : zQ) (mc' ms' : Nat) (Q' : zQ), zCl tab d a As w mc ms Q → zCl tab d a As w mc' ms' Q' → ∃ r w', Q r w' ∧ Q' r w' := by
  intro d
  induction d with
  | zero => exact fun _ _ _ _ _ _ _ _ _ h => h.elim
  | succ d ih =>
    intro a As w mc ms Q mc' ms' Q' h h2
    unfold zCl at h h2
    revert h h2
    rcases zix tab a with _ | M
    · exact fun h => h.elim
    · rintro ⟨hl, hz⟩ ⟨hl2, hz2⟩
      exact zwp_two ih hz _ ⟨rfl, rfl, rfl, rfl⟩ hz2
/-! THE REFERENCE BETWEEN ITS CALLS. -/
noncomputable def MI (w : zW) (sz kp : Nat → Int32) : Prop := ∃ (c0 c1 c2 c3 c4 c5 c6 c7 c8 c9 c10 c11 c12 c13 : va_E) (f0 f9 f10 f11 f12 f13 f15 f16 f17 f20 f21 f22 f23 f26 f28 f31 f32 f33 f38 f41 f44 : Int) (x14 : Int64) (g15 g17 g18 g19 g20 g21 g22 g23 g24 g25 g26 g27 g28 g29 g30 g31 g32 g33 g34 g35 g36 g37 g38 g39 g40 g41 g42 g43 : Nat → Int32) (t : zW), w = zMi c0 c1 c2 c3 c4 c5 c6 c7 c8 c9 c10 c11 c12 c13 f0 f9 f10 f11 f12 f13 f15 f16 f17 f20 f21 f22 f23 f26 f28 f31 f32 f33 f38 f41 f44 x14 g15 sz g17 g18 g19 g20 g21 g22 g23 g24 g25 g26 g27 g28 g29 g30 g31 g32 g33 g34 g35 g36 g37 g38 g39 g40 g41 g42 g43 kp t ∧ zB 0 600 sz ∧ zB 0 2 g19 ∧ bkOK g20 ∧ yrOK g21 ∧ siOK g22 ∧ zB 0 3 g25 ∧ zB 0 3 g26 ∧ zB 0 5460 g28 ∧ zB 0 5460 g30 ∧ zB 0 5460 g33 ∧ zB 0 5460 g38
noncomputable def SAME (w w' : zW) : Prop := w'.length = w.length ∧ ∀ q, (q < 14 ∨ 44 < q) → zix w' q = zix w q
theorem same_M {c0 c1 c2 c3 c4 c5 c6 c7 c8 c9 c10 c11 c12 c13 : va_E} {f0 f9 f10 f11 f12 f13 f15 f16 f17 f20 f21 f22 f23 f26 f28 f31 f32 f33 f38 f41 f44 f0' f9' f10' f11' f12' f13' f15' f16' f17' f20' f21' f22' f23' f26' f28' f31' f32' f33' f38' f41' f44' : Int} {x14 x14' : Int64} {g15 g16 g17 g18 g19 g20 g21 g22 g23 g24 g25 g26 g27 g28 g29 g30 g31 g32 g33 g34 g35 g36 g37 g38 g39 g40 g41 g42 g43 g44 g15' g16' g17' g18' g19' g20' g21' g22' g23' g24' g25' g26' g27' g28' g29' g30' g31' g32' g33' g34' g35' g36' g37' g38' g39' g40' g41' g42' g43' g44' : Nat → Int32} {t : zW} : SAME (zMi c0 c1 c2 c3 c4 c5 c6 c7 c8 c9 c10 c11 c12 c13 f0 f9 f10 f11 f12 f13 f15 f16 f17 f20 f21 f22 f23 f26 f28 f31 f32 f33 f38 f41 f44 x14 g15 g16 g17 g18 g19 g20 g21 g22 g23 g24 g25 g26 g27 g28 g29 g30 g31 g32 g33 g34 g35 g36 g37 g38 g39 g40 g41 g42 g43 g44 t) (zMi c0 c1 c2 c3 c4 c5 c6 c7 c8 c9 c10 c11 c12 c13 f0' f9' f10' f11' f12' f13' f15' f16' f17' f20' f21' f22' f23' f26' f28' f31' f32' f33' f38' f41' f44' x14' g15' g16' g17' g18' g19' g20' g21' g22' g23' g24' g25' g26' g27' g28' g29' g30' g31' g32' g33' g34' g35' g36' g37' g38' g39' g40' g41' g42' g43' g44' t) := ⟨rfl, fun q h => by
  match q, h with
  | 0, _ => rfl
  | 1, _ => rfl
  | 2, _ => rfl
  | 3, _ => rfl
  | 4, _ => rfl
  | 5, _ => rfl
  | 6, _ => rfl
  | 7, _ => rfl
  | 8, _ => rfl
  | 9, _ => rfl
  | 10, _ => rfl
  | 11, _ => rfl
  | 12, _ => rfl
  | 13, _ => rfl
  | 14, h => exact absurd h (by decide)
  | 15, h => exact absurd h (by decide)
  | 16, h => exact absurd h (by decide)
  | 17, h => exact absurd h (by decide)
  | 18, h => exact absurd h (by decide)
  | 19, h => exact absurd h (by decide)
  | 20, h => exact absurd h (by decide)
  | 21, h => exact absurd h (by decide)
  | 22, h => exact absurd h (by decide)
  | 23, h => exact absurd h (by decide)
  | 24, h => exact absurd h (by decide)
  | 25, h => exact absurd h (by decide)
  | 26, h => exact absurd h (by decide)
  | 27, h => exact absurd h (by decide)
  | 28, h => exact absurd h (by decide)
  | 29, h => exact absurd h (by decide)
  | 30, h => exact absurd h (by decide)
  | 31, h => exact absurd h (by decide)
  | 32, h => exact absurd h (by decide)
  | 33, h => exact absurd h (by decide)
  | 34, h => exact absurd h (by decide)
  | 35, h => exact absurd h (by decide)
  | 36, h => exact absurd h (by decide)
  | 37, h => exact absurd h (by decide)
  | 38, h => exact absurd h (by decide)
  | 39, h => exact absurd h (by decide)
  | 40, h => exact absurd h (by decide)
  | 41, h => exact absurd h (by decide)
  | 42, h => exact absurd h (by decide)
  | 43, h => exact absurd h (by decide)
  | 44, h => exact absurd h (by decide)
  | n + 45, _ => rfl⟩
theorem hd1 {w : zW} {n : Nat} (h : n + 1 ≤ w.length) : ∃ c t, w = c :: t ∧ n ≤ t.length := by
  cases w with
  | nil => exact absurd h (by simp)
  | cons c t => exact ⟨c, t, rfl, by rw [List.length_cons] at h; omega⟩
theorem l45 {w : zW} (h0 : 45 ≤ w.length) : ∃ (d0 d1 d2 d3 d4 d5 d6 d7 d8 d9 d10 d11 d12 d13 d14 d15 d16 d17 d18 d19 d20 d21 d22 d23 d24 d25 d26 d27 d28 d29 d30 d31 d32 d33 d34 d35 d36 d37 d38 d39 d40 d41 d42 d43 d44 : va_E) (t : zW), w = d0 :: d1 :: d2 :: d3 :: d4 :: d5 :: d6 :: d7 :: d8 :: d9 :: d10 :: d11 :: d12 :: d13 :: d14 :: d15 :: d16 :: d17 :: d18 :: d19 :: d20 :: d21 :: d22 :: d23 :: d24 :: d25 :: d26 :: d27 :: d28 :: d29 :: d30 :: d31 :: d32 :: d33 :: d34 :: d35 :: d36 :: d37 :: d38 :: d39 :: d40 :: d41 :: d42 :: d43 :: d44 :: t := by
  obtain ⟨d0, w0, rfl, h1⟩ := hd1 (n := 44) h0
  obtain ⟨d1, w1, rfl, h2⟩ := hd1 (n := 43) h1
  obtain ⟨d2, w2, rfl, h3⟩ := hd1 (n := 42) h2
  obtain ⟨d3, w3, rfl, h4⟩ := hd1 (n := 41) h3
  obtain ⟨d4, w4, rfl, h5⟩ := hd1 (n := 40) h4
  obtain ⟨d5, w5, rfl, h6⟩ := hd1 (n := 39) h5
  obtain ⟨d6, w6, rfl, h7⟩ := hd1 (n := 38) h6
  obtain ⟨d7, w7, rfl, h8⟩ := hd1 (n := 37) h7
  obtain ⟨d8, w8, rfl, h9⟩ := hd1 (n := 36) h8
  obtain ⟨d9, w9, rfl, h10⟩ := hd1 (n := 35) h9
  obtain ⟨d10, w10, rfl, h11⟩ := hd1 (n := 34) h10
  obtain ⟨d11, w11, rfl, h12⟩ := hd1 (n := 33) h11
  obtain ⟨d12, w12, rfl, h13⟩ := hd1 (n := 32) h12
  obtain ⟨d13, w13, rfl, h14⟩ := hd1 (n := 31) h13
  obtain ⟨d14, w14, rfl, h15⟩ := hd1 (n := 30) h14
  obtain ⟨d15, w15, rfl, h16⟩ := hd1 (n := 29) h15
  obtain ⟨d16, w16, rfl, h17⟩ := hd1 (n := 28) h16
  obtain ⟨d17, w17, rfl, h18⟩ := hd1 (n := 27) h17
  obtain ⟨d18, w18, rfl, h19⟩ := hd1 (n := 26) h18
  obtain ⟨d19, w19, rfl, h20⟩ := hd1 (n := 25) h19
  obtain ⟨d20, w20, rfl, h21⟩ := hd1 (n := 24) h20
  obtain ⟨d21, w21, rfl, h22⟩ := hd1 (n := 23) h21
  obtain ⟨d22, w22, rfl, h23⟩ := hd1 (n := 22) h22
  obtain ⟨d23, w23, rfl, h24⟩ := hd1 (n := 21) h23
  obtain ⟨d24, w24, rfl, h25⟩ := hd1 (n := 20) h24
  obtain ⟨d25, w25, rfl, h26⟩ := hd1 (n := 19) h25
  obtain ⟨d26, w26, rfl, h27⟩ := hd1 (n := 18) h26
  obtain ⟨d27, w27, rfl, h28⟩ := hd1 (n := 17) h27
  obtain ⟨d28, w28, rfl, h29⟩ := hd1 (n := 16) h28
  obtain ⟨d29, w29, rfl, h30⟩ := hd1 (n := 15) h29
  obtain ⟨d30, w30, rfl, h31⟩ := hd1 (n := 14) h30
  obtain ⟨d31, w31, rfl, h32⟩ := hd1 (n := 13) h31
  obtain ⟨d32, w32, rfl, h33⟩ := hd1 (n := 12) h32
  obtain ⟨d33, w33, rfl, h34⟩ := hd1 (n := 11) h33
  obtain ⟨d34, w34, rfl, h35⟩ := hd1 (n := 10) h34
  obtain ⟨d35, w35, rfl, h36⟩ := hd1 (n := 9) h35
  obtain ⟨d36, w36, rfl, h37⟩ := hd1 (n := 8) h36
  obtain ⟨d37, w37, rfl, h38⟩ := hd1 (n := 7) h37
  obtain ⟨d38, w38, rfl, h39⟩ := hd1 (n := 6) h38
  obtain ⟨d39, w39, rfl, h40⟩ := hd1 (n := 5) h39
  obtain ⟨d40, w40, rfl, h41⟩ := hd1 (n := 4) h40
  obtain ⟨d41, w41, rfl, h42⟩ := hd1 (n := 3) h41
  obtain ⟨d42, w42, rfl, h43⟩ := hd1 (n := 2) h42
  obtain ⟨d43, w43, rfl, h44⟩ := hd1 (n := 1) h43
  obtain ⟨d44, w44, rfl, h45⟩ := hd1 (n := 0) h44
  exact ⟨d0, d1, d2, d3, d4, d5, d6, d7, d8, d9, d10, d11, d12, d13, d14, d15, d16, d17, d18, d19, d20, d21, d22, d23, d24, d25, d26, d27, d28, d29, d30, d31, d32, d33, d34, d35, d36, d37, d38, d39, d40, d41, d42, d43, d44, w44, rfl⟩
theorem mi_keep {w w' : zW} {sz kp : Nat → Int32} (h : MI w sz kp) (hk : KEEP w w') (h45 : 45 ≤ w'.length) : MI w' sz kp := by
  obtain ⟨c0, c1, c2, c3, c4, c5, c6, c7, c8, c9, c10, c11, c12, c13, f0, f9, f10, f11, f12, f13, f15, f16, f17, f20, f21, f22, f23, f26, f28, f31, f32, f33, f38, f41, f44, x14, g15, g17, g18, g19, g20, g21, g22, g23, g24, g25, g26, g27, g28, g29, g30, g31, g32, g33, g34, g35, g36, g37, g38, g39, g40, g41, g42, g43, t, rfl, hb⟩ := h
  obtain ⟨d0, d1, d2, d3, d4, d5, d6, d7, d8, d9, d10, d11, d12, d13, d14, d15, d16, d17, d18, d19, d20, d21, d22, d23, d24, d25, d26, d27, d28, d29, d30, d31, d32, d33, d34, d35, d36, d37, d38, d39, d40, d41, d42, d43, d44, t', rfl⟩ := l45 h45
  have e14 : d14 = _ := Option.some.inj (hk 14 (by decide) (by decide))
  have e15 : d15 = _ := Option.some.inj (hk 15 (by decide) (by decide))
  have e16 : d16 = _ := Option.some.inj (hk 16 (by decide) (by decide))
  have e17 : d17 = _ := Option.some.inj (hk 17 (by decide) (by decide))
  have e18 : d18 = _ := Option.some.inj (hk 18 (by decide) (by decide))
  have e19 : d19 = _ := Option.some.inj (hk 19 (by decide) (by decide))
  have e20 : d20 = _ := Option.some.inj (hk 20 (by decide) (by decide))
  have e21 : d21 = _ := Option.some.inj (hk 21 (by decide) (by decide))
  have e22 : d22 = _ := Option.some.inj (hk 22 (by decide) (by decide))
  have e23 : d23 = _ := Option.some.inj (hk 23 (by decide) (by decide))
  have e24 : d24 = _ := Option.some.inj (hk 24 (by decide) (by decide))
  have e25 : d25 = _ := Option.some.inj (hk 25 (by decide) (by decide))
  have e26 : d26 = _ := Option.some.inj (hk 26 (by decide) (by decide))
  have e27 : d27 = _ := Option.some.inj (hk 27 (by decide) (by decide))
  have e28 : d28 = _ := Option.some.inj (hk 28 (by decide) (by decide))
  have e29 : d29 = _ := Option.some.inj (hk 29 (by decide) (by decide))
  have e30 : d30 = _ := Option.some.inj (hk 30 (by decide) (by decide))
  have e31 : d31 = _ := Option.some.inj (hk 31 (by decide) (by decide))
  have e32 : d32 = _ := Option.some.inj (hk 32 (by decide) (by decide))
  have e33 : d33 = _ := Option.some.inj (hk 33 (by decide) (by decide))
  have e34 : d34 = _ := Option.some.inj (hk 34 (by decide) (by decide))
  have e35 : d35 = _ := Option.some.inj (hk 35 (by decide) (by decide))
  have e36 : d36 = _ := Option.some.inj (hk 36 (by decide) (by decide))
  have e37 : d37 = _ := Option.some.inj (hk 37 (by decide) (by decide))
  have e38 : d38 = _ := Option.some.inj (hk 38 (by decide) (by decide))
  have e39 : d39 = _ := Option.some.inj (hk 39 (by decide) (by decide))
  have e40 : d40 = _ := Option.some.inj (hk 40 (by decide) (by decide))
  have e41 : d41 = _ := Option.some.inj (hk 41 (by decide) (by decide))
  have e42 : d42 = _ := Option.some.inj (hk 42 (by decide) (by decide))
  have e43 : d43 = _ := Option.some.inj (hk 43 (by decide) (by decide))
  have e44 : d44 = _ := Option.some.inj (hk 44 (by decide) (by decide))
  rw [e14, e15, e16, e17, e18, e19, e20, e21, e22, e23, e24, e25, e26, e27, e28, e29, e30, e31, e32, e33, e34, e35, e36, e37, e38, e39, e40, e41, e42, e43, e44]
  exact ⟨d0, d1, d2, d3, d4, d5, d6, d7, d8, d9, d10, d11, d12, d13, f0, f9, f10, f11, f12, f13, f15, f16, f17, f20, f21, f22, f23, f26, f28, f31, f32, f33, f38, f41, f44, x14, g15, g17, g18, g19, g20, g21, g22, g23, g24, g25, g26, g27, g28, g29, g30, g31, g32, g33, g34, g35, g36, g37, g38, g39, g40, g41, g42, g43, t', rfl, hb⟩
theorem zBcp {lo hi : Int} {g : Nat → Int32} {n fr to c : Nat} (h : zB lo hi g) : zB lo hi (cpR g n fr to c) := by
  intro j
  unfold cpR
  split
  · exact h _
  · exact h _
theorem cp_or {v : Int} {k g k' : Nat → Int32} {P : (Nat → Int32) → Prop} (h : (v = 0 ∧ k = g) ∨ (v = 1 ∧ k = k')) (h0 : P g) (h1 : v = 1 → P k') : P k := by
  rcases h with ⟨_, e⟩ | ⟨hv, e⟩
  · rw [e]; exact h0
  · rw [e]; exact h1 hv
theorem zB_0 {lo hi : Int} {g k : Nat → Int32} (h : zB lo hi g) (h0 : lo ≤ (k 0).toInt ∧ (k 0).toInt ≤ hi) (hk : ∀ j, j ≠ 0 → k j = g j) : zB lo hi k := by
  intro j
  by_cases e : j = 0
  · rw [e]; exact h0
  · rw [hk j e]; exact h j
theorem mi_elim {w : zW} {sz kp : Nat → Int32} {P : Prop} (h : MI w sz kp) (k : ∀ (c0 c1 c2 c3 c4 c5 c6 c7 c8 c9 c10 c11 c12 c13 : va_E) (f0 f9 f10 f11 f12 f13 f15 f16 f17 f20 f21 f22 f23 f26 f28 f31 f32 f33 f38 f41 f44 : Int) (x14 : Int64) (g15 g17 g18 g19 g20 g21 g22 g23 g24 g25 g26 g27 g28 g29 g30 g31 g32 g33 g34 g35 g36 g37 g38 g39 g40 g41 g42 g43 : Nat → Int32) (t : zW), w = zMi c0 c1 c2 c3 c4 c5 c6 c7 c8 c9 c10 c11 c12 c13 f0 f9 f10 f11 f12 f13 f15 f16 f17 f20 f21 f22 f23 f26 f28 f31 f32 f33 f38 f41 f44 x14 g15 sz g17 g18 g19 g20 g21 g22 g23 g24 g25 g26 g27 g28 g29 g30 g31 g32 g33 g34 g35 g36 g37 g38 g39 g40 g41 g42 g43 kp t → (zB 0 600 sz) → (zB 0 2 g19) → (bkOK g20) → (yrOK g21) → (siOK g22) → (zB 0 3 g25) → (zB 0 3 g26) → (zB 0 5460 g28) → (zB 0 5460 g30) → (zB 0 5460 g33) → (zB 0 5460 g38) → P) : P := by
  obtain ⟨c0, c1, c2, c3, c4, c5, c6, c7, c8, c9, c10, c11, c12, c13, f0, f9, f10, f11, f12, f13, f15, f16, f17, f20, f21, f22, f23, f26, f28, f31, f32, f33, f38, f41, f44, x14, g15, g17, g18, g19, g20, g21, g22, g23, g24, g25, g26, g27, g28, g29, g30, g31, g32, g33, g34, g35, g36, g37, g38, g39, g40, g41, g42, g43, t, e, b16, b19, b20, b21, b22, b25, b26, b28, b30, b33, b38⟩ := h
  exact k c0 c1 c2 c3 c4 c5 c6 c7 c8 c9 c10 c11 c12 c13 f0 f9 f10 f11 f12 f13 f15 f16 f17 f20 f21 f22 f23 f26 f28 f31 f32 f33 f38 f41 f44 x14 g15 g17 g18 g19 g20 g21 g22 g23 g24 g25 g26 g27 g28 g29 g30 g31 g32 g33 g34 g35 g36 g37 g38 g39 g40 g41 g42 g43 t e b16 b19 b20 b21 b22 b25 b26 b28 b30 b33 b38
noncomputable def SAME2 (w w' : zW) : Prop := SAME w w' ∧ ∀ q, (15 ≤ q ∧ q ≤ 22) ∨ q = 44 → zix w' q = zix w q
theorem same_R {c0 c1 c2 c3 c4 c5 c6 c7 c8 c9 c10 c11 c12 c13 : va_E} {f0 f9 f10 f11 f12 f13 f15 f16 f17 f20 f21 f22 f23 f26 f28 f31 f32 f33 f38 f41 f44 f0' f9' f10' f11' f12' f13' f15' f16' f17' f20' f21' f22' f23' f26' f28' f31' f32' f33' f38' f41' f44' : Int} {x14 x14' : Int64} {g15 g16 g17 g18 g19 g20 g21 g22 g23 g24 g25 g26 g27 g28 g29 g30 g31 g32 g33 g34 g35 g36 g37 g38 g39 g40 g41 g42 g43 g44 g23' g24' g25' g26' g27' g28' g29' g30' g31' g32' g33' g34' g35' g36' g37' g38' g39' g40' g41' g42' g43' : Nat → Int32} {t : zW} : SAME2 (zMi c0 c1 c2 c3 c4 c5 c6 c7 c8 c9 c10 c11 c12 c13 f0 f9 f10 f11 f12 f13 f15 f16 f17 f20 f21 f22 f23 f26 f28 f31 f32 f33 f38 f41 f44 x14 g15 g16 g17 g18 g19 g20 g21 g22 g23 g24 g25 g26 g27 g28 g29 g30 g31 g32 g33 g34 g35 g36 g37 g38 g39 g40 g41 g42 g43 g44 t) (zMi c0 c1 c2 c3 c4 c5 c6 c7 c8 c9 c10 c11 c12 c13 f0' f9' f10' f11' f12' f13' f15' f16' f17' f20' f21' f22' f23' f26' f28' f31' f32' f33' f38' f41' f44' x14' g15 g16 g17 g18 g19 g20 g21 g22 g23' g24' g25' g26' g27' g28' g29' g30' g31' g32' g33' g34' g35' g36' g37' g38' g39' g40' g41' g42' g43' g44 t) := ⟨same_M, fun q h => by
  have hq : q = 15 ∨ q = 16 ∨ q = 17 ∨ q = 18 ∨ q = 19 ∨ q = 20 ∨ q = 21 ∨ q = 22 ∨ q = 44 := by omega
  rcases hq with rfl | rfl | rfl | rfl | rfl | rfl | rfl | rfl | rfl <;> rfl⟩
/-! BOTH SIDES TOGETHER: what holds between the law's rounds. -/
noncomputable def mOf (sz kp : Nat → Int32) (k : Nat) : Option Int := if (kp k).toInt = 0 then none else some (sz (k + 1)).toInt
noncomputable def J1 (w : zW) : Prop := ∃ σ sz kp, TOP σ w ∧ MI w sz kp ∧ IM w (sz 0).toInt (mOf sz kp)
theorem im_ext {w : zW} {l : Int} {m m' : Nat → Option Int} (h : ∀ k, k < 3 → m' k = m k) (hI : IM w l m) : IM w l m' := by
  obtain ⟨a, g, b, c, d⟩ := hI
  exact ⟨a, g, b, fun k hk => by rw [h k hk]; exact c k hk, d⟩
theorem top_same {σ : Nat → Nat} {w w' : zW} (hT : TOP σ w) (hS : SAME w w') : TOP σ w' ∧ (∀ l m, IM w l m → IM w' l m) ∧ phi w' = phi w := by
  have h45 := hT.2.2.2.2
  have hc : CI σ w' := by
    refine ⟨fun q hq => ?_, fun q hq => hT.1.2.1 q (by rw [← hS.1]; exact hq), fun q hq => ?_⟩
    · by_cases e : q < 14 ∨ 44 < q
      · rw [hS.2 q e]; exact hT.1.1 q (by rw [← hS.1]; exact hq)
      · have hz : ∃ c, zix w' q = some c := by
          rw [zix_eq]
          exact ⟨_, List.getElem?_eq_getElem hq⟩
        obtain ⟨c, hc⟩ := hz
        refine ⟨c, hc, ?_⟩
        unfold rOK
        rw [hT.2.2.2.1 q (by omega) (by omega)]
        trivial
    · obtain ⟨h1, gk, gn, h2, h3, h4⟩ := hT.1.2.2 q hq
      have a : q < 14 ∨ 44 < q := Classical.byContradiction fun h => by have := hT.2.2.2.1 q (by omega) (by omega); omega
      have b : q + 1 < 14 ∨ 44 < q + 1 := Classical.byContradiction fun h => by have := hT.2.2.2.1 (q + 1) (by omega) (by omega); omega
      exact ⟨h1, gk, gn, (hS.2 q a).trans h2, (hS.2 (q + 1) b).trans h3, h4⟩
  refine ⟨⟨hc, hT.2.1, fun q hq => ?_, hT.2.2.2.1, by rw [hS.1]; exact h45⟩, fun l m h => im_eq (hS.2 1 (by omega)) (hS.2 7 (by omega)) (fun g k q _ _ hq => hS.2 q (by omega)) h, phi_eq (hS.2 0 (by omega)) (hS.2 7 (by omega)) (hS.2 12 (by omega)) (hS.2 13 (by omega))⟩
  obtain ⟨x0, hO, hx0, f1, f2, f3, f4⟩ := CI_o60 hT.1 hq
  have o : ∀ x, σ x ≠ 0 → x < 14 ∨ 44 < x := fun x hx => Classical.byContradiction fun h => hx (hT.2.2.2.1 x (by omega) (by omega))
  obtain ⟨sz, gq, gn, gb, ⟨a, b, c⟩, d', e', f⟩ := hT.2.2.1 q hq
  exact ⟨sz, gq, gn, gb, ⟨a, (hS.2 _ (o q (by omega))).trans b, (hS.2 _ (o _ (by omega))).trans c⟩, (hS.2 _ (o _ (by omega))).trans d', (hS.2 _ (o _ (by omega))).trans e', f⟩
theorem mi_14 {w : zW} {sz kp : Nat → Int32} (h : MI w sz kp) : ∃ fs, zix w 14 = some (.inr (11, fs)) := mi_elim h fun c0 c1 c2 c3 c4 c5 c6 c7 c8 c9 c10 c11 c12 c13 f0 f9 f10 f11 f12 f13 f15 f16 f17 f20 f21 f22 f23 f26 f28 f31 f32 f33 f38 f41 f44 x14 g15 g17 g18 g19 g20 g21 g22 g23 g24 g25 g26 g27 g28 g29 g30 g31 g32 g33 g34 g35 g36 g37 g38 g39 g40 g41 g42 g43 t e b16 b19 b20 b21 b22 b25 b26 b28 b30 b33 b38 => by
  subst e
  exact ⟨_, rfl⟩
theorem top_0 {σ : Nat → Nat} {w : zW} (h : TOP σ w) : ∃ fs, zix w 0 = some (.inr (10, fs)) := by
  obtain ⟨y6, y7, h0, -⟩ := top_o h
  exact ⟨_, h0⟩
noncomputable def rII (r r' : Option Value) : Prop := ∃ v v', r = some (.int v) ∧ r' = some (.int v')
noncomputable def rLL (r r' : Option Value) : Prop := ∃ v v', r = some (.long v) ∧ r' = some (.long v')
noncomputable def rEQ (r r' : Option Value) : Prop := ∃ v, r = some (.int v) ∧ r' = some (.int v)
theorem mOf_0 {sz kp k16 : Nat → Int32} (h : ∀ j, j ≠ 0 → k16 j = sz j) : ∀ k, k < 3 → mOf k16 kp k = mOf sz kp k := by
  intro k _
  unfold mOf
  rw [h (k + 1) (by omega)]
theorem q_feed {w : zW} {sz kp : Nat → Int32} (h : MI w sz kp) (d : Nat) (a1 a2 a3 a4 a5 : Int) (ha1 : -2147483648 ≤ a1 ∧ a1 ≤ 2147483647) (ha2 : -2147483648 ≤ a2 ∧ a2 ≤ 2147483647) (ha3 : -2147483648 ≤ a3 ∧ a3 ≤ 2147483647) (ha4 : -2147483648 ≤ a4 ∧ a4 ≤ 2147483647) (ha5 : -2147483648 ≤ a5 ∧ a5 ≤ 2147483647) : DET zTab (d + 2) iX12_feed [.ref 14, .int (Int32.ofInt a1), .int (Int32.ofInt a2), .int (Int32.ofInt a3), .int (Int32.ofInt a4), .int (Int32.ofInt a5)] w (fun mc ms r w' => (mc = 0 ∧ ms = 0) ∧ SAME w w' ∧ ∃ (v : Int) (k16 k44 : Nat → Int32), MI w' k16 k44 ∧ r = some (.int (Int32.ofInt v)) ∧ (((v = -1 ∧ 580 < (sz 0).toInt ∧ (k16 0).toInt = (sz 0).toInt) ∨ (v = (sz 0).toInt + 20 ∧ (sz 0).toInt ≤ 580 ∧ (k16 0).toInt = v))) ∧ ((∀ j, j ≠ 0 → k16 j = sz j)) ∧ k44 = kp) := by
  refine mi_elim h fun c0 c1 c2 c3 c4 c5 c6 c7 c8 c9 c10 c11 c12 c13 f0 f9 f10 f11 f12 f13 f15 f16 f17 f20 f21 f22 f23 f26 f28 f31 f32 f33 f38 f41 f44 x14 g15 g17 g18 g19 g20 g21 g22 g23 g24 g25 g26 g27 g28 g29 g30 g31 g32 g33 g34 g35 g36 g37 g38 g39 g40 g41 g42 g43 t e b16 b19 b20 b21 b22 b25 b26 b28 b30 b33 b38 => ?_
  subst e
  have z0 := b16 0
  exact det_of (mc := 0) (ms := 0) (m_feed d a1 a2 a3 a4 a5 (b16 0) _ fun v y0 k15 k16 p0 p1 => ⟨⟨rfl, rfl⟩, same_M, v, k16, _, ⟨_, _, _, _, _, _, _, _, _, _, _, _, _, _, _, _, _, _, _, _, _, _, _, _, _, _, _, _, _, _, _, _, _, _, _, _, _, _, _, _, _, _, _, _, _, _, _, _, _, _, _, _, _, _, _, _, _, _, _, _, _, _, _, _, _, rfl, (zB_0 b16 (by omega) p1), b19, b20, b21, b22, b25, b26, b28, b30, b33, b38⟩, rfl, p0, p1, rfl⟩)
theorem q_end {w : zW} {sz kp : Nat → Int32} (h : MI w sz kp) (d : Nat) (a1 : Int) (ha1 : -2147483648 ≤ a1 ∧ a1 ≤ 2147483647) : DET zTab (d + 2) iX12_end [.ref 14, .int (Int32.ofInt a1)] w (fun mc ms r w' => (mc = 0 ∧ ms = 0) ∧ SAME w w' ∧ ∃ (v : Int) (k16 k44 : Nat → Int32), MI w' k16 k44 ∧ r = some (.int (Int32.ofInt v)) ∧ (((v = -1 ∧ (a1 < 0 ∨ (sz 0).toInt < a1) ∧ (k16 0).toInt = (sz 0).toInt) ∨ (v = a1 ∧ 0 ≤ a1 ∧ a1 ≤ (sz 0).toInt ∧ (k16 0).toInt = a1))) ∧ ((∀ j, j ≠ 0 → k16 j = sz j)) ∧ k44 = kp) := by
  refine mi_elim h fun c0 c1 c2 c3 c4 c5 c6 c7 c8 c9 c10 c11 c12 c13 f0 f9 f10 f11 f12 f13 f15 f16 f17 f20 f21 f22 f23 f26 f28 f31 f32 f33 f38 f41 f44 x14 g15 g17 g18 g19 g20 g21 g22 g23 g24 g25 g26 g27 g28 g29 g30 g31 g32 g33 g34 g35 g36 g37 g38 g39 g40 g41 g42 g43 t e b16 b19 b20 b21 b22 b25 b26 b28 b30 b33 b38 => ?_
  subst e
  have z0 := b16 0
  exact det_of (mc := 0) (ms := 0) (m_end d a1 (b16 0) (by omega) _ fun v y0 k16 p0 p1 => ⟨⟨rfl, rfl⟩, same_M, v, k16, _, ⟨_, _, _, _, _, _, _, _, _, _, _, _, _, _, _, _, _, _, _, _, _, _, _, _, _, _, _, _, _, _, _, _, _, _, _, _, _, _, _, _, _, _, _, _, _, _, _, _, _, _, _, _, _, _, _, _, _, _, _, _, _, _, _, _, _, rfl, (zB_0 b16 (by omega) p1), b19, b20, b21, b22, b25, b26, b28, b30, b33, b38⟩, rfl, p0, p1, rfl⟩)
theorem q_text {w : zW} {sz kp : Nat → Int32} (h : MI w sz kp) (d : Nat) (a1 a2 : Int) (ha1 : -2147483648 ≤ a1 ∧ a1 ≤ 2147483647) (ha2 : -2147483648 ≤ a2 ∧ a2 ≤ 2147483647) : DET zTab (d + 10) iX12_text [.ref 14, .int (Int32.ofInt a1), .int (Int32.ofInt a2)] w (fun mc ms r w' => (mc = 0 ∧ ms = 0) ∧ SAME w w' ∧ ∃ (v : Int) (k16 k44 : Nat → Int32), MI w' k16 k44 ∧ r = some (.int (Int32.ofInt v)) ∧ (((k16 0).toInt = 0)) ∧ ((∀ j, j ≠ 0 → k16 j = sz j)) ∧ k44 = kp) := by
  refine mi_elim h fun c0 c1 c2 c3 c4 c5 c6 c7 c8 c9 c10 c11 c12 c13 f0 f9 f10 f11 f12 f13 f15 f16 f17 f20 f21 f22 f23 f26 f28 f31 f32 f33 f38 f41 f44 x14 g15 g17 g18 g19 g20 g21 g22 g23 g24 g25 g26 g27 g28 g29 g30 g31 g32 g33 g34 g35 g36 g37 g38 g39 g40 g41 g42 g43 t e b16 b19 b20 b21 b22 b25 b26 b28 b30 b33 b38 => ?_
  subst e
  have z0 := b16 0
  exact det_of (mc := 0) (ms := 0) (m_text d a1 a2 b19 b16 b20 b21 b22 (by omega) (by omega) _ fun v y0 y9 y10 y11 y12 y13 y14 y15 y16 y17 y21 k16 k17 k18 k19 k20 k21 k22 k23 k24 p0 p1 p2 p3 p4 p5 => ⟨⟨rfl, rfl⟩, same_M, v, k16, _, ⟨_, _, _, _, _, _, _, _, _, _, _, _, _, _, _, _, _, _, _, _, _, _, _, _, _, _, _, _, _, _, _, _, _, _, _, _, _, _, _, _, _, _, _, _, _, _, _, _, _, _, _, _, _, _, _, _, _, _, _, _, _, _, _, _, _, rfl, (zB_0 b16 (by omega) p2), p0, p3, p4, p5, b25, b26, b28, b30, b33, b38⟩, rfl, p1, p2, rfl⟩)
theorem q_fault {w : zW} {sz kp : Nat → Int32} (h : MI w sz kp) (d : Nat) (a1 : Int) (ha1 : -2147483648 ≤ a1 ∧ a1 ≤ 2147483647) : DET zTab (d + 1) iX12_fault [.ref 14, .int (Int32.ofInt a1)] w (fun mc ms r w' => (mc = 0 ∧ ms = 0) ∧ SAME2 w w' ∧ MI w' sz kp ∧ ∃ v, r = some (.int v)) := by
  refine mi_elim h fun c0 c1 c2 c3 c4 c5 c6 c7 c8 c9 c10 c11 c12 c13 f0 f9 f10 f11 f12 f13 f15 f16 f17 f20 f21 f22 f23 f26 f28 f31 f32 f33 f38 f41 f44 x14 g15 g17 g18 g19 g20 g21 g22 g23 g24 g25 g26 g27 g28 g29 g30 g31 g32 g33 g34 g35 g36 g37 g38 g39 g40 g41 g42 g43 t e b16 b19 b20 b21 b22 b25 b26 b28 b30 b33 b38 => ?_
  subst e
  have z0 := b16 0
  exact det_of (mc := 0) (ms := 0) (m_fault d a1 (by omega) _ fun v y0 => ⟨⟨rfl, rfl⟩, same_R, ⟨_, _, _, _, _, _, _, _, _, _, _, _, _, _, _, _, _, _, _, _, _, _, _, _, _, _, _, _, _, _, _, _, _, _, _, _, _, _, _, _, _, _, _, _, _, _, _, _, _, _, _, _, _, _, _, _, _, _, _, _, _, _, _, _, _, rfl, b16, b19, b20, b21, b22, b25, b26, b28, b30, b33, b38⟩, _, rfl⟩)
theorem q_book {w : zW} {sz kp : Nat → Int32} (h : MI w sz kp) (d : Nat) (a1 a2 : Int) (ha1 : -2147483648 ≤ a1 ∧ a1 ≤ 2147483647) (ha2 : -2147483648 ≤ a2 ∧ a2 ≤ 2147483647) : DET zTab (d + 4) iX12_book [.ref 14, .int (Int32.ofInt a1), .int (Int32.ofInt a2)] w (fun mc ms r w' => (mc = 0 ∧ ms = 0) ∧ SAME2 w w' ∧ MI w' sz kp ∧ ∃ v, r = some (.int v)) := by
  refine mi_elim h fun c0 c1 c2 c3 c4 c5 c6 c7 c8 c9 c10 c11 c12 c13 f0 f9 f10 f11 f12 f13 f15 f16 f17 f20 f21 f22 f23 f26 f28 f31 f32 f33 f38 f41 f44 x14 g15 g17 g18 g19 g20 g21 g22 g23 g24 g25 g26 g27 g28 g29 g30 g31 g32 g33 g34 g35 g36 g37 g38 g39 g40 g41 g42 g43 t e b16 b19 b20 b21 b22 b25 b26 b28 b30 b33 b38 => ?_
  subst e
  have z0 := b16 0
  exact det_of (mc := 0) (ms := 0) (m_book d a1 a2 b19 b20 (by omega) (by omega) _ fun v y0 y20 y22 y23 => ⟨⟨rfl, rfl⟩, same_R, ⟨_, _, _, _, _, _, _, _, _, _, _, _, _, _, _, _, _, _, _, _, _, _, _, _, _, _, _, _, _, _, _, _, _, _, _, _, _, _, _, _, _, _, _, _, _, _, _, _, _, _, _, _, _, _, _, _, _, _, _, _, _, _, _, _, _, rfl, b16, b19, b20, b21, b22, b25, b26, b28, b30, b33, b38⟩, _, rfl⟩)
theorem q_word {w : zW} {sz kp : Nat → Int32} (h : MI w sz kp) (d : Nat) (a1 a2 : Int) (ha1 : -2147483648 ≤ a1 ∧ a1 ≤ 2147483647) (ha2 : -2147483648 ≤ a2 ∧ a2 ≤ 2147483647) : DET zTab (d + 4) iX12_word [.ref 14, .int (Int32.ofInt a1), .int (Int32.ofInt a2)] w (fun mc ms r w' => (mc = 0 ∧ ms = 0) ∧ SAME2 w w' ∧ MI w' sz kp ∧ ∃ v, r = some (.int v)) := by
  refine mi_elim h fun c0 c1 c2 c3 c4 c5 c6 c7 c8 c9 c10 c11 c12 c13 f0 f9 f10 f11 f12 f13 f15 f16 f17 f20 f21 f22 f23 f26 f28 f31 f32 f33 f38 f41 f44 x14 g15 g17 g18 g19 g20 g21 g22 g23 g24 g25 g26 g27 g28 g29 g30 g31 g32 g33 g34 g35 g36 g37 g38 g39 g40 g41 g42 g43 t e b16 b19 b20 b21 b22 b25 b26 b28 b30 b33 b38 => ?_
  subst e
  have z0 := b16 0
  exact det_of (mc := 0) (ms := 0) (m_word d a1 a2 b25 (by omega) (by omega) _ fun v y0 k25 p0 => ⟨⟨rfl, rfl⟩, same_R, ⟨_, _, _, _, _, _, _, _, _, _, _, _, _, _, _, _, _, _, _, _, _, _, _, _, _, _, _, _, _, _, _, _, _, _, _, _, _, _, _, _, _, _, _, _, _, _, _, _, _, _, _, _, _, _, _, _, _, _, _, _, _, _, _, _, _, rfl, b16, b19, b20, b21, b22, p0, b26, b28, b30, b33, b38⟩, _, rfl⟩)
theorem q_drift {w : zW} {sz kp : Nat → Int32} (h : MI w sz kp) (d : Nat) (a1 a2 : Int) (ha1 : -2147483648 ≤ a1 ∧ a1 ≤ 2147483647) (ha2 : -2147483648 ≤ a2 ∧ a2 ≤ 2147483647) : DET zTab (d + 5) iX12_drift [.ref 14, .int (Int32.ofInt a1), .int (Int32.ofInt a2)] w (fun mc ms r w' => (mc = 0 ∧ ms = 0) ∧ SAME2 w w' ∧ MI w' sz kp ∧ ∃ v, r = some (.int v)) := by
  refine mi_elim h fun c0 c1 c2 c3 c4 c5 c6 c7 c8 c9 c10 c11 c12 c13 f0 f9 f10 f11 f12 f13 f15 f16 f17 f20 f21 f22 f23 f26 f28 f31 f32 f33 f38 f41 f44 x14 g15 g17 g18 g19 g20 g21 g22 g23 g24 g25 g26 g27 g28 g29 g30 g31 g32 g33 g34 g35 g36 g37 g38 g39 g40 g41 g42 g43 t e b16 b19 b20 b21 b22 b25 b26 b28 b30 b33 b38 => ?_
  subst e
  have z0 := b16 0
  exact det_of (mc := 0) (ms := 0) (m_drift d a1 a2 b25 b26 (by omega) (by omega) _ fun v y0 k25 k26 k27 p0 p1 => ⟨⟨rfl, rfl⟩, same_R, ⟨_, _, _, _, _, _, _, _, _, _, _, _, _, _, _, _, _, _, _, _, _, _, _, _, _, _, _, _, _, _, _, _, _, _, _, _, _, _, _, _, _, _, _, _, _, _, _, _, _, _, _, _, _, _, _, _, _, _, _, _, _, _, _, _, _, rfl, b16, b19, b20, b21, b22, p0, p1, b28, b30, b33, b38⟩, _, rfl⟩)
theorem q_read {w : zW} {sz kp : Nat → Int32} (h : MI w sz kp) (d : Nat) (a1 a2 a3 : Int) (ha1 : -2147483648 ≤ a1 ∧ a1 ≤ 2147483647) (ha2 : -2147483648 ≤ a2 ∧ a2 ≤ 2147483647) (ha3 : -2147483648 ≤ a3 ∧ a3 ≤ 2147483647) : DET zTab (d + 5) iX12_read [.ref 14, .int (Int32.ofInt a1), .int (Int32.ofInt a2), .int (Int32.ofInt a3)] w (fun mc ms r w' => (mc = 0 ∧ ms = 0) ∧ SAME2 w w' ∧ MI w' sz kp ∧ ∃ v, r = some (.int v)) := by
  refine mi_elim h fun c0 c1 c2 c3 c4 c5 c6 c7 c8 c9 c10 c11 c12 c13 f0 f9 f10 f11 f12 f13 f15 f16 f17 f20 f21 f22 f23 f26 f28 f31 f32 f33 f38 f41 f44 x14 g15 g17 g18 g19 g20 g21 g22 g23 g24 g25 g26 g27 g28 g29 g30 g31 g32 g33 g34 g35 g36 g37 g38 g39 g40 g41 g42 g43 t e b16 b19 b20 b21 b22 b25 b26 b28 b30 b33 b38 => ?_
  subst e
  have z0 := b16 0
  exact det_of (mc := 0) (ms := 0) (m_read d a1 a2 a3 b19 b25 b20 (by omega) (by omega) (by omega) _ fun v y0 y20 y22 y23 y26 k25 p0 => ⟨⟨rfl, rfl⟩, same_R, ⟨_, _, _, _, _, _, _, _, _, _, _, _, _, _, _, _, _, _, _, _, _, _, _, _, _, _, _, _, _, _, _, _, _, _, _, _, _, _, _, _, _, _, _, _, _, _, _, _, _, _, _, _, _, _, _, _, _, _, _, _, _, _, _, _, _, rfl, b16, b19, b20, b21, b22, p0, b26, b28, b30, b33, b38⟩, _, rfl⟩)
theorem q_deed {w : zW} {sz kp : Nat → Int32} (h : MI w sz kp) (d : Nat) (a1 a2 a3 : Int) (ha1 : -2147483648 ≤ a1 ∧ a1 ≤ 2147483647) (ha2 : -2147483648 ≤ a2 ∧ a2 ≤ 2147483647) (ha3 : -2147483648 ≤ a3 ∧ a3 ≤ 2147483647) : DET zTab (d + 4) iX12_deed [.ref 14, .int (Int32.ofInt a1), .int (Int32.ofInt a2), .int (Int32.ofInt a3)] w (fun mc ms r w' => (mc = 0 ∧ ms = 0) ∧ SAME2 w w' ∧ MI w' sz kp ∧ ∃ v, r = some (.int v)) := by
  refine mi_elim h fun c0 c1 c2 c3 c4 c5 c6 c7 c8 c9 c10 c11 c12 c13 f0 f9 f10 f11 f12 f13 f15 f16 f17 f20 f21 f22 f23 f26 f28 f31 f32 f33 f38 f41 f44 x14 g15 g17 g18 g19 g20 g21 g22 g23 g24 g25 g26 g27 g28 g29 g30 g31 g32 g33 g34 g35 g36 g37 g38 g39 g40 g41 g42 g43 t e b16 b19 b20 b21 b22 b25 b26 b28 b30 b33 b38 => ?_
  subst e
  have z0 := b16 0
  exact det_of (mc := 0) (ms := 0) (m_deed d a1 a2 a3 b19 b21 (by omega) (by omega) (by omega) _ fun v y0 y28 => ⟨⟨rfl, rfl⟩, same_R, ⟨_, _, _, _, _, _, _, _, _, _, _, _, _, _, _, _, _, _, _, _, _, _, _, _, _, _, _, _, _, _, _, _, _, _, _, _, _, _, _, _, _, _, _, _, _, _, _, _, _, _, _, _, _, _, _, _, _, _, _, _, _, _, _, _, _, rfl, b16, b19, b20, b21, b22, b25, b26, b28, b30, b33, b38⟩, _, rfl⟩)
theorem q_stop {w : zW} {sz kp : Nat → Int32} (h : MI w sz kp) (d : Nat) (a1 a2 : Int) (ha1 : -2147483648 ≤ a1 ∧ a1 ≤ 2147483647) (ha2 : -2147483648 ≤ a2 ∧ a2 ≤ 2147483647) : DET zTab (d + 8) iX12_stop [.ref 14, .int (Int32.ofInt a1), .int (Int32.ofInt a2)] w (fun mc ms r w' => (mc = 0 ∧ ms = 0) ∧ SAME2 w w' ∧ MI w' sz kp ∧ ∃ v, r = some (.int v)) := by
  refine mi_elim h fun c0 c1 c2 c3 c4 c5 c6 c7 c8 c9 c10 c11 c12 c13 f0 f9 f10 f11 f12 f13 f15 f16 f17 f20 f21 f22 f23 f26 f28 f31 f32 f33 f38 f41 f44 x14 g15 g17 g18 g19 g20 g21 g22 g23 g24 g25 g26 g27 g28 g29 g30 g31 g32 g33 g34 g35 g36 g37 g38 g39 g40 g41 g42 g43 t e b16 b19 b20 b21 b22 b25 b26 b28 b30 b33 b38 => ?_
  subst e
  have z0 := b16 0
  exact det_of (mc := 0) (ms := 0) (m_stop d a1 a2 b19 b25 b28 b20 b21 (by omega) (by omega) _ fun v y0 y20 y22 y23 y26 y28 y31 y32 y33 k25 k28 k29 p0 p1 => ⟨⟨rfl, rfl⟩, same_R, ⟨_, _, _, _, _, _, _, _, _, _, _, _, _, _, _, _, _, _, _, _, _, _, _, _, _, _, _, _, _, _, _, _, _, _, _, _, _, _, _, _, _, _, _, _, _, _, _, _, _, _, _, _, _, _, _, _, _, _, _, _, _, _, _, _, _, rfl, b16, b19, b20, b21, b22, p0, b26, p1, b30, b33, b38⟩, _, rfl⟩)
theorem q_state {w : zW} {sz kp : Nat → Int32} (h : MI w sz kp) (d : Nat) (a1 a2 a3 a4 : Int) (ha1 : -2147483648 ≤ a1 ∧ a1 ≤ 2147483647) (ha2 : -2147483648 ≤ a2 ∧ a2 ≤ 2147483647) (ha3 : -2147483648 ≤ a3 ∧ a3 ≤ 2147483647) (ha4 : -2147483648 ≤ a4 ∧ a4 ≤ 2147483647) : DET zTab (d + 8) iX12_state [.ref 14, .int (Int32.ofInt a1), .int (Int32.ofInt a2), .int (Int32.ofInt a3), .int (Int32.ofInt a4)] w (fun mc ms r w' => (mc = 0 ∧ ms = 0) ∧ SAME2 w w' ∧ MI w' sz kp ∧ ∃ v, r = some (.int v)) := by
  refine mi_elim h fun c0 c1 c2 c3 c4 c5 c6 c7 c8 c9 c10 c11 c12 c13 f0 f9 f10 f11 f12 f13 f15 f16 f17 f20 f21 f22 f23 f26 f28 f31 f32 f33 f38 f41 f44 x14 g15 g17 g18 g19 g20 g21 g22 g23 g24 g25 g26 g27 g28 g29 g30 g31 g32 g33 g34 g35 g36 g37 g38 g39 g40 g41 g42 g43 t e b16 b19 b20 b21 b22 b25 b26 b28 b30 b33 b38 => ?_
  subst e
  have z0 := b16 0
  exact det_of (mc := 0) (ms := 0) (m_state d a1 a2 a3 a4 b19 b25 b26 b28 b20 b21 (by omega) (by omega) (by omega) (by omega) _ fun v y0 y20 y22 y23 y26 y28 y31 y32 y33 k25 k26 k27 k28 k29 p0 p1 p2 => ⟨⟨rfl, rfl⟩, same_R, ⟨_, _, _, _, _, _, _, _, _, _, _, _, _, _, _, _, _, _, _, _, _, _, _, _, _, _, _, _, _, _, _, _, _, _, _, _, _, _, _, _, _, _, _, _, _, _, _, _, _, _, _, _, _, _, _, _, _, _, _, _, _, _, _, _, _, rfl, b16, b19, b20, b21, b22, p0, p1, p2, b30, b33, b38⟩, _, rfl⟩)
theorem q_making {w : zW} {sz kp : Nat → Int32} (h : MI w sz kp) (d : Nat) (a1 a2 a3 a4 : Int) (ha1 : -2147483648 ≤ a1 ∧ a1 ≤ 2147483647) (ha2 : -2147483648 ≤ a2 ∧ a2 ≤ 2147483647) (ha3 : -2147483648 ≤ a3 ∧ a3 ≤ 2147483647) (ha4 : -2147483648 ≤ a4 ∧ a4 ≤ 2147483647) : DET zTab (d + 7) iX12_making [.ref 14, .int (Int32.ofInt a1), .int (Int32.ofInt a2), .int (Int32.ofInt a3), .int (Int32.ofInt a4)] w (fun mc ms r w' => (mc = 0 ∧ ms = 0) ∧ SAME2 w w' ∧ MI w' sz kp ∧ ∃ v, r = some (.int v)) := by
  refine mi_elim h fun c0 c1 c2 c3 c4 c5 c6 c7 c8 c9 c10 c11 c12 c13 f0 f9 f10 f11 f12 f13 f15 f16 f17 f20 f21 f22 f23 f26 f28 f31 f32 f33 f38 f41 f44 x14 g15 g17 g18 g19 g20 g21 g22 g23 g24 g25 g26 g27 g28 g29 g30 g31 g32 g33 g34 g35 g36 g37 g38 g39 g40 g41 g42 g43 t e b16 b19 b20 b21 b22 b25 b26 b28 b30 b33 b38 => ?_
  subst e
  have z0 := b16 0
  exact det_of (mc := 0) (ms := 0) (m_making d a1 a2 a3 a4 b19 b25 b30 b20 (by omega) (by omega) (by omega) (by omega) _ fun v y0 y20 y21 y22 y23 y26 k25 k30 k32 p0 p1 => ⟨⟨rfl, rfl⟩, same_R, ⟨_, _, _, _, _, _, _, _, _, _, _, _, _, _, _, _, _, _, _, _, _, _, _, _, _, _, _, _, _, _, _, _, _, _, _, _, _, _, _, _, _, _, _, _, _, _, _, _, _, _, _, _, _, _, _, _, _, _, _, _, _, _, _, _, _, rfl, b16, b19, b20, b21, b22, p0, b26, b28, p1, b33, b38⟩, _, rfl⟩)
theorem q_ring {w : zW} {sz kp : Nat → Int32} (h : MI w sz kp) (d : Nat) (a1 a2 : Int) (ha1 : -2147483648 ≤ a1 ∧ a1 ≤ 2147483647) (ha2 : -2147483648 ≤ a2 ∧ a2 ≤ 2147483647) : DET zTab (d + 7) iX12_ring [.ref 14, .int (Int32.ofInt a1), .int (Int32.ofInt a2)] w (fun mc ms r w' => (mc = 0 ∧ ms = 0) ∧ SAME2 w w' ∧ MI w' sz kp ∧ ∃ v, r = some (.int v)) := by
  refine mi_elim h fun c0 c1 c2 c3 c4 c5 c6 c7 c8 c9 c10 c11 c12 c13 f0 f9 f10 f11 f12 f13 f15 f16 f17 f20 f21 f22 f23 f26 f28 f31 f32 f33 f38 f41 f44 x14 g15 g17 g18 g19 g20 g21 g22 g23 g24 g25 g26 g27 g28 g29 g30 g31 g32 g33 g34 g35 g36 g37 g38 g39 g40 g41 g42 g43 t e b16 b19 b20 b21 b22 b25 b26 b28 b30 b33 b38 => ?_
  subst e
  have z0 := b16 0
  exact det_of (mc := 0) (ms := 0) (m_ring d a1 a2 b19 b25 b30 b33 b20 (by omega) (by omega) _ fun v y0 y20 y21 y22 y23 y26 y38 k25 k30 k31 k33 p0 p1 p2 => ⟨⟨rfl, rfl⟩, same_R, ⟨_, _, _, _, _, _, _, _, _, _, _, _, _, _, _, _, _, _, _, _, _, _, _, _, _, _, _, _, _, _, _, _, _, _, _, _, _, _, _, _, _, _, _, _, _, _, _, _, _, _, _, _, _, _, _, _, _, _, _, _, _, _, _, _, _, rfl, b16, b19, b20, b21, b22, p0, b26, b28, p1, p2, b38⟩, _, rfl⟩)
theorem q_reach {w : zW} {sz kp : Nat → Int32} (h : MI w sz kp) (d : Nat) (a1 a2 a3 : Int) (ha1 : -2147483648 ≤ a1 ∧ a1 ≤ 2147483647) (ha2 : -2147483648 ≤ a2 ∧ a2 ≤ 2147483647) (ha3 : -2147483648 ≤ a3 ∧ a3 ≤ 2147483647) : DET zTab (d + 7) iX12_reach [.ref 14, .int (Int32.ofInt a1), .int (Int32.ofInt a2), .int (Int32.ofInt a3)] w (fun mc ms r w' => (mc = 0 ∧ ms = 0) ∧ SAME2 w w' ∧ MI w' sz kp ∧ ∃ v, r = some (.int v)) := by
  refine mi_elim h fun c0 c1 c2 c3 c4 c5 c6 c7 c8 c9 c10 c11 c12 c13 f0 f9 f10 f11 f12 f13 f15 f16 f17 f20 f21 f22 f23 f26 f28 f31 f32 f33 f38 f41 f44 x14 g15 g17 g18 g19 g20 g21 g22 g23 g24 g25 g26 g27 g28 g29 g30 g31 g32 g33 g34 g35 g36 g37 g38 g39 g40 g41 g42 g43 t e b16 b19 b20 b21 b22 b25 b26 b28 b30 b33 b38 => ?_
  subst e
  have z0 := b16 0
  exact det_of (mc := 0) (ms := 0) (m_reach d a1 a2 a3 b19 b25 b30 b33 b20 (by omega) (by omega) (by omega) _ fun v y0 y20 y21 y22 y23 y26 y38 k25 k30 k31 k33 p0 p1 p2 => ⟨⟨rfl, rfl⟩, same_R, ⟨_, _, _, _, _, _, _, _, _, _, _, _, _, _, _, _, _, _, _, _, _, _, _, _, _, _, _, _, _, _, _, _, _, _, _, _, _, _, _, _, _, _, _, _, _, _, _, _, _, _, _, _, _, _, _, _, _, _, _, _, _, _, _, _, _, rfl, b16, b19, b20, b21, b22, p0, b26, b28, p1, p2, b38⟩, _, rfl⟩)
theorem q_sound {w : zW} {sz kp : Nat → Int32} (h : MI w sz kp) (d : Nat) (a1 a2 : Int) (ha1 : -2147483648 ≤ a1 ∧ a1 ≤ 2147483647) (ha2 : -2147483648 ≤ a2 ∧ a2 ≤ 2147483647) : DET zTab (d + 6) iX12_sound [.ref 14, .int (Int32.ofInt a1), .int (Int32.ofInt a2)] w (fun mc ms r w' => (mc = 0 ∧ ms = 0) ∧ SAME2 w w' ∧ MI w' sz kp ∧ ∃ v, r = some (.int v)) := by
  refine mi_elim h fun c0 c1 c2 c3 c4 c5 c6 c7 c8 c9 c10 c11 c12 c13 f0 f9 f10 f11 f12 f13 f15 f16 f17 f20 f21 f22 f23 f26 f28 f31 f32 f33 f38 f41 f44 x14 g15 g17 g18 g19 g20 g21 g22 g23 g24 g25 g26 g27 g28 g29 g30 g31 g32 g33 g34 g35 g36 g37 g38 g39 g40 g41 g42 g43 t e b16 b19 b20 b21 b22 b25 b26 b28 b30 b33 b38 => ?_
  subst e
  have z0 := b16 0
  exact det_of (mc := 0) (ms := 0) (m_sound d a1 a2 b19 b25 b30 b20 (by omega) (by omega) _ fun v y0 y20 y21 y22 y23 y26 k25 k30 p0 p1 => ⟨⟨rfl, rfl⟩, same_R, ⟨_, _, _, _, _, _, _, _, _, _, _, _, _, _, _, _, _, _, _, _, _, _, _, _, _, _, _, _, _, _, _, _, _, _, _, _, _, _, _, _, _, _, _, _, _, _, _, _, _, _, _, _, _, _, _, _, _, _, _, _, _, _, _, _, _, rfl, b16, b19, b20, b21, b22, p0, b26, b28, p1, b33, b38⟩, _, rfl⟩)
theorem q_like {w : zW} {sz kp : Nat → Int32} (h : MI w sz kp) (d : Nat) (a1 a2 a3 : Int) (ha1 : -2147483648 ≤ a1 ∧ a1 ≤ 2147483647) (ha2 : -2147483648 ≤ a2 ∧ a2 ≤ 2147483647) (ha3 : -2147483648 ≤ a3 ∧ a3 ≤ 2147483647) : DET zTab (d + 6) iX12_like [.ref 14, .int (Int32.ofInt a1), .int (Int32.ofInt a2), .int (Int32.ofInt a3)] w (fun mc ms r w' => (mc = 0 ∧ ms = 0) ∧ SAME2 w w' ∧ MI w' sz kp ∧ ∃ v, r = some (.int v)) := by
  refine mi_elim h fun c0 c1 c2 c3 c4 c5 c6 c7 c8 c9 c10 c11 c12 c13 f0 f9 f10 f11 f12 f13 f15 f16 f17 f20 f21 f22 f23 f26 f28 f31 f32 f33 f38 f41 f44 x14 g15 g17 g18 g19 g20 g21 g22 g23 g24 g25 g26 g27 g28 g29 g30 g31 g32 g33 g34 g35 g36 g37 g38 g39 g40 g41 g42 g43 t e b16 b19 b20 b21 b22 b25 b26 b28 b30 b33 b38 => ?_
  subst e
  have z0 := b16 0
  exact det_of (mc := 0) (ms := 0) (m_like d a1 a2 a3 b19 b25 b30 b20 (by omega) (by omega) (by omega) _ fun v y0 y20 y21 y22 y23 y26 k25 k30 p0 p1 => ⟨⟨rfl, rfl⟩, same_R, ⟨_, _, _, _, _, _, _, _, _, _, _, _, _, _, _, _, _, _, _, _, _, _, _, _, _, _, _, _, _, _, _, _, _, _, _, _, _, _, _, _, _, _, _, _, _, _, _, _, _, _, _, _, _, _, _, _, _, _, _, _, _, _, _, _, _, rfl, b16, b19, b20, b21, b22, p0, b26, b28, p1, b33, b38⟩, _, rfl⟩)
theorem q_orbits {w : zW} {sz kp : Nat → Int32} (h : MI w sz kp) (d : Nat) (a1 a2 a3 : Int) (ha1 : -2147483648 ≤ a1 ∧ a1 ≤ 2147483647) (ha2 : -2147483648 ≤ a2 ∧ a2 ≤ 2147483647) (ha3 : -2147483648 ≤ a3 ∧ a3 ≤ 2147483647) : DET zTab (d + 6) iX12_orbits [.ref 14, .int (Int32.ofInt a1), .int (Int32.ofInt a2), .int (Int32.ofInt a3)] w (fun mc ms r w' => (mc = 0 ∧ ms = 0) ∧ SAME2 w w' ∧ MI w' sz kp ∧ ∃ v, r = some (.int v)) := by
  refine mi_elim h fun c0 c1 c2 c3 c4 c5 c6 c7 c8 c9 c10 c11 c12 c13 f0 f9 f10 f11 f12 f13 f15 f16 f17 f20 f21 f22 f23 f26 f28 f31 f32 f33 f38 f41 f44 x14 g15 g17 g18 g19 g20 g21 g22 g23 g24 g25 g26 g27 g28 g29 g30 g31 g32 g33 g34 g35 g36 g37 g38 g39 g40 g41 g42 g43 t e b16 b19 b20 b21 b22 b25 b26 b28 b30 b33 b38 => ?_
  subst e
  have z0 := b16 0
  exact det_of (mc := 0) (ms := 0) (m_orbits d a1 a2 a3 b19 b25 b30 b33 b20 (by omega) (by omega) (by omega) _ fun v y0 y20 y21 y22 y23 y26 k25 k30 k31 k33 k34 p0 p1 p2 => ⟨⟨rfl, rfl⟩, same_R, ⟨_, _, _, _, _, _, _, _, _, _, _, _, _, _, _, _, _, _, _, _, _, _, _, _, _, _, _, _, _, _, _, _, _, _, _, _, _, _, _, _, _, _, _, _, _, _, _, _, _, _, _, _, _, _, _, _, _, _, _, _, _, _, _, _, _, rfl, b16, b19, b20, b21, b22, p0, b26, b28, p1, p2, b38⟩, _, rfl⟩)
theorem q_rota {w : zW} {sz kp : Nat → Int32} (h : MI w sz kp) (d : Nat) (a1 a2 a3 : Int) (ha1 : -2147483648 ≤ a1 ∧ a1 ≤ 2147483647) (ha2 : -2147483648 ≤ a2 ∧ a2 ≤ 2147483647) (ha3 : -2147483648 ≤ a3 ∧ a3 ≤ 2147483647) : DET zTab (d + 6) iX12_rota [.ref 14, .int (Int32.ofInt a1), .int (Int32.ofInt a2), .int (Int32.ofInt a3)] w (fun mc ms r w' => (mc = 0 ∧ ms = 0) ∧ SAME2 w w' ∧ MI w' sz kp ∧ ∃ v, r = some (.int v)) := by
  refine mi_elim h fun c0 c1 c2 c3 c4 c5 c6 c7 c8 c9 c10 c11 c12 c13 f0 f9 f10 f11 f12 f13 f15 f16 f17 f20 f21 f22 f23 f26 f28 f31 f32 f33 f38 f41 f44 x14 g15 g17 g18 g19 g20 g21 g22 g23 g24 g25 g26 g27 g28 g29 g30 g31 g32 g33 g34 g35 g36 g37 g38 g39 g40 g41 g42 g43 t e b16 b19 b20 b21 b22 b25 b26 b28 b30 b33 b38 => ?_
  subst e
  have z0 := b16 0
  exact det_of (mc := 0) (ms := 0) (m_rota d a1 a2 a3 b19 b25 b26 b30 b20 (by omega) (by omega) (by omega) _ fun v y0 y20 y21 y22 y23 y26 k25 k26 k27 k30 k35 p0 p1 p2 => ⟨⟨rfl, rfl⟩, same_R, ⟨_, _, _, _, _, _, _, _, _, _, _, _, _, _, _, _, _, _, _, _, _, _, _, _, _, _, _, _, _, _, _, _, _, _, _, _, _, _, _, _, _, _, _, _, _, _, _, _, _, _, _, _, _, _, _, _, _, _, _, _, _, _, _, _, _, rfl, b16, b19, b20, b21, b22, p0, p1, b28, p2, b33, b38⟩, _, rfl⟩)
theorem q_mean {w : zW} {sz kp : Nat → Int32} (h : MI w sz kp) (d : Nat) (a1 a2 a3 : Int) (ha1 : -2147483648 ≤ a1 ∧ a1 ≤ 2147483647) (ha2 : -2147483648 ≤ a2 ∧ a2 ≤ 2147483647) (ha3 : -2147483648 ≤ a3 ∧ a3 ≤ 2147483647) : DET zTab (d + 6) iX12_mean [.ref 14, .int (Int32.ofInt a1), .int (Int32.ofInt a2), .int (Int32.ofInt a3)] w (fun mc ms r w' => (mc = 0 ∧ ms = 0) ∧ SAME2 w w' ∧ MI w' sz kp ∧ ∃ v, r = some (.long v)) := by
  refine mi_elim h fun c0 c1 c2 c3 c4 c5 c6 c7 c8 c9 c10 c11 c12 c13 f0 f9 f10 f11 f12 f13 f15 f16 f17 f20 f21 f22 f23 f26 f28 f31 f32 f33 f38 f41 f44 x14 g15 g17 g18 g19 g20 g21 g22 g23 g24 g25 g26 g27 g28 g29 g30 g31 g32 g33 g34 g35 g36 g37 g38 g39 g40 g41 g42 g43 t e b16 b19 b20 b21 b22 b25 b26 b28 b30 b33 b38 => ?_
  subst e
  have z0 := b16 0
  exact det_of (mc := 0) (ms := 0) (m_mean d a1 a2 a3 b19 b25 b26 b30 b20 (by omega) (by omega) (by omega) _ fun v y0 y20 y21 y22 y23 y26 k25 k26 k27 k30 k35 p0 p1 p2 => ⟨⟨rfl, rfl⟩, same_R, ⟨_, _, _, _, _, _, _, _, _, _, _, _, _, _, _, _, _, _, _, _, _, _, _, _, _, _, _, _, _, _, _, _, _, _, _, _, _, _, _, _, _, _, _, _, _, _, _, _, _, _, _, _, _, _, _, _, _, _, _, _, _, _, _, _, _, rfl, b16, b19, b20, b21, b22, p0, p1, b28, p2, b33, b38⟩, _, rfl⟩)
theorem q_elders {w : zW} {sz kp : Nat → Int32} (h : MI w sz kp) (d : Nat) (a1 a2 a3 a4 : Int) (ha1 : -2147483648 ≤ a1 ∧ a1 ≤ 2147483647) (ha2 : -2147483648 ≤ a2 ∧ a2 ≤ 2147483647) (ha3 : -2147483648 ≤ a3 ∧ a3 ≤ 2147483647) (ha4 : -2147483648 ≤ a4 ∧ a4 ≤ 2147483647) : DET zTab (d + 7) iX12_elders [.ref 14, .int (Int32.ofInt a1), .int (Int32.ofInt a2), .int (Int32.ofInt a3), .int (Int32.ofInt a4)] w (fun mc ms r w' => (mc = 0 ∧ ms = 0) ∧ SAME2 w w' ∧ MI w' sz kp ∧ ∃ v, r = some (.int v)) := by
  refine mi_elim h fun c0 c1 c2 c3 c4 c5 c6 c7 c8 c9 c10 c11 c12 c13 f0 f9 f10 f11 f12 f13 f15 f16 f17 f20 f21 f22 f23 f26 f28 f31 f32 f33 f38 f41 f44 x14 g15 g17 g18 g19 g20 g21 g22 g23 g24 g25 g26 g27 g28 g29 g30 g31 g32 g33 g34 g35 g36 g37 g38 g39 g40 g41 g42 g43 t e b16 b19 b20 b21 b22 b25 b26 b28 b30 b33 b38 => ?_
  subst e
  have z0 := b16 0
  exact det_of (mc := 0) (ms := 0) (m_elders d a1 a2 a3 a4 b19 b25 b30 b20 (by omega) (by omega) (by omega) (by omega) _ fun v y0 y20 y21 y22 y23 y26 k25 k30 k31 k32 p0 p1 => ⟨⟨rfl, rfl⟩, same_R, ⟨_, _, _, _, _, _, _, _, _, _, _, _, _, _, _, _, _, _, _, _, _, _, _, _, _, _, _, _, _, _, _, _, _, _, _, _, _, _, _, _, _, _, _, _, _, _, _, _, _, _, _, _, _, _, _, _, _, _, _, _, _, _, _, _, _, rfl, b16, b19, b20, b21, b22, p0, b26, b28, p1, b33, b38⟩, _, rfl⟩)
theorem q_play {w : zW} {sz kp : Nat → Int32} (h : MI w sz kp) (d : Nat) (a1 a2 a3 a4 a5 a6 : Int) (ha1 : -2147483648 ≤ a1 ∧ a1 ≤ 2147483647) (ha2 : -2147483648 ≤ a2 ∧ a2 ≤ 2147483647) (ha3 : -2147483648 ≤ a3 ∧ a3 ≤ 2147483647) (ha4 : -2147483648 ≤ a4 ∧ a4 ≤ 2147483647) (ha5 : -2147483648 ≤ a5 ∧ a5 ≤ 2147483647) (ha6 : -2147483648 ≤ a6 ∧ a6 ≤ 2147483647) : DET zTab (d + 6) iX12_play_ [.ref 14, .int (Int32.ofInt a1), .int (Int32.ofInt a2), .int (Int32.ofInt a3), .int (Int32.ofInt a4), .int (Int32.ofInt a5), .int (Int32.ofInt a6)] w (fun mc ms r w' => (mc = 0 ∧ ms = 0) ∧ SAME2 w w' ∧ MI w' sz kp ∧ ∃ v, r = some (.int v)) := by
  refine mi_elim h fun c0 c1 c2 c3 c4 c5 c6 c7 c8 c9 c10 c11 c12 c13 f0 f9 f10 f11 f12 f13 f15 f16 f17 f20 f21 f22 f23 f26 f28 f31 f32 f33 f38 f41 f44 x14 g15 g17 g18 g19 g20 g21 g22 g23 g24 g25 g26 g27 g28 g29 g30 g31 g32 g33 g34 g35 g36 g37 g38 g39 g40 g41 g42 g43 t e b16 b19 b20 b21 b22 b25 b26 b28 b30 b33 b38 => ?_
  subst e
  have z0 := b16 0
  exact det_of (mc := 0) (ms := 0) (m_play d a1 a2 a3 a4 a5 a6 b19 b25 b30 b20 (by omega) (by omega) (by omega) (by omega) (by omega) (by omega) _ fun v y0 y20 y21 y22 y23 y26 k25 k30 k35 p0 p1 => ⟨⟨rfl, rfl⟩, same_R, ⟨_, _, _, _, _, _, _, _, _, _, _, _, _, _, _, _, _, _, _, _, _, _, _, _, _, _, _, _, _, _, _, _, _, _, _, _, _, _, _, _, _, _, _, _, _, _, _, _, _, _, _, _, _, _, _, _, _, _, _, _, _, _, _, _, _, rfl, b16, b19, b20, b21, b22, p0, b26, b28, p1, b33, b38⟩, _, rfl⟩)
theorem q_fact {w : zW} {sz kp : Nat → Int32} (h : MI w sz kp) (d : Nat) (a1 a2 a3 : Int) (ha1 : -2147483648 ≤ a1 ∧ a1 ≤ 2147483647) (ha2 : -2147483648 ≤ a2 ∧ a2 ≤ 2147483647) (ha3 : -2147483648 ≤ a3 ∧ a3 ≤ 2147483647) : DET zTab (d + 4) iX12_fact [.ref 14, .int (Int32.ofInt a1), .int (Int32.ofInt a2), .int (Int32.ofInt a3)] w (fun mc ms r w' => (mc = 0 ∧ ms = 0) ∧ SAME2 w w' ∧ MI w' sz kp ∧ ∃ v, r = some (.int v)) := by
  refine mi_elim h fun c0 c1 c2 c3 c4 c5 c6 c7 c8 c9 c10 c11 c12 c13 f0 f9 f10 f11 f12 f13 f15 f16 f17 f20 f21 f22 f23 f26 f28 f31 f32 f33 f38 f41 f44 x14 g15 g17 g18 g19 g20 g21 g22 g23 g24 g25 g26 g27 g28 g29 g30 g31 g32 g33 g34 g35 g36 g37 g38 g39 g40 g41 g42 g43 t e b16 b19 b20 b21 b22 b25 b26 b28 b30 b33 b38 => ?_
  subst e
  have z0 := b16 0
  exact det_of (mc := 0) (ms := 0) (m_fact d a1 a2 a3 b19 b22 (by omega) (by omega) (by omega) _ fun v y0 y41 => ⟨⟨rfl, rfl⟩, same_R, ⟨_, _, _, _, _, _, _, _, _, _, _, _, _, _, _, _, _, _, _, _, _, _, _, _, _, _, _, _, _, _, _, _, _, _, _, _, _, _, _, _, _, _, _, _, _, _, _, _, _, _, _, _, _, _, _, _, _, _, _, _, _, _, _, _, _, rfl, b16, b19, b20, b21, b22, b25, b26, b28, b30, b33, b38⟩, _, rfl⟩)
theorem q_fits {w : zW} {sz kp : Nat → Int32} (h : MI w sz kp) (d : Nat) (a1 a2 a3 a4 : Int) (ha1 : -2147483648 ≤ a1 ∧ a1 ≤ 2147483647) (ha2 : -2147483648 ≤ a2 ∧ a2 ≤ 2147483647) (ha3 : -2147483648 ≤ a3 ∧ a3 ≤ 2147483647) (ha4 : -2147483648 ≤ a4 ∧ a4 ≤ 2147483647) : DET zTab (d + 7) iX12_fits [.ref 14, .int (Int32.ofInt a1), .int (Int32.ofInt a2), .int (Int32.ofInt a3), .int (Int32.ofInt a4)] w (fun mc ms r w' => (mc = 0 ∧ ms = 0) ∧ SAME2 w w' ∧ MI w' sz kp ∧ ∃ v, r = some (.int v)) := by
  refine mi_elim h fun c0 c1 c2 c3 c4 c5 c6 c7 c8 c9 c10 c11 c12 c13 f0 f9 f10 f11 f12 f13 f15 f16 f17 f20 f21 f22 f23 f26 f28 f31 f32 f33 f38 f41 f44 x14 g15 g17 g18 g19 g20 g21 g22 g23 g24 g25 g26 g27 g28 g29 g30 g31 g32 g33 g34 g35 g36 g37 g38 g39 g40 g41 g42 g43 t e b16 b19 b20 b21 b22 b25 b26 b28 b30 b33 b38 => ?_
  subst e
  have z0 := b16 0
  exact det_of (mc := 0) (ms := 0) (m_fits d a1 a2 a3 a4 b19 b25 b30 b20 b22 (by omega) (by omega) (by omega) (by omega) _ fun v y0 y20 y21 y22 y23 y26 y41 k25 k30 k36 k37 p0 p1 => ⟨⟨rfl, rfl⟩, same_R, ⟨_, _, _, _, _, _, _, _, _, _, _, _, _, _, _, _, _, _, _, _, _, _, _, _, _, _, _, _, _, _, _, _, _, _, _, _, _, _, _, _, _, _, _, _, _, _, _, _, _, _, _, _, _, _, _, _, _, _, _, _, _, _, _, _, _, rfl, b16, b19, b20, b21, b22, p0, b26, b28, p1, b33, b38⟩, _, rfl⟩)
theorem q_sure {w : zW} {sz kp : Nat → Int32} (h : MI w sz kp) (d : Nat) (a1 a2 a3 a4 : Int) (ha1 : -2147483648 ≤ a1 ∧ a1 ≤ 2147483647) (ha2 : -2147483648 ≤ a2 ∧ a2 ≤ 2147483647) (ha3 : -2147483648 ≤ a3 ∧ a3 ≤ 2147483647) (ha4 : -2147483648 ≤ a4 ∧ a4 ≤ 2147483647) : DET zTab (d + 7) iX12_sure [.ref 14, .int (Int32.ofInt a1), .int (Int32.ofInt a2), .int (Int32.ofInt a3), .int (Int32.ofInt a4)] w (fun mc ms r w' => (mc = 0 ∧ ms = 0) ∧ SAME2 w w' ∧ MI w' sz kp ∧ ∃ v, r = some (.int v)) := by
  refine mi_elim h fun c0 c1 c2 c3 c4 c5 c6 c7 c8 c9 c10 c11 c12 c13 f0 f9 f10 f11 f12 f13 f15 f16 f17 f20 f21 f22 f23 f26 f28 f31 f32 f33 f38 f41 f44 x14 g15 g17 g18 g19 g20 g21 g22 g23 g24 g25 g26 g27 g28 g29 g30 g31 g32 g33 g34 g35 g36 g37 g38 g39 g40 g41 g42 g43 t e b16 b19 b20 b21 b22 b25 b26 b28 b30 b33 b38 => ?_
  subst e
  have z0 := b16 0
  exact det_of (mc := 0) (ms := 0) (m_sure d a1 a2 a3 a4 b19 b25 b30 b20 b22 (by omega) (by omega) (by omega) (by omega) _ fun v y0 y20 y21 y22 y23 y26 y41 k25 k30 k36 k37 p0 p1 => ⟨⟨rfl, rfl⟩, same_R, ⟨_, _, _, _, _, _, _, _, _, _, _, _, _, _, _, _, _, _, _, _, _, _, _, _, _, _, _, _, _, _, _, _, _, _, _, _, _, _, _, _, _, _, _, _, _, _, _, _, _, _, _, _, _, _, _, _, _, _, _, _, _, _, _, _, _, rfl, b16, b19, b20, b21, b22, p0, b26, b28, p1, b33, b38⟩, _, rfl⟩)
theorem q_drawn {w : zW} {sz kp : Nat → Int32} (h : MI w sz kp) (d : Nat) (a1 a2 a3 a4 : Int) (ha1 : -2147483648 ≤ a1 ∧ a1 ≤ 2147483647) (ha2 : -2147483648 ≤ a2 ∧ a2 ≤ 2147483647) (ha3 : -2147483648 ≤ a3 ∧ a3 ≤ 2147483647) (ha4 : -2147483648 ≤ a4 ∧ a4 ≤ 2147483647) : DET zTab (d + 7) iX12_drawn [.ref 14, .int (Int32.ofInt a1), .int (Int32.ofInt a2), .int (Int32.ofInt a3), .int (Int32.ofInt a4)] w (fun mc ms r w' => (mc = 0 ∧ ms = 0) ∧ SAME2 w w' ∧ MI w' sz kp ∧ ∃ v, r = some (.int v)) := by
  refine mi_elim h fun c0 c1 c2 c3 c4 c5 c6 c7 c8 c9 c10 c11 c12 c13 f0 f9 f10 f11 f12 f13 f15 f16 f17 f20 f21 f22 f23 f26 f28 f31 f32 f33 f38 f41 f44 x14 g15 g17 g18 g19 g20 g21 g22 g23 g24 g25 g26 g27 g28 g29 g30 g31 g32 g33 g34 g35 g36 g37 g38 g39 g40 g41 g42 g43 t e b16 b19 b20 b21 b22 b25 b26 b28 b30 b33 b38 => ?_
  subst e
  have z0 := b16 0
  exact det_of (mc := 0) (ms := 0) (m_drawn d a1 a2 a3 a4 b19 b25 b26 b28 b20 (by omega) (by omega) (by omega) (by omega) _ fun v y0 y20 y22 y23 y26 y31 y32 y33 y44 k25 k26 k27 k28 k29 p0 p1 p2 => ⟨⟨rfl, rfl⟩, same_R, ⟨_, _, _, _, _, _, _, _, _, _, _, _, _, _, _, _, _, _, _, _, _, _, _, _, _, _, _, _, _, _, _, _, _, _, _, _, _, _, _, _, _, _, _, _, _, _, _, _, _, _, _, _, _, _, _, _, _, _, _, _, _, _, _, _, _, rfl, b16, b19, b20, b21, b22, p0, p1, p2, b30, b33, b38⟩, _, rfl⟩)
theorem q_kinship {w : zW} {sz kp : Nat → Int32} (h : MI w sz kp) (d : Nat) (a1 a2 a3 : Int) (ha1 : -2147483648 ≤ a1 ∧ a1 ≤ 2147483647) (ha2 : -2147483648 ≤ a2 ∧ a2 ≤ 2147483647) (ha3 : -2147483648 ≤ a3 ∧ a3 ≤ 2147483647) : DET zTab (d + 4) iX12_kinship [.ref 14, .int (Int32.ofInt a1), .int (Int32.ofInt a2), .int (Int32.ofInt a3)] w (fun mc ms r w' => (mc = 0 ∧ ms = 0) ∧ SAME2 w w' ∧ MI w' sz kp ∧ ∃ v, r = some (.int v)) := by
  refine mi_elim h fun c0 c1 c2 c3 c4 c5 c6 c7 c8 c9 c10 c11 c12 c13 f0 f9 f10 f11 f12 f13 f15 f16 f17 f20 f21 f22 f23 f26 f28 f31 f32 f33 f38 f41 f44 x14 g15 g17 g18 g19 g20 g21 g22 g23 g24 g25 g26 g27 g28 g29 g30 g31 g32 g33 g34 g35 g36 g37 g38 g39 g40 g41 g42 g43 t e b16 b19 b20 b21 b22 b25 b26 b28 b30 b33 b38 => ?_
  subst e
  have z0 := b16 0
  exact det_of (mc := 0) (ms := 0) (m_kinship d a1 a2 a3 b19 b20 (by omega) (by omega) (by omega) _ fun v y0 y20 y22 y23 => ⟨⟨rfl, rfl⟩, same_R, ⟨_, _, _, _, _, _, _, _, _, _, _, _, _, _, _, _, _, _, _, _, _, _, _, _, _, _, _, _, _, _, _, _, _, _, _, _, _, _, _, _, _, _, _, _, _, _, _, _, _, _, _, _, _, _, _, _, _, _, _, _, _, _, _, _, _, rfl, b16, b19, b20, b21, b22, b25, b26, b28, b30, b33, b38⟩, _, rfl⟩)
theorem q_shared {w : zW} {sz kp : Nat → Int32} (h : MI w sz kp) (d : Nat) (a1 a2 a3 : Int) (ha1 : -2147483648 ≤ a1 ∧ a1 ≤ 2147483647) (ha2 : -2147483648 ≤ a2 ∧ a2 ≤ 2147483647) (ha3 : -2147483648 ≤ a3 ∧ a3 ≤ 2147483647) : DET zTab (d + 6) iX12_shared [.ref 14, .int (Int32.ofInt a1), .int (Int32.ofInt a2), .int (Int32.ofInt a3)] w (fun mc ms r w' => (mc = 0 ∧ ms = 0) ∧ SAME2 w w' ∧ MI w' sz kp ∧ ∃ v, r = some (.int v)) := by
  refine mi_elim h fun c0 c1 c2 c3 c4 c5 c6 c7 c8 c9 c10 c11 c12 c13 f0 f9 f10 f11 f12 f13 f15 f16 f17 f20 f21 f22 f23 f26 f28 f31 f32 f33 f38 f41 f44 x14 g15 g17 g18 g19 g20 g21 g22 g23 g24 g25 g26 g27 g28 g29 g30 g31 g32 g33 g34 g35 g36 g37 g38 g39 g40 g41 g42 g43 t e b16 b19 b20 b21 b22 b25 b26 b28 b30 b33 b38 => ?_
  subst e
  have z0 := b16 0
  exact det_of (mc := 0) (ms := 0) (m_shared d a1 a2 a3 b25 (by omega) (by omega) (by omega) _ fun v y0 k25 p0 => ⟨⟨rfl, rfl⟩, same_R, ⟨_, _, _, _, _, _, _, _, _, _, _, _, _, _, _, _, _, _, _, _, _, _, _, _, _, _, _, _, _, _, _, _, _, _, _, _, _, _, _, _, _, _, _, _, _, _, _, _, _, _, _, _, _, _, _, _, _, _, _, _, _, _, _, _, _, rfl, b16, b19, b20, b21, b22, p0, b26, b28, b30, b33, b38⟩, _, rfl⟩)
theorem q_joined {w : zW} {sz kp : Nat → Int32} (h : MI w sz kp) (d : Nat) (a1 a2 a3 a4 : Int) (ha1 : -2147483648 ≤ a1 ∧ a1 ≤ 2147483647) (ha2 : -2147483648 ≤ a2 ∧ a2 ≤ 2147483647) (ha3 : -2147483648 ≤ a3 ∧ a3 ≤ 2147483647) (ha4 : -2147483648 ≤ a4 ∧ a4 ≤ 2147483647) : DET zTab (d + 7) iX12_joined [.ref 14, .int (Int32.ofInt a1), .int (Int32.ofInt a2), .int (Int32.ofInt a3), .int (Int32.ofInt a4)] w (fun mc ms r w' => (mc = 0 ∧ ms = 0) ∧ SAME2 w w' ∧ MI w' sz kp ∧ ∃ v, r = some (.int v)) := by
  refine mi_elim h fun c0 c1 c2 c3 c4 c5 c6 c7 c8 c9 c10 c11 c12 c13 f0 f9 f10 f11 f12 f13 f15 f16 f17 f20 f21 f22 f23 f26 f28 f31 f32 f33 f38 f41 f44 x14 g15 g17 g18 g19 g20 g21 g22 g23 g24 g25 g26 g27 g28 g29 g30 g31 g32 g33 g34 g35 g36 g37 g38 g39 g40 g41 g42 g43 t e b16 b19 b20 b21 b22 b25 b26 b28 b30 b33 b38 => ?_
  subst e
  have z0 := b16 0
  exact det_of (mc := 0) (ms := 0) (m_joined d a1 a2 a3 a4 b19 b25 b30 b33 b20 (by omega) (by omega) (by omega) (by omega) _ fun v y0 y20 y21 y22 y23 y26 y38 k25 k30 k31 k32 k33 p0 p1 p2 => ⟨⟨rfl, rfl⟩, same_R, ⟨_, _, _, _, _, _, _, _, _, _, _, _, _, _, _, _, _, _, _, _, _, _, _, _, _, _, _, _, _, _, _, _, _, _, _, _, _, _, _, _, _, _, _, _, _, _, _, _, _, _, _, _, _, _, _, _, _, _, _, _, _, _, _, _, _, rfl, b16, b19, b20, b21, b22, p0, b26, b28, p1, p2, b38⟩, _, rfl⟩)
theorem q_nearest {w : zW} {sz kp : Nat → Int32} (h : MI w sz kp) (d : Nat) (a1 a2 a3 a4 : Int) (ha1 : -2147483648 ≤ a1 ∧ a1 ≤ 2147483647) (ha2 : -2147483648 ≤ a2 ∧ a2 ≤ 2147483647) (ha3 : -2147483648 ≤ a3 ∧ a3 ≤ 2147483647) (ha4 : -2147483648 ≤ a4 ∧ a4 ≤ 2147483647) : DET zTab (d + 7) iX12_nearest [.ref 14, .int (Int32.ofInt a1), .int (Int32.ofInt a2), .int (Int32.ofInt a3), .int (Int32.ofInt a4)] w (fun mc ms r w' => (mc = 0 ∧ ms = 0) ∧ SAME2 w w' ∧ MI w' sz kp ∧ ∃ v, r = some (.int v)) := by
  refine mi_elim h fun c0 c1 c2 c3 c4 c5 c6 c7 c8 c9 c10 c11 c12 c13 f0 f9 f10 f11 f12 f13 f15 f16 f17 f20 f21 f22 f23 f26 f28 f31 f32 f33 f38 f41 f44 x14 g15 g17 g18 g19 g20 g21 g22 g23 g24 g25 g26 g27 g28 g29 g30 g31 g32 g33 g34 g35 g36 g37 g38 g39 g40 g41 g42 g43 t e b16 b19 b20 b21 b22 b25 b26 b28 b30 b33 b38 => ?_
  subst e
  have z0 := b16 0
  exact det_of (mc := 0) (ms := 0) (m_nearest d a1 a2 a3 a4 b19 b25 b26 b30 b33 b20 (by omega) (by omega) (by omega) (by omega) _ fun v y0 y20 y21 y22 y23 y26 y38 k25 k26 k27 k30 k31 k33 p0 p1 p2 p3 => ⟨⟨rfl, rfl⟩, same_R, ⟨_, _, _, _, _, _, _, _, _, _, _, _, _, _, _, _, _, _, _, _, _, _, _, _, _, _, _, _, _, _, _, _, _, _, _, _, _, _, _, _, _, _, _, _, _, _, _, _, _, _, _, _, _, _, _, _, _, _, _, _, _, _, _, _, _, rfl, b16, b19, b20, b21, b22, p0, p1, b28, p2, p3, b38⟩, _, rfl⟩)
theorem q_settles {w : zW} {sz kp : Nat → Int32} (h : MI w sz kp) (d : Nat) (a1 a2 a3 : Int) (ha1 : -2147483648 ≤ a1 ∧ a1 ≤ 2147483647) (ha2 : -2147483648 ≤ a2 ∧ a2 ≤ 2147483647) (ha3 : -2147483648 ≤ a3 ∧ a3 ≤ 2147483647) : DET zTab (d + 7) iX12_settles [.ref 14, .int (Int32.ofInt a1), .int (Int32.ofInt a2), .int (Int32.ofInt a3)] w (fun mc ms r w' => (mc = 0 ∧ ms = 0) ∧ SAME2 w w' ∧ MI w' sz kp ∧ ∃ v, r = some (.int v)) := by
  refine mi_elim h fun c0 c1 c2 c3 c4 c5 c6 c7 c8 c9 c10 c11 c12 c13 f0 f9 f10 f11 f12 f13 f15 f16 f17 f20 f21 f22 f23 f26 f28 f31 f32 f33 f38 f41 f44 x14 g15 g17 g18 g19 g20 g21 g22 g23 g24 g25 g26 g27 g28 g29 g30 g31 g32 g33 g34 g35 g36 g37 g38 g39 g40 g41 g42 g43 t e b16 b19 b20 b21 b22 b25 b26 b28 b30 b33 b38 => ?_
  subst e
  have z0 := b16 0
  exact det_of (mc := 0) (ms := 0) (m_settles d a1 a2 a3 b19 b25 b30 b33 b20 (by omega) (by omega) (by omega) _ fun v y0 y20 y21 y22 y23 y26 y38 k25 k30 k31 k33 p0 p1 p2 => ⟨⟨rfl, rfl⟩, same_R, ⟨_, _, _, _, _, _, _, _, _, _, _, _, _, _, _, _, _, _, _, _, _, _, _, _, _, _, _, _, _, _, _, _, _, _, _, _, _, _, _, _, _, _, _, _, _, _, _, _, _, _, _, _, _, _, _, _, _, _, _, _, _, _, _, _, _, rfl, b16, b19, b20, b21, b22, p0, b26, b28, p1, p2, b38⟩, _, rfl⟩)
theorem q_unmade {w : zW} {sz kp : Nat → Int32} (h : MI w sz kp) (d : Nat) (a1 a2 : Int) (ha1 : -2147483648 ≤ a1 ∧ a1 ≤ 2147483647) (ha2 : -2147483648 ≤ a2 ∧ a2 ≤ 2147483647) : DET zTab (d + 7) iX12_unmade [.ref 14, .int (Int32.ofInt a1), .int (Int32.ofInt a2)] w (fun mc ms r w' => (mc = 0 ∧ ms = 0) ∧ SAME2 w w' ∧ MI w' sz kp ∧ ∃ v, r = some (.int v)) := by
  refine mi_elim h fun c0 c1 c2 c3 c4 c5 c6 c7 c8 c9 c10 c11 c12 c13 f0 f9 f10 f11 f12 f13 f15 f16 f17 f20 f21 f22 f23 f26 f28 f31 f32 f33 f38 f41 f44 x14 g15 g17 g18 g19 g20 g21 g22 g23 g24 g25 g26 g27 g28 g29 g30 g31 g32 g33 g34 g35 g36 g37 g38 g39 g40 g41 g42 g43 t e b16 b19 b20 b21 b22 b25 b26 b28 b30 b33 b38 => ?_
  subst e
  have z0 := b16 0
  exact det_of (mc := 0) (ms := 0) (m_unmade d a1 a2 b19 b25 b30 b20 (by omega) (by omega) _ fun v y0 y20 y21 y22 y23 y26 k25 k30 k34 p0 p1 => ⟨⟨rfl, rfl⟩, same_R, ⟨_, _, _, _, _, _, _, _, _, _, _, _, _, _, _, _, _, _, _, _, _, _, _, _, _, _, _, _, _, _, _, _, _, _, _, _, _, _, _, _, _, _, _, _, _, _, _, _, _, _, _, _, _, _, _, _, _, _, _, _, _, _, _, _, _, rfl, b16, b19, b20, b21, b22, p0, b26, b28, p1, b33, b38⟩, _, rfl⟩)
theorem q_silenced {w : zW} {sz kp : Nat → Int32} (h : MI w sz kp) (d : Nat) (a1 a2 a3 : Int) (ha1 : -2147483648 ≤ a1 ∧ a1 ≤ 2147483647) (ha2 : -2147483648 ≤ a2 ∧ a2 ≤ 2147483647) (ha3 : -2147483648 ≤ a3 ∧ a3 ≤ 2147483647) : DET zTab (d + 7) iX12_silenced [.ref 14, .int (Int32.ofInt a1), .int (Int32.ofInt a2), .int (Int32.ofInt a3)] w (fun mc ms r w' => (mc = 0 ∧ ms = 0) ∧ SAME2 w w' ∧ MI w' sz kp ∧ ∃ v, r = some (.int v)) := by
  refine mi_elim h fun c0 c1 c2 c3 c4 c5 c6 c7 c8 c9 c10 c11 c12 c13 f0 f9 f10 f11 f12 f13 f15 f16 f17 f20 f21 f22 f23 f26 f28 f31 f32 f33 f38 f41 f44 x14 g15 g17 g18 g19 g20 g21 g22 g23 g24 g25 g26 g27 g28 g29 g30 g31 g32 g33 g34 g35 g36 g37 g38 g39 g40 g41 g42 g43 t e b16 b19 b20 b21 b22 b25 b26 b28 b30 b33 b38 => ?_
  subst e
  have z0 := b16 0
  exact det_of (mc := 0) (ms := 0) (m_silenced d a1 a2 a3 b19 b25 b30 b33 b20 (by omega) (by omega) (by omega) _ fun v y0 y20 y21 y22 y23 y26 y38 k25 k30 k31 k33 p0 p1 p2 => ⟨⟨rfl, rfl⟩, same_R, ⟨_, _, _, _, _, _, _, _, _, _, _, _, _, _, _, _, _, _, _, _, _, _, _, _, _, _, _, _, _, _, _, _, _, _, _, _, _, _, _, _, _, _, _, _, _, _, _, _, _, _, _, _, _, _, _, _, _, _, _, _, _, _, _, _, _, rfl, b16, b19, b20, b21, b22, p0, b26, b28, p1, p2, b38⟩, _, rfl⟩)
theorem q_circles {w : zW} {sz kp : Nat → Int32} (h : MI w sz kp) (d : Nat) (a1 a2 : Int) (ha1 : -2147483648 ≤ a1 ∧ a1 ≤ 2147483647) (ha2 : -2147483648 ≤ a2 ∧ a2 ≤ 2147483647) : DET zTab (d + 7) iX12_circles [.ref 14, .int (Int32.ofInt a1), .int (Int32.ofInt a2)] w (fun mc ms r w' => (mc = 0 ∧ ms = 0) ∧ SAME2 w w' ∧ MI w' sz kp ∧ ∃ v, r = some (.int v)) := by
  refine mi_elim h fun c0 c1 c2 c3 c4 c5 c6 c7 c8 c9 c10 c11 c12 c13 f0 f9 f10 f11 f12 f13 f15 f16 f17 f20 f21 f22 f23 f26 f28 f31 f32 f33 f38 f41 f44 x14 g15 g17 g18 g19 g20 g21 g22 g23 g24 g25 g26 g27 g28 g29 g30 g31 g32 g33 g34 g35 g36 g37 g38 g39 g40 g41 g42 g43 t e b16 b19 b20 b21 b22 b25 b26 b28 b30 b33 b38 => ?_
  subst e
  have z0 := b16 0
  exact det_of (mc := 0) (ms := 0) (m_circles d a1 a2 b19 b25 b30 b33 b38 b20 (by omega) (by omega) _ fun v y0 y20 y21 y22 y23 y26 k25 k30 k33 k38 k39 k40 k41 k42 k43 p0 p1 p2 p3 => ⟨⟨rfl, rfl⟩, same_R, ⟨_, _, _, _, _, _, _, _, _, _, _, _, _, _, _, _, _, _, _, _, _, _, _, _, _, _, _, _, _, _, _, _, _, _, _, _, _, _, _, _, _, _, _, _, _, _, _, _, _, _, _, _, _, _, _, _, _, _, _, _, _, _, _, _, _, rfl, b16, b19, b20, b21, b22, p0, b26, b28, p1, p2, p3⟩, _, rfl⟩)
theorem q_count {w : zW} {sz kp : Nat → Int32} (h : MI w sz kp) (d : Nat) (a1 : Int) (ha1 : -2147483648 ≤ a1 ∧ a1 ≤ 2147483647) : DET zTab (d + 2) iX12_count [.ref 14, .int (Int32.ofInt a1)] w (fun mc ms r w' => (mc = 0 ∧ ms = 0) ∧ SAME2 w w' ∧ MI w' sz kp ∧ ∃ v, r = some (.int v)) := by
  refine mi_elim h fun c0 c1 c2 c3 c4 c5 c6 c7 c8 c9 c10 c11 c12 c13 f0 f9 f10 f11 f12 f13 f15 f16 f17 f20 f21 f22 f23 f26 f28 f31 f32 f33 f38 f41 f44 x14 g15 g17 g18 g19 g20 g21 g22 g23 g24 g25 g26 g27 g28 g29 g30 g31 g32 g33 g34 g35 g36 g37 g38 g39 g40 g41 g42 g43 t e b16 b19 b20 b21 b22 b25 b26 b28 b30 b33 b38 => ?_
  subst e
  have z0 := b16 0
  exact det_of (mc := 0) (ms := 0) (m_count d a1 b19 (by omega) _ fun v y0 => ⟨⟨rfl, rfl⟩, same_R, ⟨_, _, _, _, _, _, _, _, _, _, _, _, _, _, _, _, _, _, _, _, _, _, _, _, _, _, _, _, _, _, _, _, _, _, _, _, _, _, _, _, _, _, _, _, _, _, _, _, _, _, _, _, _, _, _, _, _, _, _, _, _, _, _, _, _, rfl, b16, b19, b20, b21, b22, b25, b26, b28, b30, b33, b38⟩, _, rfl⟩)
theorem q_image {w : zW} {sz kp : Nat → Int32} (h : MI w sz kp) (d : Nat) (a1 : Int) (ha1 : -2147483648 ≤ a1 ∧ a1 ≤ 2147483647) : DET zTab (d + 3) iX12_image [.ref 14, .int (Int32.ofInt a1)] w (fun mc ms r w' => (mc = 0 ∧ ms = 0) ∧ SAME w w' ∧ ∃ (v : Int) (k16 k44 : Nat → Int32), MI w' k16 k44 ∧ r = some (.int (Int32.ofInt v)) ∧ (((v = 1 ∧ 0 ≤ a1 ∧ a1 ≤ 2) ∨ (v = 0 ∧ (a1 < 0 ∨ 2 < a1)))) ∧ (((v = 0 ∧ k44 = kp) ∨ (v = 1 ∧ k44 = upd kp a1.toNat (Int32.ofInt 1)))) ∧ (((v = 0 ∧ k16 = sz) ∨ (v = 1 ∧ k16 = cpR sz 1 0 (a1 + 1).toNat 1)))) := by
  refine mi_elim h fun c0 c1 c2 c3 c4 c5 c6 c7 c8 c9 c10 c11 c12 c13 f0 f9 f10 f11 f12 f13 f15 f16 f17 f20 f21 f22 f23 f26 f28 f31 f32 f33 f38 f41 f44 x14 g15 g17 g18 g19 g20 g21 g22 g23 g24 g25 g26 g27 g28 g29 g30 g31 g32 g33 g34 g35 g36 g37 g38 g39 g40 g41 g42 g43 t e b16 b19 b20 b21 b22 b25 b26 b28 b30 b33 b38 => ?_
  subst e
  have z0 := b16 0
  exact det_of (mc := 0) (ms := 0) (m_image d a1 (by omega) _ fun v y0 k15 k16 k17 k18 k19 k20 k21 k22 k44 p0 p1 p2 p3 p4 p5 p6 p7 p8 => ⟨⟨rfl, rfl⟩, same_M, v, k16, k44, ⟨_, _, _, _, _, _, _, _, _, _, _, _, _, _, _, _, _, _, _, _, _, _, _, _, _, _, _, _, _, _, _, _, _, _, _, _, _, _, _, _, _, _, _, _, _, _, _, _, _, _, _, _, _, _, _, _, _, _, _, _, _, _, _, _, _, rfl, (cp_or (P := zB 0 600) p2 b16 (fun hv => zBcp b16)), (cp_or (P := zB 0 2) p5 b19 (fun hv => zBcp b19)), (cp_or (P := bkOK) p6 b20 (fun hv => bk_cp b20 (by omega))), (cp_or (P := yrOK) p7 b21 (fun hv => yr_cp b21 (by omega))), (cp_or (P := siOK) p8 b22 (fun hv => si_cp b22 (by omega))), b25, b26, b28, b30, b33, b38⟩, rfl, p0, p1, p2⟩)
theorem q_again {w : zW} {sz kp : Nat → Int32} (h : MI w sz kp) (d : Nat) (a1 : Int) (ha1 : -2147483648 ≤ a1 ∧ a1 ≤ 2147483647) : DET zTab (d + 3) iX12_again [.ref 14, .int (Int32.ofInt a1)] w (fun mc ms r w' => (mc = 0 ∧ ms = 0) ∧ SAME w w' ∧ ∃ (v : Int) (k16 k44 : Nat → Int32), MI w' k16 k44 ∧ r = some (.int (Int32.ofInt v)) ∧ (((v = 1 ∧ 0 ≤ a1 ∧ a1 ≤ 2 ∧ (kp a1.toNat).toInt ≠ 0) ∨ (v = 0 ∧ (a1 < 0 ∨ 2 < a1 ∨ (kp a1.toNat).toInt = 0)))) ∧ (((v = 0 ∧ k16 = sz) ∨ (v = 1 ∧ k16 = cpR sz 1 (a1 + 1).toNat 0 1))) ∧ k44 = kp) := by
  refine mi_elim h fun c0 c1 c2 c3 c4 c5 c6 c7 c8 c9 c10 c11 c12 c13 f0 f9 f10 f11 f12 f13 f15 f16 f17 f20 f21 f22 f23 f26 f28 f31 f32 f33 f38 f41 f44 x14 g15 g17 g18 g19 g20 g21 g22 g23 g24 g25 g26 g27 g28 g29 g30 g31 g32 g33 g34 g35 g36 g37 g38 g39 g40 g41 g42 g43 t e b16 b19 b20 b21 b22 b25 b26 b28 b30 b33 b38 => ?_
  subst e
  have z0 := b16 0
  exact det_of (mc := 0) (ms := 0) (m_again d a1 (by omega) _ fun v y0 y21 k15 k16 k17 k18 k19 k20 k21 k22 p0 p1 p2 p3 p4 p5 p6 p7 => ⟨⟨rfl, rfl⟩, same_M, v, k16, _, ⟨_, _, _, _, _, _, _, _, _, _, _, _, _, _, _, _, _, _, _, _, _, _, _, _, _, _, _, _, _, _, _, _, _, _, _, _, _, _, _, _, _, _, _, _, _, _, _, _, _, _, _, _, _, _, _, _, _, _, _, _, _, _, _, _, _, rfl, (cp_or (P := zB 0 600) p1 b16 (fun hv => zBcp b16)), (cp_or (P := zB 0 2) p4 b19 (fun hv => zBcp b19)), (cp_or (P := bkOK) p5 b20 (fun hv => bk_cp b20 (by omega))), (cp_or (P := yrOK) p6 b21 (fun hv => yr_cp b21 (by omega))), (cp_or (P := siOK) p7 b22 (fun hv => si_cp b22 (by omega))), b25, b26, b28, b30, b33, b38⟩, rfl, p0, p1, rfl⟩)
