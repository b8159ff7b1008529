/-! TWO RUNS OF ONE CALL END ALIKE: so what is proved of its answer in one way, and of its world in another, holds together. -/
noncomputable def sim (u v : zS) : Prop := u.1 = v.1 ∧ u.2.1 = v.2.1 ∧ u.2.2.1 = v.2.2.1 ∧ u.2.2.2.1 = v.2.2.2.1
noncomputable def RLx (F G : zF) : Prop := ∀ mc ms Q K mc' ms' Q' K', F mc ms Q K → G mc' ms' Q' K' → (∃ u v, K u ∧ K' v ∧ sim u v) ∨ (∃ r w, Q r w ∧ Q' r w)
section RLs
variable {F G F2 G2 : zF}
theorem rl_F : RLx (fun _ _ _ _ => False) G := fun _ _ _ _ _ _ _ _ h => h.elim
theorem rl_K {u v : zS} (h : sim u v) : RLx (fun _ _ _ K => K u) (fun _ _ _ K => K v) := fun _ _ _ _ _ _ _ _ a b => Or.inl ⟨u, v, a, b, h⟩
theorem rl_zif {b : Nat → Nat → Bool} {c : Nat → Nat → Bool} (h : RLx F G) : RLx (fun mc ms Q K => zif (b mc ms) (F mc ms Q K)) (fun mc ms Q K => zif (c mc ms) (G mc ms Q K)) := by
  intro mc ms Q K mc' ms' Q' K' a d
  have a : zif (b mc ms) (F mc ms Q K) := a
  have d : zif (c mc' ms') (G mc' ms' Q' K') := d
  cases e1 : b mc ms <;> rw [e1] at a
  · exact a.elim
  · cases e2 : c mc' ms' <;> rw [e2] at d
    · exact d.elim
    · exact h _ _ _ _ _ _ _ _ a d
theorem rl_zor {b : Bool} (h : RLx F G) (h2 : RLx F2 G2) : RLx (fun mc ms Q K => zor b (F mc ms Q K) (F2 mc ms Q K)) (fun mc ms Q K => zor b (G mc ms Q K) (G2 mc ms Q K)) := by
  cases b
  · exact h2
  · exact h
theorem rl_and {P P' : Prop} (h : RLx F G) : RLx (fun mc ms Q K => P ∧ F mc ms Q K) (fun mc ms Q K => P' ∧ G mc ms Q K) := fun _ _ _ _ _ _ _ _ a b => h _ _ _ _ _ _ _ _ a.2 b.2
theorem rl_br {P : Prop} (h : RLx F G) (h2 : RLx F2 G2) : RLx (fun mc ms Q K => (P → F mc ms Q K) ∧ (¬ P → F2 mc ms Q K)) (fun mc ms Q K => (P → G mc ms Q K) ∧ (¬ P → G2 mc ms Q K)) := by
  intro _ _ _ _ _ _ _ _ a b
  by_cases hp : P
  · exact h _ _ _ _ _ _ _ _ (a.1 hp) (b.1 hp)
  · exact h2 _ _ _ _ _ _ _ _ (a.2 hp) (b.2 hp)
theorem rl_rb {P : Prop} (h : RLx F G) (h2 : RLx F2 G2) : RLx (fun mc ms Q K => (¬ P → F mc ms Q K) ∧ (P → F2 mc ms Q K)) (fun mc ms Q K => (¬ P → G mc ms Q K) ∧ (P → G2 mc ms Q K)) := by
  intro _ _ _ _ _ _ _ _ a b
  by_cases hp : P
  · exact h2 _ _ _ _ _ _ _ _ (a.2 hp) (b.2 hp)
  · exact h _ _ _ _ _ _ _ _ (a.1 hp) (b.1 hp)
theorem rl_ex {H H' : Int → zF} {o : Option Int} (h : ∀ x, RLx (H x) (H' x)) : RLx (fun mc ms Q K => ∃ x, o = some x ∧ H x mc ms Q K) (fun mc ms Q K => ∃ x, o = some x ∧ H' x mc ms Q K) := by
  rintro _ _ _ _ _ _ _ _ ⟨x, hx, a⟩ ⟨y, hy, b⟩
  rw [hx] at hy
  cases hy
  exact h x _ _ _ _ _ _ _ _ a b
theorem rl_fin {E : zX} {P P' : Prop} {r : Option Value} {w : zW} {k n k' n' : Nat} : RLx (fun mc ms Q _ => zfin E k n mc ms ∧ P ∧ Q r w) (fun mc ms Q _ => zfin E k' n' mc ms ∧ P' ∧ Q r w) := fun _ _ _ _ _ _ _ _ a b => Or.inr ⟨r, w, a.2.2, b.2.2⟩
theorem rl_call {C : zCT} (hC : ∀ a As w mc ms Q mc' ms' Q', C a As w mc ms Q → C a As w mc' ms' Q' → ∃ r w', Q r w' ∧ Q' r w') {a : Nat} {As S : List Value} {w : zW} {np k n k' n' : Nat} {L : zL} : RLx (fun mc ms _ K => zcall C a As S w k n mc ms np L K) (fun mc ms _ K => zcall C a As S w k' n' mc ms np L K) := by
  rintro _ _ _ _ _ _ _ _ ⟨m1, m2, _, h1⟩ ⟨m3, m4, _, h2⟩
  obtain ⟨r, w', x, y⟩ := hC _ _ _ _ _ _ _ _ _ h1 h2
  exact Or.inl ⟨_, _, x, y, rfl, rfl, rfl, rfl⟩
theorem rl_zbr {c : Jvm.ClassFile.Cond} {x y : Int32} (h : RLx F G) (h2 : RLx F2 G2) : RLx (fun mc ms Q K => zbr c x y (F mc ms Q K) (F2 mc ms Q K)) (fun mc ms Q K => zbr c x y (G mc ms Q K) (G2 mc ms Q K)) := by
  cases c
  · exact rl_br h h2
  · exact rl_rb h h2
  all_goals exact rl_br h h2
theorem rl_zbr0 {c : Jvm.ClassFile.Cond} {x : Int32} (h : RLx F G) (h2 : RLx F2 G2) : RLx (fun mc ms Q K => zbr0 c x (F mc ms Q K) (F2 mc ms Q K)) (fun mc ms Q K => zbr0 c x (G mc ms Q K) (G2 mc ms Q K)) := by
  cases c
  · exact rl_br h h2
  · exact rl_rb h h2
  all_goals exact rl_br h h2
theorem rl_zbra {c : Jvm.ClassFile.ACond} {x y : Option Nat} (h : RLx F G) (h2 : RLx F2 G2) : RLx (fun mc ms Q K => zbra c x y (F mc ms Q K) (F2 mc ms Q K)) (fun mc ms Q K => zbra c x y (G mc ms Q K) (G2 mc ms Q K)) := by
  cases c
  · exact rl_br h h2
  · exact rl_rb h h2
theorem rl_z1i {S : List Value} {H H' : Int32 → List Value → zF} (h : ∀ x t, RLx (H x t) (H' x t)) : RLx (fun mc ms Q K => z1i S fun x t => H x t mc ms Q K) (fun mc ms Q K => z1i S fun x t => H' x t mc ms Q K) := by
  rcases S with _ | ⟨v, t⟩
  · exact rl_F
  · cases v <;> first | exact h _ _ | exact rl_F
theorem rl_z1l {S : List Value} {H H' : Int64 → List Value → zF} (h : ∀ x t, RLx (H x t) (H' x t)) : RLx (fun mc ms Q K => z1l S fun x t => H x t mc ms Q K) (fun mc ms Q K => z1l S fun x t => H' x t mc ms Q K) := by
  rcases S with _ | ⟨v, t⟩
  · exact rl_F
  · cases v <;> first | exact h _ _ | exact rl_F
theorem rl_z1r {S : List Value} {H H' : Nat → List Value → zF} (h : ∀ x t, RLx (H x t) (H' x t)) : RLx (fun mc ms Q K => z1r S fun x t => H x t mc ms Q K) (fun mc ms Q K => z1r S fun x t => H' x t mc ms Q K) := by
  rcases S with _ | ⟨v, t⟩
  · exact rl_F
  · cases v <;> first | exact h _ _ | exact rl_F
theorem rl_z1v {S : List Value} {H H' : Value → List Value → zF} (h : ∀ x t, RLx (H x t) (H' x t)) : RLx (fun mc ms Q K => z1v S fun x t => H x t mc ms Q K) (fun mc ms Q K => z1v S fun x t => H' x t mc ms Q K) := by
  rcases S with _ | ⟨v, t⟩
  · exact rl_F
  · exact h _ _
theorem rl_z2i {S : List Value} {H H' : Int32 → Int32 → List Value → zF} (h : ∀ x y t, RLx (H x y t) (H' x y t)) : RLx (fun mc ms Q K => z2i S fun x y t => H x y t mc ms Q K) (fun mc ms Q K => z2i S fun x y t => H' x y t mc ms Q K) := by
  rcases S with _ | ⟨v, t⟩
  · exact rl_F
  · rcases t with _ | ⟨v2, t⟩
    · cases v <;> exact rl_F
    · cases v <;> cases v2 <;> first | exact h _ _ _ | exact rl_F
theorem rl_z2l {S : List Value} {H H' : Int64 → Int64 → List Value → zF} (h : ∀ x y t, RLx (H x y t) (H' x y t)) : RLx (fun mc ms Q K => z2l S fun x y t => H x y t mc ms Q K) (fun mc ms Q K => z2l S fun x y t => H' x y t mc ms Q K) := by
  rcases S with _ | ⟨v, t⟩
  · exact rl_F
  · rcases t with _ | ⟨v2, t⟩
    · cases v <;> exact rl_F
    · cases v <;> cases v2 <;> first | exact h _ _ _ | exact rl_F
theorem rl_zil {S : List Value} {H H' : Int64 → Int32 → List Value → zF} (h : ∀ x y t, RLx (H x y t) (H' x y t)) : RLx (fun mc ms Q K => zil S fun x y t => H x y t mc ms Q K) (fun mc ms Q K => zil S fun x y t => H' x y t mc ms Q K) := by
  rcases S with _ | ⟨v, t⟩
  · exact rl_F
  · rcases t with _ | ⟨v2, t⟩
    · cases v <;> exact rl_F
    · cases v <;> cases v2 <;> first | exact h _ _ _ | exact rl_F
theorem rl_zgf {S : List Value} {H H2 H' H2' : Nat → List Value → zF} (h : ∀ x t, RLx (H x t) (H' x t)) (h2 : ∀ x t, RLx (H2 x t) (H2' x t)) : RLx (fun mc ms Q K => zgf S (fun x t => H x t mc ms Q K) (fun x t => H2 x t mc ms Q K)) (fun mc ms Q K => zgf S (fun x t => H' x t mc ms Q K) (fun x t => H2' x t mc ms Q K)) := by
  rcases S with _ | ⟨v, t⟩
  · exact rl_F
  · cases v <;> first | exact h _ _ | exact h2 _ _ | exact rl_F
theorem rl_zlen1 {S : List Value} {H H2 H' H2' : Nat → List Value → zF} (h : ∀ x t, RLx (H x t) (H' x t)) (h2 : ∀ x t, RLx (H2 x t) (H2' x t)) : RLx (fun mc ms Q K => zlen1 S (fun x t => H x t mc ms Q K) (fun x t => H2 x t mc ms Q K)) (fun mc ms Q K => zlen1 S (fun x t => H' x t mc ms Q K) (fun x t => H2' x t mc ms Q K)) := by
  rcases S with _ | ⟨v, t⟩
  · exact rl_F
  · cases v <;> first | exact h _ _ | exact h2 _ _ | exact rl_F
theorem rl_zvt {w : zW} {q a : Nat} {H H' : Nat → Nat → zF} (h : ∀ x y, RLx (H x y) (H' x y)) : RLx (fun mc ms Q K => zvt w q a fun x y => H x y mc ms Q K) (fun mc ms Q K => zvt w q a fun x y => H' x y mc ms Q K) := by
  unfold zvt
  rcases zix w q with _ | c
  · exact rl_F
  · rcases c with c | ⟨ci, fs⟩
    · exact rl_F
    · dsimp only
      split
      · exact h _ _
      · exact h _ _
      · exact h _ _
      · exact rl_F
theorem rl_zvr {S : List Value} {H H' : Value → Nat → List Value → zF} (h : ∀ x y t, RLx (H x y t) (H' x y t)) : RLx (fun mc ms Q K => zvr S fun x y t => H x y t mc ms Q K) (fun mc ms Q K => zvr S fun x y t => H' x y t mc ms Q K) := by
  rcases S with _ | ⟨v, t⟩
  · exact rl_F
  · rcases t with _ | ⟨v2, t⟩
    · exact rl_F
    · cases v2 <;> first | exact h _ _ _ | exact rl_F
theorem rl_zvr2 {S : List Value} {H H' : Value → Value → List Value → zF} (h : ∀ x y t, RLx (H x y t) (H' x y t)) : RLx (fun mc ms Q K => zvr2 S fun x y t => H x y t mc ms Q K) (fun mc ms Q K => zvr2 S fun x y t => H' x y t mc ms Q K) := by
  rcases S with _ | ⟨v, t⟩
  · exact rl_F
  · rcases t with _ | ⟨v2, t⟩
    · exact rl_F
    · exact h _ _ _
theorem rl_zia {S : List Value} {H H2 H' H2' : Int32 → Nat → List Value → zF} (h : ∀ x y t, RLx (H x y t) (H' x y t)) (h2 : ∀ x y t, RLx (H2 x y t) (H2' x y t)) : RLx (fun mc ms Q K => zia S (fun x y t => H x y t mc ms Q K) (fun x y t => H2 x y t mc ms Q K)) (fun mc ms Q K => zia S (fun x y t => H' x y t mc ms Q K) (fun x y t => H2' x y t mc ms Q K)) := by
  rcases S with _ | ⟨v, t⟩
  · exact rl_F
  · rcases t with _ | ⟨v2, t⟩
    · cases v <;> exact rl_F
    · cases v <;> cases v2 <;> first | exact h _ _ _ | exact h2 _ _ _ | exact rl_F
theorem rl_zvia {S : List Value} {H H' : Value → Int32 → Nat → List Value → zF} (h : ∀ x y z t, RLx (H x y z t) (H' x y z t)) : RLx (fun mc ms Q K => zvia S fun x y z t => H x y z t mc ms Q K) (fun mc ms Q K => zvia S fun x y z t => H' x y z t mc ms Q K) := by
  rcases S with _ | ⟨v, t⟩
  · exact rl_F
  · rcases t with _ | ⟨v2, t⟩
    · exact rl_F
    · rcases t with _ | ⟨v3, t⟩
      · cases v2 <;> exact rl_F
      · cases v2 <;> cases v3 <;> first | exact h _ _ _ _ | exact rl_F
theorem rl_zli {L : zL} {j : Nat} {H H' : Int32 → zF} (h : ∀ x, RLx (H x) (H' x)) : RLx (fun mc ms Q K => zli L j fun x => H x mc ms Q K) (fun mc ms Q K => zli L j fun x => H' x mc ms Q K) := by
  unfold zli
  rcases zget L j with _ | v
  · exact rl_F
  · cases v <;> first | exact h _ | exact rl_F
theorem rl_zll {L : zL} {j : Nat} {H H' : Int64 → zF} (h : ∀ x, RLx (H x) (H' x)) : RLx (fun mc ms Q K => zll L j fun x => H x mc ms Q K) (fun mc ms Q K => zll L j fun x => H' x mc ms Q K) := by
  unfold zll
  rcases zget L j with _ | v
  · exact rl_F
  · cases v <;> first | exact h _ | exact rl_F
theorem rl_zla {L : zL} {j : Nat} {H H' : Value → zF} (h : ∀ x, RLx (H x) (H' x)) : RLx (fun mc ms Q K => zla L j fun x => H x mc ms Q K) (fun mc ms Q K => zla L j fun x => H' x mc ms Q K) := by
  unfold zla
  rcases zget L j with _ | v
  · exact rl_F
  · cases v <;> first | exact h _ | exact rl_F
theorem rl_zob {w : zW} {q ci : Nat} {H H' : List Value → zF} (h : ∀ x, RLx (H x) (H' x)) : RLx (fun mc ms Q K => zob w q ci fun x => H x mc ms Q K) (fun mc ms Q K => zob w q ci fun x => H' x mc ms Q K) := by
  unfold zob
  rcases zix w q with _ | c
  · exact rl_F
  · rcases c with c | ⟨c, fs⟩
    · exact rl_F
    · exact rl_zif (h _)
theorem rl_zai {w : zW} {q : Nat} {H H' : Nat → Nat → (Nat → Int32) → zF} (h : ∀ x y z, RLx (H x y z) (H' x y z)) : RLx (fun mc ms Q K => zai w q fun x y z => H x y z mc ms Q K) (fun mc ms Q K => zai w q fun x y z => H' x y z mc ms Q K) := by
  unfold zai
  rcases zix w q with _ | c
  · exact rl_F
  · rcases c with ⟨ti, len, c⟩ | c
    · rcases c with g | c
      · exact h _ _ _
      · exact rl_F
    · exact rl_F
theorem rl_zaq {w : zW} {q : Nat} {H H' : Nat → Nat → (Nat → Option Nat) → zF} (h : ∀ x y z, RLx (H x y z) (H' x y z)) : RLx (fun mc ms Q K => zaq w q fun x y z => H x y z mc ms Q K) (fun mc ms Q K => zaq w q fun x y z => H' x y z mc ms Q K) := by
  unfold zaq
  rcases zix w q with _ | c
  · exact rl_F
  · rcases c with ⟨ti, len, c⟩ | c
    · rcases c with g | g | g | g | g
      all_goals first | exact h _ _ _ | exact rl_F
    · exact rl_F
theorem rl_zin1 {S : List Value} {H H' : Value → zF} (h : ∀ x, RLx (H x) (H' x)) : RLx (fun mc ms Q K => zin1 S fun x => H x mc ms Q K) (fun mc ms Q K => zin1 S fun x => H' x mc ms Q K) := by
  rcases S with _ | ⟨v, t⟩
  · exact rl_F
  · rcases t with _ | ⟨v2, t⟩
    · exact h _
    · exact rl_F
theorem rl_z2r {S : List Value} {H H' : Option Nat → Option Nat → List Value → zF} (h : ∀ x y t, RLx (H x y t) (H' x y t)) : RLx (fun mc ms Q K => z2r S fun x y t => H x y t mc ms Q K) (fun mc ms Q K => z2r S fun x y t => H' x y t mc ms Q K) := by
  rcases S with _ | ⟨v, t⟩
  · exact rl_F
  · rcases t with _ | ⟨v2, t⟩
    · exact rl_F
    · cases v <;> cases v2 <;> first | exact h _ _ _ | exact rl_F
theorem rl_zasv {S : List Value} {H H' : Value → List Value → zF} (h : ∀ x t, RLx (H x t) (H' x t)) : RLx (fun mc ms Q K => zasv S fun x t => H x t mc ms Q K) (fun mc ms Q K => zasv S fun x t => H' x t mc ms Q K) := by
  rcases S with _ | ⟨v, t⟩
  · exact rl_F
  · cases v <;> first | exact h _ _ | exact rl_F
theorem rl_zrn {S : List Value} {H H2 H' H2' : List Value → zF} (h : ∀ t, RLx (H t) (H' t)) (h2 : ∀ t, RLx (H2 t) (H2' t)) : RLx (fun mc ms Q K => zrn S (fun t => H t mc ms Q K) (fun t => H2 t mc ms Q K)) (fun mc ms Q K => zrn S (fun t => H' t mc ms Q K) (fun t => H2' t mc ms Q K)) := by
  rcases S with _ | ⟨v, t⟩
  · exact rl_F
  · cases v <;> first | exact h _ | exact h2 _ | exact rl_F
theorem rl_zrn2 {v : Value} {H H' : Nat → zF} (h : ∀ t, RLx (H t) (H' t)) (h2 : RLx F G) : RLx (fun mc ms Q K => zrn2 v (fun t => H t mc ms Q K) (F mc ms Q K)) (fun mc ms Q K => zrn2 v (fun t => H' t mc ms Q K) (G mc ms Q K)) := by
  cases v <;> first | exact h _ | exact h2 | exact rl_F
theorem rl_zfld {fs : List Value} {b : Nat} {H H' : Value → zF} (h : ∀ x, RLx (H x) (H' x)) : RLx (fun mc ms Q K => zfld fs b fun x => H x mc ms Q K) (fun mc ms Q K => zfld fs b fun x => H' x mc ms Q K) := by
  unfold zfld
  rcases zix fs b with _ | v
  · exact rl_F
  · exact h _
theorem rl_zext {E : zX} {H H' : Nat → (Nat → Int32) → zF} (h : ∀ x y, RLx (H x y) (H' x y)) : RLx (fun mc ms Q K => zext E fun x y => H x y mc ms Q K) (fun mc ms Q K => zext E fun x y => H' x y mc ms Q K) := by
  rcases E with _ | q
  · exact rl_F
  · exact h _ _
theorem rl_zcpy {S : List Value} {H H' : Nat → Int32 → Nat → Int32 → Int32 → List Value → zF} (h : ∀ a b c d e t, RLx (H a b c d e t) (H' a b c d e t)) : RLx (fun mc ms Q K => zcpy S fun a b c d e t => H a b c d e t mc ms Q K) (fun mc ms Q K => zcpy S fun a b c d e t => H' a b c d e t mc ms Q K) := by
  unfold zcpy
  split
  · exact h _ _ _ _ _ _
  · exact rl_F
theorem rl_znil {S : List Value} (h : RLx F G) : RLx (fun mc ms Q K => znil S (F mc ms Q K)) (fun mc ms Q K => znil S (G mc ms Q K)) := by
  rcases S with _ | ⟨v, t⟩
  · exact h
  · exact rl_F
end RLs
set_option maxHeartbeats 4000000 in
theorem z_two {C : zCT} (hC : ∀ a As w mc ms Q mc' ms' Q', C a As w mc ms Q → C a As w mc' ms' Q' → ∃ r w', Q r w' ∧ Q' r w') {d : Nat} {M : zM} {E : zX} {tab : List zM} {pc : Nat} {L : zL} {S : List Value} {w : zW} {k n k' n' : Nat} {i : Instr} {np a b : Nat} : RLx (fun mc ms Q K => zins C d M E tab mc ms Q pc L S w k n i np a b K) (fun mc ms Q K => zins C d M E tab mc ms Q pc L S w k' n' i np a b K) := by
  cases i <;> first | exact rl_F | exact rl_K ⟨rfl, rfl, rfl, rfl⟩ | (unfold zins; dsimp only; repeat' first | exact rl_F | exact rl_K ⟨rfl, rfl, rfl, rfl⟩ | exact rl_fin | exact rl_call hC | refine rl_z2r fun _ _ _ => ?_ | refine rl_zif ?_ | refine rl_zor ?_ ?_ | refine rl_and ?_ | refine rl_br ?_ ?_ | refine rl_ex fun _ => ?_ | refine rl_zbr ?_ ?_ | refine rl_zbr0 ?_ ?_ | refine rl_zbra ?_ ?_ | refine rl_z1i fun _ _ => ?_ | refine rl_z1l fun _ _ => ?_ | refine rl_z1r fun _ _ => ?_ | refine rl_z1v fun _ _ => ?_ | refine rl_z2i fun _ _ _ => ?_ | refine rl_z2l fun _ _ _ => ?_ | refine rl_zil fun _ _ _ => ?_ | refine rl_zgf (fun _ _ => ?_) (fun _ _ => ?_) | refine rl_zlen1 (fun _ _ => ?_) (fun _ _ => ?_) | refine rl_zvt fun _ _ => ?_ | refine rl_zvr fun _ _ _ => ?_ | refine rl_zvr2 fun _ _ _ => ?_ | refine rl_zia (fun _ _ _ => ?_) (fun _ _ _ => ?_) | refine rl_zvia fun _ _ _ _ => ?_ | refine rl_zli fun _ => ?_ | refine rl_zll fun _ => ?_ | refine rl_zla fun _ => ?_ | refine rl_zob fun _ => ?_ | refine rl_zai fun _ _ _ => ?_ | refine rl_zaq fun _ _ _ => ?_ | refine rl_zin1 fun _ => ?_ | refine rl_zasv fun _ _ => ?_ | refine rl_zrn (fun _ => ?_) (fun _ => ?_) | refine rl_zrn2 (fun _ => ?_) ?_ | refine rl_zfld fun _ => ?_ | refine rl_zext fun _ _ => ?_ | refine rl_zcpy fun _ _ _ _ _ _ => ?_ | refine rl_znil ?_)
theorem zsc_two {C : zCT} (hC : ∀ a As w mc ms Q mc' ms' Q', C a As w mc ms Q → C a As w mc' ms' Q' → ∃ r w', Q r w' ∧ Q' r w') {d : Nat} {M : zM} {E : zX} {tab : List zM} {pc : Nat} {L : zL} {S : List Value} {w : zW} {k n k' n' : Nat} : RLx (fun mc ms Q K => zsc C d M E tab mc ms Q pc L S w k n K) (fun mc ms Q K => zsc C d M E tab mc ms Q pc L S w k' n' K) := by
  unfold zsc
  rcases zat M.2.2.2.2.2 pc with _ | e
  · exact rl_F
  · exact z_two hC
theorem zwp_unf {C : zCT} {d : Nat} {M : zM} {E : zX} {tab : List zM} {mc ms : Nat} {Q : zQ} {x : zS} (h : zwp C d M E tab mc ms Q x) : ∃ P : zS → Prop, (∀ u, P u → zwp C d M E tab mc ms Q u) ∧ zstep C d M E tab mc ms Q x P := by
  refine h (fun y => ∃ P : zS → Prop, (∀ u, P u → zwp C d M E tab mc ms Q u) ∧ zstep C d M E tab mc ms Q y P) ?_
  rintro y ⟨P, hPR, hs⟩
  refine ⟨P, fun u hu => ?_, hs⟩
  obtain ⟨P2, a, b⟩ := hPR u hu
  exact fun R hR => hR u ⟨P2, fun z hz => a z hz R hR, b⟩
theorem zwp_two {C : zCT} (hC : ∀ a As w mc ms Q mc' ms' Q', C a As w mc ms Q → C a As w mc' ms' Q' → ∃ r w', Q r w' ∧ Q' r w') {d : Nat} {M : zM} {E : zX} {tab : List zM} {mc ms mc' ms' : Nat} {Q Q' : zQ} {x : zS} (h : zwp C d M E tab mc ms Q x) : ∀ y, sim x y → zwp C d M E tab mc' ms' Q' y → ∃ r w', Q r w' ∧ Q' r w' := by
  refine h (fun x => ∀ y, sim x y → zwp C d M E tab mc' ms' Q' y → ∃ r w', Q r w' ∧ Q' r w') ?_
  rintro ⟨pc, L, S, w, k, n⟩ ⟨P, hPR, hs⟩ ⟨pc2, L2, S2, w2, k2, n2⟩ ⟨e1, e2, e3, e4⟩ hy
  dsimp only at e1 e2 e3 e4
  subst e1 e2 e3 e4
  obtain ⟨P2, hP2, hs2⟩ := zwp_unf hy
  rcases zsc_two hC mc ms Q P mc' ms' Q' P2 hs hs2 with ⟨u, v, a, b, c⟩ | ⟨r, w', a, b⟩
  · exact hPR u a v c (hP2 v b)
  · exact ⟨r, w', a, b⟩
theorem zCl_two {tab : List zM} : ∀ (d a : Nat) (As : List Value) (w : zW) (mc ms : Nat) (Q : zQ) (mc' ms' : Nat) (Q' : zQ), zCl tab d a As w mc ms Q → zCl tab d a As w mc' ms' Q' → ∃ r w', Q r w' ∧ Q' r w' := by
  intro d
  induction d with
  | zero => exact fun _ _ _ _ _ _ _ _ _ h => h.elim
  | succ d ih =>
    intro a As w mc ms Q mc' ms' Q' h h2
    unfold zCl at h h2
    revert h h2
    rcases zix tab a with _ | M
    · exact fun h => h.elim
    · rintro ⟨hl, hz⟩ ⟨hl2, hz2⟩
      exact zwp_two ih hz _ ⟨rfl, rfl, rfl, rfl⟩ hz2
