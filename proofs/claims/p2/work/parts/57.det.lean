/-! ONE STEP HAS ONE SUCCESSOR: so what a call returns is fixed before it begins, and its room may be told afterwards. -/
def kk (u : zS) : Nat := u.2.2.2.2.1
def nk (u : zS) : Nat := u.2.2.2.2.2
abbrev zF : Type := Nat → Nat → zQ → (zS → Prop) → Prop
def ST1 (k n : Nat) (F : zF) : Prop := ∀ mc ms Q K, F mc ms Q K → (∃ u : zS, K u ∧ k ≤ kk u ∧ n ≤ nk u ∧ ∀ mc0 ms0 Q', ((mc0 = mc ∧ ms0 = ms) ∨ (kk u ≤ mc0 ∧ nk u ≤ ms0)) → F mc0 ms0 Q' (fun z => z = u)) ∨ (∃ r w', Q r w' ∧ ∀ (Q' : zQ) K', Q' r w' → F mc ms Q' K')
section ST
variable {k n : Nat} {F G : zF}
theorem st_F : ST1 k n (fun _ _ _ _ => False) := fun _ _ _ _ h => h.elim
theorem st_K {u : zS} (h1 : k ≤ kk u) (h2 : n ≤ nk u) : ST1 k n (fun _ _ _ K => K u) := fun _ _ _ _ h => Or.inl ⟨u, h, h1, h2, fun _ _ _ _ => rfl⟩
theorem st_zif {b : Bool} (h : ST1 k n F) : ST1 k n (fun mc ms Q K => zif b (F mc ms Q K)) := by
  cases b
  · exact st_F
  · exact h
theorem st_zor {b : Bool} (h : ST1 k n F) (h2 : ST1 k n G) : ST1 k n (fun mc ms Q K => zor b (F mc ms Q K) (G mc ms Q K)) := by
  cases b
  · exact h2
  · exact h
theorem st_and {P : Prop} (h : ST1 k n F) : ST1 k n (fun mc ms Q K => P ∧ F mc ms Q K) := by
  rintro mc ms Q K ⟨hp, hf⟩
  rcases h mc ms Q K hf with ⟨u, a, b, c, d⟩ | ⟨r, w', a, b⟩
  · exact Or.inl ⟨u, a, b, c, fun mc0 ms0 Q' e => ⟨hp, d mc0 ms0 Q' e⟩⟩
  · exact Or.inr ⟨r, w', a, fun Q' K' e => ⟨hp, b Q' K' e⟩⟩
theorem st_br {P : Prop} (h : ST1 k n F) (h2 : ST1 k n G) : ST1 k n (fun mc ms Q K => (P → F mc ms Q K) ∧ (¬ P → G mc ms Q K)) := by
  rintro mc ms Q K ⟨hf, hg⟩
  by_cases hp : P
  · rcases h mc ms Q K (hf hp) with ⟨u, a, b, c, d⟩ | ⟨r, w', a, b⟩
    · exact Or.inl ⟨u, a, b, c, fun mc0 ms0 Q' e => ⟨fun _ => d mc0 ms0 Q' e, fun x => absurd hp x⟩⟩
    · exact Or.inr ⟨r, w', a, fun Q' K' e => ⟨fun _ => b Q' K' e, fun x => absurd hp x⟩⟩
  · rcases h2 mc ms Q K (hg hp) with ⟨u, a, b, c, d⟩ | ⟨r, w', a, b⟩
    · exact Or.inl ⟨u, a, b, c, fun mc0 ms0 Q' e => ⟨fun x => absurd x hp, fun _ => d mc0 ms0 Q' e⟩⟩
    · exact Or.inr ⟨r, w', a, fun Q' K' e => ⟨fun x => absurd x hp, fun _ => b Q' K' e⟩⟩
theorem st_rb {P : Prop} (h : ST1 k n F) (h2 : ST1 k n G) : ST1 k n (fun mc ms Q K => (¬ P → F mc ms Q K) ∧ (P → G mc ms Q K)) := by
  intro mc ms Q K hh
  rcases st_br (P := P) h2 h mc ms Q K ⟨hh.2, hh.1⟩ with ⟨u, a, b, c, d⟩ | ⟨r, w', a, b⟩
  · exact Or.inl ⟨u, a, b, c, fun mc0 ms0 Q' e => ⟨(d mc0 ms0 Q' e).2, (d mc0 ms0 Q' e).1⟩⟩
  · exact Or.inr ⟨r, w', a, fun Q' K' e => ⟨(b Q' K' e).2, (b Q' K' e).1⟩⟩
theorem st_ex {H : Int → zF} {o : Option Int} (h : ∀ x, ST1 k n (H x)) : ST1 k n (fun mc ms Q K => ∃ x, o = some x ∧ H x mc ms Q K) := by
  rintro mc ms Q K ⟨x, hx, hf⟩
  rcases h x mc ms Q K hf with ⟨u, a, b, c, d⟩ | ⟨r, w', a, b⟩
  · exact Or.inl ⟨u, a, b, c, fun mc0 ms0 Q' e => ⟨x, hx, d mc0 ms0 Q' e⟩⟩
  · exact Or.inr ⟨r, w', a, fun Q' K' e => ⟨x, hx, b Q' K' e⟩⟩
theorem st_zbr {c : Jvm.ClassFile.Cond} {x y : Int32} (h : ST1 k n F) (h2 : ST1 k n G) : ST1 k n (fun mc ms Q K => zbr c x y (F mc ms Q K) (G mc ms Q K)) := by
  cases c
  · exact st_br h h2
  · exact st_rb h h2
  all_goals exact st_br h h2
theorem st_zbr0 {c : Jvm.ClassFile.Cond} {x : Int32} (h : ST1 k n F) (h2 : ST1 k n G) : ST1 k n (fun mc ms Q K => zbr0 c x (F mc ms Q K) (G mc ms Q K)) := by
  cases c
  · exact st_br h h2
  · exact st_rb h h2
  all_goals exact st_br h h2
theorem st_zbra {c : Jvm.ClassFile.ACond} {x y : Option Nat} (h : ST1 k n F) (h2 : ST1 k n G) : ST1 k n (fun mc ms Q K => zbra c x y (F mc ms Q K) (G mc ms Q K)) := by
  cases c
  · exact st_br h h2
  · exact st_rb h h2
theorem st_z1i {S : List Value} {H : Int32 → List Value → zF} (h : ∀ x t, ST1 k n (H x t)) : ST1 k n (fun mc ms Q K => z1i S fun x t => H x t mc ms Q K) := by
  rcases S with _ | ⟨v, t⟩
  · exact st_F
  · cases v <;> first | exact h _ _ | exact st_F
theorem st_z1l {S : List Value} {H : Int64 → List Value → zF} (h : ∀ x t, ST1 k n (H x t)) : ST1 k n (fun mc ms Q K => z1l S fun x t => H x t mc ms Q K) := by
  rcases S with _ | ⟨v, t⟩
  · exact st_F
  · cases v <;> first | exact h _ _ | exact st_F
theorem st_z1r {S : List Value} {H : Nat → List Value → zF} (h : ∀ x t, ST1 k n (H x t)) : ST1 k n (fun mc ms Q K => z1r S fun x t => H x t mc ms Q K) := by
  rcases S with _ | ⟨v, t⟩
  · exact st_F
  · cases v <;> first | exact h _ _ | exact st_F
theorem st_z1v {S : List Value} {H : Value → List Value → zF} (h : ∀ x t, ST1 k n (H x t)) : ST1 k n (fun mc ms Q K => z1v S fun x t => H x t mc ms Q K) := by
  rcases S with _ | ⟨v, t⟩
  · exact st_F
  · exact h _ _
theorem st_z2i {S : List Value} {H : Int32 → Int32 → List Value → zF} (h : ∀ x y t, ST1 k n (H x y t)) : ST1 k n (fun mc ms Q K => z2i S fun x y t => H x y t mc ms Q K) := by
  rcases S with _ | ⟨v, t⟩
  · exact st_F
  · rcases t with _ | ⟨v2, t⟩
    · cases v <;> exact st_F
    · cases v <;> cases v2 <;> first | exact h _ _ _ | exact st_F
theorem st_z2l {S : List Value} {H : Int64 → Int64 → List Value → zF} (h : ∀ x y t, ST1 k n (H x y t)) : ST1 k n (fun mc ms Q K => z2l S fun x y t => H x y t mc ms Q K) := by
  rcases S with _ | ⟨v, t⟩
  · exact st_F
  · rcases t with _ | ⟨v2, t⟩
    · cases v <;> exact st_F
    · cases v <;> cases v2 <;> first | exact h _ _ _ | exact st_F
theorem st_zil {S : List Value} {H : Int64 → Int32 → List Value → zF} (h : ∀ x y t, ST1 k n (H x y t)) : ST1 k n (fun mc ms Q K => zil S fun x y t => H x y t mc ms Q K) := by
  rcases S with _ | ⟨v, t⟩
  · exact st_F
  · rcases t with _ | ⟨v2, t⟩
    · cases v <;> exact st_F
    · cases v <;> cases v2 <;> first | exact h _ _ _ | exact st_F
theorem st_zgf {S : List Value} {H H2 : Nat → List Value → zF} (h : ∀ x t, ST1 k n (H x t)) (h2 : ∀ x t, ST1 k n (H2 x t)) : ST1 k n (fun mc ms Q K => zgf S (fun x t => H x t mc ms Q K) (fun x t => H2 x t mc ms Q K)) := by
  rcases S with _ | ⟨v, t⟩
  · exact st_F
  · cases v <;> first | exact h _ _ | exact h2 _ _ | exact st_F
theorem st_zlen1 {S : List Value} {H H2 : Nat → List Value → zF} (h : ∀ x t, ST1 k n (H x t)) (h2 : ∀ x t, ST1 k n (H2 x t)) : ST1 k n (fun mc ms Q K => zlen1 S (fun x t => H x t mc ms Q K) (fun x t => H2 x t mc ms Q K)) := by
  rcases S with _ | ⟨v, t⟩
  · exact st_F
  · cases v <;> first | exact h _ _ | exact h2 _ _ | exact st_F
theorem st_zvt {w : zW} {q a : Nat} {H : Nat → Nat → zF} (h : ∀ x y, ST1 k n (H x y)) : ST1 k n (fun mc ms Q K => zvt w q a fun x y => H x y mc ms Q K) := by
  unfold zvt
  rcases zix w q with _ | c
  · exact st_F
  · rcases c with c | ⟨ci, fs⟩
    · exact st_F
    · dsimp only
      split
      · exact h _ _
      · exact h _ _
      · exact h _ _
      · exact st_F
theorem st_zvr {S : List Value} {H : Value → Nat → List Value → zF} (h : ∀ x y t, ST1 k n (H x y t)) : ST1 k n (fun mc ms Q K => zvr S fun x y t => H x y t mc ms Q K) := by
  rcases S with _ | ⟨v, t⟩
  · exact st_F
  · rcases t with _ | ⟨v2, t⟩
    · exact st_F
    · cases v2 <;> first | exact h _ _ _ | exact st_F
theorem st_zvr2 {S : List Value} {H : Value → Value → List Value → zF} (h : ∀ x y t, ST1 k n (H x y t)) : ST1 k n (fun mc ms Q K => zvr2 S fun x y t => H x y t mc ms Q K) := by
  rcases S with _ | ⟨v, t⟩
  · exact st_F
  · rcases t with _ | ⟨v2, t⟩
    · exact st_F
    · exact h _ _ _
theorem st_zia {S : List Value} {H H2 : Int32 → Nat → List Value → zF} (h : ∀ x y t, ST1 k n (H x y t)) (h2 : ∀ x y t, ST1 k n (H2 x y t)) : ST1 k n (fun mc ms Q K => zia S (fun x y t => H x y t mc ms Q K) (fun x y t => H2 x y t mc ms Q K)) := by
  rcases S with _ | ⟨v, t⟩
  · exact st_F
  · rcases t with _ | ⟨v2, t⟩
    · cases v <;> exact st_F
    · cases v <;> cases v2 <;> first | exact h _ _ _ | exact h2 _ _ _ | exact st_F
theorem st_zvia {S : List Value} {H : Value → Int32 → Nat → List Value → zF} (h : ∀ x y z t, ST1 k n (H x y z t)) : ST1 k n (fun mc ms Q K => zvia S fun x y z t => H x y z t mc ms Q K) := by
  rcases S with _ | ⟨v, t⟩
  · exact st_F
  · rcases t with _ | ⟨v2, t⟩
    · exact st_F
    · rcases t with _ | ⟨v3, t⟩
      · cases v2 <;> exact st_F
      · cases v2 <;> cases v3 <;> first | exact h _ _ _ _ | exact st_F
theorem st_zli {L : zL} {j : Nat} {H : Int32 → zF} (h : ∀ x, ST1 k n (H x)) : ST1 k n (fun mc ms Q K => zli L j fun x => H x mc ms Q K) := by
  unfold zli
  rcases zget L j with _ | v
  · exact st_F
  · cases v <;> first | exact h _ | exact st_F
theorem st_zll {L : zL} {j : Nat} {H : Int64 → zF} (h : ∀ x, ST1 k n (H x)) : ST1 k n (fun mc ms Q K => zll L j fun x => H x mc ms Q K) := by
  unfold zll
  rcases zget L j with _ | v
  · exact st_F
  · cases v <;> first | exact h _ | exact st_F
theorem st_zla {L : zL} {j : Nat} {H : Value → zF} (h : ∀ x, ST1 k n (H x)) : ST1 k n (fun mc ms Q K => zla L j fun x => H x mc ms Q K) := by
  unfold zla
  rcases zget L j with _ | v
  · exact st_F
  · cases v <;> first | exact h _ | exact st_F
theorem st_zob {w : zW} {q ci : Nat} {H : List Value → zF} (h : ∀ x, ST1 k n (H x)) : ST1 k n (fun mc ms Q K => zob w q ci fun x => H x mc ms Q K) := by
  unfold zob
  rcases zix w q with _ | c
  · exact st_F
  · rcases c with c | ⟨c, fs⟩
    · exact st_F
    · exact st_zif (h _)
theorem st_zai {w : zW} {q : Nat} {H : Nat → Nat → (Nat → Int32) → zF} (h : ∀ x y z, ST1 k n (H x y z)) : ST1 k n (fun mc ms Q K => zai w q fun x y z => H x y z mc ms Q K) := by
  unfold zai
  rcases zix w q with _ | c
  · exact st_F
  · rcases c with ⟨ti, len, c⟩ | c
    · rcases c with g | c
      · exact h _ _ _
      · exact st_F
    · exact st_F
theorem st_zaq {w : zW} {q : Nat} {H : Nat → Nat → (Nat → Option Nat) → zF} (h : ∀ x y z, ST1 k n (H x y z)) : ST1 k n (fun mc ms Q K => zaq w q fun x y z => H x y z mc ms Q K) := by
  unfold zaq
  rcases zix w q with _ | c
  · exact st_F
  · rcases c with ⟨ti, len, c⟩ | c
    · rcases c with g | g | g | g | g
      all_goals first | exact h _ _ _ | exact st_F
    · exact st_F
theorem st_zin1 {S : List Value} {H : Value → zF} (h : ∀ x, ST1 k n (H x)) : ST1 k n (fun mc ms Q K => zin1 S fun x => H x mc ms Q K) := by
  rcases S with _ | ⟨v, t⟩
  · exact st_F
  · rcases t with _ | ⟨v2, t⟩
    · exact h _
    · exact st_F
theorem st_z2r {S : List Value} {H : Option Nat → Option Nat → List Value → zF} (h : ∀ x y t, ST1 k n (H x y t)) : ST1 k n (fun mc ms Q K => z2r S fun x y t => H x y t mc ms Q K) := by
  rcases S with _ | ⟨v, t⟩
  · exact st_F
  · rcases t with _ | ⟨v2, t⟩
    · exact st_F
    · cases v <;> cases v2 <;> first | exact h _ _ _ | exact st_F
theorem st_zasv {S : List Value} {H : Value → List Value → zF} (h : ∀ x t, ST1 k n (H x t)) : ST1 k n (fun mc ms Q K => zasv S fun x t => H x t mc ms Q K) := by
  rcases S with _ | ⟨v, t⟩
  · exact st_F
  · cases v <;> first | exact h _ _ | exact st_F
theorem st_zrn {S : List Value} {H H2 : List Value → zF} (h : ∀ t, ST1 k n (H t)) (h2 : ∀ t, ST1 k n (H2 t)) : ST1 k n (fun mc ms Q K => zrn S (fun t => H t mc ms Q K) (fun t => H2 t mc ms Q K)) := by
  rcases S with _ | ⟨v, t⟩
  · exact st_F
  · cases v <;> first | exact h _ | exact h2 _ | exact st_F
theorem st_zrn2 {v : Value} {H : Nat → zF} (h : ∀ t, ST1 k n (H t)) (h2 : ST1 k n F) : ST1 k n (fun mc ms Q K => zrn2 v (fun t => H t mc ms Q K) (F mc ms Q K)) := by
  cases v <;> first | exact h _ | exact h2 | exact st_F
theorem st_zfld {fs : List Value} {b : Nat} {H : Value → zF} (h : ∀ x, ST1 k n (H x)) : ST1 k n (fun mc ms Q K => zfld fs b fun x => H x mc ms Q K) := by
  unfold zfld
  rcases zix fs b with _ | v
  · exact st_F
  · exact h _
theorem st_zext {E : zX} {H : Nat → (Nat → Int32) → zF} (h : ∀ x y, ST1 k n (H x y)) : ST1 k n (fun mc ms Q K => zext E fun x y => H x y mc ms Q K) := by
  rcases E with _ | q
  · exact st_F
  · exact h _ _
theorem st_zcpy {S : List Value} {H : Nat → Int32 → Nat → Int32 → Int32 → List Value → zF} (h : ∀ a b c d e t, ST1 k n (H a b c d e t)) : ST1 k n (fun mc ms Q K => zcpy S fun a b c d e t => H a b c d e t mc ms Q K) := by
  unfold zcpy
  split
  · exact h _ _ _ _ _ _
  · exact st_F
theorem st_znil {S : List Value} (h : ST1 k n F) : ST1 k n (fun mc ms Q K => znil S (F mc ms Q K)) := by
  rcases S with _ | ⟨v, t⟩
  · exact h
  · exact st_F
theorem st_fin {E : zX} {P : Prop} {r : Option Value} {w : zW} : ST1 k n (fun mc ms Q _ => zfin E k n mc ms ∧ P ∧ Q r w) := by
  rintro mc ms Q K ⟨a, b, c⟩
  exact Or.inr ⟨r, w, c, fun Q' _ h => ⟨a, b, h⟩⟩
theorem st_new {c : Nat} {u : zS} (h1 : kk u = k + 1) (h2 : nk u = n + c) : ST1 k n (fun mc ms _ K => zif (Nat.ble (k + 1) mc) (zif (Nat.ble (n + c) ms) (K u))) := by
  intro mc ms Q K h
  have hK : K u ∧ k + 1 ≤ mc ∧ n + c ≤ ms := by
    revert h
    cases e : Nat.ble (k + 1) mc
    · exact fun h => h.elim
    · cases e2 : Nat.ble (n + c) ms
      · exact fun h => h.elim
      · exact fun h => ⟨h, Nat.ble_eq.mp e, Nat.ble_eq.mp e2⟩
  obtain ⟨hK, hm1, hm2⟩ := hK
  refine Or.inl ⟨u, hK, by omega, by omega, fun mc0 ms0 Q' a => ?_⟩
  show zif _ (zif _ (u = u))
  rw [show Nat.ble (k + 1) mc0 = true from Nat.ble_eq.mpr (by omega), show Nat.ble (n + c) ms0 = true from Nat.ble_eq.mpr (by omega)]
  exact rfl
theorem st_max {b : Bool} {u : zS} (h1 : kk u = k) (h2 : nk u = n) : ST1 k n (fun mc ms _ K => zif (b && (Nat.ble k mc && Nat.ble n ms)) (K u)) := by
  cases b
  · exact st_F
  · intro mc ms Q K h
    have hK : K u ∧ k ≤ mc ∧ n ≤ ms := by
      revert h
      show zif (Nat.ble k mc && Nat.ble n ms) (K u) → _
      cases e : Nat.ble k mc
      · exact fun h => h.elim
      · cases e2 : Nat.ble n ms
        · exact fun h => h.elim
        · exact fun h => ⟨h, Nat.ble_eq.mp e, Nat.ble_eq.mp e2⟩
    obtain ⟨hK, hm1, hm2⟩ := hK
    refine Or.inl ⟨u, hK, by omega, by omega, fun mc0 ms0 Q' a => ?_⟩
    show zif (Nat.ble k mc0 && Nat.ble n ms0) (u = u)
    rw [show Nat.ble k mc0 = true from Nat.ble_eq.mpr (by omega), show Nat.ble n ms0 = true from Nat.ble_eq.mpr (by omega)]
    exact rfl
theorem st_call {C : zCT} (hC : ∀ a As w mc ms Q, C a As w mc ms Q → ∃ r w', Q r w' ∧ C a As w mc ms (fun r1 w1 => r1 = r ∧ w1 = w')) (hM : ∀ a As w mc ms Q Q', (∀ r w', Q r w' → Q' r w') → C a As w mc ms Q → C a As w mc ms Q') {a : Nat} {As S : List Value} {w : zW} {np : Nat} {L : zL} : ST1 k n (fun mc ms _ K => zcall C a As S w k n mc ms np L K) := by
  rintro mc ms Q K ⟨mc', ms', ⟨h1, h2⟩, h⟩
  obtain ⟨r, w', hq, hc⟩ := hC _ _ _ _ _ _ h
  refine Or.inl ⟨_, hq, Nat.le_add_right k mc', Nat.le_add_right n ms', fun mc0 ms0 Q' a => ⟨mc', ms', ?_, hM _ _ _ _ _ _ _ ?_ hc⟩⟩
  · rcases a with ⟨rfl, rfl⟩ | a
    · exact ⟨h1, h2⟩
    · exact a
  rintro r1 w1 ⟨rfl, rfl⟩
  rfl
end ST
set_option maxHeartbeats 4000000 in
theorem z_one {C : zCT} (hC : ∀ a As w mc ms Q, C a As w mc ms Q → ∃ r w', Q r w' ∧ C a As w mc ms (fun r1 w1 => r1 = r ∧ w1 = w')) (hM : ∀ a As w mc ms Q Q', (∀ r w', Q r w' → Q' r w') → C a As w mc ms Q → C a As w mc ms Q') {d : Nat} {M : zM} {E : zX} {tab : List zM} {pc : Nat} {L : zL} {S : List Value} {w : zW} {k n : Nat} {i : Instr} {np a b : Nat} : ST1 k n (fun mc ms Q K => zins C d M E tab mc ms Q pc L S w k n i np a b K) := by
  cases i <;> first | exact st_F | exact st_K (Nat.le_refl _) (Nat.le_refl _) | (unfold zins; dsimp only; repeat' first | exact st_F | exact st_K (Nat.le_refl _) (Nat.le_refl _) | exact st_fin | exact st_new rfl rfl | exact st_max rfl rfl | exact st_call hC hM | refine st_z2r fun _ _ _ => ?_ | refine st_zif ?_ | refine st_zor ?_ ?_ | refine st_and ?_ | refine st_br ?_ ?_ | refine st_ex fun _ => ?_ | refine st_zbr ?_ ?_ | refine st_zbr0 ?_ ?_ | refine st_zbra ?_ ?_ | refine st_z1i fun _ _ => ?_ | refine st_z1l fun _ _ => ?_ | refine st_z1r fun _ _ => ?_ | refine st_z1v fun _ _ => ?_ | refine st_z2i fun _ _ _ => ?_ | refine st_z2l fun _ _ _ => ?_ | refine st_zil fun _ _ _ => ?_ | refine st_zgf (fun _ _ => ?_) (fun _ _ => ?_) | refine st_zlen1 (fun _ _ => ?_) (fun _ _ => ?_) | refine st_zvt fun _ _ => ?_ | refine st_zvr fun _ _ _ => ?_ | refine st_zvr2 fun _ _ _ => ?_ | refine st_zia (fun _ _ _ => ?_) (fun _ _ _ => ?_) | refine st_zvia fun _ _ _ _ => ?_ | refine st_zli fun _ => ?_ | refine st_zll fun _ => ?_ | refine st_zla fun _ => ?_ | refine st_zob fun _ => ?_ | refine st_zai fun _ _ _ => ?_ | refine st_zaq fun _ _ _ => ?_ | refine st_zin1 fun _ => ?_ | refine st_zasv fun _ _ => ?_ | refine st_zrn (fun _ => ?_) (fun _ => ?_) | refine st_zrn2 (fun _ => ?_) ?_ | refine st_zfld fun _ => ?_ | refine st_zext fun _ _ => ?_ | refine st_zcpy fun _ _ _ _ _ _ => ?_ | refine st_znil ?_)

theorem zsc_one {C : zCT} (hC : ∀ a As w mc ms Q, C a As w mc ms Q → ∃ r w', Q r w' ∧ C a As w mc ms (fun r1 w1 => r1 = r ∧ w1 = w')) (hM : ∀ a As w mc ms Q Q', (∀ r w', Q r w' → Q' r w') → C a As w mc ms Q → C a As w mc ms Q') {d : Nat} {M : zM} {E : zX} {tab : List zM} {pc : Nat} {L : zL} {S : List Value} {w : zW} {k n : Nat} : ST1 k n (fun mc ms Q K => zsc C d M E tab mc ms Q pc L S w k n K) := by
  unfold zsc
  rcases zat M.2.2.2.2.2 pc with _ | e
  · exact st_F
  · exact z_one hC hM
theorem zwp_det {C : zCT} (hC : ∀ a As w mc ms Q, C a As w mc ms Q → ∃ r w', Q r w' ∧ C a As w mc ms (fun r1 w1 => r1 = r ∧ w1 = w')) (hM : ∀ a As w mc ms Q Q', (∀ r w', Q r w' → Q' r w') → C a As w mc ms Q → C a As w mc ms Q') {d : Nat} {M : zM} {E : zX} {tab : List zM} {mc ms : Nat} {Q : zQ} {x : zS} (h : zwp C d M E tab mc ms Q x) : ∃ r w', Q r w' ∧ ∀ Q' : zQ, Q' r w' → zwp C d M E tab mc ms Q' x := by
  refine h (fun x => ∃ r w', Q r w' ∧ ∀ Q' : zQ, Q' r w' → zwp C d M E tab mc ms Q' x) ?_
  rintro y ⟨P, hPR, hs⟩
  rcases zsc_one hC hM mc ms Q P hs with ⟨u, a, b, c, dd⟩ | ⟨r, w', a, b⟩
  · obtain ⟨r, w', hq, hz⟩ := hPR u a
    exact ⟨r, w', hq, fun Q' hQ' R hR => hR y ⟨fun z => z = u, fun z e => by subst e; exact hz Q' hQ' R hR, dd mc ms Q' (Or.inl ⟨rfl, rfl⟩)⟩⟩
  · exact ⟨r, w', a, fun Q' hQ' R hR => hR y ⟨R, fun _ q => q, b Q' R hQ'⟩⟩
theorem zCl_det {tab : List zM} : ∀ (d a : Nat) (As : List Value) (w : zW) (mc ms : Nat) (Q : zQ), zCl tab d a As w mc ms Q → ∃ r w', Q r w' ∧ ∀ Q' : zQ, Q' r w' → zCl tab d a As w mc ms Q' := by
  intro d
  induction d with
  | zero => exact fun _ _ _ _ _ _ h => h.elim
  | succ d ih =>
    intro a As w mc ms Q h
    unfold zCl at h ⊢
    revert h
    rcases zix tab a with _ | M
    · exact fun h => h.elim
    · rintro ⟨hl, hz⟩
      obtain ⟨r, w', hq, hz'⟩ := zwp_det (fun a As w mc ms Q h => by obtain ⟨r, w', x, y⟩ := ih a As w mc ms Q h; exact ⟨r, w', x, y _ ⟨rfl, rfl⟩⟩) (fun a As w mc ms Q Q' hi h => by obtain ⟨r, w', x, y⟩ := ih a As w mc ms Q h; exact y _ (hi _ _ x)) hz
      exact ⟨r, w', hq, fun Q' h => ⟨hl, hz' Q' h⟩⟩
/-- a call with its room, its answer and its world, all fixed -/
def DET (tab : List zM) (d a : Nat) (As : List Value) (w : zW) (P : Nat → Nat → Option Value → zW → Prop) : Prop := ∃ mc ms r w', P mc ms r w' ∧ ∀ Q : zQ, Q r w' → zCl tab d a As w mc ms Q
theorem det_of {tab : List zM} {d a : Nat} {As : List Value} {w : zW} {mc ms : Nat} {P : Nat → Nat → Option Value → zW → Prop} (h : zCl tab d a As w mc ms (P mc ms)) : DET tab d a As w P := by
  obtain ⟨r, w', a, b⟩ := zCl_det d a As w mc ms _ h
  exact ⟨mc, ms, r, w', a, b⟩
theorem z_rel {tab : List zM} {d a : Nat} {As : List Value} {w : zW} {M : zM} (P : Nat → Nat → Option Value → zW → Prop) (hM : zix tab a = some M) (hl : (lg_sl As).length ≤ M.2.2.1) (h : ∀ R : zS → Prop, (∀ {pc : Nat} {L : zL} {S : List Value} {w : zW} {k n : Nat} (mc1 ms1 : Nat), k ≤ mc1 → n ≤ ms1 → zsc (zCl tab d) d M none tab mc1 ms1 (P mc1 ms1) pc L S w k n R → R (pc, L, S, w, k, n)) → R (0, zent M.2.2.1 As, [], w, 0, 0)) : DET tab (d + 1) a As w P := by
  have hh := h (fun x => ∃ mc ms, kk x ≤ mc ∧ nk x ≤ ms ∧ zwp (zCl tab d) d M none tab mc ms (P mc ms) x) ?_
  · obtain ⟨mc, ms, _, _, hz⟩ := hh
    refine det_of (mc := mc) (ms := ms) ?_
    unfold zCl
    rw [hM]
    exact ⟨hl, hz⟩
  · intro pc L S w k n mc1 ms1 h1 h2 hs
    rcases zsc_one (fun a As w mc ms Q h => by obtain ⟨r, w', x, y⟩ := zCl_det d a As w mc ms Q h; exact ⟨r, w', x, y _ ⟨rfl, rfl⟩⟩) (fun a As w mc ms Q Q' hi h => by obtain ⟨r, w', x, y⟩ := zCl_det d a As w mc ms Q h; exact y _ (hi _ _ x)) mc1 ms1 _ _ hs with ⟨u, a, b, c, dd⟩ | ⟨r, w', a, b⟩
    · obtain ⟨mc, ms, e1, e2, hz⟩ := a
      exact ⟨mc, ms, Nat.le_trans b e1, Nat.le_trans c e2, fun R' hR' => hR' _ ⟨fun z => z = u, fun z e => by subst e; exact hz R' hR', dd mc ms _ (Or.inr ⟨e1, e2⟩)⟩⟩
    · exact ⟨mc1, ms1, h1, h2, fun R' hR' => hR' _ ⟨R', fun _ q => q, b _ R' a⟩⟩
theorem DET_mo {tab : List zM} {d a : Nat} {As : List Value} {w : zW} {P P' : Nat → Nat → Option Value → zW → Prop} (h : DET tab d a As w P) (hi : ∀ mc ms r w', P mc ms r w' → P' mc ms r w') : DET tab d a As w P' := by
  obtain ⟨mc, ms, r, w', a, b⟩ := h
  exact ⟨mc, ms, r, w', hi _ _ _ _ a, b⟩
