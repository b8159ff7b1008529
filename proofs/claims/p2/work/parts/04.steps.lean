/-! THE PURE MACHINE IS SOUND, one instruction at a time. -/
theorem z1i_s {S : List Value} {f : Int32 → List Value → Prop} (h : z1i S f) : ∃ x t, S = .int x :: t ∧ f x t := by
  unfold z1i at h
  split at h
  · exact ⟨_, _, rfl, h⟩
  · exact h.elim
theorem z2i_s {S : List Value} {f : Int32 → Int32 → List Value → Prop} (h : z2i S f) : ∃ x y t, S = .int y :: .int x :: t ∧ f x y t := by
  unfold z2i at h
  split at h
  · exact ⟨_, _, _, rfl, h⟩
  · exact h.elim
theorem z1l_s {S : List Value} {f : Int64 → List Value → Prop} (h : z1l S f) : ∃ x t, S = .long x :: t ∧ f x t := by
  unfold z1l at h
  split at h
  · exact ⟨_, _, rfl, h⟩
  · exact h.elim
theorem z2l_s {S : List Value} {f : Int64 → Int64 → List Value → Prop} (h : z2l S f) : ∃ x y t, S = .long y :: .long x :: t ∧ f x y t := by
  unfold z2l at h
  split at h
  · exact ⟨_, _, _, rfl, h⟩
  · exact h.elim
theorem zil_s {S : List Value} {f : Int64 → Int32 → List Value → Prop} (h : zil S f) : ∃ x y t, S = .int y :: .long x :: t ∧ f x y t := by
  unfold zil at h
  split at h
  · exact ⟨_, _, _, rfl, h⟩
  · exact h.elim
theorem zro_s {v : Value} {r : Option Nat} (h : zro v = some r) : v = va_rf r := by
  unfold zro at h
  split at h <;> cases h <;> rfl
theorem z2r_s {S : List Value} {f : Option Nat → Option Nat → List Value → Prop} (h : z2r S f) : ∃ rx ry t, S = va_rf ry :: va_rf rx :: t ∧ f rx ry t := by
  unfold z2r at h
  split at h
  · split at h
    · rename_i rx hx
      split at h
      · rename_i ry hy
        exact ⟨rx, ry, _, by rw [zro_s hx, zro_s hy], h⟩
      · exact h.elim
    · exact h.elim
  · exact h.elim
theorem z1r_s {S : List Value} {f : Nat → List Value → Prop} (h : z1r S f) : ∃ q t, S = .ref q :: t ∧ f q t := by
  unfold z1r at h
  split at h
  · exact ⟨_, _, rfl, h⟩
  · exact h.elim
theorem z1v_s {S : List Value} {f : Value → List Value → Prop} (h : z1v S f) : ∃ v t, S = v :: t ∧ f v t := by
  unfold z1v at h
  split at h
  · exact ⟨_, _, rfl, h⟩
  · exact h.elim
theorem zvr2_s {S : List Value} {f : Value → Value → List Value → Prop} (h : zvr2 S f) : ∃ v u t, S = v :: u :: t ∧ f v u t := by
  unfold zvr2 at h
  split at h
  · exact ⟨_, _, _, rfl, h⟩
  · exact h.elim
theorem zvr_s {S : List Value} {f : Value → Nat → List Value → Prop} (h : zvr S f) : ∃ v q t, S = v :: .ref q :: t ∧ f v q t := by
  unfold zvr at h
  split at h
  · exact ⟨_, _, _, rfl, h⟩
  · exact h.elim
theorem zia_s {S : List Value} {f g : Int32 → Nat → List Value → Prop} (h : zia S f g) : (∃ i q t, S = .int i :: .ref q :: t ∧ f i q t) ∨ ∃ i j t, S = .int i :: .retAddr j :: t ∧ g i j t := by
  unfold zia at h
  split at h
  · exact Or.inl ⟨_, _, _, rfl, h⟩
  · exact Or.inr ⟨_, _, _, rfl, h⟩
  · exact h.elim
theorem zvia_s {S : List Value} {f : Value → Int32 → Nat → List Value → Prop} (h : zvia S f) : ∃ v i q t, S = v :: .int i :: .ref q :: t ∧ f v i q t := by
  unfold zvia at h
  split at h
  · exact ⟨_, _, _, _, rfl, h⟩
  · exact h.elim
theorem zasv_s {S : List Value} {f : Value → List Value → Prop} (h : zasv S f) : (∃ q t, S = .ref q :: t ∧ f (.ref q) t) ∨ ∃ t, S = .null :: t ∧ f .null t := by
  unfold zasv at h
  split at h
  · exact Or.inl ⟨_, _, rfl, h⟩
  · exact Or.inr ⟨_, rfl, h⟩
  · exact h.elim
theorem zrn_s {S : List Value} {f g : List Value → Prop} (h : zrn S f g) : (∃ q t, S = .ref q :: t ∧ f t) ∨ ∃ t, S = .null :: t ∧ g t := by
  unfold zrn at h
  split at h
  · exact Or.inl ⟨_, _, rfl, h⟩
  · exact Or.inr ⟨_, rfl, h⟩
  · exact h.elim
theorem zrn2_s {v : Value} {f : Nat → Prop} {g : Prop} (h : zrn2 v f g) : (∃ q, v = .ref q ∧ f q) ∨ (v = .null ∧ g) := by
  unfold zrn2 at h
  split at h
  · exact Or.inl ⟨_, rfl, h⟩
  · exact Or.inr ⟨rfl, h⟩
  · exact h.elim
theorem zif_s {b : Bool} {A : Prop} (h : zif b A) : b = true ∧ A := by
  cases b
  · exact h.elim
  · exact ⟨rfl, h⟩
theorem zor_s {b : Bool} {A B : Prop} (h : zor b A B) : (b = true ∧ A) ∨ (b = false ∧ B) := by
  cases b
  · exact Or.inr ⟨rfl, h⟩
  · exact Or.inl ⟨rfl, h⟩
theorem zli_s {L : zL} {j : Nat} {f : Int32 → Prop} (h : zli L j f) : ∃ x, zget L j = some (.int x) ∧ f x := by
  unfold zli at h
  split at h
  next hz => exact ⟨_, hz, h⟩
  · exact h.elim
theorem zll_s {L : zL} {j : Nat} {f : Int64 → Prop} (h : zll L j f) : ∃ x, zget L j = some (.long x) ∧ f x := by
  unfold zll at h
  split at h
  next hz => exact ⟨_, hz, h⟩
  · exact h.elim
theorem zla_s {L : zL} {j : Nat} {f : Value → Prop} (h : zla L j f) : ∃ v, zget L j = some v ∧ ((∃ q, v = .ref q) ∨ v = .null ∨ ∃ q, v = .retAddr q) ∧ f v := by
  unfold zla at h
  split at h
  next hz => exact ⟨_, hz, Or.inl ⟨_, rfl⟩, h⟩
  next hz => exact ⟨_, hz, Or.inr (Or.inl rfl), h⟩
  next hz => exact ⟨_, hz, Or.inr (Or.inr ⟨_, rfl⟩), h⟩
  · exact h.elim
theorem zob_s {w : zW} {q ci : Nat} {f : List Value → Prop} (h : zob w q ci f) : ∃ fs, zix w q = some (.inr (ci, fs)) ∧ f fs := by
  unfold zob at h
  split at h
  next hz =>
    obtain ⟨h1, h2⟩ := zif_s h
    have := Nat.eq_of_beq_eq_true h1
    subst this
    exact ⟨_, hz, h2⟩
  · exact h.elim
theorem zai_s {w : zW} {q : Nat} {f : Nat → Nat → (Nat → Int32) → Prop} (h : zai w q f) : ∃ ti len g, zix w q = some (.inl (ti, len, .inl g)) ∧ f ti len g := by
  unfold zai at h
  split at h
  next hz => exact ⟨_, _, _, hz, h⟩
  · exact h.elim
theorem zaq_s {w : zW} {q : Nat} {f : Nat → Nat → (Nat → Option Nat) → Prop} (h : zaq w q f) : ∃ ti len g, zix w q = some (.inl (ti, len, .inr (.inr (.inr (.inr g))))) ∧ f ti len g := by
  unfold zaq at h
  split at h
  next hz => exact ⟨_, _, _, hz, h⟩
  · exact h.elim
theorem zfld_s {fs : List Value} {b : Nat} {f : Value → Prop} (h : zfld fs b f) : ∃ v, zix fs b = some v ∧ f v := by
  unfold zfld at h
  split at h
  next hz => exact ⟨_, hz, h⟩
  · exact h.elim
theorem zext_s {E : zX} {f : Nat → (Nat → Int32) → Prop} (h : zext E f) : ∃ q, E = some q ∧ f q.1 q.2 := by
  unfold zext at h
  split at h
  · exact ⟨_, rfl, h⟩
  · exact h.elim
theorem zlen1_s {S : List Value} {f g : Nat → List Value → Prop} (h : zlen1 S f g) : (∃ j t, S = .retAddr j :: t ∧ f j t) ∨ ∃ q t, S = .ref q :: t ∧ g q t := by
  unfold zlen1 at h
  split at h
  · exact Or.inl ⟨_, _, rfl, h⟩
  · exact Or.inr ⟨_, _, rfl, h⟩
  · exact h.elim
theorem zgf_s {S : List Value} {f g : Nat → List Value → Prop} (h : zgf S f g) : (∃ q t, S = .ref q :: t ∧ f q t) ∨ ∃ j t, S = .retAddr j :: t ∧ g j t := by
  unfold zgf at h
  split at h
  · exact Or.inl ⟨_, _, rfl, h⟩
  · exact Or.inr ⟨_, _, rfl, h⟩
  · exact h.elim
theorem zvt_s {w : zW} {q a : Nat} {f : Nat → Nat → Prop} (h : zvt w q a f) : ∃ fs ci a', zix w q = some (.inr (ci, fs)) ∧ ((ci = 0 ∧ a' = a % 1000) ∨ (ci = 9 ∧ a' = a / 1000 % 1000) ∨ (ci = 5 ∧ a' = a / 1000000)) ∧ f ci a' := by
  unfold zvt at h
  split at h
  next hz =>
    split at h
    · exact ⟨_, _, _, hz, Or.inl ⟨rfl, rfl⟩, h⟩
    · exact ⟨_, _, _, hz, Or.inr (Or.inl ⟨rfl, rfl⟩), h⟩
    · exact ⟨_, _, _, hz, Or.inr (Or.inr ⟨rfl, rfl⟩), h⟩
    · exact h.elim
  · exact h.elim
theorem zstr_s {j : Nat} (h : zstr j = true) : ∃ i, i < 15 ∧ j = i + 1 := by
  unfold zstr at h
  simp only [Bool.and_eq_true] at h
  have h1 := Nat.le_of_ble_eq_true h.1
  have h2 := Nat.le_of_ble_eq_true h.2
  exact ⟨j - 1, by omega, by omega⟩
theorem zsby_s {j : Nat} (h : zsby j = true) : ∃ i, i < 15 ∧ j = i + 101 := by
  unfold zsby at h
  simp only [Bool.and_eq_true] at h
  have h1 := Nat.le_of_ble_eq_true h.1
  have h2 := Nat.le_of_ble_eq_true h.2
  exact ⟨j - 101, by omega, by omega⟩
theorem zcpy_s {S : List Value} {f : Nat → Int32 → Nat → Int32 → Int32 → List Value → Prop} (h : zcpy S f) : ∃ q0 sp q1 dp m t, S = .int m :: .int dp :: .ref q1 :: .int sp :: .ref q0 :: t ∧ f q0 sp q1 dp m t := by
  unfold zcpy at h
  split at h
  · exact ⟨_, _, _, _, _, _, rfl, h⟩
  · exact h.elim
theorem zin1_s {S : List Value} {f : Value → Prop} (h : zin1 S f) : ∃ v, S = [v] ∧ f v := by
  unfold zin1 at h
  split at h
  · exact ⟨_, rfl, h⟩
  · exact h.elim
theorem znil_s {S : List Value} {A : Prop} (h : znil S A) : S = [] ∧ A := by
  unfold znil at h
  split at h
  · exact ⟨rfl, h⟩
  · exact h.elim
theorem zv_cat (b : Nat) (sc : Nat → Option Nat) (v : Value) : (zv b sc v).category = v.category := by cases v <;> first | rfl | exact zrf_cat _
theorem zrm_s {b : Nat} {sc : Nat → Option Nat} {S : List Value} (h : zrm S = true) : ((S.map (zv b sc)).map fun v => v.category).sum ≤ 8 := by
  rw [List.map_map, show ((fun v : Value => v.category) ∘ zv b sc) = fun v => v.category from funext (zv_cat b sc)]
  exact Nat.le_of_ble_eq_true h
theorem zv_rf (b : Nat) (sc : Nat → Option Nat) (o : Option Nat) : va_rf (o.map (b + ·)) = zv b sc (va_rf o) := by cases o <;> rfl
theorem zv_map (b : Nat) (sc : Nat → Option Nat) (o : Option Nat) : zv b sc (va_rf o) = va_rf (o.map (b + ·)) := (zv_rf b sc o).symm
theorem zmap_inj {b : Nat} {x y : Option Nat} : x.map (b + ·) = y.map (b + ·) ↔ x = y := by
  cases x <;> cases y <;> simp
theorem zv_dv (b : Nat) (sc : Nat → Option Nat) (ty : FieldType) : zv b sc (defaultValue ty) = defaultValue ty := by cases ty <;> rfl
theorem zdl_get : ∀ (n i j : Nat) (f : Nat → FieldType), j < n → (zdl n i f)[j]? = some (defaultValue (f (i + j)))
  | 0, _, _, _, h => absurd h (Nat.not_lt_zero _)
  | n + 1, i, 0, f, _ => rfl
  | n + 1, i, j + 1, f, h => by
    rw [zdl, List.getElem?_cons_succ, zdl_get n (i + 1) j f (by omega), show i + 1 + j = i + (j + 1) by omega]
theorem zfit_s {b : Nat} {sc : Nat → Option Nat} {ty : FieldType} {v : Value} (h : zfit ty v = true) : narrow ty (zv b sc v) = zv b sc v ∧ fits ty (zv b sc v) = true := by
  cases ty <;> cases v <;> first | exact ⟨rfl, rfl⟩ | cases h
theorem zde_s {M : zM} {pc np a b : Nat} {i : Instr} (h : zde M (pc, i, np, a, b) = true) (hz : ¬ zlen i = 0) : np = pc + zlen i ∧ decode M.2.1 pc = .ok (i, zlen i) := by
  unfold zde at h
  simp only [Bool.and_eq_true, Bool.or_eq_true, decide_eq_true_eq] at h
  obtain ⟨h1, h2⟩ := h
  have h3 : np = pc + zlen i := by
    rcases h2 with q | q
    · exact absurd (Nat.eq_of_beq_eq_true q) hz
    · exact Nat.eq_of_beq_eq_true q
  rw [h3, Nat.add_sub_cancel_left] at h1
  exact ⟨h3, h1⟩
theorem zrow_s {tab : List zM} {M : zM} {e : zE} (h : zrow tab M e = true) : (∀ o, zoff e.2.1 = some o → (e.1 : Int) + o = (e.2.2.2.1 : Int)) ∧ zslot M.2.2.1 e.2.1 = true ∧ zsw e.1 e.2.1 = true ∧ zlk tab M e = true := by
  unfold zrow at h
  simp only [Bool.and_eq_true] at h
  obtain ⟨⟨⟨h1, h2⟩, h3⟩, h4⟩ := h
  refine ⟨fun o ho => ?_, h2, h3, h4⟩
  rw [ho] at h1
  simpa using h1
def zroom (d mc ms : Nat) : Room := { frames := d, cells := mc, slots := ms, locals := 35 * d }
def zQc (b : Nat) (sc : Nat → Option Nat) (D : va_G) (dA : Nat → Nat) (z mc : Nat) (Q : zQ) : Array Value → State → Outcome → State → Prop := fun _ st oc t => (∃ (r : Option Value) (w : zW), Q r w ∧ w.length = z + mc ∧ oc = .returned (r.map (zv b sc)) ∧ va_P D zcls (zco b sc dA b w) t.heap) ∧ va_F (fun q => b ≤ q) st t
def zPc (b : Nat) (sc : Nat → Option Nat) (D : va_G) (dA : Nat → Nat) (As : List Value) (w : zW) : Array Value → State → Prop := va_Pc (As.map (zv b sc)) (fun U => U.heap.size = b + w.length ∧ va_P D zcls (zco b sc dA b w) U.heap ∧ va_K D zcls (ztys dA) U ∧ zN U ∧ zXs b sc U U.heap)
def zSnd (tab : List zM) (l : Launch) (d : Nat) : Prop := ∀ (a : Nat) (As : List Value) (w : zW) (mc ms : Nat) (Q : zQ) (M : zM), zix tab a = some M → zCl tab d a As w mc ms Q → 1 ≤ d ∧ ∀ (b : Nat) (sc : Nat → Option Nat) (D : va_G) (dA : Nat → Nat), Met l M.1 (zws tab M) (zroom (d - 1) mc ms) (zPc b sc D dA As w) (zQc b sc D dA w.length mc Q) mc ms (fun q => b ≤ q)
def zrti (i : Instr) (r : Option FieldType) (v : Option Value) : Prop := match i with
  | .ireturn => ∃ x, v = some (.int x) ∧ zret r (.int x)
  | .lreturn => ∃ x, v = some (.long x) ∧ zret r (.long x)
  | .areturn => ((v = some .null ∧ zret r .null) ∨ ∃ q, v = some (.ref q) ∧ zret r (.ref q))
  | .return_ => v = none ∧ r = none
  | _ => False
theorem zPc_blind {b : Nat} {sc : Nat → Option Nat} {D : va_G} {dA : Nat → Nat} {As : List Value} {w : zW} : FrameBlind (zPc b sc D dA As w) := by
  intro a U g mk q
  obtain ⟨q0, q1, qP, qK, qN, qX⟩ := q
  exact ⟨q0, q1, qP, va_K.moved (u := U) (U := U.calling g mk a) (Vm.Alike.refl U.vm) qK, zN.same (s := U) (U := U.calling g mk a) rfl qN, zXs.same (s := U) (U := U.calling g mk a) qX rfl rfl⟩
section ZS
variable {p : Program} {l : Launch} {e : Env} {R : Room} {s : State} {m : MethodId} {args : Array Value} {below : List Frame} {meth : Method} {c : Code} {QW : State → Prop}
theorem zsz {H : Heap} {locs : List Loc} {k n : Nat} {g : JFrame} (h : H.size ≤ s.heap.size + k → W p l e R s m args below meth c H locs k n QW g) : W p l e R s m args below meth c H locs k n QW g :=
  fun T hT X => h (by rw [← hT]; exact X.heapSize) T hT X
theorem z_size {b z0 k : Nat} {sc : Nat → Option Nat} {D : va_G} {dA : Nat → Nat} {w : zW} {H : Heap} {locs : List Loc} (hsz : s.heap.size = b + z0) (hP : va_P D zcls (zco b sc dA b w) H) (hS : va_S (fun q => b ≤ q) s.heap H locs) (hlen : w.length = z0 + k) (hle : H.size ≤ s.heap.size + k) : H.size = b + w.length := by
  have h1 := hS.1
  by_cases hk : k = 0
  · omega
  · have hw : w.length - 1 < w.length := by omega
    have hg : zix w (w.length - 1) = some w[w.length - 1] := by rw [zix_eq]; exact List.getElem?_eq_getElem hw
    have h2 := (hP _ _ (zco_at (b := b) (sc := sc) (dA := dA) hg)).lt
    dsimp only at h2
    omega
theorem z_fresh {b z0 k q : Nat} {sc : Nat → Option Nat} {D : va_G} {dA : Nat → Nat} {w : zW} {H : Heap} {e0 : va_E} (hsz : s.heap.size = b + z0) (hlen : w.length = z0 + k) (hP : va_P D zcls (zco b sc dA b w ++ [(q, e0)]) H) (hD : va_D (fun q => b ≤ q) (zco b sc dA b w ++ [(q, e0)])) (hle : H.size ≤ s.heap.size + (k + 1)) : q = b + w.length := by
  have hl : (zco b sc dA b w ++ [(q, e0)])[w.length]? = some (q, e0) := by
    rw [List.getElem?_append_right (by rw [zco_len]; exact Nat.le_refl _), zco_len, Nat.sub_self]; rfl
  have h1 := (hP _ _ hl).lt
  have h2 := hD.2 _ _ hl
  dsimp only at h1 h2
  by_cases hq : q = b + w.length
  · exact hq
  · exfalso
    have hlt : q - b < w.length := by omega
    have hg : zix w (q - b) = some w[q - b] := by rw [zix_eq]; exact List.getElem?_eq_getElem hlt
    have h3 := zco_at (b := b) (sc := sc) (dA := dA) hg
    have h4 : (zco b sc dA b w ++ [(q, e0)])[q - b]? = some (b + (q - b), zcc b sc dA w[q - b]) := by
      rw [List.getElem?_append_left (by rw [zco_len]; exact hlt)]; exact h3
    have h5 := hD.1 _ _ _ _ h4 hl (by dsimp only; omega)
    omega
def zOK (p : Program) (l : Launch) (e : Env) (R : Room) (s : State) (m : MethodId) (args : Array Value) (below : List Frame) (meth : Method) (c : Code) (QW : State → Prop) (b : Nat) (sc : Nat → Option Nat) (D : va_G) (dA : Nat → Nat) (nL z0 : Nat) (x : zS) : Prop :=
  ∀ (H : Heap) (locs : List Loc) (ls : Array Slot), va_P D zcls (zco b sc dA b x.2.2.2.1) H → va_S (fun q => b ≤ q) s.heap H locs → lv_has ls nL (zpr b sc x.2.1) → x.2.2.2.1.length = z0 + x.2.2.2.2.1 → W p l e R s m args below meth c H locs x.2.2.2.2.1 x.2.2.2.2.2 QW (F0 m x.1 ls (x.2.2.1.map (zv b sc)))
theorem z_call {b z mc' ms' k n pc : Nat} {sc : Nat → Option Nat} {D : va_G} {dA : Nat → Nat} {Qf : zQ} {a0 : Array Value} {H : Heap} {locs : List Loc} {ls : Array Slot} {st0 rest : List Value}
    (hr : va_Run p l e R s m args below meth c H locs k n mc' ms' (F0 m pc ls st0) rest (zQc b sc D dA z mc' Qf a0) (fun q => b ≤ q)) (hS : va_S (fun q => b ≤ q) s.heap H locs)
    (kk : ∀ (r : Option Value) (w' : zW) (H1 : Heap) (locs1 : List Loc), Qf r w' → w'.length = z + mc' → va_P D zcls (zco b sc dA b w') H1 → va_S (fun q => b ≤ q) s.heap H1 locs1 → W p l e R s m args below meth c H1 locs1 (k + mc') (n + ms') QW (F0 m (pc + 3) ls ((r.map (zv b sc)).toList ++ rest))) : W p l e R s m args below meth c H locs k n QW (F0 m pc ls st0) := by
  intro T hT X
  obtain ⟨v, st₀, t, T', L, h0, X', hL, e1, e2, ⟨⟨r, w', hq, hz, hv, hP⟩, hF1, hF2⟩, st⟩ := hr T hT X
  cases hv
  rw [h0] at hF1 hF2
  obtain ⟨t2, a1, b1⟩ := kk r w' T'.heap (locs ++ L) hq hz (by rw [e1]; exact hP)
    ⟨Nat.le_trans hS.1 (by rw [e1]; exact hF1), fun q h1 h2 => by rw [e1, hF2 q (Nat.lt_of_lt_of_le h1 hS.1) h2]; exact hS.2.1 q h1 h2, fun q hq => by
      rcases List.mem_append.mp hq with h | h
      · exact hS.2.2 q h
      · exact hL q h⟩ T' rfl X'
  exact ⟨t2, st t2 a1, b1⟩
end ZS
