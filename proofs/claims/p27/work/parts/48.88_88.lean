/-! ROWS AGAINST BYTES, by windows of three bytes (a row costs what its bytes cost, not what the method's do). -/
noncomputable def zER {α : Type} (r : Jvm.ClassFile.Decoder α) (c w : ByteArray) (d : Nat) : Prop := ∀ p v q, r w p = .ok (v, q) → r c (p + d) = .ok (v, q + d)
theorem zE_pure {α : Type} {a : α} {c w : ByteArray} {d : Nat} : zER (pure a) c w d := fun p v q h => by
  have h2 : (Except.ok (a, p) : Except Jvm.ClassFile.DecodeError (α × Nat)) = .ok (v, q) := h
  cases h2
  rfl
theorem zE_throw {α : Type} {e : Jvm.ClassFile.DecodeError} {c w : ByteArray} {d : Nat} : zER (throw e : Jvm.ClassFile.Decoder α) c w d := fun p v q h => by
  have h2 : (Except.error e : Except Jvm.ClassFile.DecodeError (α × Nat)) = .ok (v, q) := h
  cases h2
theorem zE_bd {α β : Type} (r : Jvm.ClassFile.Decoder α) (f : α → Jvm.ClassFile.Decoder β) (c : ByteArray) (p : Nat) : (r >>= f) c p = match r c p with
  | .error e => .error e
  | .ok x => f x.1 c x.2 := by
  show Except.bind (r c p) _ = _
  cases r c p <;> rfl
theorem zE_bindB {α β : Type} {r : Jvm.ClassFile.Decoder α} {f : α → Jvm.ClassFile.Decoder β} {c w : ByteArray} {d : Nat} {P : α → Prop} (h1 : zER r c w d) (p : Nat) (hb : ∀ b q, r w p = .ok (b, q) → P b) (h2 : ∀ b, P b → zER (f b) c w d) : ∀ v q, (r >>= f) w p = .ok (v, q) → (r >>= f) c (p + d) = .ok (v, q + d) := by
  intro v q h
  rw [zE_bd] at h ⊢
  cases hr : r w p with
  | error e =>
    rw [hr] at h
    cases h
  | ok x =>
    rw [hr] at h
    rw [h1 p x.1 x.2 hr]
    exact h2 x.1 (hb x.1 x.2 hr) x.2 v q h
theorem zE_bind {α β : Type} {r : Jvm.ClassFile.Decoder α} {f : α → Jvm.ClassFile.Decoder β} {c w : ByteArray} {d : Nat} (h1 : zER r c w d) (h2 : ∀ b, zER (f b) c w d) : zER (r >>= f) c w d := fun p => zE_bindB (P := fun _ => True) h1 p (fun _ _ _ => trivial) (fun b _ => h2 b)
theorem zE_map {α β : Type} {r : Jvm.ClassFile.Decoder α} {f : α → β} {c w : ByteArray} {d : Nat} (h1 : zER r c w d) : zER (f <$> r) c w d := fun p v q h => by
  have e : ∀ (c : ByteArray) (p : Nat), (f <$> r) c p = match r c p with
      | .error e => .error e
      | .ok x => .ok (f x.1, x.2) := fun c p => by
    show Except.bind (r c p) _ = _
    cases r c p <;> rfl
  rw [e] at h ⊢
  cases hr : r w p with
  | error e =>
    rw [hr] at h
    cases h
  | ok x =>
    rw [hr] at h
    rw [h1 p x.1 x.2 hr]
    cases h
    rfl
/-- w is what c has from d on -/
noncomputable def zWin (c w : ByteArray) (d : Nat) : Prop := ∀ k, k < w.size → ∃ (h : k + d < c.size) (h2 : k < w.size), c[k + d] = w[k]
theorem zE_1 (c : ByteArray) (p : Nat) : (Jvm.ClassFile.Reader.u1 : Jvm.ClassFile.Decoder Nat) c p = if h : p < c.size then .ok (c[p].toNat, p + 1) else .error (Jvm.ClassFile.HasTruncated.truncated p) := by
  have e : (Jvm.ClassFile.Reader.u1 : Jvm.ClassFile.Decoder Nat) c p = (if h : p < c.size then (do set (p + 1); pure c[p].toNat : Jvm.ClassFile.Decoder Nat) else throw (Jvm.ClassFile.HasTruncated.truncated p)) c p := rfl
  rw [e]
  by_cases h : p < c.size
  · rw [dif_pos h, dif_pos h]
    rfl
  · rw [dif_neg h, dif_neg h]
    rfl
theorem zE_u1 {c w : ByteArray} {d : Nat} (hw : zWin c w d) : zER Jvm.ClassFile.Reader.u1 c w d := fun p v q h => by
  rw [zE_1] at h ⊢
  by_cases hp : p < w.size
  · rw [dif_pos hp] at h
    obtain ⟨h1, h2, e⟩ := hw p hp
    rw [dif_pos h1, e]
    cases h
    rw [show p + d + 1 = p + 1 + d by omega]
  · rw [dif_neg hp] at h
    cases h
theorem zE_u2 {c w : ByteArray} {d : Nat} (hw : zWin c w d) : zER Jvm.ClassFile.Reader.u2 c w d := zE_bind (zE_u1 hw) fun _ => zE_bind (zE_u1 hw) fun _ => zE_pure
theorem zE_u4 {c w : ByteArray} {d : Nat} (hw : zWin c w d) : zER Jvm.ClassFile.Reader.u4 c w d := zE_bind (zE_u2 hw) fun _ => zE_bind (zE_u2 hw) fun _ => zE_pure
theorem zE_s1 {c w : ByteArray} {d : Nat} (hw : zWin c w d) : zER Jvm.ClassFile.Reader.s1 c w d := zE_map (zE_u1 hw)
theorem zE_s2 {c w : ByteArray} {d : Nat} (hw : zWin c w d) : zER Jvm.ClassFile.Reader.s2 c w d := zE_map (zE_u2 hw)
theorem zE_s4 {c w : ByteArray} {d : Nat} (hw : zWin c w d) : zER Jvm.ClassFile.Reader.s4 c w d := zE_map (zE_u4 hw)
theorem zE_newarray {c w : ByteArray} {d : Nat} (hw : zWin c w d) (pc : Nat) : zER (Jvm.ClassFile.Decoder.newarray pc) c w d := by
  unfold Jvm.ClassFile.Decoder.newarray
  refine zE_bind (zE_u1 hw) fun b => ?_
  split <;> first | exact zE_pure | exact zE_throw
noncomputable def zSpec (b : Nat) : Prop := b ≠ 170 ∧ b ≠ 171 ∧ b ≠ 185 ∧ b ≠ 186 ∧ b ≠ 196 ∧ b ≠ 197
set_option maxRecDepth 100000 in
set_option maxHeartbeats 8000000 in
theorem zE_instr {c w : ByteArray} {d : Nat} (hw : zWin c w d) (pc : Nat) (hb : ∀ b q, (Jvm.ClassFile.Reader.u1 : Jvm.ClassFile.Decoder Nat) w 0 = .ok (b, q) → zSpec b) : ∀ v q, (Jvm.ClassFile.Decoder.instr pc) w 0 = .ok (v, q) → (Jvm.ClassFile.Decoder.instr pc) c (0 + d) = .ok (v, q + d) := by
  unfold Jvm.ClassFile.Decoder.instr
  refine zE_bindB (zE_u1 hw) 0 hb fun b hP => ?_
  split
  all_goals first
    | with_reducible exact zE_pure
    | with_reducible exact zE_throw
    | with_reducible exact zE_bind (zE_u2 hw) fun _ => zE_pure
    | with_reducible exact zE_bind (zE_u1 hw) fun _ => zE_pure
    | with_reducible exact zE_bind (zE_s2 hw) fun _ => zE_pure
    | exact zE_pure
    | exact zE_throw
    | exact zE_bind (zE_u2 hw) fun _ => zE_pure
    | exact zE_bind (zE_u1 hw) fun _ => zE_pure
    | exact zE_bind (zE_s2 hw) fun _ => zE_pure
    | exact zE_bind (zE_s1 hw) fun _ => zE_pure
    | exact zE_bind (zE_s4 hw) fun _ => zE_pure
    | exact zE_bind (zE_u1 hw) fun _ => zE_bind (zE_s1 hw) fun _ => zE_pure
    | exact zE_newarray hw pc
    | exact absurd rfl hP.1
    | exact absurd rfl hP.2.1
    | exact absurd rfl hP.2.2.1
    | exact absurd rfl hP.2.2.2.1
    | exact absurd rfl hP.2.2.2.2.1
    | exact absurd rfl hP.2.2.2.2.2
noncomputable def zwok (s : List UInt8) (e : zE) : Bool := match s with
  | [] => false
  | b :: t => (Nat.blt b.toNat 170 || (Nat.blt 171 b.toNat && (Nat.blt b.toNat 185 || (Nat.blt 186 b.toNat && (Nat.blt b.toNat 196 || Nat.blt 197 b.toNat))))) && decide ((Jvm.ClassFile.Decoder.instr e.1) ⟨((b :: t).take 3).toArray⟩ 0 = .ok (e.2.1, zlen e.2.1)) && Nat.beq e.2.2.1 (e.1 + zlen e.2.1)
noncomputable def zsw0 (e : zE) : Bool := Nat.beq (zlen e.2.1) 0
/-- rows in their order, over the bytes from p on -/
noncomputable def zwdf : List UInt8 → Nat → List zE → Bool
  | _, _, [] => true
  | s, p, e :: t => Nat.ble p e.1 && ((zsw0 e || zwok (s.drop (e.1 - p)) e) && zwdf (s.drop (e.1 - p)) e.1 t)
theorem zwok_d {c : ByteArray} {L : List UInt8} (hL : c.data.toList = L) {e : zE} (h : zwok (L.drop e.1) e = true) : decode c e.1 = .ok (e.2.1, e.2.2.1 - e.1) ∧ Nat.beq e.2.2.1 (e.1 + zlen e.2.1) = true := by
  subst hL
  unfold zwok at h
  cases hs : c.data.toList.drop e.1 with
  | nil =>
    rw [hs] at h
    exact absurd (show false = true from h) Bool.false_ne_true
  | cons b t =>
    rw [hs] at h
    dsimp only at h
    rw [Bool.and_eq_true, Bool.and_eq_true] at h
    obtain ⟨⟨h1, h2⟩, h3⟩ := h
    have h2 := of_decide_eq_true h2
    have hw : zWin c ⟨((b :: t).take 3).toArray⟩ e.1 := by
      intro k hk
      have hk2 : k < ((b :: t).take 3).length := hk
      have hk3 : k < (c.data.toList.drop e.1).length := by
        rw [hs]
        have := List.length_take_le 3 (b :: t)
        have h4 : ((b :: t).take 3).length ≤ (b :: t).length := by rw [List.length_take]; omega
        omega
      have hk4 : k + e.1 < c.data.toList.length := by
        rw [List.length_drop] at hk3
        omega
      have hk5 : k + e.1 < c.size := by
        show k + e.1 < c.data.toList.length
        exact hk4
      refine ⟨hk5, hk, ?_⟩
      show c.data.toList[k + e.1]'hk5 = ((b :: t).take 3)[k]'hk2
      have e1 : (c.data.toList.drop e.1)[k]? = c.data.toList[e.1 + k]? := List.getElem?_drop
      have e2 : ((b :: t).take 3)[k]? = (b :: t)[k]? := by
        rw [List.getElem?_take]
        rw [if_pos (show k < 3 by rw [List.length_take] at hk2; omega)]
      apply Option.some.inj
      rw [← List.getElem?_eq_getElem, ← List.getElem?_eq_getElem, e2, ← hs, e1, Nat.add_comm]
    have hb : ∀ b' q, (Jvm.ClassFile.Reader.u1 : Jvm.ClassFile.Decoder Nat) ⟨((b :: t).take 3).toArray⟩ 0 = .ok (b', q) → zSpec b' := by
      intro b' q hq
      have e1 : (Jvm.ClassFile.Reader.u1 : Jvm.ClassFile.Decoder Nat) ⟨((b :: t).take 3).toArray⟩ 0 = .ok (b.toNat, 1) := rfl
      rw [e1] at hq
      cases hq
      unfold zSpec
      simp only [Bool.or_eq_true, Bool.and_eq_true, Nat.blt_eq] at h1
      omega
    have e3 := zE_instr hw e.1 hb _ _ h2
    rw [Nat.zero_add] at e3
    have e4 : e.2.2.1 = e.1 + zlen e.2.1 := Nat.eq_of_beq_eq_true h3
    refine ⟨?_, h3⟩
    have e5 : decode c e.1 = Except.bind ((Jvm.ClassFile.Decoder.instr e.1) c e.1) (fun x => .ok (x.1, x.2 - e.1)) := rfl
    rw [e5, e3, e4]
    show Except.ok (e.2.1, zlen e.2.1 + e.1 - e.1) = Except.ok (e.2.1, e.1 + zlen e.2.1 - e.1)
    rw [Nat.add_sub_cancel, Nat.add_sub_cancel_left]
theorem zwdf_ok {M : zM} {L : List UInt8} (hL : M.2.1.data.toList = L) : ∀ (rows : List zE) (p : Nat), zwdf (L.drop p) p rows = true → (rows.filter zsw0).all (zde M) = true → rows.all (zde M) = true
  | [], _, _, _ => rfl
  | e :: t, p, h, hs => by
    unfold zwdf at h
    rw [Bool.and_eq_true, Bool.and_eq_true] at h
    obtain ⟨h1, h2, h3⟩ := h
    have hp := Nat.le_of_ble_eq_true h1
    have ed : (L.drop p).drop (e.1 - p) = L.drop e.1 := by
      rw [List.drop_drop]
      congr 1
      omega
    rw [ed] at h2 h3
    rw [List.all_cons, Bool.and_eq_true]
    by_cases hz : zsw0 e = true
    · rw [List.filter_cons_of_pos hz, List.all_cons, Bool.and_eq_true] at hs
      exact ⟨hs.1, zwdf_ok hL t e.1 h3 hs.2⟩
    · rw [List.filter_cons_of_neg hz] at hs
      refine ⟨?_, zwdf_ok hL t e.1 h3 hs⟩
      rw [Bool.or_eq_true] at h2
      obtain ⟨a, b⟩ := zwok_d hL (h2.resolve_left hz)
      unfold zde
      rw [Bool.and_eq_true, Bool.or_eq_true]
      exact ⟨decide_eq_true a, Or.inr b⟩
