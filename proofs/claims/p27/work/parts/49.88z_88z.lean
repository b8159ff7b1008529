/-! WORDS OF ROWS by the different rows of a class: a row's words hang on its instruction and what it names alone. -/
noncomputable def zwl (e : zE) : Bool := match e.2.1 with
  | .ldc _ => true
  | .getstatic _ => true
  | .ldc_w _ => true
  | .ldc2_w _ => true
  | .getfield _ => true
  | .putfield _ => true
  | .new _ => true
  | .newarray _ => true
  | .anewarray _ => true
  | .invokestatic _ => true
  | .invokevirtual _ => true
  | .invokespecial _ => true
  | _ => false
set_option maxRecDepth 100000 in
theorem zrq_n {tab : List zM} {own : String} {e : zE} (h : zwl e = false) : zrq tab own e = [] := by
  obtain ⟨pc, i, np, a, b⟩ := e
  cases i
  all_goals first
    | rfl
    | exact absurd (show true = false from h) (by decide)
noncomputable def zky (e : zE) : zE := (0, e.2.1, 0, e.2.2.2.1, e.2.2.2.2)
theorem zrq_ky (tab : List zM) (own : String) (e : zE) : zrq tab own (zky e) = zrq tab own e := rfl
noncomputable def zkin (K : List zE) : List zE → List Nat → Bool
  | [], _ => true
  | e :: t, js => match zwl e with
    | false => zkin K t js
    | true => match js with
      | [] => false
      | j :: u => decide (K[j]? = some (zky e)) && zkin K t u
theorem zkin_s {K : List zE} : ∀ (rows : List zE) (js : List Nat), zkin K rows js = true → ∀ e ∈ rows, zwl e = true → zky e ∈ K
  | [], _, _, e, he, _ => absurd he List.not_mem_nil
  | r :: t, js, h, e, he, hz => by
    unfold zkin at h
    cases hr : zwl r with
    | false =>
      rw [hr] at h
      dsimp only at h
      rcases List.mem_cons.mp he with e1 | e1
      · rw [e1, hr] at hz
        exact absurd hz Bool.false_ne_true
      · exact zkin_s t js h e e1 hz
    | true =>
      rw [hr] at h
      dsimp only at h
      cases js with
      | nil => exact absurd (show false = true from h) Bool.false_ne_true
      | cons j u =>
        dsimp only at h
        rw [Bool.and_eq_true] at h
        rcases List.mem_cons.mp he with e1 | e1
        · rw [e1]
          exact List.mem_of_getElem? (of_decide_eq_true h.1)
        · exact zkin_s t u h.2 e e1 hz
theorem zkin_wd {tab : List zM} {K rows : List zE} {own : String} {T : List Cond} (js : List Nat) (h : zkin K rows js = true) (hK : ∀ w ∈ K.flatMap (zrq tab own), w ∈ T) : ∀ w ∈ rows.flatMap (zrq tab own), w ∈ T := by
  intro w hw
  obtain ⟨e, h1, h2⟩ := List.mem_flatMap.mp hw
  cases hz : zwl e with
  | true =>
    refine hK w (List.mem_flatMap.mpr ⟨zky e, zkin_s rows js h e h1 hz, ?_⟩)
    rw [zrq_ky]
    exact h2
  | false =>
    rw [zrq_n hz] at h2
    exact absurd h2 List.not_mem_nil
