/-! ANSWERS OF READINGS, as pure functions of what the readers make. -/
/-- the first of some, -1 if there is none -/
noncomputable def fstP (p : Nat → Bool) : Nat → Int
  | 0 => -1
  | k + 1 => if fstP p k = -1 ∧ p k = true then (k : Int) else fstP p k
theorem fs_s (p : Nat → Bool) (k : Nat) : fstP p (k + 1) = if fstP p k = -1 ∧ p k = true then (k : Int) else fstP p k := rfl
theorem fs_n {p : Nat → Bool} {i : Int} (h0 : 0 ≤ i) (h : fstP p i.toNat = -1) (hp : p i.toNat = false) : fstP p (i + 1).toNat = -1 := by
  rw [show (i + 1).toNat = i.toNat + 1 by omega, fs_s, if_neg (fun z => by rw [hp] at z; exact absurd z.2 (by decide)), h]
theorem fs_k {p : Nat → Bool} {n : Nat} {v : Int} (h : fstP p n = v) (hv : v ≠ -1) : ∀ k, fstP p (n + k) = v
  | 0 => h
  | k + 1 => by
    have ih := fs_k h hv k
    show (if fstP p (n + k) = -1 ∧ p (n + k) = true then ((n + k : Nat) : Int) else fstP p (n + k)) = v
    rw [ih, if_neg (fun z => hv z.1)]
theorem fs_y {p : Nat → Bool} {i : Int} (h0 : 0 ≤ i) (h1 : i < 5461) (h : fstP p i.toNat = -1) (hp : p i.toNat = true) : i = fstP p 5461 := by
  have e : fstP p (i.toNat + 1) = i := by
    rw [fs_s, if_pos ⟨h, hp⟩]
    omega
  have e2 := fs_k e (by omega) (5461 - (i.toNat + 1))
  rw [show i.toNat + 1 + (5461 - (i.toNat + 1)) = 5461 by omega] at e2
  exact e2.symm
theorem fs_e {p : Nat → Bool} {i : Int} (h : fstP p i.toNat = -1) (hi : i = 5461) : (-1 : Int) = fstP p 5461 := by
  rw [hi] at h
  exact h.symm
theorem fs_q {p : Nat → Bool} {v i : Int} (h : v = fstP p i.toNat) (hi : i = 5461) : v = fstP p 5461 := by
  rw [hi] at h
  exact h
theorem fs_t {p : Nat → Bool} {i v : Int} (h0 : 0 ≤ i) (h : v = fstP p i.toNat) (hv : v = -1) (hp : p i.toNat = true) : i = fstP p (i + 1).toNat := by
  rw [show (i + 1).toNat = i.toNat + 1 by omega, fs_s, if_pos ⟨h.symm.trans hv, hp⟩]
  omega
theorem fs_f {p : Nat → Bool} {i v : Int} (h0 : 0 ≤ i) (h : v = fstP p i.toNat) (hx : v ≠ -1 ∨ p i.toNat = false) : v = fstP p (i + 1).toNat := by
  rw [show (i + 1).toNat = i.toNat + 1 by omega, fs_s, if_neg (fun z => ?_), h]
  rcases hx with e | e
  · exact e (h.trans z.1)
  · rw [e] at z
    exact absurd z.2 (by decide)
theorem bm_r {b : Bool} {m : Int} (h : m = if b = true then 1 else 0) : m = 0 ∨ m = 1 := by
  rw [h]
  split
  · exact Or.inr rfl
  · exact Or.inl rfl
theorem bm_t {b : Bool} {m : Int} (h : m = if b = true then 1 else 0) (hm : m ≠ 0) : b = true := by
  cases b with
  | true => rfl
  | false => exact absurd (h.trans (if_neg (by decide))) hm
theorem bm_f {b : Bool} {m : Int} (h : m = if b = true then 1 else 0) (hm : m = 0) : b = false := by
  cases b with
  | false => rfl
  | true => exact absurd (hm.symm.trans (h.trans (if_pos rfl))) (by decide)
theorem bm_n (b : Bool) : (if b = true then (0 : Int) else 1) = if (!b) = true then 1 else 0 := by cases b <;> rfl
theorem cn_m {p : Nat → Bool} {n i m : Int} (h0 : 0 ≤ i) (h : n = (cntP p i.toNat : Int)) (hm : m = if p i.toNat = true then 1 else 0) : n + m = (cntP p (i + 1).toNat : Int) := by
  cases e : p i.toNat with
  | true =>
    rw [e, if_pos rfl] at hm
    rw [hm]
    exact cn_1 h0 h e
  | false =>
    rw [e, if_neg (by decide)] at hm
    rw [hm]
    exact cn_2 h0 h e
/-- LIKE, SOUND -/
noncomputable def likV (F : Int → Int → Int) (n a b : Int) : Int := if (0 ≤ a ∧ a < n) ∧ (0 ≤ b ∧ b < n) then (cntP (lkP F a b) 5461 : Int) else -1
theorem lik_y {F : Int → Int → Int} {n a b : Int} (h : (0 ≤ a ∧ a < n) ∧ (0 ≤ b ∧ b < n)) : likV F n a b = (cntP (lkP F a b) 5461 : Int) := if_pos h
theorem lik_n {F : Int → Int → Int} {n a b : Int} (h : ¬ ((0 ≤ a ∧ a < n) ∧ (0 ≤ b ∧ b < n))) : likV F n a b = -1 := if_neg h
theorem shl_a : ∀ n : Nat, n < 6 → 1 ≤ bShl 1 (n : Int) ∧ bShl 1 (n : Int) ≤ 32 := by decide +kernel
theorem shl_b {n : Int} (h : 0 ≤ n ∧ n ≤ 5) : 1 ≤ bShl 1 n ∧ bShl 1 n ≤ 32 := by
  obtain ⟨k, rfl⟩ := Int.eq_ofNat_of_zero_le h.1
  exact shl_a k (by omega)
noncomputable def sndV (F : Int → Int → Int) (n a : Int) : Int := if 0 ≤ a ∧ a ≤ bShl 1 n - 1 then (cntP (fun k => kpU F a (k : Int) n.toNat) 5461 : Int) else -1
theorem snd_y {F : Int → Int → Int} {n a : Int} (h : 0 ≤ a ∧ a ≤ bShl 1 n - 1) : sndV F n a = (cntP (fun k => kpU F a (k : Int) n.toNat) 5461 : Int) := if_pos h
theorem snd_n {F : Int → Int → Int} {n a : Int} (h : ¬ (0 ≤ a ∧ a ≤ bShl 1 n - 1)) : sndV F n a = -1 := if_neg h
theorem hs_e {a b : Int} (h : 0 ≤ a ∧ a ≤ 31) (h2 : 0 ≤ b ∧ b ≤ 4) : hHas a b = if bS a b = true then 1 else 0 := by
  unfold hHas bAnd bShr
  rw [zoi, bS_e h h2]
  split <;> rfl
theorem hs_t {a b : Int} (h : hHas a b = 1) (h1 : 0 ≤ a ∧ a ≤ 31) (h2 : 0 ≤ b ∧ b ≤ 4) : bS a b = true := bm_t (hs_e h1 h2) (by omega)
theorem hs_f {a b : Int} (h : hHas a b ≠ 1) (h1 : 0 ≤ a ∧ a ≤ 31) (h2 : 0 ≤ b ∧ b ≤ 4) : bS a b = false := bm_f (hs_e h1 h2) (by have := bm_r (hs_e h1 h2); omega)
/-- UNMADE -/
noncomputable def htL (F : Int → Int → Int) (x : Int) : Nat → Bool
  | 0 => false
  | k + 1 => htL F x k || decide (F ((k / 5461 : Nat) : Int) ((k % 5461 : Nat) : Int) = x)
theorem htL_s {F : Int → Int → Int} {x r t : Int} (r0 : 0 ≤ r) (t0 : 0 ≤ t) (t1 : t < 5461) : htL F x (5461 * r + (t + 1)).toNat = (htL F x (5461 * r + t).toNat || decide (F r t = x)) := by
  obtain ⟨a, rfl⟩ := Int.eq_ofNat_of_zero_le r0
  obtain ⟨b, rfl⟩ := Int.eq_ofNat_of_zero_le t0
  rw [show (5461 * (a : Int) + ((b : Int) + 1)).toNat = (5461 * a + b) + 1 by omega, show (5461 * (a : Int) + (b : Int)).toNat = 5461 * a + b by omega]
  show (htL F x (5461 * a + b) || decide (F (((5461 * a + b) / 5461 : Nat) : Int) (((5461 * a + b) % 5461 : Nat) : Int) = x)) = _
  rw [show (5461 * a + b) / 5461 = a by omega, show (5461 * a + b) % 5461 = b by omega]
theorem htL_l {F : Int → Int → Int} {x k v : Int} (k0 : 0 ≤ k) (hv : v = F (k / 5461) (k % 5461)) : htL F x (k + 1).toNat = (htL F x k.toNat || decide (v = x)) := by
  obtain ⟨a, rfl⟩ := Int.eq_ofNat_of_zero_le k0
  rw [show ((a : Int) + 1).toNat = a + 1 by omega, show ((a : Int)).toNat = a from rfl, hv, show (a : Int) / 5461 = ((a / 5461 : Nat) : Int) by omega, show (a : Int) % 5461 = ((a % 5461 : Nat) : Int) by omega]
  rfl
theorem mk_st {T : Nat → Int32} {F : Int → Int → Int} {rr tt v : Int} (h : ∀ x : Int, 0 ≤ x → x < 5461 → tBy T x = if htL F x (5461 * rr + tt : Int).toNat = true then 0 else 1) (r0 : 0 ≤ rr) (t0 : 0 ≤ tt) (t1 : tt < 5461) (hv : v = F rr tt) (v0 : 0 ≤ v) : ∀ x : Int, 0 ≤ x → x < 5461 → tBy (upd T (v : Int).toNat (Int32.ofInt 0)) x = if htL F x (5461 * rr + (tt + 1) : Int).toNat = true then 0 else 1 := by
  intro x x0 x1
  rw [zupI (by exact ⟨by omega, by omega⟩) v0 x0, htL_s r0 t0 t1, ← hv]
  by_cases c : x = v
  · rw [if_pos c, if_pos (by rw [c, decide_eq_true rfl, Bool.or_true])]
  · rw [if_neg c, h x x0 x1, decide_eq_false (fun e => c e.symm), Bool.or_false]
noncomputable def umP (F : Int → Int → Int) (n : Int) (t : Nat) : Bool := !htL F (t : Int) (5461 * n : Int).toNat
noncomputable def umV (F : Int → Int → Int) (n l : Int) : Int := if l = 0 then (cntP (umP F n) 5461 : Int) else fstP (umP F n) 5461
theorem um_vc {F : Int → Int → Int} {n l : Int} (h : l = 0) : umV F n l = (cntP (umP F n) 5461 : Int) := if_pos h
theorem um_vl {F : Int → Int → Int} {n l : Int} (h : l ≠ 0) : umV F n l = fstP (umP F n) 5461 := if_neg h
theorem um_m {T : Nat → Int32} {F : Int → Int → Int} {n : Int} (h : ∀ x : Int, 0 ≤ x → x < 5461 → tBy T x = if htL F x (5461 * n : Int).toNat = true then 0 else 1) : ∀ x : Int, 0 ≤ x → x < 5461 → tBy T x = if umP F n x.toNat = true then 1 else 0 := by
  intro x x0 x1
  rw [h x x0 x1, bm_n]
  unfold umP
  rw [Int.toNat_of_nonneg x0]
theorem uc_0 {T : Nat → Int32} {F : Int → Int → Int} (h : ∀ x : Int, 0 ≤ x → x < 5461 → tBy T x = 0) : ∀ x : Int, 0 ≤ x → x < 5461 → (tBy T x = 0 ↔ htL F x (0 : Int).toNat = false) ∧ 0 ≤ tBy T x ∧ tBy T x ≤ 0 := by
  intro x x0 x1
  have := h x x0 x1
  exact ⟨⟨fun _ => rfl, fun _ => this⟩, by omega, by omega⟩
theorem uc_st {T : Nat → Int32} {F : Int → Int → Int} {k v : Int} (h : ∀ x : Int, 0 ≤ x → x < 5461 → (tBy T x = 0 ↔ htL F x (k : Int).toNat = false) ∧ 0 ≤ tBy T x ∧ tBy T x ≤ k) (k0 : 0 ≤ k) (k1 : k ≤ 30000) (hv : v = F (k / 5461) (k % 5461)) (v0 : 0 ≤ v ∧ v ≤ 5460) : ∀ x : Int, 0 ≤ x → x < 5461 → (tBy (upd T (v : Int).toNat (Int32.ofInt (tBy T v + 1))) x = 0 ↔ htL F x (k + 1 : Int).toNat = false) ∧ 0 ≤ tBy (upd T (v : Int).toNat (Int32.ofInt (tBy T v + 1))) x ∧ tBy (upd T (v : Int).toNat (Int32.ofInt (tBy T v + 1))) x ≤ k + 1 := by
  intro x x0 x1
  have hx := h x x0 x1
  have hvv := h v v0.1 (by omega)
  rw [zupI (by exact ⟨by omega, by omega⟩) v0.1 x0, htL_l k0 hv]
  by_cases c : x = v
  · rw [if_pos c, c, decide_eq_true rfl, Bool.or_true]
    exact ⟨⟨fun z => by omega, fun z => by cases z⟩, by omega, by omega⟩
  · rw [if_neg c, decide_eq_false (fun e => c e.symm), Bool.or_false]
    exact ⟨hx.1, by omega, by omega⟩
theorem uc_e {T : Nat → Int32} {F : Int → Int → Int} {k n : Int} (h : ∀ x : Int, 0 ≤ x → x < 5461 → (tBy T x = 0 ↔ htL F x (k : Int).toNat = false) ∧ 0 ≤ tBy T x ∧ tBy T x ≤ k) (e : k = 5461 * n) : ∀ x : Int, 0 ≤ x → x < 5461 → (tBy T x = 0 ↔ htL F x (5461 * n : Int).toNat = false) := by
  intro x x0 x1
  rw [← e]
  exact (h x x0 x1).1
theorem um_t {F : Int → Int → Int} {n t m : Int} (h : m = 0 ↔ htL F t (5461 * n : Int).toNat = false) (hm : m = 0) (t0 : 0 ≤ t) : umP F n t.toNat = true := by
  unfold umP
  rw [Int.toNat_of_nonneg t0, h.mp hm]
  rfl
theorem um_f {F : Int → Int → Int} {n t m : Int} (h : m = 0 ↔ htL F t (5461 * n : Int).toNat = false) (hm : m ≠ 0) (t0 : 0 ≤ t) : umP F n t.toNat = false := by
  unfold umP
  rw [Int.toNat_of_nonneg t0]
  cases e : htL F t (5461 * n : Int).toNat with
  | true => rfl
  | false => exact absurd (h.mpr e) hm
/-- ELDERS -/
noncomputable def anR (F : Int → Int → Int) (S : Int → Bool) (t : Int) : Nat → Bool
  | 0 => false
  | r + 1 => anR F S t r || S (F (r : Int) t)
theorem an_s {F : Int → Int → Int} {S : Int → Bool} {t r v : Int} (r0 : 0 ≤ r) (hv : v = F r t) : anR F S t (r + 1).toNat = (anR F S t r.toNat || S v) := by
  rw [show (r + 1).toNat = r.toNat + 1 by omega]
  show (anR F S t r.toNat || S (F ((r.toNat : Nat) : Int) t)) = _
  rw [Int.toNat_of_nonneg r0, ← hv]
theorem an_n {F : Int → Int → Int} {S : Int → Bool} {t r v : Int} (r0 : 0 ≤ r) (h : anR F S t r.toNat = false) (hv : v = F r t) (hs : S v = false) : anR F S t (r + 1).toNat = false := by
  rw [an_s r0 hv, h, hs]
  rfl
theorem an_k {F : Int → Int → Int} {S : Int → Bool} {t : Int} {n : Nat} (h : anR F S t n = true) : ∀ k, anR F S t (n + k) = true
  | 0 => h
  | k + 1 => by
    show (anR F S t (n + k) || _) = true
    rw [an_k h k]
    rfl
theorem an_y {F : Int → Int → Int} {S : Int → Bool} {t r v n : Int} (r0 : 0 ≤ r) (r1 : r < n) (hv : v = F r t) (hs : S v = true) : anR F S t n.toNat = true := by
  have h : anR F S t (r + 1).toNat = true := by
    rw [an_s r0 hv, hs, Bool.or_true]
  have := an_k h (n.toNat - (r + 1).toNat)
  rwa [show (r + 1).toNat + (n.toNat - (r + 1).toNat) = n.toNat by omega] at this
noncomputable def elP (F : Int → Int → Int) (n : Nat) (a : Int) : Nat → Int → Bool
  | 0, x => decide (x = a)
  | k + 1, x => anR F (elP F n a k) x n
theorem el_k {F : Int → Int → Int} {n : Nat} {a k x : Int} (k0 : 0 ≤ k) : elP F n a (k + 1 : Int).toNat x = anR F (elP F n a k.toNat) x n := by
  rw [show (k + 1).toNat = k.toNat + 1 by omega]
  rfl
noncomputable def elQ (F : Int → Int → Int) (n a b : Int) (t : Nat) : Bool := elP F n.toNat a b.toNat (t : Int)
noncomputable def elV (F : Int → Int → Int) (n a b l : Int) : Int := if (0 ≤ a ∧ a ≤ 5460) ∧ (0 ≤ b ∧ b ≤ 9) then (if l = 0 then (cntP (elQ F n a b) 5461 : Int) else fstP (elQ F n a b) 5461) else -2
theorem el_n {F : Int → Int → Int} {n a b l : Int} (h : ¬ ((0 ≤ a ∧ a ≤ 5460) ∧ (0 ≤ b ∧ b ≤ 9))) : elV F n a b l = -2 := if_neg h
theorem el_vc {F : Int → Int → Int} {n a b l : Int} (h : (0 ≤ a ∧ a ≤ 5460) ∧ (0 ≤ b ∧ b ≤ 9)) (hl : l = 0) : elV F n a b l = (cntP (elQ F n a b) 5461 : Int) := (if_pos h).trans (if_pos hl)
theorem el_vl {F : Int → Int → Int} {n a b l : Int} (h : (0 ≤ a ∧ a ≤ 5460) ∧ (0 ≤ b ∧ b ≤ 9)) (hl : l ≠ 0) : elV F n a b l = fstP (elQ F n a b) 5461 := (if_pos h).trans (if_neg hl)
theorem el_bad {B G : Prop} {F : Int → Int → Int} {n a b l : Int} (h : B ∨ G) (hx : ¬ ((0 ≤ a ∧ a ≤ 5460) ∧ (0 ≤ b ∧ b ≤ 9))) : (B ∧ (-2 : Int) = -2) ∨ (G ∧ (-2 : Int) = elV F n a b l) := by
  rcases h with h | h
  · exact Or.inl ⟨h, rfl⟩
  · exact Or.inr ⟨h, (el_n hx).symm⟩
theorem el_p {T : Nat → Int32} {F : Int → Int → Int} {n a b : Int} (h : ∀ x : Int, 0 ≤ x → x < 5461 → tBy T x = if elP F n.toNat a (b : Int).toNat x = true then 1 else 0) (t : Int) (t0 : 0 ≤ t) (t1 : t < 5461) : tBy T t = if elQ F n a b t.toNat = true then 1 else 0 := by
  unfold elQ
  rw [Int.toNat_of_nonneg t0]
  exact h t t0 t1
theorem el_m {T : Nat → Int32} {F : Int → Int → Int} {n a b : Int} (h : ∀ x : Int, 0 ≤ x → x < 5461 → tBy T x = if elP F n.toNat a (b : Int).toNat x = true then 1 else 0) : ∀ x : Int, 0 ≤ x → x < 5461 → tBy T x = if elQ F n a b x.toNat = true then 1 else 0 := fun t t0 t1 => el_p h t t0 t1
theorem el_q {T : Nat → Int32} {F : Int → Int → Int} {m : Nat} {a k n : Int} (h : ∀ x : Int, 0 ≤ x → x < 5461 → tBy T x = if elP F m a (k : Int).toNat x = true then 1 else 0) (e : k = n) : ∀ x : Int, 0 ≤ x → x < 5461 → tBy T x = if elP F m a (n : Int).toNat x = true then 1 else 0 := e ▸ h
theorem el_a {F : Int → Int → Int} {n : Nat} {a t : Int} (h : t = a) : (1 : Int) = if elP F n a (0 : Int).toNat t = true then 1 else 0 := by
  show _ = if decide (t = a) = true then 1 else 0
  rw [if_pos (decide_eq_true h)]
theorem el_b {F : Int → Int → Int} {n : Nat} {a t : Int} (h : t ≠ a) : (0 : Int) = if elP F n a (0 : Int).toNat t = true then 1 else 0 := by
  show _ = if decide (t = a) = true then 1 else 0
  rw [if_neg (by rw [decide_eq_false h]; decide)]
theorem el_0 {T : Nat → Int32} {F : Int → Int → Int} {n : Nat} {a : Int} (h : ∀ x : Int, 0 ≤ x → x < 5461 → tBy T x = 0) (a0 : 0 ≤ a ∧ a ≤ 5460) : ∀ x : Int, 0 ≤ x → x < 5461 → tBy (upd T (a : Int).toNat (Int32.ofInt 1)) x = if elP F n a (0 : Int).toNat x = true then 1 else 0 := by
  intro x x0 x1
  rw [zupI (by exact ⟨by omega, by omega⟩) a0.1 x0]
  by_cases c : x = a
  · rw [if_pos c]
    exact el_a c
  · rw [if_neg c, h x x0 x1]
    exact el_b c
theorem el_st {T : Nat → Int32} {F : Int → Int → Int} {n : Nat} {a e kk tt : Int} (h : ∀ x : Int, 0 ≤ x → x < tt → tBy T x = if elP F n a (kk + 1 : Int).toNat x = true then 1 else 0) (k0 : 0 ≤ kk) (t0 : 0 ≤ tt) (t1 : tt < 5461) (he : (e = 1 ∧ anR F (elP F n a kk.toNat) tt n = true) ∨ (e = 0 ∧ anR F (elP F n a kk.toNat) tt n = false)) : ∀ x : Int, 0 ≤ x → x < tt + 1 → tBy (upd T (tt : Int).toNat (Int32.ofInt e)) x = if elP F n a (kk + 1 : Int).toNat x = true then 1 else 0 := by
  intro x x0 x1
  rw [zupI (by exact ⟨by omega, by omega⟩) t0 x0]
  by_cases c : x = tt
  · rw [if_pos c, c, el_k k0]
    rcases he with ⟨h1, h2⟩ | ⟨h1, h2⟩
    · rw [h1, h2]
      rfl
    · rw [h1, h2]
      rfl
  · rw [if_neg c]
    exact h x x0 (by omega)
theorem el_nx {T : Nat → Int32} {F : Int → Int → Int} {a kk tt rr n : Int} (h1 : tBy T tt = if anR F (elP F n.toNat a kk.toNat) tt (rr : Int).toNat = true then 1 else 0) (h : ∀ x : Int, 0 ≤ x → x < tt → tBy T x = if elP F n.toNat a (kk + 1 : Int).toNat x = true then 1 else 0) (k0 : 0 ≤ kk) (e : rr = n) (t0 : 0 ≤ tt) : ∀ x : Int, 0 ≤ x → x < tt + 1 → tBy T x = if elP F n.toNat a (kk + 1 : Int).toNat x = true then 1 else 0 := by
  intro x x0 x1
  by_cases c : x = tt
  · rw [c, el_k k0, h1, e]
  · exact h x x0 (by omega)
theorem or_r (a b : Int) : r32 (bOr a b) := zrg _
theorem or_01 : bOr 0 0 = 0 ∧ bOr 0 1 = 1 ∧ bOr 1 0 = 1 ∧ bOr 1 1 = 1 := by decide +kernel
theorem an_or {F : Int → Int → Int} {S : Int → Bool} {a b t r v : Int} (h1 : a = if anR F S t (r : Int).toNat = true then 1 else 0) (h2 : b = if S v = true then 1 else 0) (hv : v = F r t) (r0 : 0 ≤ r) : bOr a b = if anR F S t (r + 1 : Int).toNat = true then 1 else 0 := by
  rw [an_s r0 hv, h1, h2]
  cases anR F S t (r : Int).toNat <;> cases S v
  · exact or_01.1
  · exact or_01.2.1
  · exact or_01.2.2.1
  · exact or_01.2.2.2
/-- the class's and the reference's arrays of what the readers make -/
noncomputable def rF (T : Nat → Int32) (o : Int) : Int → Int → Int := fun r t => if 0 ≤ r ∧ r ≤ 4 then rBY T o r t else 0
noncomputable def RMF (g : Nat → Int32) (n : Int) (F : Int → Int → Int) : Prop := ∀ r t : Int, 0 ≤ r → r < n → 0 ≤ t → t ≤ 5460 → tBy g (5461 * r + t) = F r t ∧ 0 ≤ F r t ∧ F r t ≤ 5460
theorem rm_ld {g : Nat → Int32} {n : Int} {F : Int → Int → Int} {r t v : Int} (h : RMF g n F) (e : v = tBy g (5461 * r + t)) (r0 : 0 ≤ r) (r1 : r < n) (t0 : 0 ≤ t) (t1 : t ≤ 5460) : v = F r t ∧ 0 ≤ v ∧ v ≤ 5460 := by
  have := h r t r0 r1 t0 t1
  exact ⟨e.trans this.1, by omega, by omega⟩
theorem rm_ll {g : Nat → Int32} {n : Int} {F : Int → Int → Int} {k v : Int} (h : RMF g n F) (e : v = tBy g k) (k0 : 0 ≤ k) (k1 : k < 5461 * n) : v = F (k / 5461) (k % 5461) ∧ 0 ≤ v ∧ v ≤ 5460 := by
  have := h (k / 5461) (k % 5461) (by omega) (by omega) (by omega) (by omega)
  rw [show 5461 * (k / 5461) + k % 5461 = k by omega] at this
  exact ⟨e.trans this.1, by omega, by omega⟩
theorem rm_of {g g20 : Nat → Int32} {f n : Int} (h : RML g g20 f (5461 * n.toNat)) (hg : bkOK g20) (hf : 0 ≤ f ∧ f ≤ 1) (hn : 0 ≤ n ∧ n ≤ 5) : RMF g n (rF g20 (51 * f)) := by
  intro r t r0 r1 t0 t1
  have e : rF g20 (51 * f) r t = rBY g20 (51 * f) r t := if_pos (by omega)
  have hb := rBY_r (T := g20) (f := f) (a := r) (t := t) hg hf.1 hf.2 r0 (by omega) t0 t1
  have hl := h r.toNat t.toNat (by omega) (by omega)
  rw [Int.toNat_of_nonneg r0, Int.toNat_of_nonneg t0] at hl
  rw [e]
  refine ⟨?_, hb⟩
  unfold tBy
  rw [show (5461 * r + t).toNat = 5461 * r.toNat + t.toNat by omega]
  exact hl
theorem lay_0 {g30 g20 : Nat → Int32} {f21 f20 : Int} (h : RMD g30 g20 f21) : (f21 ≠ f20 ∧ RML g30 g20 f20 (5461 * (0 : Int).toNat)) ∨ ((0 : Int) = 0 ∧ RMD g30 g20 f21) := Or.inr ⟨rfl, h⟩
theorem lay_i {T g20 : Nat → Int32} {f21 f20 rr : Int} (h : (f21 ≠ f20 ∧ RML T g20 f20 (5461 * rr.toNat)) ∨ (rr = 0 ∧ RMD T g20 f21)) (ne : f21 ≠ f20) : RML T g20 f20 (5461 * rr.toNat) := by
  rcases h with ⟨-, h⟩ | ⟨h, -⟩
  · exact h
  · exact RML_z (by omega)
theorem lay_e {T g20 : Nat → Int32} {f20 f21 f23 rr : Int} (h : (f21 ≠ f20 ∧ RML T g20 f20 (5461 * rr.toNat)) ∨ (rr = 0 ∧ RMD T g20 f21)) (hx : rr = f23 ∨ f21 = f20) (hg : bkOK g20) (hf : 0 ≤ f20 ∧ f20 ≤ 1) (hn : f23 = tBy g20 (51 * f20 + 1) ∧ 0 ≤ f23 ∧ f23 ≤ 5) : RMF T f23 (rF g20 (51 * f20)) := by
  refine rm_of ?_ hg hf hn.2
  rcases h with ⟨ne, h⟩ | ⟨r0, hR⟩
  · rw [← hx.resolve_right ne]
    exact h
  · by_cases e : f21 = f20
    · have h1 := hR (by omega)
      rw [e] at h1
      refine RML_n h1 ?_
      have h2 : (g20 (51 * f20.toNat + 1)).toInt = f23 := by
        rw [hn.1]
        unfold tBy
        rw [show (51 * f20 + 1).toNat = 51 * f20.toNat + 1 by omega]
      rw [h2]
    · exact RML_z (by have := hx.resolve_right e; omega)
