/-! TOOLS for walks in the pure machine. -/
theorem zCl_i {tab : List zM} {d a mc ms : Nat} {As : List Value} {w : zW} {Q : zQ} {M : zM} (hM : zix tab a = some M) (hl : (lg_sl As).length ≤ M.2.2.1) (h : ∀ R : zS → Prop, (∀ {pc : Nat} {L : zL} {S : List Value} {w : zW} {k n : Nat}, zsc (zCl tab d) d M none tab mc ms Q pc L S w k n R → R (pc, L, S, w, k, n)) → R (0, zent M.2.2.1 As, [], w, 0, 0)) : zCl tab (d + 1) a As w mc ms Q := by
  unfold zCl
  rw [hM]
  exact ⟨hl, fun R hR => h R (fun {pc L S w k n} q => zR hR (pc, L, S, w, k, n) q)⟩
theorem zcall_i {C : zCT} {a : Nat} {As S : List Value} {w : zW} {k n mc ms np : Nat} {L : zL} {K : zS → Prop} (mc' ms' : Nat) (h1 : k + mc' ≤ mc) (h2 : n + ms' ≤ ms) (h : C a As w mc' ms' (fun r w' => K (np, L, r.toList ++ S, w', k + mc', n + ms'))) : zcall C a As S w k n mc ms np L K := ⟨mc', ms', ⟨h1, h2⟩, h⟩
theorem zret_i {k n mc ms : Nat} {A B : Prop} (h1 : k = mc) (h2 : n ≤ ms) (h3 : A) (h4 : B) : zfin none k n mc ms ∧ A ∧ B := ⟨⟨h1, h2⟩, h3, h4⟩
/-! NUMBERS: 32 bits as integers. -/
theorem zbm {x : Int} (h1 : -2147483648 ≤ x) (h2 : x < 2147483648) : x.bmod (2 ^ 32) = x := by
  rw [show ((2 : Nat) ^ 32) = 4294967296 from rfl]
  unfold Int.bmod
  dsimp only
  split <;> omega
theorem zadd {a b : Int32} (h1 : -2147483648 ≤ a.toInt + b.toInt) (h2 : a.toInt + b.toInt < 2147483648) : (a + b).toInt = a.toInt + b.toInt := by
  rw [Int32.toInt_add]; exact zbm h1 h2
theorem zsub {a b : Int32} (h1 : -2147483648 ≤ a.toInt - b.toInt) (h2 : a.toInt - b.toInt < 2147483648) : (a - b).toInt = a.toInt - b.toInt := by
  rw [Int32.toInt_sub]; exact zbm h1 h2
theorem zmul {a b : Int32} (h1 : -2147483648 ≤ a.toInt * b.toInt) (h2 : a.toInt * b.toInt < 2147483648) : (a * b).toInt = a.toInt * b.toInt := by
  rw [Int32.toInt_mul]; exact zbm h1 h2
theorem zlt_i {a b : Int32} : a < b ↔ a.toInt < b.toInt := Int32.lt_iff_toInt_lt
theorem zle_i {a b : Int32} : a ≤ b ↔ a.toInt ≤ b.toInt := Int32.le_iff_toInt_le
theorem zeq_i {a b : Int32} : a = b ↔ a.toInt = b.toInt := Int32.toInt_inj.symm
theorem zin_of {i : Int32} {n : Nat} (h0 : 0 ≤ i.toInt) (h1 : i.toInt < n) : vp_in i n := by
  intro h
  rcases h with h | h
  · rw [zlt_i] at h
    have e : (0 : Int32).toInt = 0 := rfl
    omega
  · have e : (i.toNatClampNeg : Int) = i.toInt := by
      show ((i.toInt.toNat : Nat) : Int) = i.toInt
      omega
    omega
theorem zinc {i : Int32} (h0 : 0 ≤ i.toInt) (h1 : i.toInt < 1000000) : (i + Int32.ofInt 1).toInt = i.toInt + 1 := by
  have e : (Int32.ofInt 1).toInt = 1 := by decide
  rw [zadd (by omega) (by omega), e]
theorem zidx {n t i : Int32} {N : Int} (hn : n.toInt = N) (hN0 : 0 ≤ N) (hN : N ≤ 600) (ht0 : 0 ≤ t.toInt) (ht : t.toInt ≤ 3) (hi0 : 0 ≤ i.toInt) (hi : i.toInt < N) : 0 ≤ (n * t + i).toInt ∧ (n * t + i).toInt < 4 * N := by
  have hc : t.toInt = 0 ∨ t.toInt = 1 ∨ t.toInt = 2 ∨ t.toInt = 3 := by omega
  have hm : n.toInt * t.toInt = 0 ∨ n.toInt * t.toInt = N ∨ n.toInt * t.toInt = 2 * N ∨ n.toInt * t.toInt = 3 * N := by
    rcases hc with h | h | h | h <;> rw [h, hn] <;> omega
  have h1 : (n * t).toInt = n.toInt * t.toInt := zmul (by omega) (by omega)
  have h2 : (n * t + i).toInt = n.toInt * t.toInt + i.toInt := by rw [zadd (by rw [h1]; omega) (by rw [h1]; omega), h1]
  omega
theorem z012 {k : Int32} (h0 : ¬ k < 0) (h1 : k < 3) : k = 0 ∨ k = 1 ∨ k = 2 := by
  rw [zlt_i] at h0 h1
  have e0 : (0 : Int32).toInt = 0 := rfl
  have e1 : (1 : Int32).toInt = 1 := by decide
  have e2 : (2 : Int32).toInt = 2 := by decide
  have e3 : (3 : Int32).toInt = 3 := by decide
  rw [zeq_i, zeq_i, zeq_i, e0, e1, e2]
  omega
/-! STEPS BY INTEGERS: every 32-bit number on the stack is 'Int32.ofInt e'. -/
theorem zti {e : Int} (h1 : -2147483648 ≤ e) (h2 : e ≤ 2147483647) : (Int32.ofInt e).toInt = e := by
  rw [Int32.toInt_ofInt]; exact zbm h1 (by omega)
theorem zrg (x : Int32) : -2147483648 ≤ x.toInt ∧ x.toInt ≤ 2147483647 := by
  have h1 := Int32.le_toInt x
  have h2 := Int32.toInt_lt x
  omega
theorem zoi (x : Int32) : Int32.ofInt x.toInt = x := Int32.ofInt_toInt x
theorem zcl {i : Int} (h0 : 0 ≤ i) (h1 : i ≤ 2147483647) : (Int32.ofInt i).toNatClampNeg = i.toNat := by
  show (Int32.ofInt i).toInt.toNat = i.toNat
  rw [zti (by omega) h1]
theorem zvin {i : Int} {n : Nat} (h0 : 0 ≤ i) (h1 : i < n) (hn : n ≤ 60000) : vp_in (Int32.ofInt i) n := by
  have e := zti (e := i) (by omega) (by omega)
  exact zin_of (by omega) (by omega)
def zB (lo hi : Int) (g : Nat → Int32) : Prop := ∀ j, lo ≤ (g j).toInt ∧ (g j).toInt ≤ hi
theorem zB_u {lo hi : Int} {g : Nat → Int32} (hg : zB lo hi g) {i : Nat} {e : Int} (h1 : lo ≤ e) (h2 : e ≤ hi) (hl : -2147483648 ≤ lo) (hh : hi ≤ 2147483647) : zB lo hi (upd g i (Int32.ofInt e)) := by
  intro j
  unfold upd
  split
  · rw [zti (by omega) (by omega)]; exact ⟨h1, h2⟩
  · exact hg j
theorem zbo {v : Int} (h : v = 0 ∨ v = 1) : Int32.ofInt v = 0 ∨ Int32.ofInt v = 1 := by
  rcases h with rfl | rfl
  · exact Or.inl rfl
  · exact Or.inr rfl
theorem zfree_o {o : Option Value} (h : zc2 o = false) : (match zc2 o with | true => false | false => true) = true := by rw [h]
theorem zif_i {b : Bool} {A : Prop} (hb : b = true) (h : A) : zif b A := by subst hb; exact h
section ZI
variable {R : zS → Prop} {np : Nat} {L : zL} {S : List Value} {w : zW} {k n : Nat}
theorem t_c {x : Int32} (v : Int) (e : x = Int32.ofInt v) (h : R (np, L, .int (Int32.ofInt v) :: S, w, k, n)) : R (np, L, .int x :: S, w, k, n) := by rw [e]; exact h
theorem t_raw {x : Int32} (h : R (np, L, .int (Int32.ofInt x.toInt) :: S, w, k, n)) : R (np, L, .int x :: S, w, k, n) := by rw [zoi] at h; exact h
theorem t_rawF {x : Int32} (h : ∀ v : Int, v = x.toInt → R (np, L, .int (Int32.ofInt v) :: S, w, k, n)) : R (np, L, .int x :: S, w, k, n) := t_raw (h _ rfl)
theorem t_add {a b : Int} (h : R (np, L, .int (Int32.ofInt (a + b)) :: S, w, k, n)) : R (np, L, .int (Int32.ofInt a + Int32.ofInt b) :: S, w, k, n) := by rw [← Int32.ofInt_add]; exact h
theorem t_sub {a b : Int} (h : R (np, L, .int (Int32.ofInt (a - b)) :: S, w, k, n)) : R (np, L, .int (Int32.ofInt a - Int32.ofInt b) :: S, w, k, n) := by rw [← Int32.ofInt_sub]; exact h
theorem t_mul {a b : Int} (h : R (np, L, .int (Int32.ofInt (a * b)) :: S, w, k, n)) : R (np, L, .int (Int32.ofInt a * Int32.ofInt b) :: S, w, k, n) := by rw [← Int32.ofInt_mul]; exact h
theorem t_inc {a b : Int} {j : Nat} (h : R (np, zput L j (some (.int (Int32.ofInt (a + b)))), S, w, k, n)) : R (np, zput L j (some (.int (Int32.ofInt a + Int32.ofInt b))), S, w, k, n) := by rw [← Int32.ofInt_add]; exact h
/-- a number that is any -/
theorem t_x {x : Int32} (h : ∀ y : Int32, R (np, L, .int y :: S, w, k, n)) : R (np, L, .int x :: S, w, k, n) := h x
theorem t_xl {x : Int64} (h : ∀ y : Int64, R (np, L, .long y :: S, w, k, n)) : R (np, L, .long x :: S, w, k, n) := h x
theorem zdiv_i {a b : Int} (h0 : 0 ≤ a) (h1 : a ≤ 2147483647) (h2 : 0 < b) (h3 : b ≤ 2147483647) : Int32.ofInt a / Int32.ofInt b = Int32.ofInt (a / b) := by
  have e1 : Int32.ofInt a = nI a.toNat := by rw [← Int.toNat_of_nonneg h0]; rfl
  have e2 : Int32.ofInt b = nI b.toNat := by rw [← Int.toNat_of_nonneg (show 0 ≤ b by omega)]; rfl
  rw [e1, e2, pk_div (by omega) (by omega) (by omega)]
  have e3 : a / b = ((a.toNat / b.toNat : Nat) : Int) := by
    rw [Int.natCast_ediv, Int.toNat_of_nonneg h0, Int.toNat_of_nonneg (by omega)]
  rw [e3]; rfl
theorem zrem_i {a b : Int} (h0 : 0 ≤ a) (h1 : a ≤ 2147483647) (h2 : 0 < b) (h3 : b ≤ 2147483647) : Int32.ofInt a - Int32.ofInt a / Int32.ofInt b * Int32.ofInt b = Int32.ofInt (a % b) := by
  have e1 : Int32.ofInt a = nI a.toNat := by rw [← Int.toNat_of_nonneg h0]; rfl
  have e2 : Int32.ofInt b = nI b.toNat := by rw [← Int.toNat_of_nonneg (show 0 ≤ b by omega)]; rfl
  rw [e1, e2, pk_rem (by omega) (by omega) (by omega)]
  have e3 : a % b = ((a.toNat % b.toNat : Nat) : Int) := by
    rw [Int.natCast_emod, Int.toNat_of_nonneg h0, Int.toNat_of_nonneg (by omega)]
  rw [e3]; rfl
theorem zne0 {b : Int} (h2 : 0 < b) (h3 : b ≤ 2147483647) : ¬ Int32.ofInt b = 0 := by
  intro h
  have h4 := congrArg Int32.toInt h
  rw [zti (by omega) h3] at h4
  have e : (0 : Int32).toInt = 0 := rfl
  omega
theorem t_div {a b : Int} (h0 : 0 ≤ a) (h1 : a ≤ 2147483647) (h2 : 0 < b) (h3 : b ≤ 2147483647) (h : R (np, L, .int (Int32.ofInt (a / b)) :: S, w, k, n)) : ¬ Int32.ofInt b = 0 ∧ R (np, L, .int (Int32.ofInt a / Int32.ofInt b) :: S, w, k, n) := by
  refine ⟨zne0 h2 h3, ?_⟩
  rw [zdiv_i h0 h1 h2 h3]; exact h
theorem t_rem {a b : Int} (h0 : 0 ≤ a) (h1 : a ≤ 2147483647) (h2 : 0 < b) (h3 : b ≤ 2147483647) (h : R (np, L, .int (Int32.ofInt (a % b)) :: S, w, k, n)) : ¬ Int32.ofInt b = 0 ∧ R (np, L, .int (Int32.ofInt a - Int32.ofInt a / Int32.ofInt b * Int32.ofInt b) :: S, w, k, n) := by
  refine ⟨zne0 h2 h3, ?_⟩
  rw [zrem_i h0 h1 h2 h3]; exact h
theorem t_remv {a b : Int} (h0 : 0 ≤ a) (h1 : a ≤ 2147483647) (h2 : 0 < b) (h3 : b ≤ 2147483647) (h : ∀ v : Int, v = a % b → 0 ≤ v → v < b → R (np, L, .int (Int32.ofInt v) :: S, w, k, n)) : ¬ Int32.ofInt b = 0 ∧ R (np, L, .int (Int32.ofInt a - Int32.ofInt a / Int32.ofInt b * Int32.ofInt b) :: S, w, k, n) :=
  t_rem h0 h1 h2 h3 (h _ rfl (Int.emod_nonneg _ (by omega)) (Int.emod_lt_of_pos _ h2))
theorem t_o {x : Int32} (h : ∀ v : Int, (-2147483648 ≤ v ∧ v ≤ 2147483647) → R (np, L, .int (Int32.ofInt v) :: S, w, k, n)) : R (np, L, .int x :: S, w, k, n) := t_raw (h _ (zrg x))
/-- an array's element: exact, with bounds, or any -/
theorem t_ld {i : Int} {len : Nat} {g : Nat → Int32} (h0 : 0 ≤ i) (h1 : i < len) (hl : len ≤ 60000) (h : ∀ v : Int, v = (g i.toNat).toInt → R (np, L, .int (Int32.ofInt v) :: S, w, k, n)) : vp_in (Int32.ofInt i) len ∧ R (np, L, .int (g (Int32.ofInt i).toNatClampNeg) :: S, w, k, n) := by
  refine ⟨zvin h0 h1 hl, ?_⟩
  rw [zcl h0 (by omega)]
  exact t_raw (h _ rfl)
theorem t_ldB {i : Int} {len : Nat} {g : Nat → Int32} {lo hi : Int} (hg : zB lo hi g) (h0 : 0 ≤ i) (h1 : i < len) (hl : len ≤ 60000) (h : ∀ v : Int, v = (g i.toNat).toInt → lo ≤ v → v ≤ hi → R (np, L, .int (Int32.ofInt v) :: S, w, k, n)) : vp_in (Int32.ofInt i) len ∧ R (np, L, .int (g (Int32.ofInt i).toNatClampNeg) :: S, w, k, n) :=
  t_ld h0 h1 hl fun v hv => h v hv (by rw [hv]; exact (hg _).1) (by rw [hv]; exact (hg _).2)
theorem t_ldx {i : Int} {len : Nat} {g : Nat → Int32} (h0 : 0 ≤ i) (h1 : i < len) (hl : len ≤ 60000) (h : ∀ y : Int32, R (np, L, .int y :: S, w, k, n)) : vp_in (Int32.ofInt i) len ∧ R (np, L, .int (g (Int32.ofInt i).toNatClampNeg) :: S, w, k, n) := ⟨zvin h0 h1 hl, h _⟩
theorem t_ldo {i : Int} {len : Nat} {g : Nat → Int32} (h0 : 0 ≤ i) (h1 : i < len) (hl : len ≤ 60000) (h : ∀ v : Int, (-2147483648 ≤ v ∧ v ≤ 2147483647) → R (np, L, .int (Int32.ofInt v) :: S, w, k, n)) : vp_in (Int32.ofInt i) len ∧ R (np, L, .int (g (Int32.ofInt i).toNatClampNeg) :: S, w, k, n) := ⟨zvin h0 h1 hl, t_o h⟩
/-- a store: exact, with bounds, or any -/
theorem t_st {q ti : Nat} {i : Int} {x : Int32} {len : Nat} {g : Nat → Int32} (h0 : 0 ≤ i) (h1 : i < len) (hl : len ≤ 60000) (h : R (np, L, S, zst w q (.inl (ti, len, .inl (upd g i.toNat x))), k, n)) : vp_in (Int32.ofInt i) len ∧ R (np, L, S, zst w q (.inl (ti, len, .inl (upd g (Int32.ofInt i).toNatClampNeg x))), k, n) := by
  refine ⟨zvin h0 h1 hl, ?_⟩
  rw [zcl h0 (by omega)]; exact h
theorem t_stB {q ti : Nat} {i e : Int} {len : Nat} {g : Nat → Int32} {lo hi : Int} (hg : zB lo hi g) (he1 : lo ≤ e) (he2 : e ≤ hi) (hl1 : -2147483648 ≤ lo) (hh : hi ≤ 2147483647) (h0 : 0 ≤ i) (h1 : i < len) (hl : len ≤ 60000) (h : ∀ g', zB lo hi g' → R (np, L, S, zst w q (.inl (ti, len, .inl g')), k, n)) : vp_in (Int32.ofInt i) len ∧ R (np, L, S, zst w q (.inl (ti, len, .inl (upd g (Int32.ofInt i).toNatClampNeg (Int32.ofInt e)))), k, n) :=
  ⟨zvin h0 h1 hl, h _ (zB_u hg he1 he2 hl1 hh)⟩
theorem t_stx {q ti : Nat} {i : Int} {x : Int32} {len : Nat} {g : Nat → Int32} (h0 : 0 ≤ i) (h1 : i < len) (hl : len ≤ 60000) (h : ∀ g' : Nat → Int32, R (np, L, S, zst w q (.inl (ti, len, .inl g')), k, n)) : vp_in (Int32.ofInt i) len ∧ R (np, L, S, zst w q (.inl (ti, len, .inl (upd g (Int32.ofInt i).toNatClampNeg x))), k, n) := ⟨zvin h0 h1 hl, h _⟩
end ZI
/-! Branches. -/
section ZJ
variable {a b : Int} {A B : Prop}
theorem zlt_o (ha : -2147483648 ≤ a ∧ a ≤ 2147483647) (hb : -2147483648 ≤ b ∧ b ≤ 2147483647) : Int32.ofInt a < Int32.ofInt b ↔ a < b := by rw [zlt_i, zti ha.1 ha.2, zti hb.1 hb.2]
theorem zle_o (ha : -2147483648 ≤ a ∧ a ≤ 2147483647) (hb : -2147483648 ≤ b ∧ b ≤ 2147483647) : Int32.ofInt a ≤ Int32.ofInt b ↔ a ≤ b := by rw [zle_i, zti ha.1 ha.2, zti hb.1 hb.2]
theorem zeq_o (ha : -2147483648 ≤ a ∧ a ≤ 2147483647) (hb : -2147483648 ≤ b ∧ b ≤ 2147483647) : Int32.ofInt a = Int32.ofInt b ↔ a = b := by rw [zeq_i, zti ha.1 ha.2, zti hb.1 hb.2]
theorem j_lt (ha : -2147483648 ≤ a ∧ a ≤ 2147483647) (hb : -2147483648 ≤ b ∧ b ≤ 2147483647) (h1 : a < b → A) (h2 : ¬ a < b → B) : (Int32.ofInt a < Int32.ofInt b → A) ∧ (¬ Int32.ofInt a < Int32.ofInt b → B) := by rw [zlt_o ha hb]; exact ⟨h1, h2⟩
theorem j_gt (ha : -2147483648 ≤ a ∧ a ≤ 2147483647) (hb : -2147483648 ≤ b ∧ b ≤ 2147483647) (h1 : b < a → A) (h2 : ¬ b < a → B) : (Int32.ofInt b < Int32.ofInt a → A) ∧ (¬ Int32.ofInt b < Int32.ofInt a → B) := by rw [zlt_o hb ha]; exact ⟨h1, h2⟩
theorem j_le (ha : -2147483648 ≤ a ∧ a ≤ 2147483647) (hb : -2147483648 ≤ b ∧ b ≤ 2147483647) (h1 : a ≤ b → A) (h2 : ¬ a ≤ b → B) : (Int32.ofInt a ≤ Int32.ofInt b → A) ∧ (¬ Int32.ofInt a ≤ Int32.ofInt b → B) := by rw [zle_o ha hb]; exact ⟨h1, h2⟩
theorem j_ge (ha : -2147483648 ≤ a ∧ a ≤ 2147483647) (hb : -2147483648 ≤ b ∧ b ≤ 2147483647) (h1 : b ≤ a → A) (h2 : ¬ b ≤ a → B) : (Int32.ofInt b ≤ Int32.ofInt a → A) ∧ (¬ Int32.ofInt b ≤ Int32.ofInt a → B) := by rw [zle_o hb ha]; exact ⟨h1, h2⟩
theorem j_eq (ha : -2147483648 ≤ a ∧ a ≤ 2147483647) (hb : -2147483648 ≤ b ∧ b ≤ 2147483647) (h1 : a = b → A) (h2 : ¬ a = b → B) : (Int32.ofInt a = Int32.ofInt b → A) ∧ (¬ Int32.ofInt a = Int32.ofInt b → B) := by rw [zeq_o ha hb]; exact ⟨h1, h2⟩
theorem j_ne (ha : -2147483648 ≤ a ∧ a ≤ 2147483647) (hb : -2147483648 ≤ b ∧ b ≤ 2147483647) (h1 : ¬ a = b → A) (h2 : a = b → B) : (¬ Int32.ofInt a = Int32.ofInt b → A) ∧ (Int32.ofInt a = Int32.ofInt b → B) := by rw [zeq_o ha hb]; exact ⟨h1, h2⟩
theorem zz0 : (0 : Int32) = Int32.ofInt 0 := by decide
theorem z0rg : -2147483648 ≤ (0 : Int) ∧ (0 : Int) ≤ 2147483647 := by omega
theorem k_lt (ha : -2147483648 ≤ a ∧ a ≤ 2147483647) (h1 : a < 0 → A) (h2 : ¬ a < 0 → B) : (Int32.ofInt a < 0 → A) ∧ (¬ Int32.ofInt a < 0 → B) := by rw [zz0]; exact j_lt ha z0rg h1 h2
theorem k_gt (ha : -2147483648 ≤ a ∧ a ≤ 2147483647) (h1 : 0 < a → A) (h2 : ¬ 0 < a → B) : (0 < Int32.ofInt a → A) ∧ (¬ 0 < Int32.ofInt a → B) := by rw [zz0]; exact j_gt ha z0rg h1 h2
theorem k_le (ha : -2147483648 ≤ a ∧ a ≤ 2147483647) (h1 : a ≤ 0 → A) (h2 : ¬ a ≤ 0 → B) : (Int32.ofInt a ≤ 0 → A) ∧ (¬ Int32.ofInt a ≤ 0 → B) := by rw [zz0]; exact j_le ha z0rg h1 h2
theorem k_ge (ha : -2147483648 ≤ a ∧ a ≤ 2147483647) (h1 : 0 ≤ a → A) (h2 : ¬ 0 ≤ a → B) : (0 ≤ Int32.ofInt a → A) ∧ (¬ 0 ≤ Int32.ofInt a → B) := by rw [zz0]; exact j_ge ha z0rg h1 h2
theorem k_eq (ha : -2147483648 ≤ a ∧ a ≤ 2147483647) (h1 : a = 0 → A) (h2 : ¬ a = 0 → B) : (Int32.ofInt a = 0 → A) ∧ (¬ Int32.ofInt a = 0 → B) := by rw [zz0]; exact j_eq ha z0rg h1 h2
theorem k_ne (ha : -2147483648 ≤ a ∧ a ≤ 2147483647) (h1 : ¬ a = 0 → A) (h2 : a = 0 → B) : (¬ Int32.ofInt a = 0 → A) ∧ (Int32.ofInt a = 0 → B) := by rw [zz0]; exact j_ne ha z0rg h1 h2
theorem j_any {P Q : Prop} (h1 : A) (h2 : B) : (P → A) ∧ (Q → B) := ⟨fun _ => h1, fun _ => h2⟩
theorem zand_r (x : Int32) {m : Int32} (j : Nat) (hm : m.toBitVec.toNat = 2 ^ j - 1) (hj : j ≤ 30) : ∃ v : Int, 0 ≤ v ∧ v < 2 ^ j ∧ x &&& m = Int32.ofInt v := by
  obtain ⟨i, h1, h2⟩ := pk_andE x j hm
  refine ⟨(i : Int), by omega, ?_, h2⟩
  exact_mod_cast h1
end ZJ
