/-! THE REFERENCE'S TOKENS, exactly, by the class's tape. -/
noncomputable def u8 (b : Int) : Int := if b < 0 then b + 256 else b
theorem x_and8 : ∀ n : Nat, n < 256 → Int32.ofInt ((n : Int) - 128) &&& Int32.ofInt 255 = Int32.ofInt (u8 ((n : Int) - 128)) := by decide +kernel
theorem x_and {b : Int} (h : -128 ≤ b ∧ b ≤ 127) : Int32.ofInt b &&& Int32.ofInt 255 = Int32.ofInt (u8 b) := by
  have e := x_and8 (b + 128).toNat (by omega)
  rw [show (((b + 128).toNat : Nat) : Int) - 128 = b by omega] at e
  exact e
theorem lcmp0 {x y : Int64} : lg_cmp x y = 0 ↔ x = y := by
  unfold lg_cmp
  constructor
  · intro h
    split at h
    · exact absurd h (by decide)
    · split at h
      · assumption
      · exact absurd h (by decide)
  · intro h
    subst h
    rw [if_neg Int64.lt_irrefl, if_pos rfl]
theorem x_lcmp {x : Int64} {a : Nat} {A B : Prop} (ha : a < 9223372036854775808) (h1 : x.toInt ≠ (a : Int) → A) (h2 : x.toInt = (a : Int) → B) : (¬ lg_cmp x (Int64.ofNat a) = 0 → A) ∧ (lg_cmp x (Int64.ofNat a) = 0 → B) := by
  have e : (Int64.ofNat a).toInt = (a : Int) := Int64.toInt_ofNat_of_lt ha
  have k : lg_cmp x (Int64.ofNat a) = 0 ↔ x.toInt = (a : Int) := by rw [lcmp0, ← Int64.toInt_inj, e]
  exact ⟨fun h => h1 fun q => h (k.mpr q), fun h => h2 (k.mp h)⟩
theorem x_lcmpE {x : Int64} {a : Nat} {A B : Prop} (ha : a < 9223372036854775808) (h1 : x.toInt = (a : Int) → A) (h2 : x.toInt ≠ (a : Int) → B) : (lg_cmp x (Int64.ofNat a) = 0 → A) ∧ (¬ lg_cmp x (Int64.ofNat a) = 0 → B) := ⟨(x_lcmp ha h2 h1).2, (x_lcmp ha h2 h1).1⟩
theorem x_shl {x : Int64} {v : Int} (h0 : 0 ≤ x.toInt) (h1 : x.toInt < 36028797018963968) (hv : 0 ≤ v ∧ v < 256) : (x <<< ((Int32.ofInt 8).toInt64 &&& 63) ||| (Int32.ofInt v).toInt64).toInt = x.toInt * 256 + v := by
  obtain ⟨n, hn⟩ : ∃ n : Nat, x.toInt = n := ⟨x.toInt.toNat, by omega⟩
  obtain ⟨m, hm⟩ : ∃ m : Nat, v = m := ⟨v.toNat, by omega⟩
  subst hm
  have hx : x = Int64.ofNat n := Int64.toInt_inj.mp (by rw [hn, Int64.toInt_ofNat_of_lt (by omega)])
  have h3 : (Int32.ofInt (m : Int)).toInt64 = Int64.ofNat m := Int64.toInt_inj.mp (by rw [Int32.toInt_toInt64, zti (by omega) (by omega), Int64.toInt_ofNat_of_lt (by omega)])
  have h4 : x <<< ((Int32.ofInt 8).toInt64 &&& 63) = Int64.ofNat (n * 256) := by
    rw [hx]
    apply Int64.toBitVec_inj.mp
    rw [Int64.toBitVec_shiftLeft]
    have e8 : ((Int32.ofInt 8).toInt64 &&& 63).toBitVec.smod 64 = 8#64 := by decide
    rw [e8]
    apply BitVec.eq_of_toNat_eq
    show ((Int64.ofNat n).toBitVec <<< (8#64).toNat).toNat = (Int64.ofNat (n * 256)).toBitVec.toNat
    rw [BitVec.toNat_shiftLeft]
    show (Int64.ofNat n).toBitVec.toNat <<< 8 % 2 ^ 64 = (Int64.ofNat (n * 256)).toBitVec.toNat
    rw [show (Int64.ofNat n).toBitVec = BitVec.ofNat 64 n from rfl, show (Int64.ofNat (n * 256)).toBitVec = BitVec.ofNat 64 (n * 256) from rfl, BitVec.toNat_ofNat, BitVec.toNat_ofNat, Nat.shiftLeft_eq]
    omega
  rw [h4, h3]
  have h5 : Int64.ofNat (n * 256) ||| Int64.ofNat m = Int64.ofNat (n * 256 + m) := by
    apply Int64.toBitVec_inj.mp
    rw [Int64.toBitVec_or]
    apply BitVec.eq_of_toNat_eq
    rw [BitVec.toNat_or]
    rw [show (Int64.ofNat (n * 256)).toBitVec = BitVec.ofNat 64 (n * 256) from rfl, show (Int64.ofNat m).toBitVec = BitVec.ofNat 64 m from rfl, show (Int64.ofNat (n * 256 + m)).toBitVec = BitVec.ofNat 64 (n * 256 + m) from rfl, BitVec.toNat_ofNat, BitVec.toNat_ofNat, BitVec.toNat_ofNat]
    rw [Nat.mod_eq_of_lt (by omega), Nat.mod_eq_of_lt (by omega), Nat.mod_eq_of_lt (by omega)]
    have := Nat.shiftLeft_add_eq_or_of_lt (i := 8) (b := m) (by omega) n
    rw [Nat.shiftLeft_eq] at this
    exact this.symm
  rw [h5, Int64.toInt_ofNat_of_lt (by omega), hn]
  omega
noncomputable def rK (k : Int) : Int := if k = 0 then 0 else if k = 1 then 2 else if k = 2 then 3 else if k = 3 then 4 else 1
/-- the reference's token behind a -/
noncomputable def TKR (g : Nat → Int32) (n a y9 y11 y12 y13 : Int) (y14 : Int64) : Prop := y9 = tE g n a ∧ y11 = tS g n a ∧ y12 = rK (tK g n a) ∧ (tK g n a = 2 → y13 = tV g n a) ∧ (tK g n a = 1 → y14.toInt = if tE g n a - tS g n a ≤ 8 then tkW g n a else 0)
theorem tkr_of {g : Nat → Int32} {n a s k e x y12 : Int} {y14 : Int64} (h : ADV g n a s k e x) (h12 : y12 = rK k) (hw : k = 1 → y14.toInt = if e - s ≤ 8 then wv g s (e - s).toNat else 0) : TKR g n a e s y12 x y14 := by
  obtain ⟨rfl, rfl, rfl, h4⟩ := h
  exact ⟨rfl, rfl, h12, h4, hw⟩
theorem wv_u {g : Nat → Int32} {s : Int} : ∀ k : Nat, (∀ i : Int, s ≤ i → i < s + ((k + 1 : Nat) : Int) → 97 ≤ tBy g i ∧ tBy g i ≤ 122) → wv g s (k + 1) < 123 * 256 ^ k
  | 0, h => by
    have hb := h (s + ((0 : Nat) : Int)) (by omega) (by omega)
    have e0 : wv g s 0 = 0 := rfl
    have e1 : (256 : Int) ^ 0 = 1 := rfl
    show wv g s 0 * 256 + tBy g (s + ((0 : Nat) : Int)) < 123 * 256 ^ 0
    omega
  | k + 1, h => by
    have h1 := wv_u k fun i a b => h i a (by omega)
    have hb := h (s + ((k + 1 : Nat) : Int)) (by omega) (by omega)
    have e : (256 : Int) ^ (k + 1) = 256 ^ k * 256 := Int.pow_succ ..
    show wv g s (k + 1) * 256 + tBy g (s + ((k + 1 : Nat) : Int)) < 123 * 256 ^ (k + 1)
    rw [e]
    omega
theorem wv_sp {g : Nat → Int32} {n s rc m : Int} {ww : Int64} (hs : 0 ≤ s) (h1 : s ≤ rc) (hr : tRun cLt g n rc = tRun cLt g n s) (hb : rc ≤ tRun cLt g n rc) (hm : m = rc - s) (hw : m ≤ 8 → ww.toInt = wv g s m.toNat) {v : Int} (hv : v = tBy g rc) (hl : 97 ≤ tBy g rc ∧ tBy g rc ≤ 122) : m + 1 ≤ 8 → (ww <<< ((Int32.ofInt 8).toInt64 &&& 63) ||| (Int32.ofInt v).toInt64).toInt = wv g s (m + 1).toNat := by
  intro h8
  have e := hw (by omega)
  have b := wv_b (g := g) (s := s) m.toNat fun i x y => of_decide_eq_true (tRun_all (P := cLt) (g := g) (n := n) (a := s) (i := i) hs x (by omega))
  have u : wv g s m.toNat < 36028797018963968 := by
    have h7 : m.toNat = 0 ∨ ∃ k, m.toNat = k + 1 ∧ k ≤ 6 := by
      rcases Nat.eq_zero_or_pos m.toNat with z | z
      · exact Or.inl z
      · exact Or.inr ⟨m.toNat - 1, by omega, by omega⟩
    rcases h7 with z | ⟨k, z, zk⟩
    · rw [z]
      show (0 : Int) < _
      omega
    · rw [z]
      have b2 := wv_u (g := g) (s := s) k fun i x y => of_decide_eq_true (tRun_all (P := cLt) (g := g) (n := n) (a := s) (i := i) hs x (by omega))
      have p : (256 : Int) ^ k ≤ 281474976710656 := by
        have hc : k = 0 ∨ k = 1 ∨ k = 2 ∨ k = 3 ∨ k = 4 ∨ k = 5 ∨ k = 6 := by omega
        rcases hc with h | h | h | h | h | h | h <;> rw [h] <;> decide
      omega
  rw [x_shl (by omega) (by omega) (by omega), e, show (m + 1).toNat = m.toNat + 1 by omega]
  show _ = wv g s m.toNat * 256 + tBy g (s + (m.toNat : Int))
  rw [show s + (m.toNat : Int) = rc by omega, hv]
theorem x_see (w : zW) (d : Nat) (f0 f9 f10 f11 f12 f13 f15 f16 f17 f20 f21 f22 f23 f26 f28 f31 f32 f33 f38 f41 f44 : Int) (x14 : Int64) (g15 g : Nat → Int32) (hK0 : zix w 14 = some (.inr (11, [.int (Int32.ofInt f0), .ref 15, .ref 16, .ref 17, .ref 18, .ref 19, .ref 20, .ref 21, .ref 22, .int (Int32.ofInt f9), .int (Int32.ofInt f10), .int (Int32.ofInt f11), .int (Int32.ofInt f12), .int (Int32.ofInt f13), .long x14, .int (Int32.ofInt f15), .int (Int32.ofInt f16), .int (Int32.ofInt f17), .ref 23, .ref 24, .int (Int32.ofInt f20), .int (Int32.ofInt f21), .int (Int32.ofInt f22), .int (Int32.ofInt f23), .ref 25, .ref 26, .int (Int32.ofInt f26), .ref 27, .int (Int32.ofInt f28), .ref 28, .ref 29, .int (Int32.ofInt f31), .int (Int32.ofInt f32), .int (Int32.ofInt f33), .ref 30, .ref 31, .ref 32, .ref 33, .int (Int32.ofInt f38), .ref 34, .ref 35, .int (Int32.ofInt f41), .ref 36, .ref 37, .int (Int32.ofInt f44), .ref 38, .ref 39, .ref 40, .ref 41, .ref 42, .ref 43, .ref 44]))) (hK1 : zix w 15 = some (.inl (0, 2400, .inl g15))) (hr0 : 0 ≤ f9 ∧ f9 ≤ f10 ∧ f10 ≤ 600) (hr1 : ∀ i : Int, 0 ≤ i → i < f10 → tBy g15 i = tBy g i ∧ -128 ≤ tBy g i ∧ tBy g i ≤ 127) (Q : zQ) (h : ∀ (v : Int), ((v = -1 ∧ f10 ≤ f9) ∨ (f9 < f10 ∧ 0 ≤ tBy g f9 ∧ tBy g f9 ≤ 127 ∧ v = tBy g f9) ∨ (f9 < f10 ∧ tBy g f9 < 0 ∧ 128 ≤ v ∧ v ≤ 255)) → Q (some (.int (Int32.ofInt v))) w) : zCl zTab (d + 1) iX12_see [.ref 14] w 0 0 Q := by
  refine zCl_i (M := kX12_see) rfl (Nat.le_of_ble_eq_true rfl) fun R hR => ?_
  refine hR (?_ : R (_, _, _, _, _, _))
  refine hR (c_get hK0 rfl ?_)
  refine hR (?_ : R (_, _, _, _, _, _))
  refine hR (c_get hK0 rfl ?_)
  refine hR (j_ge (by omega) (by omega) (fun hc1 => ?_) (fun hc1 => ?_))
  · skip
    refine hR (?_ : R (_, _, _, _, _, _))
    exact hR (zret_i rfl (Nat.le_refl _) trivial (h _ (by omega)))
  refine hR (?_ : R (_, _, _, _, _, _))
  refine hR (c_get hK0 rfl ?_)
  refine hR (?_ : R (_, _, _, _, _, _))
  refine hR (c_get hK0 rfl ?_)
  refine hR (x_bld hK1 (by omega) (by omega) (Nat.le_of_ble_eq_true rfl) fun v2 ev2 rv2 => ?_)
  replace ev2 : v2 = tBy g15 f9 := ev2
  subst ev2
  have hg0 := hr1 f9 (by omega) (by omega)
  refine hR (t_c 255 (by decide) ?_)
  refine hR (t_c (u8 (tBy g15 f9)) (x_and (by omega)) ?_)
  refine hR (?_ : R (_, _, _, _, _, _))
  exact hR (zret_i rfl (Nat.le_refl _) trivial (h _ (by unfold u8; split <;> omega)))
theorem x_token (w : zW) (d : Nat) (f0 f9 f10 f11 f12 f13 f15 f16 f17 f20 f21 f22 f23 f26 f28 f31 f32 f33 f38 f41 f44 : Int) (x14 : Int64) (g15 g : Nat → Int32) (hK0 : zix w 14 = some (.inr (11, [.int (Int32.ofInt f0), .ref 15, .ref 16, .ref 17, .ref 18, .ref 19, .ref 20, .ref 21, .ref 22, .int (Int32.ofInt f9), .int (Int32.ofInt f10), .int (Int32.ofInt f11), .int (Int32.ofInt f12), .int (Int32.ofInt f13), .long x14, .int (Int32.ofInt f15), .int (Int32.ofInt f16), .int (Int32.ofInt f17), .ref 23, .ref 24, .int (Int32.ofInt f20), .int (Int32.ofInt f21), .int (Int32.ofInt f22), .int (Int32.ofInt f23), .ref 25, .ref 26, .int (Int32.ofInt f26), .ref 27, .int (Int32.ofInt f28), .ref 28, .ref 29, .int (Int32.ofInt f31), .int (Int32.ofInt f32), .int (Int32.ofInt f33), .ref 30, .ref 31, .ref 32, .ref 33, .int (Int32.ofInt f38), .ref 34, .ref 35, .int (Int32.ofInt f41), .ref 36, .ref 37, .int (Int32.ofInt f44), .ref 38, .ref 39, .ref 40, .ref 41, .ref 42, .ref 43, .ref 44]))) (hK1 : zix w 15 = some (.inl (0, 2400, .inl g15))) (hr0 : 0 ≤ f9 ∧ f9 ≤ f10 ∧ f10 ≤ 600) (hr1 : ∀ i : Int, 0 ≤ i → i < f10 → tBy g15 i = tBy g i ∧ -128 ≤ tBy g i ∧ tBy g i ≤ 127) (Q : zQ) (h : ∀ (y9 y11 y12 y13 : Int) (y14 : Int64) (w' : zW), wfM (fun j => j ≠ 14) w w' → zix w' 14 = some (.inr (11, [.int (Int32.ofInt f0), .ref 15, .ref 16, .ref 17, .ref 18, .ref 19, .ref 20, .ref 21, .ref 22, .int (Int32.ofInt y9), .int (Int32.ofInt f10), .int (Int32.ofInt y11), .int (Int32.ofInt y12), .int (Int32.ofInt y13), .long y14, .int (Int32.ofInt f15), .int (Int32.ofInt f16), .int (Int32.ofInt f17), .ref 23, .ref 24, .int (Int32.ofInt f20), .int (Int32.ofInt f21), .int (Int32.ofInt f22), .int (Int32.ofInt f23), .ref 25, .ref 26, .int (Int32.ofInt f26), .ref 27, .int (Int32.ofInt f28), .ref 28, .ref 29, .int (Int32.ofInt f31), .int (Int32.ofInt f32), .int (Int32.ofInt f33), .ref 30, .ref 31, .ref 32, .ref 33, .int (Int32.ofInt f38), .ref 34, .ref 35, .int (Int32.ofInt f41), .ref 36, .ref 37, .int (Int32.ofInt f44), .ref 38, .ref 39, .ref 40, .ref 41, .ref 42, .ref 43, .ref 44])) → (TKR g f10 f9 y9 y11 y12 y13 y14) → Q (none) w') : zCl zTab (d + 2) iX12_token [.ref 14] w 0 0 Q := by
  refine zCl_i (M := kX12_token) rfl (Nat.le_of_ble_eq_true rfl) fun R hR => ?_
  have fr0 : wfM (fun j => j ≠ 14) w w := wfM_rf _ w
  have nX0 : FX (∀ j : Nat, (j ≠ 14) → j ≠ 14) := fun j hj => by omega
  have lp0 : ∀ (N : Nat) (rc : Int) (w_0 : zW), (wfM (fun j => j ≠ 14) w w_0) → (zix w_0 14 = some (.inr (11, [.int (Int32.ofInt f0), .ref 15, .ref 16, .ref 17, .ref 18, .ref 19, .ref 20, .ref 21, .ref 22, .int (Int32.ofInt rc), .int (Int32.ofInt f10), .int (Int32.ofInt f11), .int (Int32.ofInt f12), .int (Int32.ofInt f13), .long x14, .int (Int32.ofInt f15), .int (Int32.ofInt f16), .int (Int32.ofInt f17), .ref 23, .ref 24, .int (Int32.ofInt f20), .int (Int32.ofInt f21), .int (Int32.ofInt f22), .int (Int32.ofInt f23), .ref 25, .ref 26, .int (Int32.ofInt f26), .ref 27, .int (Int32.ofInt f28), .ref 28, .ref 29, .int (Int32.ofInt f31), .int (Int32.ofInt f32), .int (Int32.ofInt f33), .ref 30, .ref 31, .ref 32, .ref 33, .int (Int32.ofInt f38), .ref 34, .ref 35, .int (Int32.ofInt f41), .ref 36, .ref 37, .int (Int32.ofInt f44), .ref 38, .ref 39, .ref 40, .ref 41, .ref 42, .ref 43, .ref 44]))) → (zix w_0 15 = some (.inl (0, 2400, .inl g15))) → (tRun cBl g f10 rc = tRun cBl g f10 f9) → (0 ≤ rc ∧ rc ≤ f10) → (601 - rc < N) → R (0, [some (.ref 14), none, none], [], w_0, 0, 0) := by
    intro N
    induction N with
    | zero => intros; omega
    | succ N ih0 =>
      intro rc w_0 fr_0 hC14_0 hC15_0 hp0_0 hp1_0 hN0
      refine hR (?_ : R (_, _, _, _, _, _))
      refine hR (c_obj hC14_0 (zcall_i 0 0 (Nat.le_of_ble_eq_true rfl) (Nat.le_of_ble_eq_true rfl) (x_see _ _ _ _ _ _ _ _ _ _ _ _ _ _ _ _ _ _ _ _ _ _ _ _ _ _ hC14_0 hC15_0 (by omega) hr1 _ fun v1 hp2 => ?_)))
      refine (?_ : R (_, _, .int (Int32.ofInt v1) :: [], w_0, 0, 0))
      refine hR (t_c 10 (by decide) ?_)
      refine hR (j_eq (by omega) (by omega) (fun hc3 => ?_) (fun hc3 => ?_))
      · skip
        iterate 2 refine hR (?_ : R (_, _, _, _, _, _))
        refine hR (c_get hC14_0 rfl ?_)
        refine hR (?_ : R (_, _, _, _, _, _))
        refine hR (t_add ?_)
        refine hR (c_put hC14_0 rfl rfl fun w4 ff4 hC4 => ?_)
        have fr5 := wfM_st fr_0 ff4 nX0
        have hC6 := (ff4.2 15 (by (try dsimp only); decide)).trans hC15_0
        replace hC4 : zix w4 14 = some (.inr (11, [.int (Int32.ofInt f0), .ref 15, .ref 16, .ref 17, .ref 18, .ref 19, .ref 20, .ref 21, .ref 22, .int (Int32.ofInt (rc + 1)), .int (Int32.ofInt f10), .int (Int32.ofInt f11), .int (Int32.ofInt f12), .int (Int32.ofInt f13), .long x14, .int (Int32.ofInt f15), .int (Int32.ofInt f16), .int (Int32.ofInt f17), .ref 23, .ref 24, .int (Int32.ofInt f20), .int (Int32.ofInt f21), .int (Int32.ofInt f22), .int (Int32.ofInt f23), .ref 25, .ref 26, .int (Int32.ofInt f26), .ref 27, .int (Int32.ofInt f28), .ref 28, .ref 29, .int (Int32.ofInt f31), .int (Int32.ofInt f32), .int (Int32.ofInt f33), .ref 30, .ref 31, .ref 32, .ref 33, .int (Int32.ofInt f38), .ref 34, .ref 35, .int (Int32.ofInt f41), .ref 36, .ref 37, .int (Int32.ofInt f44), .ref 38, .ref 39, .ref 40, .ref 41, .ref 42, .ref 43, .ref 44])) := hC4
        refine hR (?_ : R (_, _, _, _, _, _))
        exact ih0 _ _ fr5 hC4 hC6 ((bl_s (by omega) (by omega) (by omega)).trans hp0_0) (by omega) (by omega)
      refine hR (?_ : R (_, _, _, _, _, _))
      refine hR (c_obj hC14_0 (zcall_i 0 0 (Nat.le_of_ble_eq_true rfl) (Nat.le_of_ble_eq_true rfl) (x_see _ _ _ _ _ _ _ _ _ _ _ _ _ _ _ _ _ _ _ _ _ _ _ _ _ _ hC14_0 hC15_0 (by omega) hr1 _ fun v7 hp8 => ?_)))
      refine (?_ : R (_, _, .int (Int32.ofInt v7) :: [], w_0, 0, 0))
      refine hR (t_c 32 (by decide) ?_)
      refine hR (j_ne (by omega) (by omega) (fun hc9 => ?_) (fun hc9 => ?_))
      rotate_left
      · skip
        iterate 2 refine hR (?_ : R (_, _, _, _, _, _))
        refine hR (c_get hC14_0 rfl ?_)
        refine hR (?_ : R (_, _, _, _, _, _))
        refine hR (t_add ?_)
        refine hR (c_put hC14_0 rfl rfl fun w94 ff94 hC94 => ?_)
        have fr95 := wfM_st fr_0 ff94 nX0
        have hC96 := (ff94.2 15 (by (try dsimp only); decide)).trans hC15_0
        replace hC94 : zix w94 14 = some (.inr (11, [.int (Int32.ofInt f0), .ref 15, .ref 16, .ref 17, .ref 18, .ref 19, .ref 20, .ref 21, .ref 22, .int (Int32.ofInt (rc + 1)), .int (Int32.ofInt f10), .int (Int32.ofInt f11), .int (Int32.ofInt f12), .int (Int32.ofInt f13), .long x14, .int (Int32.ofInt f15), .int (Int32.ofInt f16), .int (Int32.ofInt f17), .ref 23, .ref 24, .int (Int32.ofInt f20), .int (Int32.ofInt f21), .int (Int32.ofInt f22), .int (Int32.ofInt f23), .ref 25, .ref 26, .int (Int32.ofInt f26), .ref 27, .int (Int32.ofInt f28), .ref 28, .ref 29, .int (Int32.ofInt f31), .int (Int32.ofInt f32), .int (Int32.ofInt f33), .ref 30, .ref 31, .ref 32, .ref 33, .int (Int32.ofInt f38), .ref 34, .ref 35, .int (Int32.ofInt f41), .ref 36, .ref 37, .int (Int32.ofInt f44), .ref 38, .ref 39, .ref 40, .ref 41, .ref 42, .ref 43, .ref 44])) := hC94
        refine hR (?_ : R (_, _, _, _, _, _))
        exact ih0 _ _ fr95 hC94 hC96 ((bl_s (by omega) (by omega) (by omega)).trans hp0_0) (by omega) (by omega)
      iterate 2 refine hR (?_ : R (_, _, _, _, _, _))
      refine hR (c_get hC14_0 rfl ?_)
      refine hR (c_put hC14_0 rfl rfl fun w10 ff10 hC10 => ?_)
      have fr11 := wfM_st fr_0 ff10 nX0
      have hC12 := (ff10.2 15 (by (try dsimp only); decide)).trans hC15_0
      replace hC10 : zix w10 14 = some (.inr (11, [.int (Int32.ofInt f0), .ref 15, .ref 16, .ref 17, .ref 18, .ref 19, .ref 20, .ref 21, .ref 22, .int (Int32.ofInt rc), .int (Int32.ofInt f10), .int (Int32.ofInt rc), .int (Int32.ofInt f12), .int (Int32.ofInt f13), .long x14, .int (Int32.ofInt f15), .int (Int32.ofInt f16), .int (Int32.ofInt f17), .ref 23, .ref 24, .int (Int32.ofInt f20), .int (Int32.ofInt f21), .int (Int32.ofInt f22), .int (Int32.ofInt f23), .ref 25, .ref 26, .int (Int32.ofInt f26), .ref 27, .int (Int32.ofInt f28), .ref 28, .ref 29, .int (Int32.ofInt f31), .int (Int32.ofInt f32), .int (Int32.ofInt f33), .ref 30, .ref 31, .ref 32, .ref 33, .int (Int32.ofInt f38), .ref 34, .ref 35, .int (Int32.ofInt f41), .ref 36, .ref 37, .int (Int32.ofInt f44), .ref 38, .ref 39, .ref 40, .ref 41, .ref 42, .ref 43, .ref 44])) := hC10
      refine hR (?_ : R (_, _, _, _, _, _))
      refine hR (c_obj hC10 (zcall_i 0 0 (Nat.le_of_ble_eq_true rfl) (Nat.le_of_ble_eq_true rfl) (x_see _ _ _ _ _ _ _ _ _ _ _ _ _ _ _ _ _ _ _ _ _ _ _ _ _ _ hC10 hC12 (by omega) hr1 _ fun v13 hp14 => ?_)))
      refine (?_ : R (_, _, .int (Int32.ofInt v13) :: [], w10, 0, 0))
      iterate 3 refine hR (?_ : R (_, _, _, _, _, _))
      refine hR (c_put hC10 rfl rfl fun w15 ff15 hC15 => ?_)
      have fr16 := wfM_st fr11 ff15 nX0
      have hC17 := (ff15.2 15 (by (try dsimp only); decide)).trans hC12
      replace hC15 : zix w15 14 = some (.inr (11, [.int (Int32.ofInt f0), .ref 15, .ref 16, .ref 17, .ref 18, .ref 19, .ref 20, .ref 21, .ref 22, .int (Int32.ofInt rc), .int (Int32.ofInt f10), .int (Int32.ofInt rc), .int (Int32.ofInt f12), .int (Int32.ofInt f13), .long (Int64.ofNat 0), .int (Int32.ofInt f15), .int (Int32.ofInt f16), .int (Int32.ofInt f17), .ref 23, .ref 24, .int (Int32.ofInt f20), .int (Int32.ofInt f21), .int (Int32.ofInt f22), .int (Int32.ofInt f23), .ref 25, .ref 26, .int (Int32.ofInt f26), .ref 27, .int (Int32.ofInt f28), .ref 28, .ref 29, .int (Int32.ofInt f31), .int (Int32.ofInt f32), .int (Int32.ofInt f33), .ref 30, .ref 31, .ref 32, .ref 33, .int (Int32.ofInt f38), .ref 34, .ref 35, .int (Int32.ofInt f41), .ref 36, .ref 37, .int (Int32.ofInt f44), .ref 38, .ref 39, .ref 40, .ref 41, .ref 42, .ref 43, .ref 44])) := hC15
      iterate 3 refine hR (?_ : R (_, _, _, _, _, _))
      refine hR (k_ge (by omega) (fun hc18 => ?_) (fun hc18 => ?_))
      rotate_left
      · skip
        iterate 2 refine hR (?_ : R (_, _, _, _, _, _))
        refine hR (c_put hC15 rfl rfl fun w91 ff91 hC91 => ?_)
        have fr92 := wfM_st fr16 ff91 nX0
        have hC93 := (ff91.2 15 (by (try dsimp only); decide)).trans hC17
        replace hC91 : zix w91 14 = some (.inr (11, [.int (Int32.ofInt f0), .ref 15, .ref 16, .ref 17, .ref 18, .ref 19, .ref 20, .ref 21, .ref 22, .int (Int32.ofInt rc), .int (Int32.ofInt f10), .int (Int32.ofInt rc), .int (Int32.ofInt 0), .int (Int32.ofInt f13), .long (Int64.ofNat 0), .int (Int32.ofInt f15), .int (Int32.ofInt f16), .int (Int32.ofInt f17), .ref 23, .ref 24, .int (Int32.ofInt f20), .int (Int32.ofInt f21), .int (Int32.ofInt f22), .int (Int32.ofInt f23), .ref 25, .ref 26, .int (Int32.ofInt f26), .ref 27, .int (Int32.ofInt f28), .ref 28, .ref 29, .int (Int32.ofInt f31), .int (Int32.ofInt f32), .int (Int32.ofInt f33), .ref 30, .ref 31, .ref 32, .ref 33, .int (Int32.ofInt f38), .ref 34, .ref 35, .int (Int32.ofInt f41), .ref 36, .ref 37, .int (Int32.ofInt f44), .ref 38, .ref 39, .ref 40, .ref 41, .ref 42, .ref 43, .ref 44])) := hC91
        refine hR (?_ : R (_, _, _, _, _, _))
        exact hR (zret_i rfl (Nat.le_refl _) rfl (h _ _ _ _ _ _ fr92 hC91 (tkr_of (adv_0 (((bl_e (g := g) (n := f10) (a := rc) (by omega) (by omega)).symm.trans hp0_0).symm) (by omega)) rfl (fun q => absurd q (by decide)))))
      refine hR (?_ : R (_, _, _, _, _, _))
      refine hR (t_c 97 (by decide) ?_)
      refine hR (t_c 122 (by decide) ?_)
      refine hR (zcall_i 0 0 (Nat.le_of_ble_eq_true rfl) (Nat.le_of_ble_eq_true rfl) (m_in _ v13 97 122 _ (by omega) (by omega) (by omega) _ fun v19 hp20 => ?_))
      refine (?_ : R (_, _, .int (Int32.ofInt v19) :: [], w15, 0, 0))
      refine hR (k_eq (by omega) (fun hc21 => ?_) (fun hc21 => ?_))
      rotate_left
      · skip
        have lp74 : ∀ (N : Nat) (n2 : Int) (rc2 : Int) (ww : Int64) (w_74 : zW), (wfM (fun j => j ≠ 14) w w_74) → (zix w_74 14 = some (.inr (11, [.int (Int32.ofInt f0), .ref 15, .ref 16, .ref 17, .ref 18, .ref 19, .ref 20, .ref 21, .ref 22, .int (Int32.ofInt rc2), .int (Int32.ofInt f10), .int (Int32.ofInt rc), .int (Int32.ofInt f12), .int (Int32.ofInt f13), .long ww, .int (Int32.ofInt f15), .int (Int32.ofInt f16), .int (Int32.ofInt f17), .ref 23, .ref 24, .int (Int32.ofInt f20), .int (Int32.ofInt f21), .int (Int32.ofInt f22), .int (Int32.ofInt f23), .ref 25, .ref 26, .int (Int32.ofInt f26), .ref 27, .int (Int32.ofInt f28), .ref 28, .ref 29, .int (Int32.ofInt f31), .int (Int32.ofInt f32), .int (Int32.ofInt f33), .ref 30, .ref 31, .ref 32, .ref 33, .int (Int32.ofInt f38), .ref 34, .ref 35, .int (Int32.ofInt f41), .ref 36, .ref 37, .int (Int32.ofInt f44), .ref 38, .ref 39, .ref 40, .ref 41, .ref 42, .ref 43, .ref 44]))) → (zix w_74 15 = some (.inl (0, 2400, .inl g15))) → (0 ≤ n2 ∧ n2 ≤ 600) → (tRun cLt g f10 rc2 = tRun cLt g f10 rc) → (rc ≤ rc2 ∧ rc2 ≤ f10) → (n2 = rc2 - rc) → (n2 ≤ 8 → ww.toInt = wv g rc n2.toNat) → (601 - rc2 < N) → R (74, [some (.ref 14), some (.int (Int32.ofInt v13)), some (.int (Int32.ofInt n2))], [], w_74, 0, 0) := by
          intro N
          induction N with
          | zero => intros; omega
          | succ N ih74 =>
            intro n2 rc2 ww w_74 fr_74 hC14_74 hC15_74 hf0_74 hp0_74 hp1_74 hp2_74 hp3_74 hN74
            refine hR (?_ : R (_, _, _, _, _, _))
            refine hR (c_obj hC14_74 (zcall_i 0 0 (Nat.le_of_ble_eq_true rfl) (Nat.le_of_ble_eq_true rfl) (x_see _ _ _ _ _ _ _ _ _ _ _ _ _ _ _ _ _ _ _ _ _ _ _ _ _ _ hC14_74 hC15_74 (by omega) hr1 _ fun v65 hp66 => ?_)))
            refine (?_ : R (_, _, .int (Int32.ofInt v65) :: [], w_74, 0, 0))
            refine hR (t_c 97 (by decide) ?_)
            refine hR (t_c 122 (by decide) ?_)
            refine hR (zcall_i 0 0 (Nat.le_of_ble_eq_true rfl) (Nat.le_of_ble_eq_true rfl) (m_in _ v65 97 122 _ (by omega) (by omega) (by omega) _ fun v67 hp68 => ?_))
            refine (?_ : R (_, _, .int (Int32.ofInt v67) :: [], w_74, 0, 0))
            refine hR (k_eq (by omega) (fun hc69 => ?_) (fun hc69 => ?_))
            rotate_left
            · skip
              iterate 2 refine hR (?_ : R (_, _, _, _, _, _))
              refine hR (c_get hC14_74 rfl ?_)
              refine hR (t_c 8 (by decide) ?_)
              iterate 2 refine hR (?_ : R (_, _, _, _, _, _))
              refine hR (c_obj hC14_74 (zcall_i 0 0 (Nat.le_of_ble_eq_true rfl) (Nat.le_of_ble_eq_true rfl) (x_see _ _ _ _ _ _ _ _ _ _ _ _ _ _ _ _ _ _ _ _ _ _ _ _ _ _ hC14_74 hC15_74 (by omega) hr1 _ fun v83 hp84 => ?_)))
              refine (?_ : R (_, _, .int (Int32.ofInt v83) :: .long (ww <<< ((Int32.ofInt 8).toInt64 &&& 63)) :: .ref 14 :: [], w_74, 0, 0))
              iterate 2 refine hR (?_ : R (_, _, _, _, _, _))
              refine hR (c_put hC14_74 rfl rfl fun w85 ff85 hC85 => ?_)
              have fr86 := wfM_st fr_74 ff85 nX0
              have hC87 := (ff85.2 15 (by (try dsimp only); decide)).trans hC15_74
              replace hC85 : zix w85 14 = some (.inr (11, [.int (Int32.ofInt f0), .ref 15, .ref 16, .ref 17, .ref 18, .ref 19, .ref 20, .ref 21, .ref 22, .int (Int32.ofInt rc2), .int (Int32.ofInt f10), .int (Int32.ofInt rc), .int (Int32.ofInt f12), .int (Int32.ofInt f13), .long ((ww <<< ((Int32.ofInt 8).toInt64 &&& 63)) ||| ((Int32.ofInt v83).toInt64)), .int (Int32.ofInt f15), .int (Int32.ofInt f16), .int (Int32.ofInt f17), .ref 23, .ref 24, .int (Int32.ofInt f20), .int (Int32.ofInt f21), .int (Int32.ofInt f22), .int (Int32.ofInt f23), .ref 25, .ref 26, .int (Int32.ofInt f26), .ref 27, .int (Int32.ofInt f28), .ref 28, .ref 29, .int (Int32.ofInt f31), .int (Int32.ofInt f32), .int (Int32.ofInt f33), .ref 30, .ref 31, .ref 32, .ref 33, .int (Int32.ofInt f38), .ref 34, .ref 35, .int (Int32.ofInt f41), .ref 36, .ref 37, .int (Int32.ofInt f44), .ref 38, .ref 39, .ref 40, .ref 41, .ref 42, .ref 43, .ref 44])) := hC85
              iterate 2 refine hR (?_ : R (_, _, _, _, _, _))
              refine hR (c_get hC85 rfl ?_)
              refine hR (?_ : R (_, _, _, _, _, _))
              refine hR (t_add ?_)
              refine hR (c_put hC85 rfl rfl fun w88 ff88 hC88 => ?_)
              have fr89 := wfM_st fr86 ff88 nX0
              have hC90 := (ff88.2 15 (by (try dsimp only); decide)).trans hC87
              replace hC88 : zix w88 14 = some (.inr (11, [.int (Int32.ofInt f0), .ref 15, .ref 16, .ref 17, .ref 18, .ref 19, .ref 20, .ref 21, .ref 22, .int (Int32.ofInt (rc2 + 1)), .int (Int32.ofInt f10), .int (Int32.ofInt rc), .int (Int32.ofInt f12), .int (Int32.ofInt f13), .long ((ww <<< ((Int32.ofInt 8).toInt64 &&& 63)) ||| ((Int32.ofInt v83).toInt64)), .int (Int32.ofInt f15), .int (Int32.ofInt f16), .int (Int32.ofInt f17), .ref 23, .ref 24, .int (Int32.ofInt f20), .int (Int32.ofInt f21), .int (Int32.ofInt f22), .int (Int32.ofInt f23), .ref 25, .ref 26, .int (Int32.ofInt f26), .ref 27, .int (Int32.ofInt f28), .ref 28, .ref 29, .int (Int32.ofInt f31), .int (Int32.ofInt f32), .int (Int32.ofInt f33), .ref 30, .ref 31, .ref 32, .ref 33, .int (Int32.ofInt f38), .ref 34, .ref 35, .int (Int32.ofInt f41), .ref 36, .ref 37, .int (Int32.ofInt f44), .ref 38, .ref 39, .ref 40, .ref 41, .ref 42, .ref 43, .ref 44])) := hC88
              refine hR (t_inc ?_)
              refine hR (?_ : R (_, _, _, _, _, _))
              exact ih74 _ _ _ _ fr89 hC88 hC90 (by omega) ((ltr_s (by omega) (by omega) (by omega)).trans hp0_74) (by omega) (by omega) (wv_sp (by omega) (by omega) hp0_74 (tRun_b (by omega) (by omega)).1 (by omega) hp3_74 (by omega) (by omega)) (by omega)
            iterate 2 refine hR (?_ : R (_, _, _, _, _, _))
            refine hR (t_c 8 (by decide) ?_)
            refine hR (j_le (by omega) (by omega) (fun hc70 => ?_) (fun hc70 => ?_))
            rotate_left
            · skip
              iterate 2 refine hR (?_ : R (_, _, _, _, _, _))
              refine hR (c_put hC14_74 rfl rfl fun w77 ff77 hC77 => ?_)
              have fr78 := wfM_st fr_74 ff77 nX0
              have hC79 := (ff77.2 15 (by (try dsimp only); decide)).trans hC15_74
              replace hC77 : zix w77 14 = some (.inr (11, [.int (Int32.ofInt f0), .ref 15, .ref 16, .ref 17, .ref 18, .ref 19, .ref 20, .ref 21, .ref 22, .int (Int32.ofInt rc2), .int (Int32.ofInt f10), .int (Int32.ofInt rc), .int (Int32.ofInt f12), .int (Int32.ofInt f13), .long (Int64.ofNat 0), .int (Int32.ofInt f15), .int (Int32.ofInt f16), .int (Int32.ofInt f17), .ref 23, .ref 24, .int (Int32.ofInt f20), .int (Int32.ofInt f21), .int (Int32.ofInt f22), .int (Int32.ofInt f23), .ref 25, .ref 26, .int (Int32.ofInt f26), .ref 27, .int (Int32.ofInt f28), .ref 28, .ref 29, .int (Int32.ofInt f31), .int (Int32.ofInt f32), .int (Int32.ofInt f33), .ref 30, .ref 31, .ref 32, .ref 33, .int (Int32.ofInt f38), .ref 34, .ref 35, .int (Int32.ofInt f41), .ref 36, .ref 37, .int (Int32.ofInt f44), .ref 38, .ref 39, .ref 40, .ref 41, .ref 42, .ref 43, .ref 44])) := hC77
              iterate 2 refine hR (?_ : R (_, _, _, _, _, _))
              refine hR (c_put hC77 rfl rfl fun w80 ff80 hC80 => ?_)
              have fr81 := wfM_st fr78 ff80 nX0
              have hC82 := (ff80.2 15 (by (try dsimp only); decide)).trans hC79
              replace hC80 : zix w80 14 = some (.inr (11, [.int (Int32.ofInt f0), .ref 15, .ref 16, .ref 17, .ref 18, .ref 19, .ref 20, .ref 21, .ref 22, .int (Int32.ofInt rc2), .int (Int32.ofInt f10), .int (Int32.ofInt rc), .int (Int32.ofInt 2), .int (Int32.ofInt f13), .long (Int64.ofNat 0), .int (Int32.ofInt f15), .int (Int32.ofInt f16), .int (Int32.ofInt f17), .ref 23, .ref 24, .int (Int32.ofInt f20), .int (Int32.ofInt f21), .int (Int32.ofInt f22), .int (Int32.ofInt f23), .ref 25, .ref 26, .int (Int32.ofInt f26), .ref 27, .int (Int32.ofInt f28), .ref 28, .ref 29, .int (Int32.ofInt f31), .int (Int32.ofInt f32), .int (Int32.ofInt f33), .ref 30, .ref 31, .ref 32, .ref 33, .int (Int32.ofInt f38), .ref 34, .ref 35, .int (Int32.ofInt f41), .ref 36, .ref 37, .int (Int32.ofInt f44), .ref 38, .ref 39, .ref 40, .ref 41, .ref 42, .ref 43, .ref 44])) := hC80
              refine hR (?_ : R (_, _, _, _, _, _))
              exact hR (zret_i rfl (Nat.le_refl _) rfl (h _ _ _ _ _ _ fr81 hC80 (tkr_of (adv_1 (((bl_e (g := g) (n := f10) (a := rc) (by omega) (by omega)).symm.trans hp0_0).symm) (by omega) (by omega) (((ltr_e (g := g) (n := f10) (a := rc2) (by omega) (by omega)).symm.trans hp0_74).symm)) rfl (fun _ => by rw [if_neg (by omega)]; rfl))))
            refine hR (?_ : R (_, _, _, _, _, _))
            refine hR (c_get hC14_74 rfl ?_)
            refine hR (c_put hC14_74 rfl rfl fun w71 ff71 hC71 => ?_)
            have fr72 := wfM_st fr_74 ff71 nX0
            have hC73 := (ff71.2 15 (by (try dsimp only); decide)).trans hC15_74
            replace hC71 : zix w71 14 = some (.inr (11, [.int (Int32.ofInt f0), .ref 15, .ref 16, .ref 17, .ref 18, .ref 19, .ref 20, .ref 21, .ref 22, .int (Int32.ofInt rc2), .int (Int32.ofInt f10), .int (Int32.ofInt rc), .int (Int32.ofInt f12), .int (Int32.ofInt f13), .long ww, .int (Int32.ofInt f15), .int (Int32.ofInt f16), .int (Int32.ofInt f17), .ref 23, .ref 24, .int (Int32.ofInt f20), .int (Int32.ofInt f21), .int (Int32.ofInt f22), .int (Int32.ofInt f23), .ref 25, .ref 26, .int (Int32.ofInt f26), .ref 27, .int (Int32.ofInt f28), .ref 28, .ref 29, .int (Int32.ofInt f31), .int (Int32.ofInt f32), .int (Int32.ofInt f33), .ref 30, .ref 31, .ref 32, .ref 33, .int (Int32.ofInt f38), .ref 34, .ref 35, .int (Int32.ofInt f41), .ref 36, .ref 37, .int (Int32.ofInt f44), .ref 38, .ref 39, .ref 40, .ref 41, .ref 42, .ref 43, .ref 44])) := hC71
            iterate 2 refine hR (?_ : R (_, _, _, _, _, _))
            refine hR (c_put hC71 rfl rfl fun w74 ff74 hC74 => ?_)
            have fr75 := wfM_st fr72 ff74 nX0
            have hC76 := (ff74.2 15 (by (try dsimp only); decide)).trans hC73
            replace hC74 : zix w74 14 = some (.inr (11, [.int (Int32.ofInt f0), .ref 15, .ref 16, .ref 17, .ref 18, .ref 19, .ref 20, .ref 21, .ref 22, .int (Int32.ofInt rc2), .int (Int32.ofInt f10), .int (Int32.ofInt rc), .int (Int32.ofInt 2), .int (Int32.ofInt f13), .long ww, .int (Int32.ofInt f15), .int (Int32.ofInt f16), .int (Int32.ofInt f17), .ref 23, .ref 24, .int (Int32.ofInt f20), .int (Int32.ofInt f21), .int (Int32.ofInt f22), .int (Int32.ofInt f23), .ref 25, .ref 26, .int (Int32.ofInt f26), .ref 27, .int (Int32.ofInt f28), .ref 28, .ref 29, .int (Int32.ofInt f31), .int (Int32.ofInt f32), .int (Int32.ofInt f33), .ref 30, .ref 31, .ref 32, .ref 33, .int (Int32.ofInt f38), .ref 34, .ref 35, .int (Int32.ofInt f41), .ref 36, .ref 37, .int (Int32.ofInt f44), .ref 38, .ref 39, .ref 40, .ref 41, .ref 42, .ref 43, .ref 44])) := hC74
            refine hR (?_ : R (_, _, _, _, _, _))
            exact hR (zret_i rfl (Nat.le_refl _) rfl (h _ _ _ _ _ _ fr75 hC74 (tkr_of (adv_1 (((bl_e (g := g) (n := f10) (a := rc) (by omega) (by omega)).symm.trans hp0_0).symm) (by omega) (by omega) (((ltr_e (g := g) (n := f10) (a := rc2) (by omega) (by omega)).symm.trans hp0_74).symm)) rfl (fun _ => by rw [if_pos (by omega), show (rc2 - rc).toNat = n2.toNat by omega]; exact hp3_74 (by omega)))))
        exact lp74 400000000 _ _ _ _ fr16 hC15 hC17 (by omega) rfl (by omega) (by omega) (fun _ => rfl) (by omega)
      refine hR (?_ : R (_, _, _, _, _, _))
      refine hR (t_c 48 (by decide) ?_)
      refine hR (t_c 57 (by decide) ?_)
      refine hR (zcall_i 0 0 (Nat.le_of_ble_eq_true rfl) (Nat.le_of_ble_eq_true rfl) (m_in _ v13 48 57 _ (by omega) (by omega) (by omega) _ fun v22 hp23 => ?_))
      refine (?_ : R (_, _, .int (Int32.ofInt v22) :: [], w15, 0, 0))
      refine hR (k_eq (by omega) (fun hc24 => ?_) (fun hc24 => ?_))
      · skip
        iterate 2 refine hR (?_ : R (_, _, _, _, _, _))
        refine hR (c_get hC15 rfl ?_)
        refine hR (?_ : R (_, _, _, _, _, _))
        refine hR (t_add ?_)
        refine hR (c_put hC15 rfl rfl fun w25 ff25 hC25 => ?_)
        have fr26 := wfM_st fr16 ff25 nX0
        have hC27 := (ff25.2 15 (by (try dsimp only); decide)).trans hC17
        replace hC25 : zix w25 14 = some (.inr (11, [.int (Int32.ofInt f0), .ref 15, .ref 16, .ref 17, .ref 18, .ref 19, .ref 20, .ref 21, .ref 22, .int (Int32.ofInt (rc + 1)), .int (Int32.ofInt f10), .int (Int32.ofInt rc), .int (Int32.ofInt f12), .int (Int32.ofInt f13), .long (Int64.ofNat 0), .int (Int32.ofInt f15), .int (Int32.ofInt f16), .int (Int32.ofInt f17), .ref 23, .ref 24, .int (Int32.ofInt f20), .int (Int32.ofInt f21), .int (Int32.ofInt f22), .int (Int32.ofInt f23), .ref 25, .ref 26, .int (Int32.ofInt f26), .ref 27, .int (Int32.ofInt f28), .ref 28, .ref 29, .int (Int32.ofInt f31), .int (Int32.ofInt f32), .int (Int32.ofInt f33), .ref 30, .ref 31, .ref 32, .ref 33, .int (Int32.ofInt f38), .ref 34, .ref 35, .int (Int32.ofInt f41), .ref 36, .ref 37, .int (Int32.ofInt f44), .ref 38, .ref 39, .ref 40, .ref 41, .ref 42, .ref 43, .ref 44])) := hC25
        iterate 2 refine hR (?_ : R (_, _, _, _, _, _))
        refine hR (t_c 59 (by decide) ?_)
        refine hR (j_ne (by omega) (by omega) (fun hc28 => ?_) (fun hc28 => ?_))
        · skip
          refine hR (?_ : R (_, _, _, _, _, _))
          refine hR (c_put hC25 rfl rfl fun w29 ff29 hC29 => ?_)
          have fr30 := wfM_st fr26 ff29 nX0
          have hC31 := (ff29.2 15 (by (try dsimp only); decide)).trans hC27
          replace hC29 : zix w29 14 = some (.inr (11, [.int (Int32.ofInt f0), .ref 15, .ref 16, .ref 17, .ref 18, .ref 19, .ref 20, .ref 21, .ref 22, .int (Int32.ofInt (rc + 1)), .int (Int32.ofInt f10), .int (Int32.ofInt rc), .int (Int32.ofInt 1), .int (Int32.ofInt f13), .long (Int64.ofNat 0), .int (Int32.ofInt f15), .int (Int32.ofInt f16), .int (Int32.ofInt f17), .ref 23, .ref 24, .int (Int32.ofInt f20), .int (Int32.ofInt f21), .int (Int32.ofInt f22), .int (Int32.ofInt f23), .ref 25, .ref 26, .int (Int32.ofInt f26), .ref 27, .int (Int32.ofInt f28), .ref 28, .ref 29, .int (Int32.ofInt f31), .int (Int32.ofInt f32), .int (Int32.ofInt f33), .ref 30, .ref 31, .ref 32, .ref 33, .int (Int32.ofInt f38), .ref 34, .ref 35, .int (Int32.ofInt f41), .ref 36, .ref 37, .int (Int32.ofInt f44), .ref 38, .ref 39, .ref 40, .ref 41, .ref 42, .ref 43, .ref 44])) := hC29
          exact hR (zret_i rfl (Nat.le_refl _) rfl (h _ _ _ _ _ _ fr30 hC29 (tkr_of (k := 4) (adv_3 (((bl_e (g := g) (n := f10) (a := rc) (by omega) (by omega)).symm.trans hp0_0).symm) (by omega) (by omega) (by omega) (by omega)) rfl (fun q => absurd q (by decide)))))
        iterate 2 refine hR (?_ : R (_, _, _, _, _, _))
        refine hR (c_put hC25 rfl rfl fun w32 ff32 hC32 => ?_)
        have fr33 := wfM_st fr26 ff32 nX0
        have hC34 := (ff32.2 15 (by (try dsimp only); decide)).trans hC27
        replace hC32 : zix w32 14 = some (.inr (11, [.int (Int32.ofInt f0), .ref 15, .ref 16, .ref 17, .ref 18, .ref 19, .ref 20, .ref 21, .ref 22, .int (Int32.ofInt (rc + 1)), .int (Int32.ofInt f10), .int (Int32.ofInt rc), .int (Int32.ofInt 4), .int (Int32.ofInt f13), .long (Int64.ofNat 0), .int (Int32.ofInt f15), .int (Int32.ofInt f16), .int (Int32.ofInt f17), .ref 23, .ref 24, .int (Int32.ofInt f20), .int (Int32.ofInt f21), .int (Int32.ofInt f22), .int (Int32.ofInt f23), .ref 25, .ref 26, .int (Int32.ofInt f26), .ref 27, .int (Int32.ofInt f28), .ref 28, .ref 29, .int (Int32.ofInt f31), .int (Int32.ofInt f32), .int (Int32.ofInt f33), .ref 30, .ref 31, .ref 32, .ref 33, .int (Int32.ofInt f38), .ref 34, .ref 35, .int (Int32.ofInt f41), .ref 36, .ref 37, .int (Int32.ofInt f44), .ref 38, .ref 39, .ref 40, .ref 41, .ref 42, .ref 43, .ref 44])) := hC32
        exact hR (zret_i rfl (Nat.le_refl _) rfl (h _ _ _ _ _ _ fr33 hC32 (tkr_of (k := 3) (adv_3 (((bl_e (g := g) (n := f10) (a := rc) (by omega) (by omega)).symm.trans hp0_0).symm) (by omega) (by omega) (by omega) (by omega)) rfl (fun q => absurd q (by decide)))))
      iterate 2 refine hR (?_ : R (_, _, _, _, _, _))
      refine hR (c_put hC15 rfl rfl fun w35 ff35 hC35 => ?_)
      have fr36 := wfM_st fr16 ff35 nX0
      have hC37 := (ff35.2 15 (by (try dsimp only); decide)).trans hC17
      replace hC35 : zix w35 14 = some (.inr (11, [.int (Int32.ofInt f0), .ref 15, .ref 16, .ref 17, .ref 18, .ref 19, .ref 20, .ref 21, .ref 22, .int (Int32.ofInt rc), .int (Int32.ofInt f10), .int (Int32.ofInt rc), .int (Int32.ofInt f12), .int (Int32.ofInt 0), .long (Int64.ofNat 0), .int (Int32.ofInt f15), .int (Int32.ofInt f16), .int (Int32.ofInt f17), .ref 23, .ref 24, .int (Int32.ofInt f20), .int (Int32.ofInt f21), .int (Int32.ofInt f22), .int (Int32.ofInt f23), .ref 25, .ref 26, .int (Int32.ofInt f26), .ref 27, .int (Int32.ofInt f28), .ref 28, .ref 29, .int (Int32.ofInt f31), .int (Int32.ofInt f32), .int (Int32.ofInt f33), .ref 30, .ref 31, .ref 32, .ref 33, .int (Int32.ofInt f38), .ref 34, .ref 35, .int (Int32.ofInt f41), .ref 36, .ref 37, .int (Int32.ofInt f44), .ref 38, .ref 39, .ref 40, .ref 41, .ref 42, .ref 43, .ref 44])) := hC35
      have lp163 : ∀ (N : Nat) (n3 : Int) (rc3 vd : Int) (w_163 : zW), (wfM (fun j => j ≠ 14) w w_163) → (zix w_163 14 = some (.inr (11, [.int (Int32.ofInt f0), .ref 15, .ref 16, .ref 17, .ref 18, .ref 19, .ref 20, .ref 21, .ref 22, .int (Int32.ofInt rc3), .int (Int32.ofInt f10), .int (Int32.ofInt rc), .int (Int32.ofInt f12), .int (Int32.ofInt vd), .long (Int64.ofNat 0), .int (Int32.ofInt f15), .int (Int32.ofInt f16), .int (Int32.ofInt f17), .ref 23, .ref 24, .int (Int32.ofInt f20), .int (Int32.ofInt f21), .int (Int32.ofInt f22), .int (Int32.ofInt f23), .ref 25, .ref 26, .int (Int32.ofInt f26), .ref 27, .int (Int32.ofInt f28), .ref 28, .ref 29, .int (Int32.ofInt f31), .int (Int32.ofInt f32), .int (Int32.ofInt f33), .ref 30, .ref 31, .ref 32, .ref 33, .int (Int32.ofInt f38), .ref 34, .ref 35, .int (Int32.ofInt f41), .ref 36, .ref 37, .int (Int32.ofInt f44), .ref 38, .ref 39, .ref 40, .ref 41, .ref 42, .ref 43, .ref 44]))) → (zix w_163 15 = some (.inl (0, 2400, .inl g15))) → (0 ≤ n3 ∧ n3 ≤ 600) → (tRun cDg g f10 rc3 = tRun cDg g f10 rc) → (rc ≤ rc3 ∧ rc3 ≤ f10 ∧ n3 = rc3 - rc) → ((rc3 = rc ∧ vd = 0) ∨ (rc3 = rc + 1 ∧ vd = tBy g rc - 48 ∧ 0 ≤ vd ∧ vd ≤ 9) ∨ (rc + 2 ≤ rc3 ∧ vd = (tBy g rc - 48) * 10 + (tBy g (rc + 1) - 48) ∧ 0 ≤ vd ∧ vd ≤ 99)) → (601 - rc3 < N) → R (163, [some (.ref 14), some (.int (Int32.ofInt v13)), some (.int (Int32.ofInt n3))], [], w_163, 0, 0) := by
        intro N
        induction N with
        | zero => intros; omega
        | succ N ih163 =>
          intro n3 rc3 vd w_163 fr_163 hC14_163 hC15_163 hf0_163 hp0_163 hp1_163 hp2_163 hN163
          have hy1 : rc3 = rc → tBy g rc3 = tBy g rc := fun e => by rw [e]
          have hy2 : rc3 = rc + 1 → tBy g rc3 = tBy g (rc + 1) := fun e => by rw [e]
          refine hR (?_ : R (_, _, _, _, _, _))
          refine hR (c_obj hC14_163 (zcall_i 0 0 (Nat.le_of_ble_eq_true rfl) (Nat.le_of_ble_eq_true rfl) (x_see _ _ _ _ _ _ _ _ _ _ _ _ _ _ _ _ _ _ _ _ _ _ _ _ _ _ hC14_163 hC15_163 (by omega) hr1 _ fun v38 hp39 => ?_)))
          refine (?_ : R (_, _, .int (Int32.ofInt v38) :: [], w_163, 0, 0))
          refine hR (t_c 48 (by decide) ?_)
          refine hR (t_c 57 (by decide) ?_)
          refine hR (zcall_i 0 0 (Nat.le_of_ble_eq_true rfl) (Nat.le_of_ble_eq_true rfl) (m_in _ v38 48 57 _ (by omega) (by omega) (by omega) _ fun v40 hp41 => ?_))
          refine (?_ : R (_, _, .int (Int32.ofInt v40) :: [], w_163, 0, 0))
          refine hR (k_eq (by omega) (fun hc42 => ?_) (fun hc42 => ?_))
          · skip
            iterate 3 refine hR (?_ : R (_, _, _, _, _, _))
            refine hR (j_le (by omega) (by omega) (fun hc43 => ?_) (fun hc43 => ?_))
            · skip
              refine hR (?_ : R (_, _, _, _, _, _))
              refine hR (c_put hC14_163 rfl rfl fun w44 ff44 hC44 => ?_)
              have fr45 := wfM_st fr_163 ff44 nX0
              have hC46 := (ff44.2 15 (by (try dsimp only); decide)).trans hC15_163
              replace hC44 : zix w44 14 = some (.inr (11, [.int (Int32.ofInt f0), .ref 15, .ref 16, .ref 17, .ref 18, .ref 19, .ref 20, .ref 21, .ref 22, .int (Int32.ofInt rc3), .int (Int32.ofInt f10), .int (Int32.ofInt rc), .int (Int32.ofInt 3), .int (Int32.ofInt vd), .long (Int64.ofNat 0), .int (Int32.ofInt f15), .int (Int32.ofInt f16), .int (Int32.ofInt f17), .ref 23, .ref 24, .int (Int32.ofInt f20), .int (Int32.ofInt f21), .int (Int32.ofInt f22), .int (Int32.ofInt f23), .ref 25, .ref 26, .int (Int32.ofInt f26), .ref 27, .int (Int32.ofInt f28), .ref 28, .ref 29, .int (Int32.ofInt f31), .int (Int32.ofInt f32), .int (Int32.ofInt f33), .ref 30, .ref 31, .ref 32, .ref 33, .int (Int32.ofInt f38), .ref 34, .ref 35, .int (Int32.ofInt f41), .ref 36, .ref 37, .int (Int32.ofInt f44), .ref 38, .ref 39, .ref 40, .ref 41, .ref 42, .ref 43, .ref 44])) := hC44
              refine hR (?_ : R (_, _, _, _, _, _))
              exact hR (zret_i rfl (Nat.le_refl _) rfl (h _ _ _ _ _ _ fr45 hC44 (tkr_of (k := 2) (adv_2 (((bl_e (g := g) (n := f10) (a := rc) (by omega) (by omega)).symm.trans hp0_0).symm) (by omega) (by omega) (by omega) (((dg_e (g := g) (n := f10) (a := rc3) (by omega) (by omega)).symm.trans hp0_163).symm) (by omega) (by omega)) rfl (fun q => absurd q (by decide)))))
            iterate 2 refine hR (?_ : R (_, _, _, _, _, _))
            refine hR (c_put hC14_163 rfl rfl fun w47 ff47 hC47 => ?_)
            have fr48 := wfM_st fr_163 ff47 nX0
            have hC49 := (ff47.2 15 (by (try dsimp only); decide)).trans hC15_163
            replace hC47 : zix w47 14 = some (.inr (11, [.int (Int32.ofInt f0), .ref 15, .ref 16, .ref 17, .ref 18, .ref 19, .ref 20, .ref 21, .ref 22, .int (Int32.ofInt rc3), .int (Int32.ofInt f10), .int (Int32.ofInt rc), .int (Int32.ofInt 1), .int (Int32.ofInt vd), .long (Int64.ofNat 0), .int (Int32.ofInt f15), .int (Int32.ofInt f16), .int (Int32.ofInt f17), .ref 23, .ref 24, .int (Int32.ofInt f20), .int (Int32.ofInt f21), .int (Int32.ofInt f22), .int (Int32.ofInt f23), .ref 25, .ref 26, .int (Int32.ofInt f26), .ref 27, .int (Int32.ofInt f28), .ref 28, .ref 29, .int (Int32.ofInt f31), .int (Int32.ofInt f32), .int (Int32.ofInt f33), .ref 30, .ref 31, .ref 32, .ref 33, .int (Int32.ofInt f38), .ref 34, .ref 35, .int (Int32.ofInt f41), .ref 36, .ref 37, .int (Int32.ofInt f44), .ref 38, .ref 39, .ref 40, .ref 41, .ref 42, .ref 43, .ref 44])) := hC47
            refine hR (?_ : R (_, _, _, _, _, _))
            exact hR (zret_i rfl (Nat.le_refl _) rfl (h _ _ _ _ _ _ fr48 hC47 (tkr_of (k := 4) (adv_2 (((bl_e (g := g) (n := f10) (a := rc) (by omega) (by omega)).symm.trans hp0_0).symm) (by omega) (by omega) (by omega) (((dg_e (g := g) (n := f10) (a := rc3) (by omega) (by omega)).symm.trans hp0_163).symm) (by omega) (by omega)) rfl (fun q => absurd q (by decide)))))
          iterate 3 refine hR (?_ : R (_, _, _, _, _, _))
          refine hR (j_ge (by omega) (by omega) (fun hc50 => ?_) (fun hc50 => ?_))
          · skip
            refine hR (?_ : R (_, _, _, _, _, _))
            refine hR (c_get hC14_163 rfl ?_)
            refine hR (c_put hC14_163 rfl rfl fun w51 ff51 hC51 => ?_)
            have fr52 := wfM_st fr_163 ff51 nX0
            have hC53 := (ff51.2 15 (by (try dsimp only); decide)).trans hC15_163
            replace hC51 : zix w51 14 = some (.inr (11, [.int (Int32.ofInt f0), .ref 15, .ref 16, .ref 17, .ref 18, .ref 19, .ref 20, .ref 21, .ref 22, .int (Int32.ofInt rc3), .int (Int32.ofInt f10), .int (Int32.ofInt rc), .int (Int32.ofInt f12), .int (Int32.ofInt vd), .long (Int64.ofNat 0), .int (Int32.ofInt f15), .int (Int32.ofInt f16), .int (Int32.ofInt f17), .ref 23, .ref 24, .int (Int32.ofInt f20), .int (Int32.ofInt f21), .int (Int32.ofInt f22), .int (Int32.ofInt f23), .ref 25, .ref 26, .int (Int32.ofInt f26), .ref 27, .int (Int32.ofInt f28), .ref 28, .ref 29, .int (Int32.ofInt f31), .int (Int32.ofInt f32), .int (Int32.ofInt f33), .ref 30, .ref 31, .ref 32, .ref 33, .int (Int32.ofInt f38), .ref 34, .ref 35, .int (Int32.ofInt f41), .ref 36, .ref 37, .int (Int32.ofInt f44), .ref 38, .ref 39, .ref 40, .ref 41, .ref 42, .ref 43, .ref 44])) := hC51
            iterate 2 refine hR (?_ : R (_, _, _, _, _, _))
            refine hR (c_get hC51 rfl ?_)
            refine hR (?_ : R (_, _, _, _, _, _))
            refine hR (t_add ?_)
            refine hR (c_put hC51 rfl rfl fun w54 ff54 hC54 => ?_)
            have fr55 := wfM_st fr52 ff54 nX0
            have hC56 := (ff54.2 15 (by (try dsimp only); decide)).trans hC53
            replace hC54 : zix w54 14 = some (.inr (11, [.int (Int32.ofInt f0), .ref 15, .ref 16, .ref 17, .ref 18, .ref 19, .ref 20, .ref 21, .ref 22, .int (Int32.ofInt (rc3 + 1)), .int (Int32.ofInt f10), .int (Int32.ofInt rc), .int (Int32.ofInt f12), .int (Int32.ofInt vd), .long (Int64.ofNat 0), .int (Int32.ofInt f15), .int (Int32.ofInt f16), .int (Int32.ofInt f17), .ref 23, .ref 24, .int (Int32.ofInt f20), .int (Int32.ofInt f21), .int (Int32.ofInt f22), .int (Int32.ofInt f23), .ref 25, .ref 26, .int (Int32.ofInt f26), .ref 27, .int (Int32.ofInt f28), .ref 28, .ref 29, .int (Int32.ofInt f31), .int (Int32.ofInt f32), .int (Int32.ofInt f33), .ref 30, .ref 31, .ref 32, .ref 33, .int (Int32.ofInt f38), .ref 34, .ref 35, .int (Int32.ofInt f41), .ref 36, .ref 37, .int (Int32.ofInt f44), .ref 38, .ref 39, .ref 40, .ref 41, .ref 42, .ref 43, .ref 44])) := hC54
            refine hR (t_inc ?_)
            refine hR (?_ : R (_, _, _, _, _, _))
            exact ih163 _ _ _ _ fr55 hC54 hC56 (by omega) ((dg_s (by omega) (by omega) (by omega)).trans hp0_163) (by omega) (by omega) (by omega)
          refine hR (t_c 10 (by decide) ?_)
          refine hR (?_ : R (_, _, _, _, _, _))
          refine hR (c_get hC14_163 rfl ?_)
          refine hR (t_mul ?_)
          refine hR (?_ : R (_, _, _, _, _, _))
          refine hR (c_obj hC14_163 (zcall_i 0 0 (Nat.le_of_ble_eq_true rfl) (Nat.le_of_ble_eq_true rfl) (x_see _ _ _ _ _ _ _ _ _ _ _ _ _ _ _ _ _ _ _ _ _ _ _ _ _ _ hC14_163 hC15_163 (by omega) hr1 _ fun v57 hp58 => ?_)))
          refine (?_ : R (_, _, .int (Int32.ofInt v57) :: .int (Int32.ofInt (10 * vd)) :: .ref 14 :: [], w_163, 0, 0))
          refine hR (t_add ?_)
          refine hR (t_c 48 (by decide) ?_)
          refine hR (t_sub ?_)
          refine hR (?_ : R (_, _, _, _, _, _))
          refine hR (c_put hC14_163 rfl rfl fun w59 ff59 hC59 => ?_)
          have fr60 := wfM_st fr_163 ff59 nX0
          have hC61 := (ff59.2 15 (by (try dsimp only); decide)).trans hC15_163
          replace hC59 : zix w59 14 = some (.inr (11, [.int (Int32.ofInt f0), .ref 15, .ref 16, .ref 17, .ref 18, .ref 19, .ref 20, .ref 21, .ref 22, .int (Int32.ofInt rc3), .int (Int32.ofInt f10), .int (Int32.ofInt rc), .int (Int32.ofInt f12), .int (Int32.ofInt (((10 * vd) + v57) - 48)), .long (Int64.ofNat 0), .int (Int32.ofInt f15), .int (Int32.ofInt f16), .int (Int32.ofInt f17), .ref 23, .ref 24, .int (Int32.ofInt f20), .int (Int32.ofInt f21), .int (Int32.ofInt f22), .int (Int32.ofInt f23), .ref 25, .ref 26, .int (Int32.ofInt f26), .ref 27, .int (Int32.ofInt f28), .ref 28, .ref 29, .int (Int32.ofInt f31), .int (Int32.ofInt f32), .int (Int32.ofInt f33), .ref 30, .ref 31, .ref 32, .ref 33, .int (Int32.ofInt f38), .ref 34, .ref 35, .int (Int32.ofInt f41), .ref 36, .ref 37, .int (Int32.ofInt f44), .ref 38, .ref 39, .ref 40, .ref 41, .ref 42, .ref 43, .ref 44])) := hC59
          iterate 2 refine hR (?_ : R (_, _, _, _, _, _))
          refine hR (c_get hC59 rfl ?_)
          refine hR (?_ : R (_, _, _, _, _, _))
          refine hR (t_add ?_)
          refine hR (c_put hC59 rfl rfl fun w62 ff62 hC62 => ?_)
          have fr63 := wfM_st fr60 ff62 nX0
          have hC64 := (ff62.2 15 (by (try dsimp only); decide)).trans hC61
          replace hC62 : zix w62 14 = some (.inr (11, [.int (Int32.ofInt f0), .ref 15, .ref 16, .ref 17, .ref 18, .ref 19, .ref 20, .ref 21, .ref 22, .int (Int32.ofInt (rc3 + 1)), .int (Int32.ofInt f10), .int (Int32.ofInt rc), .int (Int32.ofInt f12), .int (Int32.ofInt (((10 * vd) + v57) - 48)), .long (Int64.ofNat 0), .int (Int32.ofInt f15), .int (Int32.ofInt f16), .int (Int32.ofInt f17), .ref 23, .ref 24, .int (Int32.ofInt f20), .int (Int32.ofInt f21), .int (Int32.ofInt f22), .int (Int32.ofInt f23), .ref 25, .ref 26, .int (Int32.ofInt f26), .ref 27, .int (Int32.ofInt f28), .ref 28, .ref 29, .int (Int32.ofInt f31), .int (Int32.ofInt f32), .int (Int32.ofInt f33), .ref 30, .ref 31, .ref 32, .ref 33, .int (Int32.ofInt f38), .ref 34, .ref 35, .int (Int32.ofInt f41), .ref 36, .ref 37, .int (Int32.ofInt f44), .ref 38, .ref 39, .ref 40, .ref 41, .ref 42, .ref 43, .ref 44])) := hC62
          refine hR (t_inc ?_)
          refine hR (?_ : R (_, _, _, _, _, _))
          exact ih163 _ _ _ _ fr63 hC62 hC64 (by omega) ((dg_s (by omega) (by omega) (by omega)).trans hp0_163) (by omega) (by omega) (by omega)
      exact lp163 400000000 _ _ _ _ fr36 hC35 hC37 (by omega) rfl (by omega) (by omega) (by omega)
  exact lp0 400000000 _ _ fr0 hK0 hK1 rfl (by omega) (by omega)
theorem x_fails (w : zW) (d : Nat) (f0 f9 f10 f11 f12 f13 f15 f16 f17 f20 f21 f22 f23 f26 f28 f31 f32 f33 f38 f41 f44 : Int) (x14 : Int64) (hK0 : zix w 14 = some (.inr (11, [.int (Int32.ofInt f0), .ref 15, .ref 16, .ref 17, .ref 18, .ref 19, .ref 20, .ref 21, .ref 22, .int (Int32.ofInt f9), .int (Int32.ofInt f10), .int (Int32.ofInt f11), .int (Int32.ofInt f12), .int (Int32.ofInt f13), .long x14, .int (Int32.ofInt f15), .int (Int32.ofInt f16), .int (Int32.ofInt f17), .ref 23, .ref 24, .int (Int32.ofInt f20), .int (Int32.ofInt f21), .int (Int32.ofInt f22), .int (Int32.ofInt f23), .ref 25, .ref 26, .int (Int32.ofInt f26), .ref 27, .int (Int32.ofInt f28), .ref 28, .ref 29, .int (Int32.ofInt f31), .int (Int32.ofInt f32), .int (Int32.ofInt f33), .ref 30, .ref 31, .ref 32, .ref 33, .int (Int32.ofInt f38), .ref 34, .ref 35, .int (Int32.ofInt f41), .ref 36, .ref 37, .int (Int32.ofInt f44), .ref 38, .ref 39, .ref 40, .ref 41, .ref 42, .ref 43, .ref 44]))) (Q : zQ) (h : ∀ (v : Int) (w' : zW), wfM (fun j => j ≠ 14) w w' → zix w' 14 = some (.inr (11, [.int (Int32.ofInt f0), .ref 15, .ref 16, .ref 17, .ref 18, .ref 19, .ref 20, .ref 21, .ref 22, .int (Int32.ofInt f9), .int (Int32.ofInt f10), .int (Int32.ofInt f11), .int (Int32.ofInt f12), .int (Int32.ofInt f13), .long x14, .int (Int32.ofInt f11), .int (Int32.ofInt f16), .int (Int32.ofInt f17), .ref 23, .ref 24, .int (Int32.ofInt f20), .int (Int32.ofInt f21), .int (Int32.ofInt f22), .int (Int32.ofInt f23), .ref 25, .ref 26, .int (Int32.ofInt f26), .ref 27, .int (Int32.ofInt f28), .ref 28, .ref 29, .int (Int32.ofInt f31), .int (Int32.ofInt f32), .int (Int32.ofInt f33), .ref 30, .ref 31, .ref 32, .ref 33, .int (Int32.ofInt f38), .ref 34, .ref 35, .int (Int32.ofInt f41), .ref 36, .ref 37, .int (Int32.ofInt f44), .ref 38, .ref 39, .ref 40, .ref 41, .ref 42, .ref 43, .ref 44])) → (v = 0) → Q (some (.int (Int32.ofInt v))) w') : zCl zTab (d + 1) iX12_fails [.ref 14] w 0 0 Q := by
  refine zCl_i (M := kX12_fails) rfl (Nat.le_of_ble_eq_true rfl) fun R hR => ?_
  have fr0 : wfM (fun j => j ≠ 14) w w := wfM_rf _ w
  have nX0 : FX (∀ j : Nat, (j ≠ 14) → j ≠ 14) := fun j hj => by omega
  iterate 2 refine hR (?_ : R (_, _, _, _, _, _))
  refine hR (c_get hK0 rfl ?_)
  refine hR (c_put hK0 rfl rfl fun w1 ff1 hC1 => ?_)
  have fr2 := wfM_st fr0 ff1 nX0
  replace hC1 : zix w1 14 = some (.inr (11, [.int (Int32.ofInt f0), .ref 15, .ref 16, .ref 17, .ref 18, .ref 19, .ref 20, .ref 21, .ref 22, .int (Int32.ofInt f9), .int (Int32.ofInt f10), .int (Int32.ofInt f11), .int (Int32.ofInt f12), .int (Int32.ofInt f13), .long x14, .int (Int32.ofInt f11), .int (Int32.ofInt f16), .int (Int32.ofInt f17), .ref 23, .ref 24, .int (Int32.ofInt f20), .int (Int32.ofInt f21), .int (Int32.ofInt f22), .int (Int32.ofInt f23), .ref 25, .ref 26, .int (Int32.ofInt f26), .ref 27, .int (Int32.ofInt f28), .ref 28, .ref 29, .int (Int32.ofInt f31), .int (Int32.ofInt f32), .int (Int32.ofInt f33), .ref 30, .ref 31, .ref 32, .ref 33, .int (Int32.ofInt f38), .ref 34, .ref 35, .int (Int32.ofInt f41), .ref 36, .ref 37, .int (Int32.ofInt f44), .ref 38, .ref 39, .ref 40, .ref 41, .ref 42, .ref 43, .ref 44])) := hC1
  refine hR (?_ : R (_, _, _, _, _, _))
  exact hR (zret_i rfl (Nat.le_refl _) (zbo (by omega)) (h _ _ fr2 hC1 (by omega)))
theorem x_later (w : zW) (d : Nat) (a1 a2 : Int) (f0 f9 f10 f11 f12 f13 f15 f16 f17 f20 f21 f22 f23 f26 f28 f31 f32 f33 f38 f41 f44 : Int) (x14 : Int64) (hK0 : zix w 14 = some (.inr (11, [.int (Int32.ofInt f0), .ref 15, .ref 16, .ref 17, .ref 18, .ref 19, .ref 20, .ref 21, .ref 22, .int (Int32.ofInt f9), .int (Int32.ofInt f10), .int (Int32.ofInt f11), .int (Int32.ofInt f12), .int (Int32.ofInt f13), .long x14, .int (Int32.ofInt f15), .int (Int32.ofInt f16), .int (Int32.ofInt f17), .ref 23, .ref 24, .int (Int32.ofInt f20), .int (Int32.ofInt f21), .int (Int32.ofInt f22), .int (Int32.ofInt f23), .ref 25, .ref 26, .int (Int32.ofInt f26), .ref 27, .int (Int32.ofInt f28), .ref 28, .ref 29, .int (Int32.ofInt f31), .int (Int32.ofInt f32), .int (Int32.ofInt f33), .ref 30, .ref 31, .ref 32, .ref 33, .int (Int32.ofInt f38), .ref 34, .ref 35, .int (Int32.ofInt f41), .ref 36, .ref 37, .int (Int32.ofInt f44), .ref 38, .ref 39, .ref 40, .ref 41, .ref 42, .ref 43, .ref 44]))) (hr0 : (-2147483648 ≤ f16 ∧ f16 ≤ 2147483647) ∧ (-2147483648 ≤ f17 ∧ f17 ≤ 2147483647) ∧ (-2147483648 ≤ a1 ∧ a1 ≤ 2147483647) ∧ (-2147483648 ≤ a2 ∧ a2 ≤ 2147483647)) (Q : zQ) (h : ∀ (f' c' : Int) (w' : zW), wfM (fun j => j ≠ 14) w w' → zix w' 14 = some (.inr (11, [.int (Int32.ofInt f0), .ref 15, .ref 16, .ref 17, .ref 18, .ref 19, .ref 20, .ref 21, .ref 22, .int (Int32.ofInt f9), .int (Int32.ofInt f10), .int (Int32.ofInt f11), .int (Int32.ofInt f12), .int (Int32.ofInt f13), .long x14, .int (Int32.ofInt f15), .int (Int32.ofInt f'), .int (Int32.ofInt c'), .ref 23, .ref 24, .int (Int32.ofInt f20), .int (Int32.ofInt f21), .int (Int32.ofInt f22), .int (Int32.ofInt f23), .ref 25, .ref 26, .int (Int32.ofInt f26), .ref 27, .int (Int32.ofInt f28), .ref 28, .ref 29, .int (Int32.ofInt f31), .int (Int32.ofInt f32), .int (Int32.ofInt f33), .ref 30, .ref 31, .ref 32, .ref 33, .int (Int32.ofInt f38), .ref 34, .ref 35, .int (Int32.ofInt f41), .ref 36, .ref 37, .int (Int32.ofInt f44), .ref 38, .ref 39, .ref 40, .ref 41, .ref 42, .ref 43, .ref 44])) → (f' = fW f16 f17 a1 a2 ∧ c' = fC f16 f17 a1 a2) → Q (none) w') : zCl zTab (d + 1) iX12_later [.ref 14, .int (Int32.ofInt a1), .int (Int32.ofInt a2)] w 0 0 Q := by
  refine zCl_i (M := kX12_later) rfl (Nat.le_of_ble_eq_true rfl) fun R hR => ?_
  have fr0 : wfM (fun j => j ≠ 14) w w := wfM_rf _ w
  have nX0 : FX (∀ j : Nat, (j ≠ 14) → j ≠ 14) := fun j hj => by omega
  refine hR (?_ : R (_, _, _, _, _, _))
  refine hR (c_get hK0 rfl ?_)
  refine hR (k_eq (by omega) (fun hc1 => ?_) (fun hc1 => ?_))
  · skip
    iterate 2 refine hR (?_ : R (_, _, _, _, _, _))
    refine hR (c_put hK0 rfl rfl fun w2 ff2 hC2 => ?_)
    have fr3 := wfM_st fr0 ff2 nX0
    replace hC2 : zix w2 14 = some (.inr (11, [.int (Int32.ofInt f0), .ref 15, .ref 16, .ref 17, .ref 18, .ref 19, .ref 20, .ref 21, .ref 22, .int (Int32.ofInt f9), .int (Int32.ofInt f10), .int (Int32.ofInt f11), .int (Int32.ofInt f12), .int (Int32.ofInt f13), .long x14, .int (Int32.ofInt f15), .int (Int32.ofInt a1), .int (Int32.ofInt f17), .ref 23, .ref 24, .int (Int32.ofInt f20), .int (Int32.ofInt f21), .int (Int32.ofInt f22), .int (Int32.ofInt f23), .ref 25, .ref 26, .int (Int32.ofInt f26), .ref 27, .int (Int32.ofInt f28), .ref 28, .ref 29, .int (Int32.ofInt f31), .int (Int32.ofInt f32), .int (Int32.ofInt f33), .ref 30, .ref 31, .ref 32, .ref 33, .int (Int32.ofInt f38), .ref 34, .ref 35, .int (Int32.ofInt f41), .ref 36, .ref 37, .int (Int32.ofInt f44), .ref 38, .ref 39, .ref 40, .ref 41, .ref 42, .ref 43, .ref 44])) := hC2
    iterate 2 refine hR (?_ : R (_, _, _, _, _, _))
    refine hR (c_put hC2 rfl rfl fun w4 ff4 hC4 => ?_)
    have fr5 := wfM_st fr3 ff4 nX0
    replace hC4 : zix w4 14 = some (.inr (11, [.int (Int32.ofInt f0), .ref 15, .ref 16, .ref 17, .ref 18, .ref 19, .ref 20, .ref 21, .ref 22, .int (Int32.ofInt f9), .int (Int32.ofInt f10), .int (Int32.ofInt f11), .int (Int32.ofInt f12), .int (Int32.ofInt f13), .long x14, .int (Int32.ofInt f15), .int (Int32.ofInt a1), .int (Int32.ofInt a2), .ref 23, .ref 24, .int (Int32.ofInt f20), .int (Int32.ofInt f21), .int (Int32.ofInt f22), .int (Int32.ofInt f23), .ref 25, .ref 26, .int (Int32.ofInt f26), .ref 27, .int (Int32.ofInt f28), .ref 28, .ref 29, .int (Int32.ofInt f31), .int (Int32.ofInt f32), .int (Int32.ofInt f33), .ref 30, .ref 31, .ref 32, .ref 33, .int (Int32.ofInt f38), .ref 34, .ref 35, .int (Int32.ofInt f41), .ref 36, .ref 37, .int (Int32.ofInt f44), .ref 38, .ref 39, .ref 40, .ref 41, .ref 42, .ref 43, .ref 44])) := hC4
    exact hR (zret_i rfl (Nat.le_refl _) rfl (h _ _ _ fr5 hC4 ⟨(fW_y (by omega)).1.symm, (fW_y (by omega)).2.symm⟩))
  iterate 2 refine hR (?_ : R (_, _, _, _, _, _))
  refine hR (c_get hK0 rfl ?_)
  refine hR (j_lt (by omega) (by omega) (fun hc6 => ?_) (fun hc6 => ?_))
  · skip
    iterate 2 refine hR (?_ : R (_, _, _, _, _, _))
    refine hR (c_put hK0 rfl rfl fun w7 ff7 hC7 => ?_)
    have fr8 := wfM_st fr0 ff7 nX0
    replace hC7 : zix w7 14 = some (.inr (11, [.int (Int32.ofInt f0), .ref 15, .ref 16, .ref 17, .ref 18, .ref 19, .ref 20, .ref 21, .ref 22, .int (Int32.ofInt f9), .int (Int32.ofInt f10), .int (Int32.ofInt f11), .int (Int32.ofInt f12), .int (Int32.ofInt f13), .long x14, .int (Int32.ofInt f15), .int (Int32.ofInt a1), .int (Int32.ofInt f17), .ref 23, .ref 24, .int (Int32.ofInt f20), .int (Int32.ofInt f21), .int (Int32.ofInt f22), .int (Int32.ofInt f23), .ref 25, .ref 26, .int (Int32.ofInt f26), .ref 27, .int (Int32.ofInt f28), .ref 28, .ref 29, .int (Int32.ofInt f31), .int (Int32.ofInt f32), .int (Int32.ofInt f33), .ref 30, .ref 31, .ref 32, .ref 33, .int (Int32.ofInt f38), .ref 34, .ref 35, .int (Int32.ofInt f41), .ref 36, .ref 37, .int (Int32.ofInt f44), .ref 38, .ref 39, .ref 40, .ref 41, .ref 42, .ref 43, .ref 44])) := hC7
    iterate 2 refine hR (?_ : R (_, _, _, _, _, _))
    refine hR (c_put hC7 rfl rfl fun w9 ff9 hC9 => ?_)
    have fr10 := wfM_st fr8 ff9 nX0
    replace hC9 : zix w9 14 = some (.inr (11, [.int (Int32.ofInt f0), .ref 15, .ref 16, .ref 17, .ref 18, .ref 19, .ref 20, .ref 21, .ref 22, .int (Int32.ofInt f9), .int (Int32.ofInt f10), .int (Int32.ofInt f11), .int (Int32.ofInt f12), .int (Int32.ofInt f13), .long x14, .int (Int32.ofInt f15), .int (Int32.ofInt a1), .int (Int32.ofInt a2), .ref 23, .ref 24, .int (Int32.ofInt f20), .int (Int32.ofInt f21), .int (Int32.ofInt f22), .int (Int32.ofInt f23), .ref 25, .ref 26, .int (Int32.ofInt f26), .ref 27, .int (Int32.ofInt f28), .ref 28, .ref 29, .int (Int32.ofInt f31), .int (Int32.ofInt f32), .int (Int32.ofInt f33), .ref 30, .ref 31, .ref 32, .ref 33, .int (Int32.ofInt f38), .ref 34, .ref 35, .int (Int32.ofInt f41), .ref 36, .ref 37, .int (Int32.ofInt f44), .ref 38, .ref 39, .ref 40, .ref 41, .ref 42, .ref 43, .ref 44])) := hC9
    exact hR (zret_i rfl (Nat.le_refl _) rfl (h _ _ _ fr10 hC9 ⟨(fW_y (by omega)).1.symm, (fW_y (by omega)).2.symm⟩))
  iterate 2 refine hR (?_ : R (_, _, _, _, _, _))
  refine hR (c_get hK0 rfl ?_)
  refine hR (j_ne (by omega) (by omega) (fun hc11 => ?_) (fun hc11 => ?_))
  · skip
    exact hR (zret_i rfl (Nat.le_refl _) rfl (h _ _ _ fr0 hK0 ⟨(fW_n (by omega)).1.symm, (fW_n (by omega)).2.symm⟩))
  iterate 2 refine hR (?_ : R (_, _, _, _, _, _))
  refine hR (c_get hK0 rfl ?_)
  refine hR (j_ge (by omega) (by omega) (fun hc12 => ?_) (fun hc12 => ?_))
  · skip
    exact hR (zret_i rfl (Nat.le_refl _) rfl (h _ _ _ fr0 hK0 ⟨(fW_n (by omega)).1.symm, (fW_n (by omega)).2.symm⟩))
  iterate 2 refine hR (?_ : R (_, _, _, _, _, _))
  refine hR (c_put hK0 rfl rfl fun w13 ff13 hC13 => ?_)
  have fr14 := wfM_st fr0 ff13 nX0
  replace hC13 : zix w13 14 = some (.inr (11, [.int (Int32.ofInt f0), .ref 15, .ref 16, .ref 17, .ref 18, .ref 19, .ref 20, .ref 21, .ref 22, .int (Int32.ofInt f9), .int (Int32.ofInt f10), .int (Int32.ofInt f11), .int (Int32.ofInt f12), .int (Int32.ofInt f13), .long x14, .int (Int32.ofInt f15), .int (Int32.ofInt a1), .int (Int32.ofInt f17), .ref 23, .ref 24, .int (Int32.ofInt f20), .int (Int32.ofInt f21), .int (Int32.ofInt f22), .int (Int32.ofInt f23), .ref 25, .ref 26, .int (Int32.ofInt f26), .ref 27, .int (Int32.ofInt f28), .ref 28, .ref 29, .int (Int32.ofInt f31), .int (Int32.ofInt f32), .int (Int32.ofInt f33), .ref 30, .ref 31, .ref 32, .ref 33, .int (Int32.ofInt f38), .ref 34, .ref 35, .int (Int32.ofInt f41), .ref 36, .ref 37, .int (Int32.ofInt f44), .ref 38, .ref 39, .ref 40, .ref 41, .ref 42, .ref 43, .ref 44])) := hC13
  iterate 2 refine hR (?_ : R (_, _, _, _, _, _))
  refine hR (c_put hC13 rfl rfl fun w15 ff15 hC15 => ?_)
  have fr16 := wfM_st fr14 ff15 nX0
  replace hC15 : zix w15 14 = some (.inr (11, [.int (Int32.ofInt f0), .ref 15, .ref 16, .ref 17, .ref 18, .ref 19, .ref 20, .ref 21, .ref 22, .int (Int32.ofInt f9), .int (Int32.ofInt f10), .int (Int32.ofInt f11), .int (Int32.ofInt f12), .int (Int32.ofInt f13), .long x14, .int (Int32.ofInt f15), .int (Int32.ofInt a1), .int (Int32.ofInt a2), .ref 23, .ref 24, .int (Int32.ofInt f20), .int (Int32.ofInt f21), .int (Int32.ofInt f22), .int (Int32.ofInt f23), .ref 25, .ref 26, .int (Int32.ofInt f26), .ref 27, .int (Int32.ofInt f28), .ref 28, .ref 29, .int (Int32.ofInt f31), .int (Int32.ofInt f32), .int (Int32.ofInt f33), .ref 30, .ref 31, .ref 32, .ref 33, .int (Int32.ofInt f38), .ref 34, .ref 35, .int (Int32.ofInt f41), .ref 36, .ref 37, .int (Int32.ofInt f44), .ref 38, .ref 39, .ref 40, .ref 41, .ref 42, .ref 43, .ref 44])) := hC15
  exact hR (zret_i rfl (Nat.le_refl _) rfl (h _ _ _ fr16 hC15 ⟨(fW_y (by omega)).1.symm, (fW_y (by omega)).2.symm⟩))
