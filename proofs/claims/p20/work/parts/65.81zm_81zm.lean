/-! LEVELS: what a text is worth by what comes of it. -/
theorem fd_cg {how : Int} {c c' : Int → Int} : ∀ {k : Nat}, (∀ r : Int, 0 ≤ r → r < (k : Int) → c r = c' r) → fdN how c k = fdN how c' k
  | 0, _ => rfl
  | k + 1, h => by
    show fdS how (fdN how c k) (c (k : Int)) = fdS how (fdN how c' k) (c' (k : Int))
    rw [fd_cg (fun r r0 r1 => h r r0 (by omega)), h (k : Int) (by omega) (by omega)]
theorem fdv_cg {how R : Int} {c c' : Int → Int} (hR : 0 ≤ R) (h : ∀ r : Int, 0 ≤ r → r < R → c r = c' r) : fdV how c R = fdV how c' R := by
  unfold fdV
  rw [fd_cg (k := R.toNat) (fun r r0 r1 => h r r0 (by omega))]
theorem fd_b {how B : Int} {c : Int → Int} (hB : 0 ≤ B) : ∀ k : Nat, (∀ r : Int, 0 ≤ r → r < (k : Int) → c r = -1 ∨ (0 ≤ c r ∧ c r ≤ B)) → fdN how c k = -1 ∨ (0 ≤ fdN how c k ∧ fdN how c k ≤ B * (k : Int))
  | 0, _ => Or.inl rfl
  | k + 1, h => by
    have ih := fd_b hB k (fun r r0 r1 => h r r0 (by omega)) (how := how)
    have hk := h (k : Int) (by omega) (by omega)
    have p : 0 ≤ B * (k : Int) := Int.mul_nonneg hB (by omega)
    rw [show ((k + 1 : Nat) : Int) = (k : Int) + 1 by omega, Int.mul_add, Int.mul_one]
    show fdS how (fdN how c k) (c (k : Int)) = -1 ∨ (0 ≤ fdS how (fdN how c k) (c (k : Int)) ∧ fdS how (fdN how c k) (c (k : Int)) ≤ B * (k : Int) + B)
    generalize B * (k : Int) = x at ih p ⊢
    generalize fdN how c k = f at ih ⊢
    generalize c (k : Int) = v at hk ⊢
    unfold fdS
    (repeat' split) <;> omega
theorem fdv_b {how B R : Int} {c : Int → Int} (hB : 0 ≤ B) (hR : 0 ≤ R ∧ R ≤ 5) (h : ∀ r : Int, 0 ≤ r → r < R → c r = -1 ∨ (0 ≤ c r ∧ c r ≤ B)) : 0 ≤ fdV how c R ∧ fdV how c R ≤ 5 * B := by
  have h1 := fd_b (how := how) hB (c := c) R.toNat (fun r r0 r1 => h r r0 (by omega))
  have h2 : B * (R.toNat : Int) ≤ B * 5 := Int.mul_le_mul_of_nonneg_left (by omega) hB
  unfold fdV
  split <;> omega
/-- what a text is worth d levels before the last, which is level n -/
noncomputable def vlF (how : Int) (F : Int → Int → Int) (ok M : Int → Int → Bool) (R : Int) (D : Int → Int) (n : Int) : Nat → Int → Int
  | 0 => D
  | d + 1 => fun t => fdV how (fun r => if M (n - (d : Int) - 1) r = true ∧ ok (n - (d : Int)) (F r t) = true then vlF how F ok M R D n d (F r t) else -1) R
theorem vl_b {how R C n : Int} {F : Int → Int → Int} {ok M : Int → Int → Bool} {D : Int → Int} (hF : FOK F R) (hR : 0 ≤ R ∧ R ≤ 5) (hC : 0 ≤ C) (hD : ∀ t : Int, 0 ≤ t → t ≤ 5460 → 0 ≤ D t ∧ D t ≤ C) : ∀ d : Nat, 0 ≤ C * p5 d ∧ ∀ t : Int, 0 ≤ t → t ≤ 5460 → 0 ≤ vlF how F ok M R D n d t ∧ vlF how F ok M R D n d t ≤ C * p5 d
  | 0 => by
    rw [show C * p5 0 = C from Int.mul_one C]
    exact ⟨hC, hD⟩
  | d + 1 => by
    obtain ⟨ih0, ih⟩ := vl_b (how := how) (ok := ok) (M := M) (n := n) hF hR hC hD d
    have e : C * p5 (d + 1) = 5 * (C * p5 d) := by
      show C * (5 * p5 d) = _
      rw [← Int.mul_assoc, Int.mul_comm C 5, Int.mul_assoc]
    rw [e]
    refine ⟨by omega, fun t t0 t1 => ?_⟩
    refine fdv_b ih0 hR (fun r r0 r1 => ?_)
    (try dsimp only)
    split
    · have hm := hF r t r0 r1 t0 t1
      exact Or.inr (ih _ hm.1 hm.2)
    · exact Or.inl rfl
theorem p5_bd : ∀ k : Nat, k < 10 → 0 < p5 k ∧ p5 k ≤ 1953125 := by decide +kernel
theorem cp5_b {C : Int} {k : Nat} (hC : 0 ≤ C ∧ C ≤ 12) (hk : k < 10) : C * p5 k ≤ 23437500 := by
  have h := p5_bd k hk
  have := Int.mul_le_mul hC.2 h.2 (by omega) (by omega : (0 : Int) ≤ 12)
  omega
theorem wW_p {F : Int → Int → Int} {M : Int → Bool} {R t r : Int} {W : Int → Int} (hW : ∀ t : Int, 0 ≤ W t) (t0 : 0 ≤ t ∧ t ≤ 5460) (r0 : 0 ≤ r ∧ r < R) (hm : M r = true) : W t ≤ wW F M R W (F r t) := by
  have nn : ∀ u a : Int, 0 ≤ (if M a = true ∧ F a u = F r t then W u else 0) := fun u a => by
    split
    · exact hW u
    · exact Int.le_refl _
  have h1 := sm_1 (f := fun a => if M a = true ∧ F a t = F r t then W t else 0) (t := r) (k := R.toNat) (fun a _ _ => nn t a) r0.1 (by omega)
  have h2 := sm_1 (f := fun u => smF (fun a => if M a = true ∧ F a u = F r t then W u else 0) R.toNat) (t := t) (k := 5461) (fun u _ _ => sm_0 (fun a _ _ => nn u a)) t0.1 (by omega)
  (try dsimp only at h1 h2)
  rw [if_pos ⟨hm, rfl⟩] at h1
  exact Int.le_trans h1 h2
/-- the worths of the levels lv .. n stand -/
noncomputable def FBQ (V : Nat → Int → Int) (n : Int) (gS g3 g5 : Nat → Int32) (lv : Int) : Prop := ∀ L : Int, lv ≤ L → L ≤ n → ∀ i : Int, tBy gS L ≤ i → i < tBy gS (L + 1) → tBy g5 i = V (n - L).toNat (tBy g3 i)
section FBS
variable {how R b n i r lv : Int} {F : Int → Int → Int} {ok M : Int → Int → Bool} {D : Int → Int} {gS T3 T4 T6 g5 g6 : Nat → Int32}
theorem spq_l (h : SPQ F ok M R b n.toNat gS T3 T4 T6) (l0 : 0 ≤ lv) (l1 : lv ≤ n) : (0 ≤ tBy gS lv ∧ tBy gS lv ≤ tBy gS (lv + 1)) ∧ tBy gS (lv + 1) ≤ cmB (lv.toNat + 1) ∧ tBy gS (lv + 1) - tBy gS lv ≤ szB lv.toNat ∧ EN (fun j => tBy T3 j) (tBy gS lv) (tBy gS (lv + 1)) (fun t => 0 < Wl F ok M R b lv.toNat t) ∧ (∀ i : Int, tBy gS lv ≤ i → i < tBy gS (lv + 1) → tBy T4 i = Wl F ok M R b lv.toNat (tBy T3 i)) ∧ smN (fun j => tBy T4 j) (tBy gS lv) (tBy gS (lv + 1) - tBy gS lv).toNat ≤ p5 lv.toNat := by
  have := h.1 lv.toNat (by omega)
  rw [Int.toNat_of_nonneg l0] at this
  exact this
theorem cmB_9 : ∀ k : Nat, k < 10 → cmB (k + 1) ≤ 25750 := by decide +kernel
theorem spq_r (h : SPQ F ok M R b n.toNat gS T3 T4 T6) (hn : n ≤ 9) (l0 : 0 ≤ lv) (l1 : lv ≤ n) : (0 ≤ tBy gS lv ∧ tBy gS lv ≤ tBy gS (lv + 1)) ∧ tBy gS (lv + 1) ≤ 25750 := by
  have a := spq_l h l0 l1
  have c := cmB_9 lv.toNat (by omega)
  exact ⟨a.1, by omega⟩
/-- the levels come one behind another -/
theorem spq_o (h : SPQ F ok M R b n.toNat gS T3 T4 T6) (l0 : 0 ≤ lv) {L : Int} (h1 : lv < L) (h2 : L ≤ n) : tBy gS (lv + 1) ≤ tBy gS L := by
  have m := spq_m h lv.toNat (L - lv - 1).toNat (by omega)
  rw [Int.toNat_of_nonneg l0, show ((lv.toNat + (L - lv - 1).toNat : Nat) : Int) + 1 = L by omega] at m
  exact m
theorem spq_x (h : SPQ F ok M R b n.toNat gS T3 T4 T6) (l0 : 0 ≤ lv) (l1 : lv ≤ n) (i0 : tBy gS lv ≤ i) (i1 : i < tBy gS (lv + 1)) : (0 ≤ tBy T3 i ∧ tBy T3 i ≤ 5460) ∧ 0 < Wl F ok M R b lv.toNat (tBy T3 i) := (spq_l h l0 l1).2.2.2.1.2.1 i i0 i1
/-- what a reading makes of a text of a level, in the arrays -/
theorem fb_ch (hS : SPQ F ok M R b n.toNat gS T3 T4 T6) (hF : FOK F R) (hL : 0 ≤ lv ∧ lv < n) (hN : NDQ T3 g6 (tBy gS (lv + 1)) (tBy gS (lv + 1 + 1))) (i0 : tBy gS lv ≤ i) (i1 : i < tBy gS (lv + 1)) (r0 : 0 ≤ r) (r1 : r < R) (hm : M lv r = true) : (0 ≤ F r (tBy T3 i) ∧ F r (tBy T3 i) ≤ 5460) ∧ ((ok (lv + 1) (F r (tBy T3 i)) = true ∧ (tBy gS (lv + 1) ≤ tBy g6 (F r (tBy T3 i)) ∧ tBy g6 (F r (tBy T3 i)) < tBy gS (lv + 1 + 1)) ∧ tBy T3 (tBy g6 (F r (tBy T3 i))) = F r (tBy T3 i)) ∨ (ok (lv + 1) (F r (tBy T3 i)) = false ∧ tBy g6 (F r (tBy T3 i)) = -1)) := by
  obtain ⟨t0, hw⟩ := spq_x hS hL.1 (by omega) i0 i1
  have hu := hF r (tBy T3 i) r0 r1 t0.1 t0.2
  refine ⟨hu, ?_⟩
  have hWn := hS.2.1 lv.toNat (by omega)
  have hp := wW_p (F := F) (M := M lv) (R := R) (r := r) hWn t0 ⟨r0, r1⟩ hm
  have hl := spq_l hS (lv := lv + 1) (by omega) (by omega)
  rw [show (lv + 1).toNat = lv.toNat + 1 by omega] at hl
  have hW : ∀ u : Int, Wl F ok M R b (lv.toNat + 1) u = if ok (lv + 1) u = true then wW F (M lv) R (Wl F ok M R b lv.toNat) u else 0 := fun u => by
    show (if ok ((lv.toNat : Int) + 1) u = true then wW F (M (lv.toNat : Int)) R (Wl F ok M R b lv.toNat) u else 0) = _
    rw [Int.toNat_of_nonneg hL.1]
  generalize F r (tBy T3 i) = u at hu hp ⊢
  cases ho : ok (lv + 1) u with
  | true =>
    obtain ⟨j, hj, e⟩ := hl.2.2.2.1.2.2.2 u hu.1 hu.2 (by
      show 0 < Wl F ok M R b (lv.toNat + 1) u
      rw [hW, if_pos ho]
      exact Int.lt_of_lt_of_le hw hp)
    have e : tBy T3 j = u := e
    have h6 := hN.1 j hj.1 hj.2
    rw [e] at h6
    rw [h6]
    exact Or.inl ⟨rfl, hj, e⟩
  | false =>
    refine Or.inr ⟨rfl, ?_⟩
    rcases hN.2 u hu.1 hu.2 with z | ⟨z, e⟩
    · exact z
    · have hq := (hl.2.2.2.1.2.1 _ z.1 z.2).2
      have hq : 0 < Wl F ok M R b (lv.toNat + 1) (tBy T3 (tBy g6 u)) := hq
      rw [e, hW, if_neg (by rw [ho]; decide)] at hq
      omega
theorem vl_s {d : Int} (d0 : 0 ≤ lv) (d1 : lv < n) : vlF how F ok M R D n (n - lv).toNat d = fdV how (fun r => if M lv r = true ∧ ok (lv + 1) (F r d) = true then vlF how F ok M R D n (n - (lv + 1)).toNat (F r d) else -1) R := by
  rw [show (n - lv).toNat = (n - (lv + 1)).toNat + 1 by omega]
  show fdV how (fun r => if M (n - (((n - (lv + 1)).toNat : Nat) : Int) - 1) r = true ∧ ok (n - (((n - (lv + 1)).toNat : Nat) : Int)) (F r d) = true then vlF how F ok M R D n (n - (lv + 1)).toNat (F r d) else -1) R = _
  rw [show n - (((n - (lv + 1)).toNat : Nat) : Int) - 1 = lv by omega, show n - (((n - (lv + 1)).toNat : Nat) : Int) = lv + 1 by omega]
theorem fb_v (hS : SPQ F ok M R b n.toNat gS T3 T4 T6) (hF : FOK F R) (hR : 0 ≤ R) (hL : 0 ≤ lv ∧ lv < n) (hN : NDQ T3 g6 (tBy gS (lv + 1)) (tBy gS (lv + 1 + 1))) (hB : FBQ (vlF how F ok M R D n) n gS T3 g5 (lv + 1)) (i0 : tBy gS lv ≤ i) (i1 : i < tBy gS (lv + 1)) : fdV how (chA F (M lv) g5 g6 (tBy T3 i)) R = vlF how F ok M R D n (n - lv).toNat (tBy T3 i) := by
  rw [vl_s hL.1 hL.2]
  refine fdv_cg hR (fun r r0 r1 => ?_)
  unfold chA cvA
  by_cases hm : M lv r = true
  · rw [if_pos hm]
    obtain ⟨hu, h⟩ := fb_ch hS hF hL hN i0 i1 r0 r1 hm
    rcases h with ⟨ho, hz, e⟩ | ⟨ho, hz⟩
    · have hb := (spq_l hS (lv := lv + 1) (by omega) (by omega)).1
      rw [if_neg (by omega), if_pos ⟨hm, ho⟩, hB (lv + 1) (by omega) (by omega) _ hz.1 hz.2, e]
    · rw [if_pos hz, if_neg (fun q => by rw [ho] at q; exact absurd q.2 (by decide))]
  · rw [if_neg hm, if_neg (fun q => hm q.1)]
theorem fb_rg {C : Int} (hS : SPQ F ok M R b n.toNat gS T3 T4 T6) (hF : FOK F R) (hR : 0 ≤ R ∧ R ≤ 5) (hn : n ≤ 9) (hC : 0 ≤ C ∧ C ≤ 12) (hD : ∀ t : Int, 0 ≤ t → t ≤ 5460 → 0 ≤ D t ∧ D t ≤ C) (hL : 0 ≤ lv ∧ lv < n) (hN : NDQ T3 g6 (tBy gS (lv + 1)) (tBy gS (lv + 1 + 1))) (hB : FBQ (vlF how F ok M R D n) n gS T3 g5 (lv + 1)) : ∀ u : Int, 0 ≤ u → u ≤ 5460 → tBy g6 u = -1 ∨ ((0 ≤ tBy g6 u ∧ tBy g6 u < 25750) ∧ (0 ≤ tBy g5 (tBy g6 u) ∧ tBy g5 (tBy g6 u) ≤ 400000000)) := fun u u0 u1 => by
  have hr := spq_r (lv := lv + 1) hS hn (by omega) (by omega)
  rcases hN.2 u u0 u1 with z | ⟨z, e⟩
  · exact Or.inl z
  · refine Or.inr ⟨⟨by omega, by omega⟩, ?_⟩
    rw [hB (lv + 1) (by omega) (by omega) _ z.1 z.2, e]
    have hv := (vl_b (how := how) (ok := ok) (M := M) (n := n) hF hR hC.1 hD (n - (lv + 1)).toNat).2 u u0 u1
    have hc := cp5_b hC (k := (n - (lv + 1)).toNat) (by omega)
    omega
theorem vl_r {C t : Int} (hF : FOK F R) (hR : 0 ≤ R ∧ R ≤ 5) (hn : n ≤ 9) (hC : 0 ≤ C ∧ C ≤ 12) (hD : ∀ t : Int, 0 ≤ t → t ≤ 5460 → 0 ≤ D t ∧ D t ≤ C) (l0 : 0 ≤ lv) (t0 : 0 ≤ t) (t1 : t ≤ 5460) : 0 ≤ vlF how F ok M R D n (n - lv).toNat t ∧ vlF how F ok M R D n (n - lv).toNat t ≤ 23437500 := by
  have hv := (vl_b (how := how) (ok := ok) (M := M) (n := n) hF hR hC.1 hD (n - lv).toNat).2 t t0 t1
  have hc := cp5_b hC (k := (n - lv).toNat) (by omega)
  omega
end FBS
theorem fbq_c {V : Nat → Int → Int} {n a b : Int} {gS g3 g5 : Nat → Int32} (h : FBQ V n gS g3 g5 a) (e : a = b) : FBQ V n gS g3 g5 b := by
  rw [← e]
  exact h
theorem fbq_n {how R n : Int} {F : Int → Int → Int} {ok M : Int → Int → Bool} {D : Int → Int} {gS g3 g5 : Nat → Int32} (h : ∀ i : Int, tBy gS n ≤ i → i < tBy gS (n + 1) → tBy g5 i = D (tBy g3 i)) : FBQ (vlF how F ok M R D n) n gS g3 g5 n := fun L h1 h2 i i0 i1 => by
  have e : L = n := by omega
  rw [e] at i0 i1 ⊢
  rw [show (n - n).toNat = 0 by omega]
  exact h i i0 i1
theorem fbq_st {V : Nat → Int → Int} {F : Int → Int → Int} {ok M : Int → Int → Bool} {R b n lv i v : Int} {gS T3 T4 T6 g5 : Nat → Int32} (hS : SPQ F ok M R b n.toNat gS T3 T4 T6) (h : FBQ V n gS T3 g5 (lv + 1)) (l0 : 0 ≤ lv) (i0 : 0 ≤ i) (i1 : i < tBy gS (lv + 1)) (hv : r32 v) : FBQ V n gS T3 (upd g5 (i : Int).toNat (Int32.ofInt v)) (lv + 1) := fun L h1 h2 j j0 j1 => by
  have m := spq_o hS l0 (L := L) (by omega) h2
  rw [zupI hv i0 (by omega), if_neg (by omega)]
  exact h L h1 h2 j j0 j1
theorem fbn_st {V : Int → Int} {st i v : Int} {g3 g5 : Nat → Int32} (h : ∀ j : Int, st ≤ j → j < i → tBy g5 j = V (tBy g3 j)) (s0 : 0 ≤ st) (i0 : 0 ≤ i) (hv : r32 v) (e : v = V (tBy g3 i)) : ∀ j : Int, st ≤ j → j < i + 1 → tBy (upd g5 (i : Int).toNat (Int32.ofInt v)) j = V (tBy g3 j) := fun j j0 j1 => by
  rw [zupI hv i0 (by omega)]
  by_cases c : j = i
  · rw [if_pos c, c]
    exact e
  · rw [if_neg c]
    exact h j j0 (by omega)
theorem fbq_d {V : Nat → Int → Int} {n lv ii : Int} {gS g3 g5 : Nat → Int32} (h : FBQ V n gS g3 g5 (lv + 1)) (h2 : ∀ j : Int, tBy gS lv ≤ j → j < ii → tBy g5 j = V (n - lv).toNat (tBy g3 j)) (hi : tBy gS (lv + 1) ≤ ii) : FBQ V n gS g3 g5 lv := fun L a b i i0 i1 => by
  by_cases e : L = lv
  · rw [e] at i0 i1 ⊢
    exact h2 i i0 (by omega)
  · exact h L (by omega) b i i0 i1
theorem nd_fg {g3 g6 : Nat → Int32} {s e : Int} (h : NDQ g3 g6 s e) : ∀ t : Int, 0 ≤ t → t ≤ 5460 → tBy g6 t ≠ -1 → ∃ j : Int, (s ≤ j ∧ j < e) ∧ tBy g3 j = t := fun t t0 t1 ht => by
  obtain ⟨a, b⟩ := (h.2 t t0 t1).resolve_left ht
  exact ⟨_, a, b⟩
/-! The way that is chosen: at each level the first reader who keeps what is best. -/
noncomputable def crP (V : Nat → Int → Int) (F : Int → Int → Int) (n : Int) (lv t : Int) : Nat → Bool := fun r => decide (V (n - (lv + 1)).toNat (F (r : Int) t) = V (n - lv).toNat t)
noncomputable def crF (V : Nat → Int → Int) (F : Int → Int → Int) (R n : Int) (lv t : Int) : Int := fstP (crP V F n lv t) R.toNat
noncomputable def cpF (V : Nat → Int → Int) (F : Int → Int → Int) (R n b : Int) : Nat → Int
  | 0 => b
  | k + 1 => F (crF V F R n (k : Int) (cpF V F R n b k)) (cpF V F R n b k)
theorem fs_g {p : Nat → Bool} {i n : Int} (h0 : 0 ≤ i) (h1 : i < n) (h : fstP p i.toNat = -1) (hp : p i.toNat = true) : i = fstP p n.toNat := by
  have e : fstP p (i.toNat + 1) = i := by
    rw [fs_s, if_pos ⟨h, hp⟩]
    omega
  have k := fs_k e (by omega) (n.toNat - (i.toNat + 1))
  rw [show i.toNat + 1 + (n.toNat - (i.toNat + 1)) = n.toNat by omega] at k
  exact k.symm
theorem fs_c {p q : Nat → Bool} : ∀ {k : Nat}, (∀ r : Nat, r < k → p r = q r) → fstP p k = fstP q k
  | 0, _ => rfl
  | k + 1, h => by
    rw [fs_s, fs_s, fs_c (fun r hr => h r (by omega)), h k (by omega)]
theorem fs_rg {p : Nat → Bool} : ∀ {k : Nat}, fstP p k = -1 ∨ (0 ≤ fstP p k ∧ fstP p k < (k : Int) ∧ p (fstP p k).toNat = true)
  | 0 => Or.inl rfl
  | k + 1 => by
    rw [fs_s]
    by_cases c : fstP p k = -1 ∧ p k = true
    · rw [if_pos c]
      exact Or.inr ⟨by omega, by omega, by rw [show ((k : Nat) : Int).toNat = k from rfl]; exact c.2⟩
    · rw [if_neg c]
      rcases fs_rg (p := p) (k := k) with h | ⟨a, b, d⟩
      · exact Or.inl h
      · exact Or.inr ⟨a, by omega, d⟩
theorem fs_ex {p : Nat → Bool} {r : Nat} (hp : p r = true) : ∀ {k : Nat}, r < k → fstP p k ≠ -1
  | 0, h => by omega
  | k + 1, h => by
    rw [fs_s]
    by_cases c : fstP p k = -1 ∧ p k = true
    · rw [if_pos c]
      omega
    · rw [if_neg c]
      intro e
      by_cases z : r = k
      · rw [z] at hp
        exact c ⟨e, hp⟩
      · exact fs_ex hp (k := k) (by omega) e
/-! The least and the greatest of a level. -/
noncomputable def MXV (how : Int) (P : Int → Prop) (f : Int → Int) (v : Int) : Prop := (∃ t : Int, (0 ≤ t ∧ t ≤ 5460) ∧ P t ∧ f t = v) ∧ ∀ t : Int, 0 ≤ t → t ≤ 5460 → P t → (how = 1 → f t ≤ v) ∧ (how = 0 → v ≤ f t)
theorem mxv_u {how v v' : Int} {P : Int → Prop} {f : Int → Int} (hh : how = 0 ∨ how = 1) (h : MXV how P f v) (h2 : MXV how P f v') : v = v' := by
  obtain ⟨⟨t, t0, p, e⟩, a⟩ := h
  obtain ⟨⟨t', t0', p', e'⟩, a'⟩ := h2
  have x := a t' t0'.1 t0'.2 p'
  have y := a' t t0.1 t0.2 p
  rw [e'] at x
  rw [e] at y
  rcases hh with z | z
  · have := x.2 z
    have := y.2 z
    omega
  · have := x.1 z
    have := y.1 z
    omega
theorem fd_mx {how : Int} {c : Int → Int} (hh : how = 0 ∨ how = 1) : ∀ k : Nat, (∀ r : Int, 0 ≤ r → r < (k : Int) → 0 ≤ c r) → (k = 0 ∧ fdN how c k = -1) ∨ ((∃ r : Int, (0 ≤ r ∧ r < (k : Int)) ∧ c r = fdN how c k) ∧ ∀ r : Int, 0 ≤ r → r < (k : Int) → (how = 1 → c r ≤ fdN how c k) ∧ (how = 0 → fdN how c k ≤ c r))
  | 0, _ => Or.inl ⟨rfl, rfl⟩
  | k + 1, h => by
    have ih := fd_mx (c := c) hh k (fun r r0 r1 => h r r0 (by omega))
    have hk := h (k : Int) (by omega) (by omega)
    refine Or.inr ?_
    rw [show fdN how c (k + 1) = fdS how (fdN how c k) (c (k : Int)) from rfl]
    rcases ih with ⟨k0, e0⟩ | ⟨⟨r, hr, er⟩, hall⟩
    · rw [e0]
      have e1 : fdS how (-1) (c (k : Int)) = c (k : Int) := by
        unfold fdS
        rw [if_neg (by omega), if_pos rfl]
      rw [e1]
      refine ⟨⟨(k : Int), ⟨by omega, by omega⟩, rfl⟩, fun r r0 r1 => ?_⟩
      have e2 : r = (k : Int) := by omega
      rw [e2]
      exact ⟨fun _ => Int.le_refl _, fun _ => Int.le_refl _⟩
    · have hf : 0 ≤ fdN how c k := by
        rw [← er]
        exact h r hr.1 (by omega)
      generalize fdN how c k = f at er hall hf ⊢
      generalize hck : c (k : Int) = v at hk ⊢
      have hx : (fdS how f v = f ∨ fdS how f v = v) ∧ (how = 1 → f ≤ fdS how f v ∧ v ≤ fdS how f v) ∧ (how = 0 → fdS how f v ≤ f ∧ fdS how f v ≤ v) := by
        unfold fdS
        (repeat' split) <;> omega
      refine ⟨?_, fun r2 r0 r1 => ?_⟩
      · rcases hx.1 with z | z
        · exact ⟨r, ⟨hr.1, by omega⟩, er.trans z.symm⟩
        · exact ⟨(k : Int), ⟨by omega, by omega⟩, hck.trans z.symm⟩
      · by_cases c2 : r2 = (k : Int)
        · rw [c2, hck]
          exact ⟨fun z => (hx.2.1 z).2, fun z => (hx.2.2 z).2⟩
        · have h2 := hall r2 r0 (by omega)
          exact ⟨fun z => Int.le_trans (h2.1 z) (hx.2.1 z).1, fun z => Int.le_trans (hx.2.2 z).1 (h2.2 z)⟩
theorem fdv_mx {how R : Int} {c : Int → Int} (hh : how = 0 ∨ how = 1) (hR : 1 ≤ R) (h : ∀ r : Int, 0 ≤ r → r < R → 0 ≤ c r) : (∃ r : Int, (0 ≤ r ∧ r < R) ∧ c r = fdV how c R) ∧ ∀ r : Int, 0 ≤ r → r < R → (how = 1 → c r ≤ fdV how c R) ∧ (how = 0 → fdV how c R ≤ c r) := by
  have h2 := fd_mx (c := c) hh R.toNat (fun r r0 r1 => h r r0 (by omega))
  rcases h2 with ⟨z, -⟩ | ⟨⟨r, hr, er⟩, ha⟩
  · omega
  · have hf : fdV how c R = fdN how c R.toNat := by
      unfold fdV
      rw [if_neg (by have := h r hr.1 (by omega); omega)]
    rw [hf]
    exact ⟨⟨r, ⟨hr.1, by omega⟩, er⟩, fun r r0 r1 => ha r r0 (by omega)⟩
theorem sm_ex {f : Int → Int} : ∀ {k : Nat}, 0 < smF f k → ∃ t : Int, (0 ≤ t ∧ t < (k : Int)) ∧ 0 < f t
  | 0, h => absurd h (Int.lt_irrefl 0)
  | k + 1, h => by
    by_cases c : 0 < f (k : Int)
    · exact ⟨(k : Int), ⟨by omega, by omega⟩, c⟩
    · have h3 : 0 < smF f k + f (k : Int) := h
      obtain ⟨t, ht, p⟩ := sm_ex (f := f) (k := k) (by omega)
      exact ⟨t, ⟨ht.1, by omega⟩, p⟩
/-- what a text is worth before k readings by all -/
noncomputable def vaF (how : Int) (F : Int → Int → Int) (R : Int) (D : Int → Int) : Nat → Int → Int
  | 0 => D
  | k + 1 => fun t => fdV how (fun r => vaF how F R D k (F r t)) R
section VAS
variable {how R b n C : Int} {F : Int → Int → Int} {ok M : Int → Int → Bool} {D : Int → Int}
theorem va_e (hF : FOK F R) (hR : 0 ≤ R) (hn : n ≤ 9) (hM : ∀ L r : Int, 0 ≤ r → r < R → M L r = true) (ho : ∀ L t : Int, 0 ≤ L → L ≤ 9 → ok L t = true) : ∀ d : Nat, (d : Int) ≤ n → ∀ t : Int, 0 ≤ t → t ≤ 5460 → vlF how F ok M R D n d t = vaF how F R D d t
  | 0, _, t, _, _ => rfl
  | d + 1, hd, t, t0, t1 => by
    show fdV how (fun r => if M (n - (d : Int) - 1) r = true ∧ ok (n - (d : Int)) (F r t) = true then vlF how F ok M R D n d (F r t) else -1) R = fdV how (fun r => vaF how F R D d (F r t)) R
    refine fdv_cg hR (fun r r0 r1 => ?_)
    have hm := hF r t r0 r1 t0 t1
    (try dsimp only)
    rw [if_pos ⟨hM _ r r0 r1, ho _ _ (by omega) (by omega)⟩, va_e hF hR hn hM ho d (by omega) (F r t) hm.1 hm.2]
theorem va_b (hF : FOK F R) (hR : 0 ≤ R ∧ R ≤ 5) (hC : 0 ≤ C) (hD : ∀ t : Int, 0 ≤ t → t ≤ 5460 → 0 ≤ D t ∧ D t ≤ C) (hh : how = 0 ∨ how = 1) : ∀ d : Nat, ∀ t : Int, 0 ≤ t → t ≤ 5460 → 0 ≤ vaF how F R D d t ∧ vaF how F R D d t ≤ C
  | 0, t, t0, t1 => hD t t0 t1
  | d + 1, t, t0, t1 => by
    have ih : ∀ r : Int, 0 ≤ r → r < R → 0 ≤ vaF how F R D d (F r t) ∧ vaF how F R D d (F r t) ≤ C := fun r r0 r1 => by
      have hm := hF r t r0 r1 t0 t1
      exact va_b hF hR hC hD hh d (F r t) hm.1 hm.2
    show 0 ≤ fdV how (fun r => vaF how F R D d (F r t)) R ∧ fdV how (fun r => vaF how F R D d (F r t)) R ≤ C
    by_cases h1 : 1 ≤ R
    · obtain ⟨⟨r, hr, e⟩, -⟩ := fdv_mx (c := fun r => vaF how F R D d (F r t)) hh h1 (fun r r0 r1 => (ih r r0 r1).1)
      rw [← e]
      exact ih r hr.1 hr.2
    · have e : R = 0 := by omega
      rw [e]
      exact ⟨Int.le_refl _, hC⟩
/-- the best of a level is the best of the next one -/
theorem mx_k (hF : FOK F R) (hR : 0 ≤ R ∧ R ≤ 5) (hR1 : 0 < n → 1 ≤ R) (hC : 0 ≤ C) (hD : ∀ t : Int, 0 ≤ t → t ≤ 5460 → 0 ≤ D t ∧ D t ≤ C) (hn : n ≤ 9) (hh : how = 0 ∨ how = 1) (hM : ∀ L r : Int, 0 ≤ r → r < R → M L r = true) (ho : ∀ L t : Int, 0 ≤ L → L ≤ 9 → ok L t = true) (hb : 0 ≤ b ∧ b ≤ 5460) : ∀ k : Nat, (k : Int) ≤ n → (∀ t : Int, 0 ≤ Wl F ok M R b k t) ∧ MXV how (fun t => 0 < Wl F ok M R b k t) (vaF how F R D (n - (k : Int)).toNat) (vaF how F R D n.toNat b)
  | 0, h => by
    have w0 : ∀ t : Int, Wl F ok M R b 0 t = if t = b ∧ ok 0 t = true then 1 else 0 := fun t => rfl
    refine ⟨fun t => by rw [w0]; split <;> omega, ?_⟩
    rw [show n - ((0 : Nat) : Int) = n by omega]
    refine ⟨⟨b, hb, ?_, rfl⟩, fun t t0 t1 hp => ?_⟩
    · show 0 < Wl F ok M R b 0 b
      rw [w0, if_pos ⟨rfl, ho _ _ (by omega) (by omega)⟩]
      decide
    · have hp : 0 < Wl F ok M R b 0 t := hp
      rw [w0] at hp
      by_cases c : t = b ∧ ok 0 t = true
      · rw [c.1]
        exact ⟨fun _ => Int.le_refl _, fun _ => Int.le_refl _⟩
      · rw [if_neg c] at hp
        omega
  | k + 1, h => by
    obtain ⟨hW, hX⟩ := mx_k hF hR hR1 hC hD hn hh hM ho hb k (by omega)
    have h1 := hR1 (by omega)
    have hW1 : ∀ u : Int, Wl F ok M R b (k + 1) u = wW F (M (k : Int)) R (Wl F ok M R b k) u := fun u => if_pos (ho _ _ (by omega) (by omega))
    have nn : ∀ x u a : Int, 0 ≤ (if M (k : Int) a = true ∧ F a u = x then Wl F ok M R b k u else 0) := fun x u a => by
      split
      · exact hW u
      · exact Int.le_refl _
    have hWn : ∀ u : Int, 0 ≤ Wl F ok M R b (k + 1) u := fun u => by
      rw [hW1]
      exact sm_0 (fun a _ _ => sm_0 (fun c _ _ => nn u a c))
    have hv : ∀ t : Int, 0 ≤ t → t ≤ 5460 → (∃ r : Int, (0 ≤ r ∧ r < R) ∧ vaF how F R D (n - ((k + 1 : Nat) : Int)).toNat (F r t) = vaF how F R D (n - (k : Int)).toNat t) ∧ ∀ r : Int, 0 ≤ r → r < R → (how = 1 → vaF how F R D (n - ((k + 1 : Nat) : Int)).toNat (F r t) ≤ vaF how F R D (n - (k : Int)).toNat t) ∧ (how = 0 → vaF how F R D (n - (k : Int)).toNat t ≤ vaF how F R D (n - ((k + 1 : Nat) : Int)).toNat (F r t)) := fun t t0 t1 => by
      rw [show (n - (k : Int)).toNat = (n - ((k + 1 : Nat) : Int)).toNat + 1 by omega]
      exact fdv_mx (c := fun r => vaF how F R D (n - ((k + 1 : Nat) : Int)).toNat (F r t)) hh h1 (fun r r0 r1 => by
        have hm := hF r t r0 r1 t0 t1
        exact (va_b hF hR hC hD hh _ _ hm.1 hm.2).1)
    obtain ⟨⟨t, ht, hp, e⟩, ha⟩ := hX
    refine ⟨hWn, ⟨?_, fun u u0 u1 hu => ?_⟩⟩
    · obtain ⟨⟨r, hr, e2⟩, -⟩ := hv t ht.1 ht.2
      have hm := hF r t hr.1 hr.2 ht.1 ht.2
      refine ⟨F r t, hm, ?_, e2.trans e⟩
      show 0 < Wl F ok M R b (k + 1) (F r t)
      rw [hW1]
      have := wW_p (F := F) (M := M (k : Int)) (R := R) (r := r) hW ht hr (hM _ r hr.1 hr.2)
      have hp : 0 < Wl F ok M R b k t := hp
      exact Int.lt_of_lt_of_le hp this
    · have hu : 0 < Wl F ok M R b (k + 1) u := hu
      rw [hW1] at hu
      obtain ⟨t2, ht2, h3⟩ := sm_ex hu
      obtain ⟨r2, hr2, h4⟩ := sm_ex h3
      by_cases c : M (k : Int) r2 = true ∧ F r2 t2 = u
      · rw [if_pos c] at h4
        have x := ha t2 ht2.1 (by omega) h4
        have y := (hv t2 ht2.1 (by omega)).2 r2 hr2.1 (by omega)
        rw [c.2] at y
        exact ⟨fun z => Int.le_trans (y.1 z) (x.1 z), fun z => Int.le_trans (x.2 z) (y.2 z)⟩
      · rw [if_neg c] at h4
        omega
end VAS
/-! The way that is chosen, in the arrays. -/
theorem cg_n {ch : Int → Int} {r w e : Int} (r0 : 0 ≤ r) (he : e = ch r) (hn : e ≠ w) : decide (ch ((r.toNat : Nat) : Int) = w) = false := decide_eq_false (by rw [Int.toNat_of_nonneg r0, ← he]; exact hn)
theorem cg_y {ch : Int → Int} {r w e : Int} (r0 : 0 ≤ r) (he : e = ch r) (hn : e = w) : decide (ch ((r.toNat : Nat) : Int) = w) = true := decide_eq_true (by rw [Int.toNat_of_nonneg r0, ← he]; exact hn)
theorem cp_s {V : Nat → Int → Int} {F : Int → Int → Int} {R n b lv : Int} (h : 0 ≤ lv) : cpF V F R n b (lv + 1).toNat = F (crF V F R n lv (cpF V F R n b lv.toNat)) (cpF V F R n b lv.toNat) := by
  rw [show (lv + 1).toNat = lv.toNat + 1 by omega]
  show F (crF V F R n ((lv.toNat : Nat) : Int) (cpF V F R n b lv.toNat)) (cpF V F R n b lv.toNat) = _
  rw [Int.toNat_of_nonneg h]
section CAS
variable {V : Nat → Int → Int} {F : Int → Int → Int} {ok M : Int → Int → Bool} {R b n i lv : Int} {gS T3 T4 T6 g5 g6 : Nat → Int32}
theorem ca_0 (hS : SPQ F ok M R b n.toNat gS T3 T4 T6) (ho : ok 0 b = true) (hb : 0 ≤ b ∧ b ≤ 5460) (hn : 0 ≤ n) : (tBy gS 0 ≤ 0 ∧ 0 < tBy gS (0 + 1)) ∧ tBy T3 0 = cpF V F R n b (0 : Int).toNat := by
  have h := spq_l hS (lv := 0) (by omega) hn
  have hw : Wl F ok M R b (0 : Int).toNat b = 1 := if_pos ⟨rfl, ho⟩
  obtain ⟨j, hj, e⟩ := h.2.2.2.1.2.2.2 b hb.1 hb.2 (by
    show 0 < Wl F ok M R b (0 : Int).toNat b
    rw [hw]
    decide)
  have e : tBy T3 j = b := e
  have hc : cmB ((0 : Int).toNat + 1) = 1 := rfl
  have h1 := h.1
  have h2 := h.2.1
  have j0 : j = 0 := by omega
  rw [j0] at e
  exact ⟨⟨by omega, by omega⟩, e⟩
theorem ca_rg (hS : SPQ F ok M R b n.toNat gS T3 T4 T6) (hn : n ≤ 9) (hL : 0 ≤ lv ∧ lv < n) (hN : NDQ T3 g6 (tBy gS (lv + 1)) (tBy gS (lv + 1 + 1))) (hB : FBQ V n gS T3 g5 0) (hV : ∀ d : Nat, ∀ t : Int, 0 ≤ t → t ≤ 5460 → 0 ≤ V d t ∧ V d t ≤ 23437500) : ∀ u : Int, 0 ≤ u → u ≤ 5460 → tBy g6 u = -1 ∨ ((0 ≤ tBy g6 u ∧ tBy g6 u < 25750) ∧ (0 ≤ tBy g5 (tBy g6 u) ∧ tBy g5 (tBy g6 u) ≤ 400000000)) := fun u u0 u1 => by
  have hr := spq_r (lv := lv + 1) hS hn (by omega) (by omega)
  rcases hN.2 u u0 u1 with z | ⟨z, e⟩
  · exact Or.inl z
  · refine Or.inr ⟨⟨by omega, by omega⟩, ?_⟩
    rw [hB (lv + 1) (by omega) (by omega) _ z.1 z.2, e]
    have hv := hV (n - (lv + 1)).toNat u u0 u1
    omega
theorem ca_ch (hS : SPQ F ok M R b n.toNat gS T3 T4 T6) (hF : FOK F R) (hR : 0 ≤ R) (hL : 0 ≤ lv ∧ lv < n) (hN : NDQ T3 g6 (tBy gS (lv + 1)) (tBy gS (lv + 1 + 1))) (hB : FBQ V n gS T3 g5 0) (hn : n ≤ 9) (hM : ∀ L r : Int, 0 ≤ r → r < R → M L r = true) (ho : ∀ L t : Int, 0 ≤ L → L ≤ 9 → ok L t = true) (i0 : tBy gS lv ≤ i) (i1 : i < tBy gS (lv + 1)) : fstP (fun r => decide (chA F (M lv) g5 g6 (tBy T3 i) (r : Int) = tBy g5 i)) R.toNat = crF V F R n lv (tBy T3 i) := by
  refine fs_c (fun r hr => ?_)
  have hm := hM lv (r : Int) (by omega) (by omega)
  obtain ⟨hu, h⟩ := fb_ch hS hF hL hN i0 i1 (r := (r : Int)) (by omega) (by omega) hm
  have hc : chA F (M lv) g5 g6 (tBy T3 i) (r : Int) = V (n - (lv + 1)).toNat (F (r : Int) (tBy T3 i)) := by
    unfold chA cvA
    rw [if_pos hm]
    rcases h with ⟨-, hz, e⟩ | ⟨hz, -⟩
    · have hb := (spq_l hS (lv := lv + 1) (by omega) (by omega)).1
      rw [if_neg (by omega), hB (lv + 1) (by omega) (by omega) _ hz.1 hz.2, e]
    · rw [ho _ _ (by omega) (by omega)] at hz
      cases hz
  unfold crP
  rw [hc, hB lv (by omega) (by omega) i i0 i1]
/-- the node of what the chosen reader makes -/
theorem ca_nx {v : Int} (hS : SPQ F ok M R b n.toNat gS T3 T4 T6) (hF : FOK F R) (hL : 0 ≤ lv ∧ lv < n) (hN : NDQ T3 g6 (tBy gS (lv + 1)) (tBy gS (lv + 1 + 1))) (hn : n ≤ 9) (hM : ∀ L r : Int, 0 ≤ r → r < R → M L r = true) (ho : ∀ L t : Int, 0 ≤ L → L ≤ 9 → ok L t = true) (i0 : tBy gS lv ≤ i) (i1 : i < tBy gS (lv + 1)) (r0 : 0 ≤ v) (r1 : v < R) : (tBy gS (lv + 1) ≤ tBy g6 (F v (tBy T3 i)) ∧ tBy g6 (F v (tBy T3 i)) < tBy gS (lv + 1 + 1)) ∧ tBy T3 (tBy g6 (F v (tBy T3 i))) = F v (tBy T3 i) := by
  obtain ⟨hu, h⟩ := fb_ch hS hF hL hN i0 i1 r0 r1 (hM lv v r0 r1)
  rcases h with ⟨-, hz, e⟩ | ⟨hz, -⟩
  · exact ⟨hz, e⟩
  · rw [ho _ _ (by omega) (by omega)] at hz
    cases hz
end CAS
/-! ROTA: its value. -/
noncomputable def rotV (F : Int → Int → Int) (b R n w : Int) : Int := if ((0 ≤ n ∧ n ≤ 9) ∧ (0 < n → R ≠ 0)) ∧ (w = 0 ∨ w = 1 ∨ (10 ≤ w ∧ w < 10 + n)) then (if w ≤ 1 then vaF w F R (fun t => dft t b) n.toNat b else crF (vaF 0 F R (fun t => dft t b)) F R n (w - 10) (cpF (vaF 0 F R (fun t => dft t b)) F R n b (w - 10).toNat)) else -1
theorem rot_n {F : Int → Int → Int} {b R n w : Int} (h : (n < 0 ∨ 9 < n) ∨ (0 < n ∧ R = 0) ∨ (w ≠ 0 ∧ w ≠ 1 ∧ (w < 10 ∨ 10 + n ≤ w))) : rotV F b R n w = -1 := if_neg (fun z => by
  obtain ⟨⟨z1, z2⟩, z3⟩ := z
  rcases h with h | ⟨h, e⟩ | h
  · omega
  · exact z2 h e
  · omega)
theorem rot_y {F : Int → Int → Int} {b R n w : Int} (h1 : 0 ≤ n ∧ n ≤ 9) (h2 : 0 < n → R ≠ 0) (h3 : w = 0 ∨ w = 1) : rotV F b R n w = vaF w F R (fun t => dft t b) n.toNat b := by
  unfold rotV
  rw [if_pos ⟨⟨h1, h2⟩, by omega⟩, if_pos (by omega)]
theorem rot_k {F : Int → Int → Int} {b R n w : Int} (h1 : 0 ≤ n ∧ n ≤ 9) (h2 : 0 < n → R ≠ 0) (h3 : 10 ≤ w ∧ w < 10 + n) : rotV F b R n w = crF (vaF 0 F R (fun t => dft t b)) F R n (w - 10) (cpF (vaF 0 F R (fun t => dft t b)) F R n b (w - 10).toNat) := by
  unfold rotV
  rw [if_pos ⟨⟨h1, h2⟩, by omega⟩, if_neg (by omega)]
theorem dft_b (b : Int) : ∀ t : Int, 0 ≤ t → t ≤ 5460 → 0 ≤ dft t b ∧ dft t b ≤ 12 := fun t _ _ => dft_r
theorem cr_ex {F : Int → Int → Int} {R n C : Int} {D : Int → Int} (hF : FOK F R) (hR : 1 ≤ R ∧ R ≤ 5) (hC : 0 ≤ C) (hD : ∀ t : Int, 0 ≤ t → t ≤ 5460 → 0 ≤ D t ∧ D t ≤ C) {lv t : Int} (l0 : 0 ≤ lv) (l1 : lv < n) (t0 : 0 ≤ t) (t1 : t ≤ 5460) : crF (vaF 0 F R D) F R n lv t ≠ -1 := by
  obtain ⟨⟨r, hr, e⟩, -⟩ := fdv_mx (how := 0) (c := fun r => vaF 0 F R D (n - (lv + 1)).toNat (F r t)) (Or.inl rfl) hR.1 (fun r r0 r1 => by
    have hm := hF r t r0 r1 t0 t1
    exact (va_b hF ⟨by omega, hR.2⟩ hC hD (Or.inl rfl) _ _ hm.1 hm.2).1)
  refine fs_ex (r := r.toNat) (decide_eq_true ?_) (by omega)
  rw [Int.toNat_of_nonneg hr.1, show (n - lv).toNat = (n - (lv + 1)).toNat + 1 by omega]
  exact e
section ROT
variable {F : Int → Int → Int} {ok M : Int → Int → Bool} {R b n how v : Int} {gS T3 T4 T6 g5 : Nat → Int32}
theorem rot_mx (hF : FOK F R) (hR : 0 ≤ R ∧ R ≤ 5) (hR1 : 0 < n → R ≠ 0) (h0 : 0 ≤ n) (hn : n ≤ 9) (hh : how = 0 ∨ how = 1) (hM : ∀ L r : Int, 0 ≤ r → r < R → M L r = true) (ho : ∀ L t : Int, 0 ≤ L → L ≤ 9 → ok L t = true) (hb : 0 ≤ b ∧ b ≤ 5460) : MXV how (fun t => 0 < Wl F ok M R b n.toNat t) (fun t => dft t b) (vaF how F R (fun t => dft t b) n.toNat b) := by
  have h := (mx_k (n := n) hF hR (fun z => by have := hR1 z; omega) (by decide) (dft_b b) hn hh hM ho hb n.toNat (by omega)).2
  rw [Int.toNat_of_nonneg h0, show (n - n).toNat = 0 by omega] at h
  exact h
theorem rot_ne (hS : SPQ F ok M R b n.toNat gS T3 T4 T6) (h0 : 0 ≤ n) {f : Int → Int} (h : MXV how (fun t => 0 < Wl F ok M R b n.toNat t) f v) : tBy gS n < tBy gS (n + 1) := by
  obtain ⟨⟨t, ht, hp, -⟩, -⟩ := h
  obtain ⟨j, hj, -⟩ := (spq_l hS h0 (by omega)).2.2.2.1.2.2.2 t ht.1 ht.2 hp
  omega
theorem rot_be {w : Int} (hS : SPQ F ok M R b n.toNat gS T3 T4 T6) (h0 : 0 ≤ n) (hh : how = 0 ∨ how = 1) (h : MXV how (fun t => 0 < Wl F ok M R b n.toNat t) (fun t => dft t b) v) (h5 : ∀ i : Int, tBy gS n ≤ i → i < tBy gS (n + 1) → tBy g5 i = dft (tBy T3 i) b) (hv : (∃ i : Int, (tBy gS n ≤ i ∧ i < tBy gS (n + 1)) ∧ w = tBy g5 i) ∧ ∀ i : Int, tBy gS n ≤ i → i < tBy gS (n + 1) → (how ≠ 0 → tBy g5 i ≤ w) ∧ (how = 0 → w ≤ tBy g5 i)) : w = v := by
  obtain ⟨⟨i, hi, e⟩, ha⟩ := hv
  have hx := spq_x hS h0 (by omega) hi.1 hi.2
  refine mxv_u hh ⟨⟨tBy T3 i, hx.1, hx.2, ?_⟩, fun t t0 t1 hp => ?_⟩ h
  · (try dsimp only)
    rw [e, h5 i hi.1 hi.2]
  · obtain ⟨j, hj, e2⟩ := (spq_l hS h0 (by omega)).2.2.2.1.2.2.2 t t0 t1 hp
    have e2 : tBy T3 j = t := e2
    have h6 := ha j hj.1 hj.2
    rw [h5 j hj.1 hj.2, e2] at h6
    exact ⟨fun z => h6.1 (by omega), h6.2⟩
theorem fbq_va {D : Int → Int} (hS : SPQ F ok M R b n.toNat gS T3 T4 T6) (hF : FOK F R) (hR : 0 ≤ R) (hn : n ≤ 9) (hM : ∀ L r : Int, 0 ≤ r → r < R → M L r = true) (ho : ∀ L t : Int, 0 ≤ L → L ≤ 9 → ok L t = true) (h : FBQ (vlF how F ok M R D n) n gS T3 g5 0) : FBQ (vaF how F R D) n gS T3 g5 0 := fun L h1 h2 i i0 i1 => by
  have hx := spq_x hS h1 h2 i0 i1
  rw [h L h1 h2 i i0 i1, va_e hF hR hn hM ho _ (by omega) _ hx.1.1 hx.1.2]
end ROT
theorem all_0 {n : Int} (h : 0 ≤ n ∧ n ≤ 5) : bShl 1 n - 1 = 0 ↔ n = 0 := by
  have a : ∀ k : Nat, k < 6 → (bShl 1 (k : Int) - 1 = 0 ↔ (k : Int) = 0) := by decide +kernel
  obtain ⟨k, rfl⟩ := Int.eq_ofNat_of_zero_le h.1
  exact a k (by omega)
theorem spq_6 {F : Int → Int → Int} {ok M : Int → Int → Bool} {R b : Int} {k : Nat} {gS T3 T4 T6 T6' : Nat → Int32} (h : SPQ F ok M R b k gS T3 T4 T6) (h6 : ∀ t : Int, 0 ≤ t → t ≤ 5460 → tBy T6' t = -1) : SPQ F ok M R b k gS T3 T4 T6' := ⟨h.1, h.2.1, h6⟩
theorem hM_all {n A : Int} (hn : 0 ≤ n ∧ n ≤ 5) (hA : A = bShl 1 n - 1) : ∀ L r : Int, 0 ≤ r → r < n → (fun L => hM (if L % 2 = 0 then A else A)) L r = true := fun L r r0 r1 => by
  show hM (if L % 2 = 0 then A else A) r = true
  rw [ite_self, hA]
  exact (all_h hn r0 r1).trans rfl
/-! The reference's tables. -/
noncomputable def BSQ (how : Int) (c : Int → Int) (r v : Int) : Prop := (r = 0 ∧ (how = 0 → v = 1000000) ∧ (how = 1 → v = -1)) ∨ (1 ≤ r ∧ v = fdN how c r.toNat)
theorem bs_s {how r v v' : Int} {c : Int → Int} (h : BSQ how c r v) (hh : how = 0 ∨ how = 1) (r0 : 0 ≤ r) (hc : ∀ x : Int, 0 ≤ x → x ≤ r → 0 ≤ c x ∧ c x ≤ 1000000) {u : Int} (hu : u = c r) (hv : (how = 1 ∧ v ≤ v' ∧ u ≤ v' ∧ (v' = v ∨ v' = u)) ∨ (how = 0 ∧ v' ≤ v ∧ v' ≤ u ∧ (v' = v ∨ v' = u))) : BSQ how c (r + 1) v' := by
  refine Or.inr ⟨by omega, ?_⟩
  have hr := hc r r0 (Int.le_refl _)
  rw [show (r + 1).toNat = r.toNat + 1 by omega]
  show v' = fdS how (fdN how c r.toNat) (c ((r.toNat : Nat) : Int))
  rw [Int.toNat_of_nonneg r0, ← hu]
  rcases h with ⟨z, h0, h1⟩ | ⟨z, e⟩
  · rw [z]
    show v' = fdS how (-1) u
    unfold fdS
    rw [if_neg (by omega), if_pos rfl]
    rcases hv with ⟨a, b⟩ | ⟨a, b⟩
    · have := h1 a
      omega
    · have := h0 a
      omega
  · have hb := fd_mx (c := c) hh r.toNat (fun x x0 x1 => (hc x x0 (by omega)).1)
    have hp : 0 ≤ fdN how c r.toNat := by
      rcases hb with ⟨y, -⟩ | ⟨⟨x, hx, e2⟩, -⟩
      · omega
      · rw [← e2]
        exact (hc x hx.1 (by omega)).1
    rw [← e] at hp ⊢
    clear hb
    unfold fdS
    (repeat' split) <;> omega
theorem bs_e {how R r v : Int} {c : Int → Int} (h : BSQ how c r v) (hr : r = R) (h1 : 1 ≤ R) (hh : how = 0 ∨ how = 1) (hc : ∀ x : Int, 0 ≤ x → x < R → 0 ≤ c x) : v = fdV how c R := by
  rcases h with ⟨z, -⟩ | ⟨z, e⟩
  · omega
  · rw [hr] at e
    have hb := fd_mx (c := c) hh R.toNat (fun x x0 x1 => hc x x0 (by omega))
    have hp : 0 ≤ fdN how c R.toNat := by
      rcases hb with ⟨y, -⟩ | ⟨⟨x, hx, e2⟩, -⟩
      · omega
      · rw [← e2]
        exact hc x hx.1 (by omega)
    unfold fdV
    rw [if_neg (by omega)]
    exact e
theorem fs_lt {p : Nat → Bool} {i n : Int} (h0 : 0 ≤ i) (hn : 0 ≤ n) (h : fstP p i.toNat = -1) (h2 : fstP p n.toNat ≠ -1) : i < n := by
  refine Classical.byContradiction fun c => h2 ?_
  have hx : ∀ d : Nat, fstP p (n.toNat + d) = -1 → fstP p n.toNat = -1 := fun d => by
    by_cases e : fstP p n.toNat = -1
    · exact fun _ => e
    · intro z
      have := fs_k (v := fstP p n.toNat) rfl e d
      omega
  refine hx (i.toNat - n.toNat) ?_
  rw [show n.toNat + (i.toNat - n.toNat) = i.toNat by omega]
  exact h
theorem crp_t {V : Nat → Int → Int} {F : Int → Int → Int} {n lv t r u x y : Int} (hu : u = F r t) (hx : x = V (n - lv - 1).toNat u) (hy : y = V (n - lv).toNat t) (r0 : 0 ≤ r) (e : x = y) : crP V F n lv t r.toNat = true := decide_eq_true (by rw [Int.toNat_of_nonneg r0, ← hu, show n - (lv + 1) = n - lv - 1 by omega, ← hx, ← hy]; exact e)
theorem crp_f {V : Nat → Int → Int} {F : Int → Int → Int} {n lv t r u x y : Int} (hu : u = F r t) (hx : x = V (n - lv - 1).toNat u) (hy : y = V (n - lv).toNat t) (r0 : 0 ≤ r) (e : x ≠ y) : crP V F n lv t r.toNat = false := decide_eq_false (by rw [Int.toNat_of_nonneg r0, ← hu, show n - (lv + 1) = n - lv - 1 by omega, ← hx, ← hy]; exact e)
/-- the table's rows 0 .. kk - 1 -/
noncomputable def LTQ (V : Nat → Int → Int) (T : Nat → Int32) (kk : Int) : Prop := ∀ k t : Int, 0 ≤ k → k < kk → 0 ≤ t → t ≤ 5460 → tBy T (5461 * k + t) = V k.toNat t
theorem lt_1 {V : Nat → Int → Int} {T : Nat → Int32} (h : ∀ t : Int, 0 ≤ t → t ≤ 5460 → tBy T t = V 0 t) : LTQ V T 1 := fun k t k0 k1 t0 t1 => by
  rw [show 5461 * k + t = t by omega, show k.toNat = 0 by omega]
  exact h t t0 t1
theorem ltq_s {how R : Int} {F : Int → Int → Int} {D : Int → Int} {T T' : Nat → Int32} {kk : Int} (hF : FOK F R) (hR : 0 ≤ R) (h : LTQ (vaF how F R D) T kk) (k0 : 1 ≤ kk) (hn : ∀ t : Int, 0 ≤ t → t ≤ 5460 → tBy T' (5461 * kk + t) = fdV how (fun r => tBy T (5461 * (kk - 1) + F r t)) R) (ho : ∀ i : Int, 0 ≤ i → i < 5461 * kk → tBy T' i = tBy T i) : LTQ (vaF how F R D) T' (kk + 1) := fun k t a b t0 t1 => by
  by_cases e : k = kk
  · rw [e, hn t t0 t1, show kk.toNat = (kk - 1).toNat + 1 by omega]
    show _ = fdV how (fun r => vaF how F R D (kk - 1).toNat (F r t)) R
    refine fdv_cg hR (fun r r0 r1 => ?_)
    have hm := hF r t r0 r1 t0 t1
    exact h (kk - 1) (F r t) (by omega) (by omega) hm.1 hm.2
  · rw [ho _ (by omega) (by omega)]
    exact h k t a (by omega) t0 t1
/-! Sums over a level. -/
theorem sm_mul {f : Int → Int} {c : Int} : ∀ {k : Nat}, smF (fun t => f t * c) k = smF f k * c
  | 0 => (Int.zero_mul c).symm
  | k + 1 => by
    show smF (fun t => f t * c) k + f (k : Int) * c = (smF f k + f (k : Int)) * c
    rw [sm_mul, Int.add_mul]
theorem sm_mulL {f : Int → Int} {c : Int} : ∀ {k : Nat}, smF (fun t => c * f t) k = c * smF f k
  | 0 => (Int.mul_zero c).symm
  | k + 1 => by
    show smF (fun t => c * f t) k + c * f (k : Int) = c * (smF f k + f (k : Int))
    rw [sm_mulL, Int.mul_add]
theorem sm_ind {h : Int → Int} {v : Int} (v0 : 0 ≤ v) : ∀ {k : Nat}, smF (fun x => if v = x then h x else 0) k = if v < (k : Int) then h v else 0
  | 0 => by
    rw [if_neg (by omega)]
    rfl
  | k + 1 => by
    show smF (fun x => if v = x then h x else 0) k + (if v = (k : Int) then h (k : Int) else 0) = _
    rw [sm_ind v0]
    by_cases c : v = (k : Int)
    · rw [if_neg (by omega), if_pos c, if_pos (by omega), c]
      omega
    · rw [if_neg c]
      by_cases d : v < (k : Int)
      · rw [if_pos d, if_pos (by omega)]
        omega
      · rw [if_neg d, if_neg (by omega)]
        rfl
/-- what goes on from a level, counted where it comes and where it leaves -/
theorem ww_sum {F : Int → Int → Int} {M : Int → Bool} {R : Int} {W g : Int → Int} (hF : FOK F R) (hR : 0 ≤ R) : smF (fun x => wW F M R W x * g x) 5461 = smF (fun u => W u * smF (fun a => if M a = true then g (F a u) else 0) R.toNat) 5461 := by
  have e1 : smF (fun x => wW F M R W x * g x) 5461 = smF (fun x => smF (fun u => smF (fun a => (if M a = true ∧ F a u = x then W u else 0) * g x) R.toNat) 5461) 5461 := sm_cg (fun x _ _ => by
    unfold wW
    rw [← sm_mul]
    exact sm_cg (fun u _ _ => sm_mul.symm))
  rw [e1, sm_sw]
  refine sm_cg (fun u u0 u1 => ?_)
  rw [sm_sw, ← sm_mulL]
  refine sm_cg (fun a a0 a1 => ?_)
  have hm := hF a u a0 (by omega) u0 (by omega)
  by_cases c : M a = true
  · rw [if_pos c]
    have e2 : smF (fun x => (if M a = true ∧ F a u = x then W u else 0) * g x) 5461 = smF (fun x => if F a u = x then W u * g x else 0) 5461 := sm_cg (fun x _ _ => by
      by_cases d : F a u = x
      · rw [if_pos ⟨c, d⟩, if_pos d]
      · rw [if_neg (fun z => d z.2), if_neg d, Int.zero_mul])
    rw [e2, sm_ind (h := fun x => W u * g x) hm.1, if_pos (by omega)]
  · rw [if_neg c, Int.mul_zero]
    exact Eq.trans (sm_cg (g := fun _ => 0) (fun x _ _ => by rw [if_neg (fun z => c z.1), Int.zero_mul])) sm_z
/-- what a text is worth in sums, d levels before the last (level n) -/
noncomputable def onF (F : Int → Int → Int) (ok : Int → Int → Bool) (R : Int) (D : Int → Int) (n : Int) : Nat → Int → Int
  | 0 => fun t => if ok n t = true then D t else 0
  | d + 1 => fun t => if ok (n - (d : Int) - 1) t = true then smF (fun a => onF F ok R D n d (F a t)) R.toNat else 0
theorem wl_no {F : Int → Int → Int} {ok M : Int → Int → Bool} {R b : Int} : ∀ {k : Nat} {t : Int}, ¬ ok (k : Int) t = true → Wl F ok M R b k t = 0
  | 0, t, h => if_neg (fun z => h z.2)
  | k + 1, t, h => if_neg (fun z => h (by rw [show ((k + 1 : Nat) : Int) = (k : Int) + 1 by omega]; exact z))
theorem on_no {F : Int → Int → Int} {ok : Int → Int → Bool} {R n L t : Int} {D : Int → Int} (h : ¬ ok L t = true) (l0 : 0 ≤ L) (l1 : L ≤ n) {d : Nat} (hd : d = (n - L).toNat) : onF F ok R D n d t = 0 := by
  subst hd
  by_cases e : L = n
  · rw [e, show (n - n).toNat = 0 by omega]
    rw [e] at h
    exact if_neg h
  · rw [show (n - L).toNat = (n - L - 1).toNat + 1 by omega]
    show (if ok (n - (((n - L - 1).toNat : Nat) : Int) - 1) t = true then _ else 0) = 0
    rw [show n - (((n - L - 1).toNat : Nat) : Int) - 1 = L by omega]
    exact if_neg h
theorem on_k {F : Int → Int → Int} {ok M : Int → Int → Bool} {R b n : Int} {D : Int → Int} (hF : FOK F R) (hR : 0 ≤ R) (hM : ∀ L r : Int, 0 ≤ r → r < R → M L r = true) (hb : 0 ≤ b ∧ b ≤ 5460) : ∀ k : Nat, (k : Int) ≤ n → smF (fun t => Wl F ok M R b k t * onF F ok R D n (n - (k : Int)).toNat t) 5461 = onF F ok R D n n.toNat b
  | 0, h => by
    rw [show n - ((0 : Nat) : Int) = n by omega]
    have e : smF (fun t => Wl F ok M R b 0 t * onF F ok R D n n.toNat t) 5461 = smF (fun t => if b = t then (if ok 0 t = true then onF F ok R D n n.toNat t else 0) else 0) 5461 := sm_cg (fun t _ _ => by
      show (if t = b ∧ ok 0 t = true then 1 else 0) * onF F ok R D n n.toNat t = _
      by_cases c : b = t
      · by_cases d : ok 0 t = true
        · rw [if_pos ⟨c.symm, d⟩, if_pos c, if_pos d, Int.one_mul]
        · rw [if_neg (fun z => d z.2), if_pos c, if_neg d, Int.zero_mul]
      · rw [if_neg (fun z => c z.1.symm), if_neg c, Int.zero_mul])
    rw [e, sm_ind (h := fun t => if ok 0 t = true then onF F ok R D n n.toNat t else 0) hb.1, if_pos (by omega)]
    (try dsimp only)
    by_cases d : ok 0 b = true
    · rw [if_pos d]
    · rw [if_neg d]
      by_cases z : n = 0
      · rw [z]
        show 0 = if ok 0 b = true then D b else 0
        rw [if_neg d]
      · rw [show n.toNat = (n - 1).toNat + 1 by omega]
        show 0 = if ok (n - (((n - 1).toNat : Nat) : Int) - 1) b = true then smF (fun a => onF F ok R D n (n - 1).toNat (F a b)) R.toNat else 0
        rw [show n - (((n - 1).toNat : Nat) : Int) - 1 = 0 by omega, if_neg d]
  | k + 1, h => by
    rw [← on_k hF hR hM hb k (by omega)]
    have e1 : ∀ t : Int, Wl F ok M R b k t * onF F ok R D n (n - (k : Int)).toNat t = Wl F ok M R b k t * smF (fun a => if M (k : Int) a = true then onF F ok R D n (n - ((k + 1 : Nat) : Int)).toNat (F a t) else 0) R.toNat := fun t => by
      have e0 : smF (fun a => if M (k : Int) a = true then onF F ok R D n (n - ((k + 1 : Nat) : Int)).toNat (F a t) else 0) R.toNat = smF (fun a => onF F ok R D n (n - ((k + 1 : Nat) : Int)).toNat (F a t)) R.toNat := sm_cg (fun a a0 a1 => if_pos (hM _ a a0 (by omega)))
      rw [e0, show (n - (k : Int)).toNat = (n - ((k + 1 : Nat) : Int)).toNat + 1 by omega]
      show _ * (if ok (n - (((n - ((k + 1 : Nat) : Int)).toNat : Nat) : Int) - 1) t = true then smF (fun a => onF F ok R D n (n - ((k + 1 : Nat) : Int)).toNat (F a t)) R.toNat else 0) = _
      rw [show n - (((n - ((k + 1 : Nat) : Int)).toNat : Nat) : Int) - 1 = (k : Int) by omega]
      by_cases c : ok (k : Int) t = true
      · rw [if_pos c]
      · rw [wl_no c, Int.zero_mul, Int.zero_mul]
    have e2 : smF (fun t => Wl F ok M R b k t * onF F ok R D n (n - (k : Int)).toNat t) 5461 = smF (fun t => Wl F ok M R b k t * smF (fun a => if M (k : Int) a = true then onF F ok R D n (n - ((k + 1 : Nat) : Int)).toNat (F a t) else 0) R.toNat) 5461 := sm_cg (fun t _ _ => e1 t)
    rw [e2, ← ww_sum hF hR]
    refine sm_cg (fun t t0 t1 => ?_)
    show (if ok ((k : Int) + 1) t = true then wW F (M (k : Int)) R (Wl F ok M R b k) t else 0) * _ = _
    by_cases c : ok ((k : Int) + 1) t = true
    · rw [if_pos c]
    · rw [if_neg c, Int.zero_mul, on_no (L := (k : Int) + 1) c (by omega) (by omega) (by omega), Int.mul_zero]
theorem sme_b {a c : Int} (ha : 0 < a ∧ a ≤ 1953125) (hc : 0 ≤ c ∧ c ≤ 12) : 0 ≤ a * c ∧ a * c ≤ 12 * a := by
  have h1 := Int.mul_nonneg (show 0 ≤ a by omega) hc.1
  have h2 := Int.mul_le_mul_of_nonneg_left hc.2 (show 0 ≤ a by omega)
  omega
theorem sme_k {w x : Int → Int} {st en : Int} (hw : ∀ i : Int, st ≤ i → i < en → 0 < w i ∧ w i ≤ 1953125) (hx : ∀ i : Int, st ≤ i → i < en → 0 ≤ x i ∧ x i ≤ 12) : ∀ k : Nat, st + (k : Int) ≤ en → 0 ≤ smN (fun j => w j * x j) st k ∧ smN (fun j => w j * x j) st k ≤ 12 * smN w st k
  | 0, _ => ⟨Int.le_refl _, Int.le_refl _⟩
  | k + 1, h => by
    have ih := sme_k hw hx k (by omega)
    have hb := sme_b (hw (st + (k : Int)) (by omega) (by omega)) (hx (st + (k : Int)) (by omega) (by omega))
    show 0 ≤ smN (fun j => w j * x j) st k + w (st + (k : Int)) * x (st + (k : Int)) ∧ smN (fun j => w j * x j) st k + w (st + (k : Int)) * x (st + (k : Int)) ≤ 12 * (smN w st k + w (st + (k : Int)))
    omega
theorem sme_s {g4 g5 : Nat → Int32} {st en i : Int} (hw : ∀ i : Int, st ≤ i → i < en → 0 < tBy g4 i ∧ tBy g4 i ≤ 1953125) (hx : ∀ i : Int, st ≤ i → i < en → 0 ≤ tBy g5 i ∧ tBy g5 i ≤ 12) (hs : smN (fun j => tBy g4 j) st (en - st).toNat ≤ 1953125) (i0 : st ≤ i) (i1 : i < en) : smN (fun j => tBy g4 j * tBy g5 j) st (i + 1 - st).toNat = smN (fun j => tBy g4 j * tBy g5 j) st (i - st).toNat + tBy g4 i * tBy g5 i ∧ 0 ≤ smN (fun j => tBy g4 j * tBy g5 j) st (i - st).toNat + tBy g4 i * tBy g5 i ∧ smN (fun j => tBy g4 j * tBy g5 j) st (i - st).toNat + tBy g4 i * tBy g5 i ≤ 23437500 := by
  have e := smN_s (w := fun j => tBy g4 j * tBy g5 j) i0
  (try dsimp only at e)
  have h := sme_k (w := fun j => tBy g4 j) (x := fun j => tBy g5 j) hw hx (i + 1 - st).toNat (by omega)
  have m := smN_m (w := fun j => tBy g4 j) (st := st) (mid := en) (fun i a b => (hw i a b).1) (i + 1 - st).toNat (en - st).toNat (by omega) (by omega)
  (try dsimp only at h)
  rw [e] at h
  exact ⟨e, h.1, by omega⟩
/-! MEAN: its value. -/
noncomputable def saF (F : Int → Int → Int) (R : Int) (D : Int → Int) : Nat → Int → Int
  | 0 => D
  | k + 1 => fun t => smF (fun a => saF F R D k (F a t)) R.toNat
noncomputable def rPw (R : Int) : Nat → Int
  | 0 => 1
  | k + 1 => rPw R k * R
theorem sm_c {c : Int} : ∀ {k : Nat}, smF (fun _ => c) k = c * (k : Int)
  | 0 => (Int.mul_zero c).symm
  | k + 1 => by
    show smF (fun _ => c) k + c = c * ((k + 1 : Nat) : Int)
    rw [sm_c, show ((k + 1 : Nat) : Int) = (k : Int) + 1 by omega, Int.mul_add, Int.mul_one]
theorem sa_1 {F : Int → Int → Int} {R : Int} (hR : 0 ≤ R) : ∀ (k : Nat) (t : Int), saF F R (fun _ => 1) k t = rPw R k
  | 0, _ => rfl
  | k + 1, t => by
    show smF (fun a => saF F R (fun _ => 1) k (F a t)) R.toNat = rPw R k * R
    rw [sm_cg (g := fun _ => rPw R k) (fun a _ _ => sa_1 hR k (F a t)), sm_c, Int.toNat_of_nonneg hR]
theorem rp_b {R : Int} (hR : 0 ≤ R ∧ R ≤ 5) : ∀ k : Nat, 0 ≤ rPw R k ∧ rPw R k ≤ p5 k
  | 0 => ⟨(by decide : (0 : Int) ≤ 1), Int.le_refl _⟩
  | k + 1 => by
    have ih := rp_b hR k
    have h1 := Int.mul_nonneg ih.1 hR.1
    have h2 : rPw R k * R ≤ rPw R k * 5 := Int.mul_le_mul_of_nonneg_left hR.2 ih.1
    show 0 ≤ rPw R k * R ∧ rPw R k * R ≤ 5 * p5 k
    omega
theorem rp_p {R : Int} (hR : 1 ≤ R) : ∀ k : Nat, 0 < rPw R k
  | 0 => (by decide : (0 : Int) < 1)
  | k + 1 => Int.mul_pos (rp_p hR k) (by omega)
theorem sa_b {F : Int → Int → Int} {R C : Int} {D : Int → Int} (hF : FOK F R) (hR : 0 ≤ R ∧ R ≤ 5) (hC : 0 ≤ C) (hD : ∀ t : Int, 0 ≤ t → t ≤ 5460 → 0 ≤ D t ∧ D t ≤ C) : ∀ k : Nat, ∀ t : Int, 0 ≤ t → t ≤ 5460 → 0 ≤ saF F R D k t ∧ saF F R D k t ≤ C * p5 k
  | 0, t, t0, t1 => by
    rw [show C * p5 0 = C from Int.mul_one C]
    exact hD t t0 t1
  | k + 1, t, t0, t1 => by
    have e : C * p5 (k + 1) = 5 * (C * p5 k) := by
      show C * (5 * p5 k) = _
      rw [← Int.mul_assoc, Int.mul_comm C 5, Int.mul_assoc]
    rw [e]
    have ih : ∀ a : Int, 0 ≤ a → a < R → 0 ≤ saF F R D k (F a t) ∧ saF F R D k (F a t) ≤ C * p5 k := fun a a0 a1 => by
      have hm := hF a t a0 a1 t0 t1
      exact sa_b hF hR hC hD k _ hm.1 hm.2
    have hs : ∀ m : Nat, (m : Int) ≤ R → 0 ≤ smF (fun a => saF F R D k (F a t)) m ∧ smF (fun a => saF F R D k (F a t)) m ≤ C * p5 k * (m : Int) := fun m => by
      induction m with
      | zero =>
        intro _
        show (0 : Int) ≤ 0 ∧ (0 : Int) ≤ C * p5 k * 0
        omega
      | succ m im =>
        intro hm
        have i1 := im (by omega)
        have i2 := ih (m : Int) (by omega) (by omega)
        rw [show ((m + 1 : Nat) : Int) = (m : Int) + 1 by omega, Int.mul_add, Int.mul_one]
        show 0 ≤ smF (fun a => saF F R D k (F a t)) m + saF F R D k (F (m : Int) t) ∧ smF (fun a => saF F R D k (F a t)) m + saF F R D k (F (m : Int) t) ≤ _
        omega
    have h := hs R.toNat (by omega)
    have q5 : ∀ j : Nat, 0 ≤ p5 j := fun j => by
      induction j with
      | zero => exact (by decide : (0 : Int) ≤ 1)
      | succ j ij =>
        show 0 ≤ 5 * p5 j
        omega
    have p0 : 0 ≤ C * p5 k := Int.mul_nonneg hC (q5 k)
    have h2 : C * p5 k * (R.toNat : Int) ≤ C * p5 k * 5 := Int.mul_le_mul_of_nonneg_left (by omega) p0
    show 0 ≤ smF (fun a => saF F R D k (F a t)) R.toNat ∧ smF (fun a => saF F R D k (F a t)) R.toNat ≤ _
    omega
theorem on_sa {F : Int → Int → Int} {ok : Int → Int → Bool} {R n : Int} {D : Int → Int} (ho : ∀ L t : Int, 0 ≤ L → L ≤ 9 → ok L t = true) (hn : n ≤ 9) : ∀ (d : Nat) (t : Int), (d : Int) ≤ n → onF F ok R D n d t = saF F R D d t
  | 0, t, h => if_pos (ho n t (by omega) hn)
  | d + 1, t, h => by
    show (if ok (n - (d : Int) - 1) t = true then smF (fun a => onF F ok R D n d (F a t)) R.toNat else 0) = smF (fun a => saF F R D d (F a t)) R.toNat
    rw [if_pos (ho _ t (by omega) (by omega))]
    exact sm_cg (fun a _ _ => on_sa ho hn d (F a t) (by omega))
noncomputable def meaV (F : Int → Int → Int) (b R n u : Int) : Int := if (0 ≤ n ∧ n ≤ 9) ∧ (0 < n → R ≠ 0) then (if u = 0 then saF F R (fun t => dft t b) n.toNat b / gcI (rPw R n.toNat) (saF F R (fun t => dft t b) n.toNat b) else rPw R n.toNat / gcI (rPw R n.toNat) (saF F R (fun t => dft t b) n.toNat b)) else -1
theorem mea_n {F : Int → Int → Int} {b R n u : Int} (h : (n < 0 ∨ 9 < n) ∨ (0 < n ∧ R = 0)) : meaV F b R n u = -1 := if_neg (fun z => by
  rcases h with h | ⟨h, e⟩
  · omega
  · exact z.2 h e)
theorem mea_0 {F : Int → Int → Int} {b R n u : Int} (h1 : 0 ≤ n ∧ n ≤ 9) (h2 : 0 < n → R ≠ 0) (hu : u = 0) : meaV F b R n u = saF F R (fun t => dft t b) n.toNat b / gcI (rPw R n.toNat) (saF F R (fun t => dft t b) n.toNat b) := by
  unfold meaV
  rw [if_pos ⟨h1, h2⟩, if_pos hu]
theorem mea_1 {F : Int → Int → Int} {b R n u : Int} (h1 : 0 ≤ n ∧ n ≤ 9) (h2 : 0 < n → R ≠ 0) (hu : u ≠ 0) : meaV F b R n u = rPw R n.toNat / gcI (rPw R n.toNat) (saF F R (fun t => dft t b) n.toNat b) := by
  unfold meaV
  rw [if_pos ⟨h1, h2⟩, if_neg hu]
section MEA
variable {F : Int → Int → Int} {ok M : Int → Int → Bool} {R b n : Int} {gS T3 T4 T6 g5 : Nat → Int32}
theorem mea_w (hS : SPQ F ok M R b n.toNat gS T3 T4 T6) (h0 : 0 ≤ n) (hn : n ≤ 9) : smN (fun j => tBy T4 j) (tBy gS n) (tBy gS (n + 1) - tBy gS n).toNat ≤ 1953125 ∧ ∀ i : Int, tBy gS n ≤ i → i < tBy gS (n + 1) → 0 < tBy T4 i ∧ tBy T4 i ≤ 1953125 := by
  have hl := spq_l hS h0 (by omega)
  have hp := p5_bd n.toNat (by omega)
  have h1 := hl.2.2.2.2.2
  have hw : ∀ i : Int, tBy gS n ≤ i → i < tBy gS (n + 1) → 0 < tBy T4 i := fun i i0 i1 => by
    rw [hl.2.2.2.2.1 i i0 i1]
    exact (hl.2.2.2.1.2.1 i i0 i1).2
  refine ⟨by omega, fun i i0 i1 => ⟨hw i i0 i1, ?_⟩⟩
  have h2 := sm_1 (f := fun x => tBy T4 (tBy gS n + x)) (t := i - tBy gS n) (k := (tBy gS (n + 1) - tBy gS n).toNat) (fun t t0 t1 => by
    have := hw (tBy gS n + t) (by omega) (by omega)
    omega) (by omega) (by omega)
  (try dsimp only at h2)
  rw [show tBy gS n + (i - tBy gS n) = i by omega] at h2
  have h3 : smF (fun x => tBy T4 (tBy gS n + x)) (tBy gS (n + 1) - tBy gS n).toNat ≤ p5 n.toNat := h1
  omega
/-- a sum over the last level's places -/
theorem mea_s (hS : SPQ F ok M R b n.toNat gS T3 T4 T6) (h0 : 0 ≤ n) (hF : FOK F R) (hR : 0 ≤ R) (hn : n ≤ 9) (hM : ∀ L r : Int, 0 ≤ r → r < R → M L r = true) (hb : 0 ≤ b ∧ b ≤ 5460) {g : Int → Int} {D : Int → Int} (hg : ∀ i : Int, tBy gS n ≤ i → i < tBy gS (n + 1) → g i = D (tBy T3 i)) : smN (fun j => tBy T4 j * g j) (tBy gS n) (tBy gS (n + 1) - tBy gS n).toNat = onF F ok R D n n.toNat b := by
  have hl := spq_l hS h0 (by omega)
  have e1 := en_sum (g := fun t => Wl F ok M R b n.toNat t * D t) hl.2.2.2.1 (fun t t0 t1 hp => by
    have hw := hS.2.1 n.toNat (by omega) t
    have : Wl F ok M R b n.toNat t = 0 := by
      have hp : ¬ 0 < Wl F ok M R b n.toNat t := hp
      omega
    rw [this, Int.zero_mul])
  have e2 : smN (fun j => tBy T4 j * g j) (tBy gS n) (tBy gS (n + 1) - tBy gS n).toNat = smN (fun j => Wl F ok M R b n.toNat (tBy T3 j) * D (tBy T3 j)) (tBy gS n) (tBy gS (n + 1) - tBy gS n).toNat := smN_cg (fun j j0 j1 => by rw [hl.2.2.2.2.1 j j0 j1, hg j j0 j1])
  rw [e2]
  refine e1.trans ?_
  have h := on_k (ok := ok) (M := M) (D := D) hF hR hM hb n.toNat (show ((n.toNat : Nat) : Int) ≤ n by omega)
  rw [← h, Int.toNat_of_nonneg h0, show (n - n).toNat = 0 by omega]
  refine sm_cg (fun t t0 t1 => ?_)
  show _ = Wl F ok M R b n.toNat t * (if ok n t = true then D t else 0)
  by_cases c : ok n t = true
  · rw [if_pos c]
  · rw [wl_no (k := n.toNat) (by rw [Int.toNat_of_nonneg h0]; exact c), Int.zero_mul, Int.zero_mul]
end MEA
