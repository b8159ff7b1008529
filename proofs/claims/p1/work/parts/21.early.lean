/-! A FRESH OBJECT: the walks of the calls that end early; printed by a program, but for the first rows. -/
def zCw (t : zW) : zW := .inr (10, [.ref 1, .ref 7, .ref 8, .ref 9, .ref 12, .ref 13, .null, .null]) :: .inr (7, [.ref 2, .int 0, .int 0, .int (-1), .ref 3, .ref 4, .ref 5, .ref 6]) :: .inl (0, 600, .inl (fun _ => 0)) :: .inl (1, 3, .inl (fun _ => 0)) :: .inl (3, 2, .inr (.inr (.inr (.inr (fun _ => none))))) :: .inl (4, 2, .inr (.inr (.inr (.inr (fun _ => none))))) :: .inl (5, 2, .inr (.inr (.inr (.inr (fun _ => none))))) :: .inl (6, 3, .inr (.inr (.inr (.inr (fun _ => none))))) :: .inr (6, [.null, .int 0, .int 0, .int 0, .int 0, .int 0, .int 0, .int (-1)]) :: .inr (1, [.null, .int 0, .int 0, .int 0, .int 0, .ref 10, .ref 11]) :: .inl (1, 4, .inl (fun _ => 0)) :: .inl (1, 5, .inl (fun _ => 0)) :: .inl (7, 2, .inr (.inr (.inr (.inr (fun _ => none))))) :: .inl (8, 2, .inr (.inr (.inr (.inr (fun _ => none))))) :: t
def zMw (c0 c1 c2 c3 c4 c5 c6 c7 c8 c9 c10 c11 c12 c13 : va_E) (x0 x9 x10 x11 x12 x13 x15 x16 x17 x20 x21 x22 x23 x26 x28 x31 x32 x33 x38 x41 x44 : Int32) (x14 : Int64) (g15 g16 g17 g18 g20 g21 g22 g23 g24 g25 g26 g27 g28 g29 g30 g31 g32 g33 g34 g35 g36 g37 g38 g39 g40 g41 g42 g43 g44 : Nat → Int32) (t : zW) : zW := c0 :: c1 :: c2 :: c3 :: c4 :: c5 :: c6 :: c7 :: c8 :: c9 :: c10 :: c11 :: c12 :: c13 :: .inr (11, [.int x0, .ref 15, .ref 16, .ref 17, .ref 18, .ref 19, .ref 20, .ref 21, .ref 22, .int x9, .int x10, .int x11, .int x12, .int x13, .long x14, .int x15, .int x16, .int x17, .ref 23, .ref 24, .int x20, .int x21, .int x22, .int x23, .ref 25, .ref 26, .int x26, .ref 27, .int x28, .ref 28, .ref 29, .int x31, .int x32, .int x33, .ref 30, .ref 31, .ref 32, .ref 33, .int x38, .ref 34, .ref 35, .int x41, .ref 36, .ref 37, .int x44, .ref 38, .ref 39, .ref 40, .ref 41, .ref 42, .ref 43, .ref 44]) :: .inl (0, 2400, .inl g15) :: .inl (1, 4, .inl g16) :: .inl (1, 4, .inl g17) :: .inl (1, 4, .inl g18) :: .inl (1, 12, .inl (fun _ => 0)) :: .inl (1, 408, .inl g20) :: .inl (1, 968, .inl g21) :: .inl (1, 104, .inl g22) :: .inl (1, 121, .inl g23) :: .inl (1, 3, .inl g24) :: .inl (1, 7, .inl g25) :: .inl (1, 7, .inl g26) :: .inl (1, 49, .inl g27) :: .inl (1, 4, .inl g28) :: .inl (1, 5, .inl g29) :: .inl (1, 27305, .inl g30) :: .inl (1, 5461, .inl g31) :: .inl (1, 5461, .inl g32) :: .inl (1, 5461, .inl g33) :: .inl (1, 5461, .inl g34) :: .inl (1, 54610, .inl g35) :: .inl (1, 54610, .inl g36) :: .inl (1, 54610, .inl g37) :: .inl (1, 5461, .inl g38) :: .inl (1, 5461, .inl g39) :: .inl (1, 5461, .inl g40) :: .inl (1, 5461, .inl g41) :: .inl (1, 5461, .inl g42) :: .inl (1, 27305, .inl g43) :: .inl (2, 3, .inl g44) :: t
theorem zi_nn {k : Int32} (h0 : 0 ≤ k) (h1 : k ≤ 0 - 1) : False := by
  rw [Int32.le_iff_toInt_le] at h0 h1
  have e1 : (0 : Int32).toInt = 0 := rfl
  have e2 : ((0 : Int32) - 1).toInt = -1 := rfl
  omega
theorem r_bookAt (d : Nat) (a : Int32) (t : zW) (Q : zQ) (h : Q (some .null) (zCw t)) : zCl zTab (d + 1) iX11_bookAt [.ref 0, .int a] (zCw t) 0 0 Q := by
  refine zCl_i (M := kX11_bookAt) rfl (Nat.le_of_ble_eq_true rfl) fun R hR => ?_
  refine hR (?_ : R (_, _, _, _, _, _))
  refine hR (And.intro (fun hc1 => ?_) (fun hc1 => ?_))
  · iterate 2 refine hR (?_ : R (_, _, _, _, _, _))
    exact hR (zret_i rfl (Nat.le_refl _) trivial h)
  iterate 5 refine hR (?_ : R (_, _, _, _, _, _))
  refine hR (And.intro (by unfold vp_in; decide) ?_)
  refine hR (And.intro (fun hc2 => absurd hc2 hc1) (fun hc2 => ?_))
  iterate 2 refine hR (?_ : R (_, _, _, _, _, _))
  exact hR (zret_i rfl (Nat.le_refl _) trivial h)
theorem r_yearAt (d : Nat) (a : Int32) (t : zW) (Q : zQ) (h : Q (some .null) (zCw t)) : zCl zTab (d + 1) iX11_yearAt [.ref 0, .int a] (zCw t) 0 0 Q := by
  refine zCl_i (M := kX11_yearAt) rfl (Nat.le_of_ble_eq_true rfl) fun R hR => ?_
  refine hR (?_ : R (_, _, _, _, _, _))
  refine hR (And.intro (fun hc1 => ?_) (fun hc1 => ?_))
  · iterate 2 refine hR (?_ : R (_, _, _, _, _, _))
    exact hR (zret_i rfl (Nat.le_refl _) trivial h)
  iterate 5 refine hR (?_ : R (_, _, _, _, _, _))
  refine hR (And.intro (by unfold vp_in; decide) ?_)
  refine hR (And.intro (fun hc2 => absurd hc2 hc1) (fun hc2 => ?_))
  iterate 2 refine hR (?_ : R (_, _, _, _, _, _))
  exact hR (zret_i rfl (Nat.le_refl _) trivial h)
theorem r_sightAt (d : Nat) (a : Int32) (t : zW) (Q : zQ) (h : Q (some .null) (zCw t)) : zCl zTab (d + 1) iX11_sightAt [.ref 0, .int a] (zCw t) 0 0 Q := by
  refine zCl_i (M := kX11_sightAt) rfl (Nat.le_of_ble_eq_true rfl) fun R hR => ?_
  refine hR (?_ : R (_, _, _, _, _, _))
  refine hR (And.intro (fun hc1 => ?_) (fun hc1 => ?_))
  · iterate 2 refine hR (?_ : R (_, _, _, _, _, _))
    exact hR (zret_i rfl (Nat.le_refl _) trivial h)
  iterate 5 refine hR (?_ : R (_, _, _, _, _, _))
  refine hR (And.intro (by unfold vp_in; decide) ?_)
  refine hR (And.intro (fun hc2 => absurd hc2 hc1) (fun hc2 => ?_))
  iterate 2 refine hR (?_ : R (_, _, _, _, _, _))
  exact hR (zret_i rfl (Nat.le_refl _) trivial h)
theorem r_isWord (d : Nat) (n : Int32) (w : zW) (Q : zQ) (h1 : Q (some (.int (Int32.ofInt 1))) w) (h0 : Q (some (.int (Int32.ofInt 0))) w) : zCl zTab (d + 1) iX11_isWord [.int n] w 0 0 Q := by
  refine zCl_i (M := kX11_isWord) rfl (Nat.le_of_ble_eq_true rfl) fun R hR => ?_
  refine hR (?_ : R (_, _, _, _, _, _))
  refine hR (And.intro (fun hc1 => ?_) (fun hc1 => ?_))
  · refine hR (?_ : R (_, _, _, _, _, _))
    exact hR (zret_i rfl (Nat.le_refl _) (Or.inl rfl) h0)
  iterate 2 refine hR (?_ : R (_, _, _, _, _, _))
  refine hR (And.intro (fun hc2 => ?_) (fun hc2 => ?_))
  · refine hR (?_ : R (_, _, _, _, _, _))
    exact hR (zret_i rfl (Nat.le_refl _) (Or.inl rfl) h0)
  iterate 2 refine hR (?_ : R (_, _, _, _, _, _))
  exact hR (zret_i rfl (Nat.le_refl _) (Or.inr rfl) h1)
theorem r_isSpan (d : Nat) (n : Int32) (w : zW) (Q : zQ) (h1 : Q (some (.int (Int32.ofInt 1))) w) (h0 : Q (some (.int (Int32.ofInt 0))) w) : zCl zTab (d + 1) iX11_isSpan [.int n] w 0 0 Q := by
  refine zCl_i (M := kX11_isSpan) rfl (Nat.le_of_ble_eq_true rfl) fun R hR => ?_
  refine hR (?_ : R (_, _, _, _, _, _))
  refine hR (And.intro (fun hc1 => ?_) (fun hc1 => ?_))
  · skip
    refine hR (?_ : R (_, _, _, _, _, _))
    exact hR (zret_i rfl (Nat.le_refl _) (Or.inl rfl) (h0))
  · skip
    iterate 2 refine hR (?_ : R (_, _, _, _, _, _))
    refine hR (And.intro (fun hc2 => ?_) (fun hc2 => ?_))
    · skip
      refine hR (?_ : R (_, _, _, _, _, _))
      exact hR (zret_i rfl (Nat.le_refl _) (Or.inl rfl) (h0))
    · skip
      iterate 2 refine hR (?_ : R (_, _, _, _, _, _))
      exact hR (zret_i rfl (Nat.le_refl _) (Or.inr rfl) (h1))
theorem r_readingsAt (d : Nat) (a : Int32) (t : zW) (Q : zQ) (h : Q (some .null) (zCw t)) : zCl zTab (d + 2) iX11_readingsAt [.ref 0, .int a] (zCw t) 0 0 Q := by
  refine zCl_i (M := kX11_readingsAt) rfl (Nat.le_of_ble_eq_true rfl) fun R hR => ?_
  iterate 2 refine hR (?_ : R (_, _, _, _, _, _))
  refine hR (zcall_i 0 0 (Nat.le_of_ble_eq_true rfl) (Nat.le_of_ble_eq_true rfl) (r_bookAt _ _ _ _ ?_))
  iterate 4 refine hR (?_ : R (_, _, _, _, _, _))
  exact hR (zret_i rfl (Nat.le_refl _) (trivial) (h))
theorem r_book (d : Nat) (p0 p1 : Int32) (t : zW) (Q : zQ) (h : Q (some (.int (Int32.ofInt (-1)))) (zCw t)) : zCl zTab (d + 3) iX11_book [.ref 0, .int p0, .int p1] (zCw t) 0 0 Q := by
  refine zCl_i (M := kX11_book) rfl (Nat.le_of_ble_eq_true rfl) fun R hR => ?_
  iterate 2 refine hR (?_ : R (_, _, _, _, _, _))
  refine hR (zcall_i 0 0 (Nat.le_of_ble_eq_true rfl) (Nat.le_of_ble_eq_true rfl) (r_bookAt _ _ _ _ ?_))
  iterate 5 refine hR (?_ : R (_, _, _, _, _, _))
  exact hR (zret_i rfl (Nat.le_refl _) (trivial) (h))
theorem r_read (d : Nat) (p0 p1 p2 : Int32) (t : zW) (Q : zQ) (h : Q (some (.int (Int32.ofInt (-1)))) (zCw t)) : zCl zTab (d + 3) iX11_read [.ref 0, .int p0, .int p1, .int p2] (zCw t) 0 0 Q := by
  refine zCl_i (M := kX11_read) rfl (Nat.le_of_ble_eq_true rfl) fun R hR => ?_
  iterate 2 refine hR (?_ : R (_, _, _, _, _, _))
  refine hR (zcall_i 0 0 (Nat.le_of_ble_eq_true rfl) (Nat.le_of_ble_eq_true rfl) (r_bookAt _ _ _ _ ?_))
  iterate 4 refine hR (?_ : R (_, _, _, _, _, _))
  exact hR (zret_i rfl (Nat.le_refl _) (trivial) (h))
theorem r_deed (d : Nat) (p0 p1 p2 : Int32) (t : zW) (Q : zQ) (h : Q (some (.int (Int32.ofInt (-2)))) (zCw t)) : zCl zTab (d + 3) iX11_deed [.ref 0, .int p0, .int p1, .int p2] (zCw t) 0 0 Q := by
  refine zCl_i (M := kX11_deed) rfl (Nat.le_of_ble_eq_true rfl) fun R hR => ?_
  iterate 2 refine hR (?_ : R (_, _, _, _, _, _))
  refine hR (zcall_i 0 0 (Nat.le_of_ble_eq_true rfl) (Nat.le_of_ble_eq_true rfl) (r_yearAt _ _ _ _ ?_))
  iterate 5 refine hR (?_ : R (_, _, _, _, _, _))
  exact hR (zret_i rfl (Nat.le_refl _) (trivial) (h))
theorem r_stop (d : Nat) (p0 p1 : Int32) (t : zW) (Q : zQ) (h : Q (some (.int (Int32.ofInt (-1)))) (zCw t)) : zCl zTab (d + 3) iX11_stop [.ref 0, .int p0, .int p1] (zCw t) 0 0 Q := by
  refine zCl_i (M := kX11_stop) rfl (Nat.le_of_ble_eq_true rfl) fun R hR => ?_
  iterate 2 refine hR (?_ : R (_, _, _, _, _, _))
  refine hR (zcall_i 0 0 (Nat.le_of_ble_eq_true rfl) (Nat.le_of_ble_eq_true rfl) (r_bookAt _ _ _ _ ?_))
  iterate 3 refine hR (?_ : R (_, _, _, _, _, _))
  refine hR (zcall_i 0 0 (Nat.le_of_ble_eq_true rfl) (Nat.le_of_ble_eq_true rfl) (r_yearAt _ _ _ _ ?_))
  iterate 4 refine hR (?_ : R (_, _, _, _, _, _))
  exact hR (zret_i rfl (Nat.le_refl _) (trivial) (h))
theorem r_state (d : Nat) (p0 p1 p2 p3 : Int32) (t : zW) (Q : zQ) (h : Q (some (.int (Int32.ofInt (-2)))) (zCw t)) : zCl zTab (d + 3) iX11_state [.ref 0, .int p0, .int p1, .int p2, .int p3] (zCw t) 0 0 Q := by
  refine zCl_i (M := kX11_state) rfl (Nat.le_of_ble_eq_true rfl) fun R hR => ?_
  iterate 2 refine hR (?_ : R (_, _, _, _, _, _))
  refine hR (zcall_i 0 0 (Nat.le_of_ble_eq_true rfl) (Nat.le_of_ble_eq_true rfl) (r_bookAt _ _ _ _ ?_))
  iterate 3 refine hR (?_ : R (_, _, _, _, _, _))
  refine hR (zcall_i 0 0 (Nat.le_of_ble_eq_true rfl) (Nat.le_of_ble_eq_true rfl) (r_yearAt _ _ _ _ ?_))
  iterate 4 refine hR (?_ : R (_, _, _, _, _, _))
  exact hR (zret_i rfl (Nat.le_refl _) (trivial) (h))
theorem r_making (d : Nat) (p0 p1 p2 p3 : Int32) (t : zW) (Q : zQ) (h : Q (some (.int (Int32.ofInt (-1)))) (zCw t)) : zCl zTab (d + 3) iX11_making [.ref 0, .int p0, .int p1, .int p2, .int p3] (zCw t) 0 0 Q := by
  refine zCl_i (M := kX11_making) rfl (Nat.le_of_ble_eq_true rfl) fun R hR => ?_
  iterate 2 refine hR (?_ : R (_, _, _, _, _, _))
  refine hR (zcall_i 0 0 (Nat.le_of_ble_eq_true rfl) (Nat.le_of_ble_eq_true rfl) (r_readingsAt _ _ _ _ ?_))
  iterate 4 refine hR (?_ : R (_, _, _, _, _, _))
  exact hR (zret_i rfl (Nat.le_refl _) (trivial) (h))
theorem r_ring (d : Nat) (p0 p1 : Int32) (t : zW) (Q : zQ) (h : Q (some (.int (Int32.ofInt (-1)))) (zCw t)) : zCl zTab (d + 3) iX11_ring [.ref 0, .int p0, .int p1] (zCw t) 0 0 Q := by
  refine zCl_i (M := kX11_ring) rfl (Nat.le_of_ble_eq_true rfl) fun R hR => ?_
  iterate 2 refine hR (?_ : R (_, _, _, _, _, _))
  refine hR (zcall_i 0 0 (Nat.le_of_ble_eq_true rfl) (Nat.le_of_ble_eq_true rfl) (r_readingsAt _ _ _ _ ?_))
  iterate 4 refine hR (?_ : R (_, _, _, _, _, _))
  exact hR (zret_i rfl (Nat.le_refl _) (trivial) (h))
theorem r_reach (d : Nat) (p0 p1 p2 : Int32) (t : zW) (Q : zQ) (h : Q (some (.int (Int32.ofInt (-1)))) (zCw t)) : zCl zTab (d + 3) iX11_reach [.ref 0, .int p0, .int p1, .int p2] (zCw t) 0 0 Q := by
  refine zCl_i (M := kX11_reach) rfl (Nat.le_of_ble_eq_true rfl) fun R hR => ?_
  iterate 2 refine hR (?_ : R (_, _, _, _, _, _))
  refine hR (zcall_i 0 0 (Nat.le_of_ble_eq_true rfl) (Nat.le_of_ble_eq_true rfl) (r_readingsAt _ _ _ _ ?_))
  iterate 4 refine hR (?_ : R (_, _, _, _, _, _))
  exact hR (zret_i rfl (Nat.le_refl _) (trivial) (h))
theorem r_sound (d : Nat) (p0 p1 : Int32) (t : zW) (Q : zQ) (h : Q (some (.int (Int32.ofInt (-1)))) (zCw t)) : zCl zTab (d + 3) iX11_sound [.ref 0, .int p0, .int p1] (zCw t) 0 0 Q := by
  refine zCl_i (M := kX11_sound) rfl (Nat.le_of_ble_eq_true rfl) fun R hR => ?_
  iterate 2 refine hR (?_ : R (_, _, _, _, _, _))
  refine hR (zcall_i 0 0 (Nat.le_of_ble_eq_true rfl) (Nat.le_of_ble_eq_true rfl) (r_readingsAt _ _ _ _ ?_))
  iterate 5 refine hR (?_ : R (_, _, _, _, _, _))
  exact hR (zret_i rfl (Nat.le_refl _) (trivial) (h))
theorem r_like (d : Nat) (p0 p1 p2 : Int32) (t : zW) (Q : zQ) (h : Q (some (.int (Int32.ofInt (-1)))) (zCw t)) : zCl zTab (d + 3) iX11_like [.ref 0, .int p0, .int p1, .int p2] (zCw t) 0 0 Q := by
  refine zCl_i (M := kX11_like) rfl (Nat.le_of_ble_eq_true rfl) fun R hR => ?_
  iterate 2 refine hR (?_ : R (_, _, _, _, _, _))
  refine hR (zcall_i 0 0 (Nat.le_of_ble_eq_true rfl) (Nat.le_of_ble_eq_true rfl) (r_readingsAt _ _ _ _ ?_))
  iterate 4 refine hR (?_ : R (_, _, _, _, _, _))
  exact hR (zret_i rfl (Nat.le_refl _) (trivial) (h))
theorem r_orbits (d : Nat) (p0 p1 p2 : Int32) (t : zW) (Q : zQ) (h : Q (some (.int (Int32.ofInt (-1)))) (zCw t)) : zCl zTab (d + 3) iX11_orbits [.ref 0, .int p0, .int p1, .int p2] (zCw t) 0 0 Q := by
  refine zCl_i (M := kX11_orbits) rfl (Nat.le_of_ble_eq_true rfl) fun R hR => ?_
  iterate 2 refine hR (?_ : R (_, _, _, _, _, _))
  refine hR (zcall_i 0 0 (Nat.le_of_ble_eq_true rfl) (Nat.le_of_ble_eq_true rfl) (r_readingsAt _ _ _ _ ?_))
  iterate 4 refine hR (?_ : R (_, _, _, _, _, _))
  exact hR (zret_i rfl (Nat.le_refl _) (trivial) (h))
theorem r_rota (d : Nat) (p0 p1 p2 : Int32) (t : zW) (Q : zQ) (h : Q (some (.int (Int32.ofInt (-1)))) (zCw t)) : zCl zTab (d + 3) iX11_rota [.ref 0, .int p0, .int p1, .int p2] (zCw t) 0 0 Q := by
  refine zCl_i (M := kX11_rota) rfl (Nat.le_of_ble_eq_true rfl) fun R hR => ?_
  iterate 2 refine hR (?_ : R (_, _, _, _, _, _))
  refine hR (zcall_i 0 0 (Nat.le_of_ble_eq_true rfl) (Nat.le_of_ble_eq_true rfl) (r_readingsAt _ _ _ _ ?_))
  iterate 4 refine hR (?_ : R (_, _, _, _, _, _))
  exact hR (zret_i rfl (Nat.le_refl _) (trivial) (h))
theorem r_mean (d : Nat) (p0 p1 p2 : Int32) (t : zW) (Q : zQ) (h : Q (some (.long (Int64.ofNat 18446744073709551615))) (zCw t)) : zCl zTab (d + 3) iX11_mean [.ref 0, .int p0, .int p1, .int p2] (zCw t) 0 0 Q := by
  refine zCl_i (M := kX11_mean) rfl (Nat.le_of_ble_eq_true rfl) fun R hR => ?_
  iterate 2 refine hR (?_ : R (_, _, _, _, _, _))
  refine hR (zcall_i 0 0 (Nat.le_of_ble_eq_true rfl) (Nat.le_of_ble_eq_true rfl) (r_readingsAt _ _ _ _ ?_))
  iterate 4 refine hR (?_ : R (_, _, _, _, _, _))
  exact hR (zret_i rfl (Nat.le_refl _) (trivial) (h))
theorem r_elders (d : Nat) (p0 p1 p2 p3 : Int32) (t : zW) (Q : zQ) (h : Q (some (.int (Int32.ofInt (-2)))) (zCw t)) : zCl zTab (d + 3) iX11_elders [.ref 0, .int p0, .int p1, .int p2, .int p3] (zCw t) 0 0 Q := by
  refine zCl_i (M := kX11_elders) rfl (Nat.le_of_ble_eq_true rfl) fun R hR => ?_
  iterate 2 refine hR (?_ : R (_, _, _, _, _, _))
  refine hR (zcall_i 0 0 (Nat.le_of_ble_eq_true rfl) (Nat.le_of_ble_eq_true rfl) (r_readingsAt _ _ _ _ ?_))
  iterate 4 refine hR (?_ : R (_, _, _, _, _, _))
  exact hR (zret_i rfl (Nat.le_refl _) (trivial) (h))
theorem r_play (d : Nat) (p0 p1 p2 p3 p4 p5 : Int32) (t : zW) (Q : zQ) (h : Q (some (.int (Int32.ofInt (-1)))) (zCw t)) : zCl zTab (d + 3) iX11_play [.ref 0, .int p0, .int p1, .int p2, .int p3, .int p4, .int p5] (zCw t) 0 0 Q := by
  refine zCl_i (M := kX11_play) rfl (Nat.le_of_ble_eq_true rfl) fun R hR => ?_
  iterate 2 refine hR (?_ : R (_, _, _, _, _, _))
  refine hR (zcall_i 0 0 (Nat.le_of_ble_eq_true rfl) (Nat.le_of_ble_eq_true rfl) (r_readingsAt _ _ _ _ ?_))
  iterate 4 refine hR (?_ : R (_, _, _, _, _, _))
  exact hR (zret_i rfl (Nat.le_refl _) (trivial) (h))
theorem r_fact (d : Nat) (p0 p1 p2 : Int32) (t : zW) (Q : zQ) (h : Q (some (.int (Int32.ofInt (-2)))) (zCw t)) : zCl zTab (d + 3) iX11_fact [.ref 0, .int p0, .int p1, .int p2] (zCw t) 0 0 Q := by
  refine zCl_i (M := kX11_fact) rfl (Nat.le_of_ble_eq_true rfl) fun R hR => ?_
  iterate 2 refine hR (?_ : R (_, _, _, _, _, _))
  refine hR (zcall_i 0 0 (Nat.le_of_ble_eq_true rfl) (Nat.le_of_ble_eq_true rfl) (r_sightAt _ _ _ _ ?_))
  iterate 5 refine hR (?_ : R (_, _, _, _, _, _))
  exact hR (zret_i rfl (Nat.le_refl _) (trivial) (h))
theorem r_fits (d : Nat) (p0 p1 p2 p3 : Int32) (t : zW) (Q : zQ) (h : Q (some (.int (Int32.ofInt (-1)))) (zCw t)) : zCl zTab (d + 3) iX11_fits [.ref 0, .int p0, .int p1, .int p2, .int p3] (zCw t) 0 0 Q := by
  refine zCl_i (M := kX11_fits) rfl (Nat.le_of_ble_eq_true rfl) fun R hR => ?_
  iterate 2 refine hR (?_ : R (_, _, _, _, _, _))
  refine hR (zcall_i 0 0 (Nat.le_of_ble_eq_true rfl) (Nat.le_of_ble_eq_true rfl) (r_readingsAt _ _ _ _ ?_))
  iterate 3 refine hR (?_ : R (_, _, _, _, _, _))
  refine hR (zcall_i 0 0 (Nat.le_of_ble_eq_true rfl) (Nat.le_of_ble_eq_true rfl) (r_sightAt _ _ _ _ ?_))
  iterate 4 refine hR (?_ : R (_, _, _, _, _, _))
  exact hR (zret_i rfl (Nat.le_refl _) (trivial) (h))
theorem r_sure (d : Nat) (p0 p1 p2 p3 : Int32) (t : zW) (Q : zQ) (h : Q (some (.int (Int32.ofInt (-1)))) (zCw t)) : zCl zTab (d + 3) iX11_sure [.ref 0, .int p0, .int p1, .int p2, .int p3] (zCw t) 0 0 Q := by
  refine zCl_i (M := kX11_sure) rfl (Nat.le_of_ble_eq_true rfl) fun R hR => ?_
  iterate 2 refine hR (?_ : R (_, _, _, _, _, _))
  refine hR (zcall_i 0 0 (Nat.le_of_ble_eq_true rfl) (Nat.le_of_ble_eq_true rfl) (r_readingsAt _ _ _ _ ?_))
  iterate 3 refine hR (?_ : R (_, _, _, _, _, _))
  refine hR (zcall_i 0 0 (Nat.le_of_ble_eq_true rfl) (Nat.le_of_ble_eq_true rfl) (r_sightAt _ _ _ _ ?_))
  iterate 4 refine hR (?_ : R (_, _, _, _, _, _))
  exact hR (zret_i rfl (Nat.le_refl _) (trivial) (h))
theorem r_drawn (d : Nat) (p0 p1 p2 p3 : Int32) (t : zW) (Q : zQ) (h : Q (some (.int (Int32.ofInt (-2)))) (zCw t)) : zCl zTab (d + 3) iX11_drawn [.ref 0, .int p0, .int p1, .int p2, .int p3] (zCw t) 0 0 Q := by
  refine zCl_i (M := kX11_drawn) rfl (Nat.le_of_ble_eq_true rfl) fun R hR => ?_
  iterate 2 refine hR (?_ : R (_, _, _, _, _, _))
  refine hR (zcall_i 0 0 (Nat.le_of_ble_eq_true rfl) (Nat.le_of_ble_eq_true rfl) (r_bookAt _ _ _ _ ?_))
  iterate 4 refine hR (?_ : R (_, _, _, _, _, _))
  exact hR (zret_i rfl (Nat.le_refl _) (trivial) (h))
theorem r_kinship (d : Nat) (p0 p1 p2 : Int32) (t : zW) (Q : zQ) (h : Q (some (.int (Int32.ofInt (-1)))) (zCw t)) : zCl zTab (d + 3) iX11_kinship [.ref 0, .int p0, .int p1, .int p2] (zCw t) 0 0 Q := by
  refine zCl_i (M := kX11_kinship) rfl (Nat.le_of_ble_eq_true rfl) fun R hR => ?_
  iterate 2 refine hR (?_ : R (_, _, _, _, _, _))
  refine hR (zcall_i 0 0 (Nat.le_of_ble_eq_true rfl) (Nat.le_of_ble_eq_true rfl) (r_bookAt _ _ _ _ ?_))
  iterate 4 refine hR (?_ : R (_, _, _, _, _, _))
  exact hR (zret_i rfl (Nat.le_refl _) (trivial) (h))
theorem r_joined (d : Nat) (p0 p1 p2 p3 : Int32) (t : zW) (Q : zQ) (h : Q (some (.int (Int32.ofInt (-1)))) (zCw t)) : zCl zTab (d + 3) iX11_joined [.ref 0, .int p0, .int p1, .int p2, .int p3] (zCw t) 0 0 Q := by
  refine zCl_i (M := kX11_joined) rfl (Nat.le_of_ble_eq_true rfl) fun R hR => ?_
  iterate 2 refine hR (?_ : R (_, _, _, _, _, _))
  refine hR (zcall_i 0 0 (Nat.le_of_ble_eq_true rfl) (Nat.le_of_ble_eq_true rfl) (r_readingsAt _ _ _ _ ?_))
  iterate 4 refine hR (?_ : R (_, _, _, _, _, _))
  exact hR (zret_i rfl (Nat.le_refl _) (trivial) (h))
theorem r_nearest (d : Nat) (p0 p1 p2 p3 : Int32) (t : zW) (Q : zQ) (h : Q (some (.int (Int32.ofInt (-1)))) (zCw t)) : zCl zTab (d + 3) iX11_nearest [.ref 0, .int p0, .int p1, .int p2, .int p3] (zCw t) 0 0 Q := by
  refine zCl_i (M := kX11_nearest) rfl (Nat.le_of_ble_eq_true rfl) fun R hR => ?_
  iterate 2 refine hR (?_ : R (_, _, _, _, _, _))
  refine hR (zcall_i 0 0 (Nat.le_of_ble_eq_true rfl) (Nat.le_of_ble_eq_true rfl) (r_readingsAt _ _ _ _ ?_))
  iterate 4 refine hR (?_ : R (_, _, _, _, _, _))
  exact hR (zret_i rfl (Nat.le_refl _) (trivial) (h))
theorem r_settles (d : Nat) (p0 p1 p2 : Int32) (t : zW) (Q : zQ) (h : Q (some (.int (Int32.ofInt (-1)))) (zCw t)) : zCl zTab (d + 3) iX11_settles [.ref 0, .int p0, .int p1, .int p2] (zCw t) 0 0 Q := by
  refine zCl_i (M := kX11_settles) rfl (Nat.le_of_ble_eq_true rfl) fun R hR => ?_
  iterate 2 refine hR (?_ : R (_, _, _, _, _, _))
  refine hR (zcall_i 0 0 (Nat.le_of_ble_eq_true rfl) (Nat.le_of_ble_eq_true rfl) (r_readingsAt _ _ _ _ ?_))
  iterate 4 refine hR (?_ : R (_, _, _, _, _, _))
  exact hR (zret_i rfl (Nat.le_refl _) (trivial) (h))
theorem r_unmade (d : Nat) (p0 p1 : Int32) (t : zW) (Q : zQ) (h : Q (some (.int (Int32.ofInt (-2)))) (zCw t)) : zCl zTab (d + 3) iX11_unmade [.ref 0, .int p0, .int p1] (zCw t) 0 0 Q := by
  refine zCl_i (M := kX11_unmade) rfl (Nat.le_of_ble_eq_true rfl) fun R hR => ?_
  iterate 2 refine hR (?_ : R (_, _, _, _, _, _))
  refine hR (zcall_i 0 0 (Nat.le_of_ble_eq_true rfl) (Nat.le_of_ble_eq_true rfl) (r_readingsAt _ _ _ _ ?_))
  iterate 4 refine hR (?_ : R (_, _, _, _, _, _))
  exact hR (zret_i rfl (Nat.le_refl _) (trivial) (h))
theorem r_silenced (d : Nat) (p0 p1 p2 : Int32) (t : zW) (Q : zQ) (h : Q (some (.int (Int32.ofInt (-1)))) (zCw t)) : zCl zTab (d + 3) iX11_silenced [.ref 0, .int p0, .int p1, .int p2] (zCw t) 0 0 Q := by
  refine zCl_i (M := kX11_silenced) rfl (Nat.le_of_ble_eq_true rfl) fun R hR => ?_
  iterate 2 refine hR (?_ : R (_, _, _, _, _, _))
  refine hR (zcall_i 0 0 (Nat.le_of_ble_eq_true rfl) (Nat.le_of_ble_eq_true rfl) (r_readingsAt _ _ _ _ ?_))
  iterate 4 refine hR (?_ : R (_, _, _, _, _, _))
  exact hR (zret_i rfl (Nat.le_refl _) (trivial) (h))
theorem r_circles (d : Nat) (p0 p1 : Int32) (t : zW) (Q : zQ) (h : Q (some (.int (Int32.ofInt (-1)))) (zCw t)) : zCl zTab (d + 3) iX11_circles [.ref 0, .int p0, .int p1] (zCw t) 0 0 Q := by
  refine zCl_i (M := kX11_circles) rfl (Nat.le_of_ble_eq_true rfl) fun R hR => ?_
  iterate 2 refine hR (?_ : R (_, _, _, _, _, _))
  refine hR (zcall_i 0 0 (Nat.le_of_ble_eq_true rfl) (Nat.le_of_ble_eq_true rfl) (r_readingsAt _ _ _ _ ?_))
  iterate 4 refine hR (?_ : R (_, _, _, _, _, _))
  exact hR (zret_i rfl (Nat.le_refl _) (trivial) (h))
theorem m_in (d : Nat) (v a b : Int32) (w : zW) (Q : zQ) (h1 : ¬ v < a → v ≤ b → Q (some (.int (Int32.ofInt 1))) w) (h0 : v < a ∨ b < v → Q (some (.int (Int32.ofInt 0))) w) : zCl zTab (d + 1) iX12_in [.int v, .int a, .int b] w 0 0 Q := by
  refine zCl_i (M := kX12_in) rfl (Nat.le_of_ble_eq_true rfl) fun R hR => ?_
  iterate 2 refine hR (?_ : R (_, _, _, _, _, _))
  refine hR (And.intro (fun hc1 => ?_) (fun hc1 => ?_))
  · refine hR (?_ : R (_, _, _, _, _, _))
    exact hR (zret_i rfl (Nat.le_refl _) (Or.inl rfl) (h0 (Or.inl hc1)))
  iterate 2 refine hR (?_ : R (_, _, _, _, _, _))
  refine hR (And.intro (fun hc2 => ?_) (fun hc2 => ?_))
  · refine hR (?_ : R (_, _, _, _, _, _))
    exact hR (zret_i rfl (Nat.le_refl _) (Or.inl rfl) (h0 (Or.inr hc2)))
  iterate 2 refine hR (?_ : R (_, _, _, _, _, _))
  exact hR (zret_i rfl (Nat.le_refl _) (Or.inr rfl) (h1 hc1 (Int32.not_lt.mp hc2)))
theorem zi_5460 {n : Int32} (h : n ≤ (Int16.ofInt 5460).toInt32) : n < 5461 := by
  rw [Int32.le_iff_toInt_le] at h
  rw [Int32.lt_iff_toInt_lt]
  have e1 : (Int16.ofInt 5460).toInt32.toInt = 5460 := by decide
  have e2 : (5461 : Int32).toInt = 5461 := by decide
  omega
theorem zi_5461 {n : Int32} (h : (Int16.ofInt 5460).toInt32 < n) : 5461 ≤ n := by
  rw [Int32.lt_iff_toInt_lt] at h
  rw [Int32.le_iff_toInt_le]
  have e1 : (Int16.ofInt 5460).toInt32.toInt = 5460 := by decide
  have e2 : (5461 : Int32).toInt = 5461 := by decide
  omega
theorem zi_nn2 {k : Int32} (h0 : ¬ k < Int32.ofInt 0) (h1 : k ≤ (0 : Int32) - Int32.ofInt 1) : False := by
  rw [Int32.not_lt, Int32.le_iff_toInt_le] at h0
  rw [Int32.le_iff_toInt_le] at h1
  have e1 : (Int32.ofInt 0).toInt = 0 := by decide
  have e2 : ((0 : Int32) - Int32.ofInt 1).toInt = -1 := by decide
  omega
theorem m_isText (d : Nat) (n : Int32) (w : zW) (Q : zQ) (h1 : ¬ n < 0 → n < 5461 → Q (some (.int (Int32.ofInt 1))) w) (h0 : n < 0 ∨ 5461 ≤ n → Q (some (.int (Int32.ofInt 0))) w) : zCl zTab (d + 2) iX12_isText [.int n] w 0 0 Q := by
  refine zCl_i (M := kX12_isText) rfl (Nat.le_of_ble_eq_true rfl) fun R hR => ?_
  iterate 3 refine hR (?_ : R (_, _, _, _, _, _))
  refine hR (zcall_i 0 0 (Nat.le_of_ble_eq_true rfl) (Nat.le_of_ble_eq_true rfl) (m_in _ _ _ _ _ _ (fun q1 q2 => ?_) (fun q => ?_)))
  · exact hR (zret_i rfl (Nat.le_refl _) (Or.inr rfl) (h1 q1 (zi_5460 q2)))
  · exact hR (zret_i rfl (Nat.le_refl _) (Or.inl rfl) (h0 (q.imp id zi_5461)))
theorem m_is {c0 c1 c2 c3 c4 c5 c6 c7 c8 c9 c10 c11 c12 c13 : va_E} {x0 x9 x10 x11 x12 x13 x15 x16 x17 x20 x21 x22 x23 x26 x28 x31 x32 x33 x38 x41 x44 : Int32} {x14 : Int64} {g15 g16 g17 g18 g20 g21 g22 g23 g24 g25 g26 g27 g28 g29 g30 g31 g32 g33 g34 g35 g36 g37 g38 g39 g40 g41 g42 g43 g44 : Nat → Int32} {t : zW} (d : Nat) (a k : Int32) (Q : zQ) (ha : vp_in a 12) (h : Q (some (.int (Int32.ofInt 0))) (zMw c0 c1 c2 c3 c4 c5 c6 c7 c8 c9 c10 c11 c12 c13 x0 x9 x10 x11 x12 x13 x15 x16 x17 x20 x21 x22 x23 x26 x28 x31 x32 x33 x38 x41 x44 x14 g15 g16 g17 g18 g20 g21 g22 g23 g24 g25 g26 g27 g28 g29 g30 g31 g32 g33 g34 g35 g36 g37 g38 g39 g40 g41 g42 g43 g44 t)) : zCl zTab (d + 2) iX12_is [.ref 14, .int a, .int k] (zMw c0 c1 c2 c3 c4 c5 c6 c7 c8 c9 c10 c11 c12 c13 x0 x9 x10 x11 x12 x13 x15 x16 x17 x20 x21 x22 x23 x26 x28 x31 x32 x33 x38 x41 x44 x14 g15 g16 g17 g18 g20 g21 g22 g23 g24 g25 g26 g27 g28 g29 g30 g31 g32 g33 g34 g35 g36 g37 g38 g39 g40 g41 g42 g43 g44 t) 0 0 Q := by
  refine zCl_i (M := kX12_is) rfl (Nat.le_of_ble_eq_true rfl) fun R hR => ?_
  iterate 5 refine hR (?_ : R (_, _, _, _, _, _))
  refine hR (And.intro ha ?_)
  iterate 2 refine hR (?_ : R (_, _, _, _, _, _))
  refine hR (zcall_i 0 0 (Nat.le_of_ble_eq_true rfl) (Nat.le_of_ble_eq_true rfl) (m_in _ _ _ _ _ _ (fun q1 q2 => (zi_nn2 q1 q2).elim) (fun q => ?_)))
  exact hR (zret_i rfl (Nat.le_refl _) (Or.inl rfl) h)
theorem m_hand {c0 c1 c2 c3 c4 c5 c6 c7 c8 c9 c10 c11 c12 c13 : va_E} {x0 x9 x10 x11 x12 x13 x15 x16 x17 x20 x21 x22 x23 x26 x28 x31 x32 x33 x38 x41 x44 : Int32} {x14 : Int64} {g15 g16 g17 g18 g20 g21 g22 g23 g24 g25 g26 g27 g28 g29 g30 g31 g32 g33 g34 g35 g36 g37 g38 g39 g40 g41 g42 g43 g44 : Nat → Int32} {t : zW} (d : Nat) (k : Int32) (Q : zQ) (h : Q (some (.int (Int32.ofInt 0))) (zMw c0 c1 c2 c3 c4 c5 c6 c7 c8 c9 c10 c11 c12 c13 x0 x9 x10 x11 x12 x13 x15 x16 x17 x20 x21 x22 x23 x26 x28 x31 x32 x33 x38 x41 x44 x14 g15 g16 g17 g18 g20 g21 g22 g23 g24 g25 g26 g27 g28 g29 g30 g31 g32 g33 g34 g35 g36 g37 g38 g39 g40 g41 g42 g43 g44 t)) : zCl zTab (d + 3) iX12_hand [.ref 14, .int k] (zMw c0 c1 c2 c3 c4 c5 c6 c7 c8 c9 c10 c11 c12 c13 x0 x9 x10 x11 x12 x13 x15 x16 x17 x20 x21 x22 x23 x26 x28 x31 x32 x33 x38 x41 x44 x14 g15 g16 g17 g18 g20 g21 g22 g23 g24 g25 g26 g27 g28 g29 g30 g31 g32 g33 g34 g35 g36 g37 g38 g39 g40 g41 g42 g43 g44 t) 0 0 Q := by
  refine zCl_i (M := kX12_hand) rfl (Nat.le_of_ble_eq_true rfl) fun R hR => ?_
  iterate 3 refine hR (?_ : R (_, _, _, _, _, _))
  refine hR (zcall_i 0 0 (Nat.le_of_ble_eq_true rfl) (Nat.le_of_ble_eq_true rfl) (m_is _ _ _ _ (by unfold vp_in; decide) ?_))
  refine hR (And.intro (fun hc => absurd (by decide) hc) (fun _ => ?_))
  refine hR (?_ : R (_, _, _, _, _, _))
  exact hR (zret_i rfl (Nat.le_refl _) (Or.inl rfl) (h))
theorem m_hasYear {c0 c1 c2 c3 c4 c5 c6 c7 c8 c9 c10 c11 c12 c13 : va_E} {x0 x9 x10 x11 x12 x13 x15 x16 x17 x20 x21 x22 x23 x26 x28 x31 x32 x33 x38 x41 x44 : Int32} {x14 : Int64} {g15 g16 g17 g18 g20 g21 g22 g23 g24 g25 g26 g27 g28 g29 g30 g31 g32 g33 g34 g35 g36 g37 g38 g39 g40 g41 g42 g43 g44 : Nat → Int32} {t : zW} (d : Nat) (k : Int32) (Q : zQ) (h : Q (some (.int (Int32.ofInt 0))) (zMw c0 c1 c2 c3 c4 c5 c6 c7 c8 c9 c10 c11 c12 c13 x0 x9 x10 x11 x12 x13 x15 x16 x17 x20 x21 x22 x23 x26 k x31 x32 x33 x38 x41 x44 x14 g15 g16 g17 g18 g20 g21 g22 g23 g24 g25 g26 g27 g28 g29 g30 g31 g32 g33 g34 g35 g36 g37 g38 g39 g40 g41 g42 g43 g44 t)) : zCl zTab (d + 3) iX12_hasYear [.ref 14, .int k] (zMw c0 c1 c2 c3 c4 c5 c6 c7 c8 c9 c10 c11 c12 c13 x0 x9 x10 x11 x12 x13 x15 x16 x17 x20 x21 x22 x23 x26 x28 x31 x32 x33 x38 x41 x44 x14 g15 g16 g17 g18 g20 g21 g22 g23 g24 g25 g26 g27 g28 g29 g30 g31 g32 g33 g34 g35 g36 g37 g38 g39 g40 g41 g42 g43 g44 t) 0 0 Q := by
  refine zCl_i (M := kX12_hasYear) rfl (Nat.le_of_ble_eq_true rfl) fun R hR => ?_
  iterate 6 refine hR (?_ : R (_, _, _, _, _, _))
  refine hR (zcall_i 0 0 (Nat.le_of_ble_eq_true rfl) (Nat.le_of_ble_eq_true rfl) (m_is _ _ _ _ (by unfold vp_in; decide) ?_))
  exact hR (zret_i rfl (Nat.le_refl _) (Or.inl rfl) (h))
theorem m_hasSight {c0 c1 c2 c3 c4 c5 c6 c7 c8 c9 c10 c11 c12 c13 : va_E} {x0 x9 x10 x11 x12 x13 x15 x16 x17 x20 x21 x22 x23 x26 x28 x31 x32 x33 x38 x41 x44 : Int32} {x14 : Int64} {g15 g16 g17 g18 g20 g21 g22 g23 g24 g25 g26 g27 g28 g29 g30 g31 g32 g33 g34 g35 g36 g37 g38 g39 g40 g41 g42 g43 g44 : Nat → Int32} {t : zW} (d : Nat) (k : Int32) (Q : zQ) (h : Q (some (.int (Int32.ofInt 0))) (zMw c0 c1 c2 c3 c4 c5 c6 c7 c8 c9 c10 c11 c12 c13 x0 x9 x10 x11 x12 x13 x15 x16 x17 x20 x21 x22 x23 x26 x28 x31 x32 x33 x38 k x44 x14 g15 g16 g17 g18 g20 g21 g22 g23 g24 g25 g26 g27 g28 g29 g30 g31 g32 g33 g34 g35 g36 g37 g38 g39 g40 g41 g42 g43 g44 t)) : zCl zTab (d + 3) iX12_hasSight [.ref 14, .int k] (zMw c0 c1 c2 c3 c4 c5 c6 c7 c8 c9 c10 c11 c12 c13 x0 x9 x10 x11 x12 x13 x15 x16 x17 x20 x21 x22 x23 x26 x28 x31 x32 x33 x38 x41 x44 x14 g15 g16 g17 g18 g20 g21 g22 g23 g24 g25 g26 g27 g28 g29 g30 g31 g32 g33 g34 g35 g36 g37 g38 g39 g40 g41 g42 g43 g44 t) 0 0 Q := by
  refine zCl_i (M := kX12_hasSight) rfl (Nat.le_of_ble_eq_true rfl) fun R hR => ?_
  iterate 6 refine hR (?_ : R (_, _, _, _, _, _))
  refine hR (zcall_i 0 0 (Nat.le_of_ble_eq_true rfl) (Nat.le_of_ble_eq_true rfl) (m_is _ _ _ _ (by unfold vp_in; decide) ?_))
  exact hR (zret_i rfl (Nat.le_refl _) (Or.inl rfl) (h))
theorem m_handAll {c0 c1 c2 c3 c4 c5 c6 c7 c8 c9 c10 c11 c12 c13 : va_E} {x0 x9 x10 x11 x12 x13 x15 x16 x17 x20 x21 x22 x23 x26 x28 x31 x32 x33 x38 x41 x44 : Int32} {x14 : Int64} {g15 g16 g17 g18 g20 g21 g22 g23 g24 g25 g26 g27 g28 g29 g30 g31 g32 g33 g34 g35 g36 g37 g38 g39 g40 g41 g42 g43 g44 : Nat → Int32} {t : zW} (d : Nat) (k : Int32) (Q : zQ) (h : Q (some (.int (Int32.ofInt 0))) (zMw c0 c1 c2 c3 c4 c5 c6 c7 c8 c9 c10 c11 c12 c13 x0 x9 x10 x11 x12 x13 x15 x16 x17 x20 x21 x22 x23 x26 x28 x31 x32 x33 x38 x41 x44 x14 g15 g16 g17 g18 g20 g21 g22 g23 g24 g25 g26 g27 g28 g29 g30 g31 g32 g33 g34 g35 g36 g37 g38 g39 g40 g41 g42 g43 g44 t)) : zCl zTab (d + 4) iX12_handAll [.ref 14, .int k] (zMw c0 c1 c2 c3 c4 c5 c6 c7 c8 c9 c10 c11 c12 c13 x0 x9 x10 x11 x12 x13 x15 x16 x17 x20 x21 x22 x23 x26 x28 x31 x32 x33 x38 x41 x44 x14 g15 g16 g17 g18 g20 g21 g22 g23 g24 g25 g26 g27 g28 g29 g30 g31 g32 g33 g34 g35 g36 g37 g38 g39 g40 g41 g42 g43 g44 t) 0 0 Q := by
  refine zCl_i (M := kX12_handAll) rfl (Nat.le_of_ble_eq_true rfl) fun R hR => ?_
  iterate 2 refine hR (?_ : R (_, _, _, _, _, _))
  refine hR (zcall_i 0 0 (Nat.le_of_ble_eq_true rfl) (Nat.le_of_ble_eq_true rfl) (m_hand _ _ _ ?_))
  refine hR (And.intro (fun hc => absurd (by decide) hc) (fun _ => ?_))
  refine hR (?_ : R (_, _, _, _, _, _))
  exact hR (zret_i rfl (Nat.le_refl _) (Or.inl rfl) (h))
theorem m_layAll {c0 c1 c2 c3 c4 c5 c6 c7 c8 c9 c10 c11 c12 c13 : va_E} {x0 x9 x10 x11 x12 x13 x15 x16 x17 x20 x21 x22 x23 x26 x28 x31 x32 x33 x38 x41 x44 : Int32} {x14 : Int64} {g15 g16 g17 g18 g20 g21 g22 g23 g24 g25 g26 g27 g28 g29 g30 g31 g32 g33 g34 g35 g36 g37 g38 g39 g40 g41 g42 g43 g44 : Nat → Int32} {t : zW} (d : Nat) (k l : Int32) (Q : zQ) (h : ∀ w, Q (some (.int (Int32.ofInt 0))) w) : zCl zTab (d + 4) iX12_layAll [.ref 14, .int k, .int l] (zMw c0 c1 c2 c3 c4 c5 c6 c7 c8 c9 c10 c11 c12 c13 x0 x9 x10 x11 x12 x13 x15 x16 x17 x20 x21 x22 x23 x26 x28 x31 x32 x33 x38 x41 x44 x14 g15 g16 g17 g18 g20 g21 g22 g23 g24 g25 g26 g27 g28 g29 g30 g31 g32 g33 g34 g35 g36 g37 g38 g39 g40 g41 g42 g43 g44 t) 0 0 Q := by
  refine zCl_i (M := kX12_layAll) rfl (Nat.le_of_ble_eq_true rfl) fun R hR => ?_
  iterate 2 refine hR (?_ : R (_, _, _, _, _, _))
  refine hR (zcall_i 0 0 (Nat.le_of_ble_eq_true rfl) (Nat.le_of_ble_eq_true rfl) (m_hasYear _ _ _ ?_))
  refine hR (And.intro (fun _ => ?_) (fun hc => absurd (by decide) hc))
  refine hR (?_ : R (_, _, _, _, _, _))
  exact hR (zret_i rfl (Nat.le_refl _) (Or.inl rfl) (h _))
theorem m_book {c0 c1 c2 c3 c4 c5 c6 c7 c8 c9 c10 c11 c12 c13 : va_E} {x0 x9 x10 x11 x12 x13 x15 x16 x17 x20 x21 x22 x23 x26 x28 x31 x32 x33 x38 x41 x44 : Int32} {x14 : Int64} {g15 g16 g17 g18 g20 g21 g22 g23 g24 g25 g26 g27 g28 g29 g30 g31 g32 g33 g34 g35 g36 g37 g38 g39 g40 g41 g42 g43 g44 : Nat → Int32} {t : zW} (d : Nat) (p0 p1 : Int32) (Q : zQ) (h : ∀ w, Q (some (.int (Int32.ofInt (-1)))) w) : zCl zTab (d + 5) iX12_book [.ref 14, .int p0, .int p1] (zMw c0 c1 c2 c3 c4 c5 c6 c7 c8 c9 c10 c11 c12 c13 x0 x9 x10 x11 x12 x13 x15 x16 x17 x20 x21 x22 x23 x26 x28 x31 x32 x33 x38 x41 x44 x14 g15 g16 g17 g18 g20 g21 g22 g23 g24 g25 g26 g27 g28 g29 g30 g31 g32 g33 g34 g35 g36 g37 g38 g39 g40 g41 g42 g43 g44 t) 0 0 Q := by
  refine zCl_i (M := kX12_book) rfl (Nat.le_of_ble_eq_true rfl) fun R hR => ?_
  iterate 5 refine hR (?_ : R (_, _, _, _, _, _))
  refine hR (zcall_i 0 0 (Nat.le_of_ble_eq_true rfl) (Nat.le_of_ble_eq_true rfl) (m_hand _ _ _ ?_))
  refine hR (And.intro (fun hc => absurd (by decide) hc) (fun _ => ?_))
  refine hR (?_ : R (_, _, _, _, _, _))
  exact hR (zret_i rfl (Nat.le_refl _) (trivial) (h _))
theorem m_read {c0 c1 c2 c3 c4 c5 c6 c7 c8 c9 c10 c11 c12 c13 : va_E} {x0 x9 x10 x11 x12 x13 x15 x16 x17 x20 x21 x22 x23 x26 x28 x31 x32 x33 x38 x41 x44 : Int32} {x14 : Int64} {g15 g16 g17 g18 g20 g21 g22 g23 g24 g25 g26 g27 g28 g29 g30 g31 g32 g33 g34 g35 g36 g37 g38 g39 g40 g41 g42 g43 g44 : Nat → Int32} {t : zW} (d : Nat) (p0 p1 p2 : Int32) (Q : zQ) (h : ∀ w, Q (some (.int (Int32.ofInt (-1)))) w) : zCl zTab (d + 5) iX12_read [.ref 14, .int p0, .int p1, .int p2] (zMw c0 c1 c2 c3 c4 c5 c6 c7 c8 c9 c10 c11 c12 c13 x0 x9 x10 x11 x12 x13 x15 x16 x17 x20 x21 x22 x23 x26 x28 x31 x32 x33 x38 x41 x44 x14 g15 g16 g17 g18 g20 g21 g22 g23 g24 g25 g26 g27 g28 g29 g30 g31 g32 g33 g34 g35 g36 g37 g38 g39 g40 g41 g42 g43 g44 t) 0 0 Q := by
  refine zCl_i (M := kX12_read) rfl (Nat.le_of_ble_eq_true rfl) fun R hR => ?_
  iterate 5 refine hR (?_ : R (_, _, _, _, _, _))
  refine hR (zcall_i 0 0 (Nat.le_of_ble_eq_true rfl) (Nat.le_of_ble_eq_true rfl) (m_hand _ _ _ ?_))
  refine hR (And.intro (fun _ => ?_) (fun hc => absurd (by decide) hc))
  refine hR (?_ : R (_, _, _, _, _, _))
  exact hR (zret_i rfl (Nat.le_refl _) (trivial) (h _))
theorem m_deed {c0 c1 c2 c3 c4 c5 c6 c7 c8 c9 c10 c11 c12 c13 : va_E} {x0 x9 x10 x11 x12 x13 x15 x16 x17 x20 x21 x22 x23 x26 x28 x31 x32 x33 x38 x41 x44 : Int32} {x14 : Int64} {g15 g16 g17 g18 g20 g21 g22 g23 g24 g25 g26 g27 g28 g29 g30 g31 g32 g33 g34 g35 g36 g37 g38 g39 g40 g41 g42 g43 g44 : Nat → Int32} {t : zW} (d : Nat) (p0 p1 p2 : Int32) (Q : zQ) (h : ∀ w, Q (some (.int (Int32.ofInt (-2)))) w) : zCl zTab (d + 5) iX12_deed [.ref 14, .int p0, .int p1, .int p2] (zMw c0 c1 c2 c3 c4 c5 c6 c7 c8 c9 c10 c11 c12 c13 x0 x9 x10 x11 x12 x13 x15 x16 x17 x20 x21 x22 x23 x26 x28 x31 x32 x33 x38 x41 x44 x14 g15 g16 g17 g18 g20 g21 g22 g23 g24 g25 g26 g27 g28 g29 g30 g31 g32 g33 g34 g35 g36 g37 g38 g39 g40 g41 g42 g43 g44 t) 0 0 Q := by
  refine zCl_i (M := kX12_deed) rfl (Nat.le_of_ble_eq_true rfl) fun R hR => ?_
  iterate 5 refine hR (?_ : R (_, _, _, _, _, _))
  refine hR (zcall_i 0 0 (Nat.le_of_ble_eq_true rfl) (Nat.le_of_ble_eq_true rfl) (m_hasYear _ _ _ ?_))
  refine hR (And.intro (fun hc => absurd (by decide) hc) (fun _ => ?_))
  refine hR (?_ : R (_, _, _, _, _, _))
  exact hR (zret_i rfl (Nat.le_refl _) (trivial) (h _))
theorem m_stop {c0 c1 c2 c3 c4 c5 c6 c7 c8 c9 c10 c11 c12 c13 : va_E} {x0 x9 x10 x11 x12 x13 x15 x16 x17 x20 x21 x22 x23 x26 x28 x31 x32 x33 x38 x41 x44 : Int32} {x14 : Int64} {g15 g16 g17 g18 g20 g21 g22 g23 g24 g25 g26 g27 g28 g29 g30 g31 g32 g33 g34 g35 g36 g37 g38 g39 g40 g41 g42 g43 g44 : Nat → Int32} {t : zW} (d : Nat) (p0 p1 : Int32) (Q : zQ) (h : ∀ w, Q (some (.int (Int32.ofInt (-1)))) w) : zCl zTab (d + 5) iX12_stop [.ref 14, .int p0, .int p1] (zMw c0 c1 c2 c3 c4 c5 c6 c7 c8 c9 c10 c11 c12 c13 x0 x9 x10 x11 x12 x13 x15 x16 x17 x20 x21 x22 x23 x26 x28 x31 x32 x33 x38 x41 x44 x14 g15 g16 g17 g18 g20 g21 g22 g23 g24 g25 g26 g27 g28 g29 g30 g31 g32 g33 g34 g35 g36 g37 g38 g39 g40 g41 g42 g43 g44 t) 0 0 Q := by
  refine zCl_i (M := kX12_stop) rfl (Nat.le_of_ble_eq_true rfl) fun R hR => ?_
  iterate 6 refine hR (?_ : R (_, _, _, _, _, _))
  refine hR (zcall_i 0 0 (Nat.le_of_ble_eq_true rfl) (Nat.le_of_ble_eq_true rfl) (m_layAll _ _ _ _ (fun _ => ?_)))
  refine hR (And.intro (fun _ => ?_) (fun hc => absurd (by decide) hc))
  refine hR (?_ : R (_, _, _, _, _, _))
  exact hR (zret_i rfl (Nat.le_refl _) (trivial) (h _))
theorem m_state {c0 c1 c2 c3 c4 c5 c6 c7 c8 c9 c10 c11 c12 c13 : va_E} {x0 x9 x10 x11 x12 x13 x15 x16 x17 x20 x21 x22 x23 x26 x28 x31 x32 x33 x38 x41 x44 : Int32} {x14 : Int64} {g15 g16 g17 g18 g20 g21 g22 g23 g24 g25 g26 g27 g28 g29 g30 g31 g32 g33 g34 g35 g36 g37 g38 g39 g40 g41 g42 g43 g44 : Nat → Int32} {t : zW} (d : Nat) (p0 p1 p2 p3 : Int32) (Q : zQ) (h : ∀ w, Q (some (.int (Int32.ofInt (-2)))) w) : zCl zTab (d + 5) iX12_state [.ref 14, .int p0, .int p1, .int p2, .int p3] (zMw c0 c1 c2 c3 c4 c5 c6 c7 c8 c9 c10 c11 c12 c13 x0 x9 x10 x11 x12 x13 x15 x16 x17 x20 x21 x22 x23 x26 x28 x31 x32 x33 x38 x41 x44 x14 g15 g16 g17 g18 g20 g21 g22 g23 g24 g25 g26 g27 g28 g29 g30 g31 g32 g33 g34 g35 g36 g37 g38 g39 g40 g41 g42 g43 g44 t) 0 0 Q := by
  refine zCl_i (M := kX12_state) rfl (Nat.le_of_ble_eq_true rfl) fun R hR => ?_
  iterate 6 refine hR (?_ : R (_, _, _, _, _, _))
  refine hR (zcall_i 0 0 (Nat.le_of_ble_eq_true rfl) (Nat.le_of_ble_eq_true rfl) (m_layAll _ _ _ _ (fun _ => ?_)))
  refine hR (And.intro (fun _ => ?_) (fun hc => absurd (by decide) hc))
  refine hR (?_ : R (_, _, _, _, _, _))
  exact hR (zret_i rfl (Nat.le_refl _) (trivial) (h _))
theorem m_making {c0 c1 c2 c3 c4 c5 c6 c7 c8 c9 c10 c11 c12 c13 : va_E} {x0 x9 x10 x11 x12 x13 x15 x16 x17 x20 x21 x22 x23 x26 x28 x31 x32 x33 x38 x41 x44 : Int32} {x14 : Int64} {g15 g16 g17 g18 g20 g21 g22 g23 g24 g25 g26 g27 g28 g29 g30 g31 g32 g33 g34 g35 g36 g37 g38 g39 g40 g41 g42 g43 g44 : Nat → Int32} {t : zW} (d : Nat) (p0 p1 p2 p3 : Int32) (Q : zQ) (h : ∀ w, Q (some (.int (Int32.ofInt (-1)))) w) : zCl zTab (d + 5) iX12_making [.ref 14, .int p0, .int p1, .int p2, .int p3] (zMw c0 c1 c2 c3 c4 c5 c6 c7 c8 c9 c10 c11 c12 c13 x0 x9 x10 x11 x12 x13 x15 x16 x17 x20 x21 x22 x23 x26 x28 x31 x32 x33 x38 x41 x44 x14 g15 g16 g17 g18 g20 g21 g22 g23 g24 g25 g26 g27 g28 g29 g30 g31 g32 g33 g34 g35 g36 g37 g38 g39 g40 g41 g42 g43 g44 t) 0 0 Q := by
  refine zCl_i (M := kX12_making) rfl (Nat.le_of_ble_eq_true rfl) fun R hR => ?_
  iterate 4 refine hR (?_ : R (_, _, _, _, _, _))
  refine hR (zcall_i 0 0 (Nat.le_of_ble_eq_true rfl) (Nat.le_of_ble_eq_true rfl) (m_isText _ _ _ _ (fun _ _ => ?_) (fun _ => ?_)))
  · skip
    refine hR (And.intro (fun hc => absurd hc (by decide)) (fun _ => ?_))
    refine hR (?_ : R (_, _, _, _, _, _))
    refine hR (zcall_i 0 0 (Nat.le_of_ble_eq_true rfl) (Nat.le_of_ble_eq_true rfl) (m_isText _ _ _ _ (fun _ _ => ?_) (fun _ => ?_)))
    · skip
      refine hR (And.intro (fun hc => absurd hc (by decide)) (fun _ => ?_))
      iterate 2 refine hR (?_ : R (_, _, _, _, _, _))
      refine hR (zcall_i 0 0 (Nat.le_of_ble_eq_true rfl) (Nat.le_of_ble_eq_true rfl) (m_handAll _ _ _ ?_))
      refine hR (And.intro (fun hc => absurd (by decide) hc) (fun _ => ?_))
      refine hR (?_ : R (_, _, _, _, _, _))
      exact hR (zret_i rfl (Nat.le_refl _) (trivial) (h _))
    · skip
      refine hR (And.intro (fun _ => ?_) (fun hc => absurd (by decide) hc))
      refine hR (?_ : R (_, _, _, _, _, _))
      exact hR (zret_i rfl (Nat.le_refl _) (trivial) (h _))
  · skip
    refine hR (And.intro (fun _ => ?_) (fun hc => absurd (by decide) hc))
    refine hR (?_ : R (_, _, _, _, _, _))
    exact hR (zret_i rfl (Nat.le_refl _) (trivial) (h _))
theorem m_ring {c0 c1 c2 c3 c4 c5 c6 c7 c8 c9 c10 c11 c12 c13 : va_E} {x0 x9 x10 x11 x12 x13 x15 x16 x17 x20 x21 x22 x23 x26 x28 x31 x32 x33 x38 x41 x44 : Int32} {x14 : Int64} {g15 g16 g17 g18 g20 g21 g22 g23 g24 g25 g26 g27 g28 g29 g30 g31 g32 g33 g34 g35 g36 g37 g38 g39 g40 g41 g42 g43 g44 : Nat → Int32} {t : zW} (d : Nat) (p0 p1 : Int32) (Q : zQ) (h : ∀ w, Q (some (.int (Int32.ofInt (-1)))) w) : zCl zTab (d + 5) iX12_ring [.ref 14, .int p0, .int p1] (zMw c0 c1 c2 c3 c4 c5 c6 c7 c8 c9 c10 c11 c12 c13 x0 x9 x10 x11 x12 x13 x15 x16 x17 x20 x21 x22 x23 x26 x28 x31 x32 x33 x38 x41 x44 x14 g15 g16 g17 g18 g20 g21 g22 g23 g24 g25 g26 g27 g28 g29 g30 g31 g32 g33 g34 g35 g36 g37 g38 g39 g40 g41 g42 g43 g44 t) 0 0 Q := by
  refine zCl_i (M := kX12_ring) rfl (Nat.le_of_ble_eq_true rfl) fun R hR => ?_
  iterate 4 refine hR (?_ : R (_, _, _, _, _, _))
  refine hR (zcall_i 0 0 (Nat.le_of_ble_eq_true rfl) (Nat.le_of_ble_eq_true rfl) (m_isText _ _ _ _ (fun _ _ => ?_) (fun _ => ?_)))
  · skip
    refine hR (And.intro (fun hc => absurd hc (by decide)) (fun _ => ?_))
    iterate 2 refine hR (?_ : R (_, _, _, _, _, _))
    refine hR (zcall_i 0 0 (Nat.le_of_ble_eq_true rfl) (Nat.le_of_ble_eq_true rfl) (m_handAll _ _ _ ?_))
    refine hR (And.intro (fun hc => absurd (by decide) hc) (fun _ => ?_))
    refine hR (?_ : R (_, _, _, _, _, _))
    exact hR (zret_i rfl (Nat.le_refl _) (trivial) (h _))
  · skip
    refine hR (And.intro (fun _ => ?_) (fun hc => absurd (by decide) hc))
    refine hR (?_ : R (_, _, _, _, _, _))
    exact hR (zret_i rfl (Nat.le_refl _) (trivial) (h _))
theorem m_reach {c0 c1 c2 c3 c4 c5 c6 c7 c8 c9 c10 c11 c12 c13 : va_E} {x0 x9 x10 x11 x12 x13 x15 x16 x17 x20 x21 x22 x23 x26 x28 x31 x32 x33 x38 x41 x44 : Int32} {x14 : Int64} {g15 g16 g17 g18 g20 g21 g22 g23 g24 g25 g26 g27 g28 g29 g30 g31 g32 g33 g34 g35 g36 g37 g38 g39 g40 g41 g42 g43 g44 : Nat → Int32} {t : zW} (d : Nat) (p0 p1 p2 : Int32) (Q : zQ) (h : ∀ w, Q (some (.int (Int32.ofInt (-1)))) w) : zCl zTab (d + 5) iX12_reach [.ref 14, .int p0, .int p1, .int p2] (zMw c0 c1 c2 c3 c4 c5 c6 c7 c8 c9 c10 c11 c12 c13 x0 x9 x10 x11 x12 x13 x15 x16 x17 x20 x21 x22 x23 x26 x28 x31 x32 x33 x38 x41 x44 x14 g15 g16 g17 g18 g20 g21 g22 g23 g24 g25 g26 g27 g28 g29 g30 g31 g32 g33 g34 g35 g36 g37 g38 g39 g40 g41 g42 g43 g44 t) 0 0 Q := by
  refine zCl_i (M := kX12_reach) rfl (Nat.le_of_ble_eq_true rfl) fun R hR => ?_
  iterate 4 refine hR (?_ : R (_, _, _, _, _, _))
  refine hR (zcall_i 0 0 (Nat.le_of_ble_eq_true rfl) (Nat.le_of_ble_eq_true rfl) (m_isText _ _ _ _ (fun _ _ => ?_) (fun _ => ?_)))
  · skip
    refine hR (And.intro (fun hc => absurd hc (by decide)) (fun _ => ?_))
    iterate 2 refine hR (?_ : R (_, _, _, _, _, _))
    refine hR (zcall_i 0 0 (Nat.le_of_ble_eq_true rfl) (Nat.le_of_ble_eq_true rfl) (m_handAll _ _ _ ?_))
    refine hR (And.intro (fun hc => absurd (by decide) hc) (fun _ => ?_))
    refine hR (?_ : R (_, _, _, _, _, _))
    exact hR (zret_i rfl (Nat.le_refl _) (trivial) (h _))
  · skip
    refine hR (And.intro (fun _ => ?_) (fun hc => absurd (by decide) hc))
    refine hR (?_ : R (_, _, _, _, _, _))
    exact hR (zret_i rfl (Nat.le_refl _) (trivial) (h _))
theorem m_sound {c0 c1 c2 c3 c4 c5 c6 c7 c8 c9 c10 c11 c12 c13 : va_E} {x0 x9 x10 x11 x12 x13 x15 x16 x17 x20 x21 x22 x23 x26 x28 x31 x32 x33 x38 x41 x44 : Int32} {x14 : Int64} {g15 g16 g17 g18 g20 g21 g22 g23 g24 g25 g26 g27 g28 g29 g30 g31 g32 g33 g34 g35 g36 g37 g38 g39 g40 g41 g42 g43 g44 : Nat → Int32} {t : zW} (d : Nat) (p0 p1 : Int32) (Q : zQ) (h : ∀ w, Q (some (.int (Int32.ofInt (-1)))) w) : zCl zTab (d + 5) iX12_sound [.ref 14, .int p0, .int p1] (zMw c0 c1 c2 c3 c4 c5 c6 c7 c8 c9 c10 c11 c12 c13 x0 x9 x10 x11 x12 x13 x15 x16 x17 x20 x21 x22 x23 x26 x28 x31 x32 x33 x38 x41 x44 x14 g15 g16 g17 g18 g20 g21 g22 g23 g24 g25 g26 g27 g28 g29 g30 g31 g32 g33 g34 g35 g36 g37 g38 g39 g40 g41 g42 g43 g44 t) 0 0 Q := by
  refine zCl_i (M := kX12_sound) rfl (Nat.le_of_ble_eq_true rfl) fun R hR => ?_
  iterate 5 refine hR (?_ : R (_, _, _, _, _, _))
  refine hR (zcall_i 0 0 (Nat.le_of_ble_eq_true rfl) (Nat.le_of_ble_eq_true rfl) (m_hand _ _ _ ?_))
  refine hR (And.intro (fun _ => ?_) (fun hc => absurd (by decide) hc))
  refine hR (?_ : R (_, _, _, _, _, _))
  exact hR (zret_i rfl (Nat.le_refl _) (trivial) (h _))
theorem m_like {c0 c1 c2 c3 c4 c5 c6 c7 c8 c9 c10 c11 c12 c13 : va_E} {x0 x9 x10 x11 x12 x13 x15 x16 x17 x20 x21 x22 x23 x26 x28 x31 x32 x33 x38 x41 x44 : Int32} {x14 : Int64} {g15 g16 g17 g18 g20 g21 g22 g23 g24 g25 g26 g27 g28 g29 g30 g31 g32 g33 g34 g35 g36 g37 g38 g39 g40 g41 g42 g43 g44 : Nat → Int32} {t : zW} (d : Nat) (p0 p1 p2 : Int32) (Q : zQ) (h : ∀ w, Q (some (.int (Int32.ofInt (-1)))) w) : zCl zTab (d + 5) iX12_like [.ref 14, .int p0, .int p1, .int p2] (zMw c0 c1 c2 c3 c4 c5 c6 c7 c8 c9 c10 c11 c12 c13 x0 x9 x10 x11 x12 x13 x15 x16 x17 x20 x21 x22 x23 x26 x28 x31 x32 x33 x38 x41 x44 x14 g15 g16 g17 g18 g20 g21 g22 g23 g24 g25 g26 g27 g28 g29 g30 g31 g32 g33 g34 g35 g36 g37 g38 g39 g40 g41 g42 g43 g44 t) 0 0 Q := by
  refine zCl_i (M := kX12_like) rfl (Nat.le_of_ble_eq_true rfl) fun R hR => ?_
  iterate 5 refine hR (?_ : R (_, _, _, _, _, _))
  refine hR (zcall_i 0 0 (Nat.le_of_ble_eq_true rfl) (Nat.le_of_ble_eq_true rfl) (m_hand _ _ _ ?_))
  refine hR (And.intro (fun _ => ?_) (fun hc => absurd (by decide) hc))
  refine hR (?_ : R (_, _, _, _, _, _))
  exact hR (zret_i rfl (Nat.le_refl _) (trivial) (h _))
theorem m_orbits {c0 c1 c2 c3 c4 c5 c6 c7 c8 c9 c10 c11 c12 c13 : va_E} {x0 x9 x10 x11 x12 x13 x15 x16 x17 x20 x21 x22 x23 x26 x28 x31 x32 x33 x38 x41 x44 : Int32} {x14 : Int64} {g15 g16 g17 g18 g20 g21 g22 g23 g24 g25 g26 g27 g28 g29 g30 g31 g32 g33 g34 g35 g36 g37 g38 g39 g40 g41 g42 g43 g44 : Nat → Int32} {t : zW} (d : Nat) (p0 p1 p2 : Int32) (Q : zQ) (h : ∀ w, Q (some (.int (Int32.ofInt (-1)))) w) : zCl zTab (d + 5) iX12_orbits [.ref 14, .int p0, .int p1, .int p2] (zMw c0 c1 c2 c3 c4 c5 c6 c7 c8 c9 c10 c11 c12 c13 x0 x9 x10 x11 x12 x13 x15 x16 x17 x20 x21 x22 x23 x26 x28 x31 x32 x33 x38 x41 x44 x14 g15 g16 g17 g18 g20 g21 g22 g23 g24 g25 g26 g27 g28 g29 g30 g31 g32 g33 g34 g35 g36 g37 g38 g39 g40 g41 g42 g43 g44 t) 0 0 Q := by
  refine zCl_i (M := kX12_orbits) rfl (Nat.le_of_ble_eq_true rfl) fun R hR => ?_
  iterate 5 refine hR (?_ : R (_, _, _, _, _, _))
  refine hR (zcall_i 0 0 (Nat.le_of_ble_eq_true rfl) (Nat.le_of_ble_eq_true rfl) (m_hand _ _ _ ?_))
  refine hR (And.intro (fun _ => ?_) (fun hc => absurd (by decide) hc))
  refine hR (?_ : R (_, _, _, _, _, _))
  exact hR (zret_i rfl (Nat.le_refl _) (trivial) (h _))
theorem m_rota {c0 c1 c2 c3 c4 c5 c6 c7 c8 c9 c10 c11 c12 c13 : va_E} {x0 x9 x10 x11 x12 x13 x15 x16 x17 x20 x21 x22 x23 x26 x28 x31 x32 x33 x38 x41 x44 : Int32} {x14 : Int64} {g15 g16 g17 g18 g20 g21 g22 g23 g24 g25 g26 g27 g28 g29 g30 g31 g32 g33 g34 g35 g36 g37 g38 g39 g40 g41 g42 g43 g44 : Nat → Int32} {t : zW} (d : Nat) (p0 p1 p2 : Int32) (Q : zQ) (h : ∀ w, Q (some (.int (Int32.ofInt (-1)))) w) : zCl zTab (d + 5) iX12_rota [.ref 14, .int p0, .int p1, .int p2] (zMw c0 c1 c2 c3 c4 c5 c6 c7 c8 c9 c10 c11 c12 c13 x0 x9 x10 x11 x12 x13 x15 x16 x17 x20 x21 x22 x23 x26 x28 x31 x32 x33 x38 x41 x44 x14 g15 g16 g17 g18 g20 g21 g22 g23 g24 g25 g26 g27 g28 g29 g30 g31 g32 g33 g34 g35 g36 g37 g38 g39 g40 g41 g42 g43 g44 t) 0 0 Q := by
  refine zCl_i (M := kX12_rota) rfl (Nat.le_of_ble_eq_true rfl) fun R hR => ?_
  iterate 6 refine hR (?_ : R (_, _, _, _, _, _))
  refine hR (zcall_i 0 0 (Nat.le_of_ble_eq_true rfl) (Nat.le_of_ble_eq_true rfl) (m_in _ _ _ _ _ _ (fun _ _ => ?_) (fun _ => ?_)))
  · skip
    refine hR (And.intro (fun hc => absurd hc (by decide)) (fun _ => ?_))
    iterate 2 refine hR (?_ : R (_, _, _, _, _, _))
    refine hR (zcall_i 0 0 (Nat.le_of_ble_eq_true rfl) (Nat.le_of_ble_eq_true rfl) (m_hand _ _ _ ?_))
    refine hR (And.intro (fun _ => ?_) (fun hc => absurd (by decide) hc))
    refine hR (?_ : R (_, _, _, _, _, _))
    exact hR (zret_i rfl (Nat.le_refl _) (trivial) (h _))
  · skip
    refine hR (And.intro (fun _ => ?_) (fun hc => absurd (by decide) hc))
    refine hR (?_ : R (_, _, _, _, _, _))
    exact hR (zret_i rfl (Nat.le_refl _) (trivial) (h _))
theorem m_mean {c0 c1 c2 c3 c4 c5 c6 c7 c8 c9 c10 c11 c12 c13 : va_E} {x0 x9 x10 x11 x12 x13 x15 x16 x17 x20 x21 x22 x23 x26 x28 x31 x32 x33 x38 x41 x44 : Int32} {x14 : Int64} {g15 g16 g17 g18 g20 g21 g22 g23 g24 g25 g26 g27 g28 g29 g30 g31 g32 g33 g34 g35 g36 g37 g38 g39 g40 g41 g42 g43 g44 : Nat → Int32} {t : zW} (d : Nat) (p0 p1 p2 : Int32) (Q : zQ) (h : ∀ w, Q (some (.long (Int64.ofNat 18446744073709551615))) w) : zCl zTab (d + 5) iX12_mean [.ref 14, .int p0, .int p1, .int p2] (zMw c0 c1 c2 c3 c4 c5 c6 c7 c8 c9 c10 c11 c12 c13 x0 x9 x10 x11 x12 x13 x15 x16 x17 x20 x21 x22 x23 x26 x28 x31 x32 x33 x38 x41 x44 x14 g15 g16 g17 g18 g20 g21 g22 g23 g24 g25 g26 g27 g28 g29 g30 g31 g32 g33 g34 g35 g36 g37 g38 g39 g40 g41 g42 g43 g44 t) 0 0 Q := by
  refine zCl_i (M := kX12_mean) rfl (Nat.le_of_ble_eq_true rfl) fun R hR => ?_
  iterate 6 refine hR (?_ : R (_, _, _, _, _, _))
  refine hR (zcall_i 0 0 (Nat.le_of_ble_eq_true rfl) (Nat.le_of_ble_eq_true rfl) (m_in _ _ _ _ _ _ (fun _ _ => ?_) (fun _ => ?_)))
  · skip
    refine hR (And.intro (fun hc => absurd hc (by decide)) (fun _ => ?_))
    iterate 2 refine hR (?_ : R (_, _, _, _, _, _))
    refine hR (zcall_i 0 0 (Nat.le_of_ble_eq_true rfl) (Nat.le_of_ble_eq_true rfl) (m_hand _ _ _ ?_))
    refine hR (And.intro (fun _ => ?_) (fun hc => absurd (by decide) hc))
    refine hR (?_ : R (_, _, _, _, _, _))
    exact hR (zret_i rfl (Nat.le_refl _) (trivial) (h _))
  · skip
    refine hR (And.intro (fun _ => ?_) (fun hc => absurd (by decide) hc))
    refine hR (?_ : R (_, _, _, _, _, _))
    exact hR (zret_i rfl (Nat.le_refl _) (trivial) (h _))
theorem m_elders {c0 c1 c2 c3 c4 c5 c6 c7 c8 c9 c10 c11 c12 c13 : va_E} {x0 x9 x10 x11 x12 x13 x15 x16 x17 x20 x21 x22 x23 x26 x28 x31 x32 x33 x38 x41 x44 : Int32} {x14 : Int64} {g15 g16 g17 g18 g20 g21 g22 g23 g24 g25 g26 g27 g28 g29 g30 g31 g32 g33 g34 g35 g36 g37 g38 g39 g40 g41 g42 g43 g44 : Nat → Int32} {t : zW} (d : Nat) (p0 p1 p2 p3 : Int32) (Q : zQ) (h : ∀ w, Q (some (.int (Int32.ofInt (-2)))) w) : zCl zTab (d + 5) iX12_elders [.ref 14, .int p0, .int p1, .int p2, .int p3] (zMw c0 c1 c2 c3 c4 c5 c6 c7 c8 c9 c10 c11 c12 c13 x0 x9 x10 x11 x12 x13 x15 x16 x17 x20 x21 x22 x23 x26 x28 x31 x32 x33 x38 x41 x44 x14 g15 g16 g17 g18 g20 g21 g22 g23 g24 g25 g26 g27 g28 g29 g30 g31 g32 g33 g34 g35 g36 g37 g38 g39 g40 g41 g42 g43 g44 t) 0 0 Q := by
  refine zCl_i (M := kX12_elders) rfl (Nat.le_of_ble_eq_true rfl) fun R hR => ?_
  iterate 6 refine hR (?_ : R (_, _, _, _, _, _))
  refine hR (zcall_i 0 0 (Nat.le_of_ble_eq_true rfl) (Nat.le_of_ble_eq_true rfl) (m_in _ _ _ _ _ _ (fun _ _ => ?_) (fun _ => ?_)))
  · skip
    refine hR (And.intro (fun hc => absurd hc (by decide)) (fun _ => ?_))
    refine hR (?_ : R (_, _, _, _, _, _))
    refine hR (zcall_i 0 0 (Nat.le_of_ble_eq_true rfl) (Nat.le_of_ble_eq_true rfl) (m_isText _ _ _ _ (fun _ _ => ?_) (fun _ => ?_)))
    · skip
      refine hR (And.intro (fun hc => absurd hc (by decide)) (fun _ => ?_))
      iterate 2 refine hR (?_ : R (_, _, _, _, _, _))
      refine hR (zcall_i 0 0 (Nat.le_of_ble_eq_true rfl) (Nat.le_of_ble_eq_true rfl) (m_handAll _ _ _ ?_))
      refine hR (And.intro (fun hc => absurd (by decide) hc) (fun _ => ?_))
      refine hR (?_ : R (_, _, _, _, _, _))
      exact hR (zret_i rfl (Nat.le_refl _) (trivial) (h _))
    · skip
      refine hR (And.intro (fun _ => ?_) (fun hc => absurd (by decide) hc))
      refine hR (?_ : R (_, _, _, _, _, _))
      exact hR (zret_i rfl (Nat.le_refl _) (trivial) (h _))
  · skip
    refine hR (And.intro (fun _ => ?_) (fun hc => absurd (by decide) hc))
    refine hR (?_ : R (_, _, _, _, _, _))
    exact hR (zret_i rfl (Nat.le_refl _) (trivial) (h _))
theorem m_play {c0 c1 c2 c3 c4 c5 c6 c7 c8 c9 c10 c11 c12 c13 : va_E} {x0 x9 x10 x11 x12 x13 x15 x16 x17 x20 x21 x22 x23 x26 x28 x31 x32 x33 x38 x41 x44 : Int32} {x14 : Int64} {g15 g16 g17 g18 g20 g21 g22 g23 g24 g25 g26 g27 g28 g29 g30 g31 g32 g33 g34 g35 g36 g37 g38 g39 g40 g41 g42 g43 g44 : Nat → Int32} {t : zW} (d : Nat) (p0 p1 p2 p3 p4 p5 : Int32) (Q : zQ) (h : ∀ w, Q (some (.int (Int32.ofInt (-1)))) w) : zCl zTab (d + 5) iX12_play_ [.ref 14, .int p0, .int p1, .int p2, .int p3, .int p4, .int p5] (zMw c0 c1 c2 c3 c4 c5 c6 c7 c8 c9 c10 c11 c12 c13 x0 x9 x10 x11 x12 x13 x15 x16 x17 x20 x21 x22 x23 x26 x28 x31 x32 x33 x38 x41 x44 x14 g15 g16 g17 g18 g20 g21 g22 g23 g24 g25 g26 g27 g28 g29 g30 g31 g32 g33 g34 g35 g36 g37 g38 g39 g40 g41 g42 g43 g44 t) 0 0 Q := by
  refine zCl_i (M := kX12_play_) rfl (Nat.le_of_ble_eq_true rfl) fun R hR => ?_
  iterate 6 refine hR (?_ : R (_, _, _, _, _, _))
  refine hR (zcall_i 0 0 (Nat.le_of_ble_eq_true rfl) (Nat.le_of_ble_eq_true rfl) (m_in _ _ _ _ _ _ (fun _ _ => ?_) (fun _ => ?_)))
  · skip
    refine hR (And.intro (fun hc => absurd hc (by decide)) (fun _ => ?_))
    iterate 3 refine hR (?_ : R (_, _, _, _, _, _))
    refine hR (zcall_i 0 0 (Nat.le_of_ble_eq_true rfl) (Nat.le_of_ble_eq_true rfl) (m_in _ _ _ _ _ _ (fun _ _ => ?_) (fun _ => ?_)))
    · skip
      refine hR (And.intro (fun hc => absurd hc (by decide)) (fun _ => ?_))
      iterate 2 refine hR (?_ : R (_, _, _, _, _, _))
      refine hR (zcall_i 0 0 (Nat.le_of_ble_eq_true rfl) (Nat.le_of_ble_eq_true rfl) (m_hand _ _ _ ?_))
      refine hR (And.intro (fun _ => ?_) (fun hc => absurd (by decide) hc))
      refine hR (?_ : R (_, _, _, _, _, _))
      exact hR (zret_i rfl (Nat.le_refl _) (trivial) (h _))
    · skip
      refine hR (And.intro (fun _ => ?_) (fun hc => absurd (by decide) hc))
      refine hR (?_ : R (_, _, _, _, _, _))
      exact hR (zret_i rfl (Nat.le_refl _) (trivial) (h _))
  · skip
    refine hR (And.intro (fun _ => ?_) (fun hc => absurd (by decide) hc))
    refine hR (?_ : R (_, _, _, _, _, _))
    exact hR (zret_i rfl (Nat.le_refl _) (trivial) (h _))
theorem m_fact {c0 c1 c2 c3 c4 c5 c6 c7 c8 c9 c10 c11 c12 c13 : va_E} {x0 x9 x10 x11 x12 x13 x15 x16 x17 x20 x21 x22 x23 x26 x28 x31 x32 x33 x38 x41 x44 : Int32} {x14 : Int64} {g15 g16 g17 g18 g20 g21 g22 g23 g24 g25 g26 g27 g28 g29 g30 g31 g32 g33 g34 g35 g36 g37 g38 g39 g40 g41 g42 g43 g44 : Nat → Int32} {t : zW} (d : Nat) (p0 p1 p2 : Int32) (Q : zQ) (h : ∀ w, Q (some (.int (Int32.ofInt (-2)))) w) : zCl zTab (d + 5) iX12_fact [.ref 14, .int p0, .int p1, .int p2] (zMw c0 c1 c2 c3 c4 c5 c6 c7 c8 c9 c10 c11 c12 c13 x0 x9 x10 x11 x12 x13 x15 x16 x17 x20 x21 x22 x23 x26 x28 x31 x32 x33 x38 x41 x44 x14 g15 g16 g17 g18 g20 g21 g22 g23 g24 g25 g26 g27 g28 g29 g30 g31 g32 g33 g34 g35 g36 g37 g38 g39 g40 g41 g42 g43 g44 t) 0 0 Q := by
  refine zCl_i (M := kX12_fact) rfl (Nat.le_of_ble_eq_true rfl) fun R hR => ?_
  iterate 5 refine hR (?_ : R (_, _, _, _, _, _))
  refine hR (zcall_i 0 0 (Nat.le_of_ble_eq_true rfl) (Nat.le_of_ble_eq_true rfl) (m_hasSight _ _ _ ?_))
  refine hR (And.intro (fun hc => absurd (by decide) hc) (fun _ => ?_))
  refine hR (?_ : R (_, _, _, _, _, _))
  exact hR (zret_i rfl (Nat.le_refl _) (trivial) (h _))
theorem m_fits {c0 c1 c2 c3 c4 c5 c6 c7 c8 c9 c10 c11 c12 c13 : va_E} {x0 x9 x10 x11 x12 x13 x15 x16 x17 x20 x21 x22 x23 x26 x28 x31 x32 x33 x38 x41 x44 : Int32} {x14 : Int64} {g15 g16 g17 g18 g20 g21 g22 g23 g24 g25 g26 g27 g28 g29 g30 g31 g32 g33 g34 g35 g36 g37 g38 g39 g40 g41 g42 g43 g44 : Nat → Int32} {t : zW} (d : Nat) (p0 p1 p2 p3 : Int32) (Q : zQ) (h : ∀ w, Q (some (.int (Int32.ofInt (-1)))) w) : zCl zTab (d + 5) iX12_fits [.ref 14, .int p0, .int p1, .int p2, .int p3] (zMw c0 c1 c2 c3 c4 c5 c6 c7 c8 c9 c10 c11 c12 c13 x0 x9 x10 x11 x12 x13 x15 x16 x17 x20 x21 x22 x23 x26 x28 x31 x32 x33 x38 x41 x44 x14 g15 g16 g17 g18 g20 g21 g22 g23 g24 g25 g26 g27 g28 g29 g30 g31 g32 g33 g34 g35 g36 g37 g38 g39 g40 g41 g42 g43 g44 t) 0 0 Q := by
  refine zCl_i (M := kX12_fits) rfl (Nat.le_of_ble_eq_true rfl) fun R hR => ?_
  iterate 6 refine hR (?_ : R (_, _, _, _, _, _))
  refine hR (zcall_i 0 0 (Nat.le_of_ble_eq_true rfl) (Nat.le_of_ble_eq_true rfl) (m_in _ _ _ _ _ _ (fun _ _ => ?_) (fun _ => ?_)))
  · skip
    refine hR (And.intro (fun hc => absurd hc (by decide)) (fun _ => ?_))
    iterate 2 refine hR (?_ : R (_, _, _, _, _, _))
    refine hR (And.intro (fun hc1 => ?_) (fun hc1 => ?_))
    · skip
      iterate 2 refine hR (?_ : R (_, _, _, _, _, _))
      refine hR (zcall_i 0 0 (Nat.le_of_ble_eq_true rfl) (Nat.le_of_ble_eq_true rfl) (m_hasSight _ _ _ ?_))
      refine hR (And.intro (fun _ => ?_) (fun hc => absurd (by decide) hc))
      refine hR (?_ : R (_, _, _, _, _, _))
      exact hR (zret_i rfl (Nat.le_refl _) (trivial) (h _))
    · skip
      refine hR (?_ : R (_, _, _, _, _, _))
      refine hR (zcall_i 0 0 (Nat.le_of_ble_eq_true rfl) (Nat.le_of_ble_eq_true rfl) (m_isText _ _ _ _ (fun _ _ => ?_) (fun _ => ?_)))
      · skip
        refine hR (And.intro (fun hc => absurd hc (by decide)) (fun _ => ?_))
        iterate 2 refine hR (?_ : R (_, _, _, _, _, _))
        refine hR (zcall_i 0 0 (Nat.le_of_ble_eq_true rfl) (Nat.le_of_ble_eq_true rfl) (m_hasSight _ _ _ ?_))
        refine hR (And.intro (fun _ => ?_) (fun hc => absurd (by decide) hc))
        refine hR (?_ : R (_, _, _, _, _, _))
        exact hR (zret_i rfl (Nat.le_refl _) (trivial) (h _))
      · skip
        refine hR (And.intro (fun _ => ?_) (fun hc => absurd (by decide) hc))
        refine hR (?_ : R (_, _, _, _, _, _))
        exact hR (zret_i rfl (Nat.le_refl _) (trivial) (h _))
  · skip
    refine hR (And.intro (fun _ => ?_) (fun hc => absurd (by decide) hc))
    refine hR (?_ : R (_, _, _, _, _, _))
    exact hR (zret_i rfl (Nat.le_refl _) (trivial) (h _))
theorem m_sure {c0 c1 c2 c3 c4 c5 c6 c7 c8 c9 c10 c11 c12 c13 : va_E} {x0 x9 x10 x11 x12 x13 x15 x16 x17 x20 x21 x22 x23 x26 x28 x31 x32 x33 x38 x41 x44 : Int32} {x14 : Int64} {g15 g16 g17 g18 g20 g21 g22 g23 g24 g25 g26 g27 g28 g29 g30 g31 g32 g33 g34 g35 g36 g37 g38 g39 g40 g41 g42 g43 g44 : Nat → Int32} {t : zW} (d : Nat) (p0 p1 p2 p3 : Int32) (Q : zQ) (h : ∀ w, Q (some (.int (Int32.ofInt (-1)))) w) : zCl zTab (d + 5) iX12_sure [.ref 14, .int p0, .int p1, .int p2, .int p3] (zMw c0 c1 c2 c3 c4 c5 c6 c7 c8 c9 c10 c11 c12 c13 x0 x9 x10 x11 x12 x13 x15 x16 x17 x20 x21 x22 x23 x26 x28 x31 x32 x33 x38 x41 x44 x14 g15 g16 g17 g18 g20 g21 g22 g23 g24 g25 g26 g27 g28 g29 g30 g31 g32 g33 g34 g35 g36 g37 g38 g39 g40 g41 g42 g43 g44 t) 0 0 Q := by
  refine zCl_i (M := kX12_sure) rfl (Nat.le_of_ble_eq_true rfl) fun R hR => ?_
  iterate 6 refine hR (?_ : R (_, _, _, _, _, _))
  refine hR (zcall_i 0 0 (Nat.le_of_ble_eq_true rfl) (Nat.le_of_ble_eq_true rfl) (m_in _ _ _ _ _ _ (fun _ _ => ?_) (fun _ => ?_)))
  · skip
    refine hR (And.intro (fun hc => absurd hc (by decide)) (fun _ => ?_))
    iterate 5 refine hR (?_ : R (_, _, _, _, _, _))
    refine hR (zcall_i 0 0 (Nat.le_of_ble_eq_true rfl) (Nat.le_of_ble_eq_true rfl) (m_in _ _ _ _ _ _ (fun _ _ => ?_) (fun _ => ?_)))
    · skip
      refine hR (And.intro (fun hc => absurd hc (by decide)) (fun _ => ?_))
      iterate 2 refine hR (?_ : R (_, _, _, _, _, _))
      refine hR (zcall_i 0 0 (Nat.le_of_ble_eq_true rfl) (Nat.le_of_ble_eq_true rfl) (m_hasSight _ _ _ ?_))
      refine hR (And.intro (fun _ => ?_) (fun hc => absurd (by decide) hc))
      refine hR (?_ : R (_, _, _, _, _, _))
      exact hR (zret_i rfl (Nat.le_refl _) (trivial) (h _))
    · skip
      refine hR (And.intro (fun _ => ?_) (fun hc => absurd (by decide) hc))
      refine hR (?_ : R (_, _, _, _, _, _))
      exact hR (zret_i rfl (Nat.le_refl _) (trivial) (h _))
  · skip
    refine hR (And.intro (fun _ => ?_) (fun hc => absurd (by decide) hc))
    refine hR (?_ : R (_, _, _, _, _, _))
    exact hR (zret_i rfl (Nat.le_refl _) (trivial) (h _))
theorem m_drawn {c0 c1 c2 c3 c4 c5 c6 c7 c8 c9 c10 c11 c12 c13 : va_E} {x0 x9 x10 x11 x12 x13 x15 x16 x17 x20 x21 x22 x23 x26 x28 x31 x32 x33 x38 x41 x44 : Int32} {x14 : Int64} {g15 g16 g17 g18 g20 g21 g22 g23 g24 g25 g26 g27 g28 g29 g30 g31 g32 g33 g34 g35 g36 g37 g38 g39 g40 g41 g42 g43 g44 : Nat → Int32} {t : zW} (d : Nat) (p0 p1 p2 p3 : Int32) (Q : zQ) (h : ∀ w, Q (some (.int (Int32.ofInt (-2)))) w) : zCl zTab (d + 5) iX12_drawn [.ref 14, .int p0, .int p1, .int p2, .int p3] (zMw c0 c1 c2 c3 c4 c5 c6 c7 c8 c9 c10 c11 c12 c13 x0 x9 x10 x11 x12 x13 x15 x16 x17 x20 x21 x22 x23 x26 x28 x31 x32 x33 x38 x41 x44 x14 g15 g16 g17 g18 g20 g21 g22 g23 g24 g25 g26 g27 g28 g29 g30 g31 g32 g33 g34 g35 g36 g37 g38 g39 g40 g41 g42 g43 g44 t) 0 0 Q := by
  refine zCl_i (M := kX12_drawn) rfl (Nat.le_of_ble_eq_true rfl) fun R hR => ?_
  iterate 6 refine hR (?_ : R (_, _, _, _, _, _))
  refine hR (zcall_i 0 0 (Nat.le_of_ble_eq_true rfl) (Nat.le_of_ble_eq_true rfl) (m_in _ _ _ _ _ _ (fun _ _ => ?_) (fun _ => ?_)))
  · skip
    refine hR (And.intro (fun hc => absurd hc (by decide)) (fun _ => ?_))
    iterate 2 refine hR (?_ : R (_, _, _, _, _, _))
    refine hR (zcall_i 0 0 (Nat.le_of_ble_eq_true rfl) (Nat.le_of_ble_eq_true rfl) (m_hand _ _ _ ?_))
    refine hR (And.intro (fun hc => absurd (by decide) hc) (fun _ => ?_))
    refine hR (?_ : R (_, _, _, _, _, _))
    exact hR (zret_i rfl (Nat.le_refl _) (trivial) (h _))
  · skip
    refine hR (And.intro (fun _ => ?_) (fun hc => absurd (by decide) hc))
    refine hR (?_ : R (_, _, _, _, _, _))
    exact hR (zret_i rfl (Nat.le_refl _) (trivial) (h _))
theorem m_kinship {c0 c1 c2 c3 c4 c5 c6 c7 c8 c9 c10 c11 c12 c13 : va_E} {x0 x9 x10 x11 x12 x13 x15 x16 x17 x20 x21 x22 x23 x26 x28 x31 x32 x33 x38 x41 x44 : Int32} {x14 : Int64} {g15 g16 g17 g18 g20 g21 g22 g23 g24 g25 g26 g27 g28 g29 g30 g31 g32 g33 g34 g35 g36 g37 g38 g39 g40 g41 g42 g43 g44 : Nat → Int32} {t : zW} (d : Nat) (p0 p1 p2 : Int32) (Q : zQ) (h : ∀ w, Q (some (.int (Int32.ofInt (-1)))) w) : zCl zTab (d + 5) iX12_kinship [.ref 14, .int p0, .int p1, .int p2] (zMw c0 c1 c2 c3 c4 c5 c6 c7 c8 c9 c10 c11 c12 c13 x0 x9 x10 x11 x12 x13 x15 x16 x17 x20 x21 x22 x23 x26 x28 x31 x32 x33 x38 x41 x44 x14 g15 g16 g17 g18 g20 g21 g22 g23 g24 g25 g26 g27 g28 g29 g30 g31 g32 g33 g34 g35 g36 g37 g38 g39 g40 g41 g42 g43 g44 t) 0 0 Q := by
  refine zCl_i (M := kX12_kinship) rfl (Nat.le_of_ble_eq_true rfl) fun R hR => ?_
  iterate 5 refine hR (?_ : R (_, _, _, _, _, _))
  refine hR (zcall_i 0 0 (Nat.le_of_ble_eq_true rfl) (Nat.le_of_ble_eq_true rfl) (m_hand _ _ _ ?_))
  refine hR (And.intro (fun _ => ?_) (fun hc => absurd (by decide) hc))
  refine hR (?_ : R (_, _, _, _, _, _))
  exact hR (zret_i rfl (Nat.le_refl _) (trivial) (h _))
theorem m_joined {c0 c1 c2 c3 c4 c5 c6 c7 c8 c9 c10 c11 c12 c13 : va_E} {x0 x9 x10 x11 x12 x13 x15 x16 x17 x20 x21 x22 x23 x26 x28 x31 x32 x33 x38 x41 x44 : Int32} {x14 : Int64} {g15 g16 g17 g18 g20 g21 g22 g23 g24 g25 g26 g27 g28 g29 g30 g31 g32 g33 g34 g35 g36 g37 g38 g39 g40 g41 g42 g43 g44 : Nat → Int32} {t : zW} (d : Nat) (p0 p1 p2 p3 : Int32) (Q : zQ) (h : ∀ w, Q (some (.int (Int32.ofInt (-1)))) w) : zCl zTab (d + 5) iX12_joined [.ref 14, .int p0, .int p1, .int p2, .int p3] (zMw c0 c1 c2 c3 c4 c5 c6 c7 c8 c9 c10 c11 c12 c13 x0 x9 x10 x11 x12 x13 x15 x16 x17 x20 x21 x22 x23 x26 x28 x31 x32 x33 x38 x41 x44 x14 g15 g16 g17 g18 g20 g21 g22 g23 g24 g25 g26 g27 g28 g29 g30 g31 g32 g33 g34 g35 g36 g37 g38 g39 g40 g41 g42 g43 g44 t) 0 0 Q := by
  refine zCl_i (M := kX12_joined) rfl (Nat.le_of_ble_eq_true rfl) fun R hR => ?_
  iterate 4 refine hR (?_ : R (_, _, _, _, _, _))
  refine hR (zcall_i 0 0 (Nat.le_of_ble_eq_true rfl) (Nat.le_of_ble_eq_true rfl) (m_isText _ _ _ _ (fun _ _ => ?_) (fun _ => ?_)))
  · skip
    refine hR (And.intro (fun hc => absurd hc (by decide)) (fun _ => ?_))
    refine hR (?_ : R (_, _, _, _, _, _))
    refine hR (zcall_i 0 0 (Nat.le_of_ble_eq_true rfl) (Nat.le_of_ble_eq_true rfl) (m_isText _ _ _ _ (fun _ _ => ?_) (fun _ => ?_)))
    · skip
      refine hR (And.intro (fun hc => absurd hc (by decide)) (fun _ => ?_))
      iterate 2 refine hR (?_ : R (_, _, _, _, _, _))
      refine hR (zcall_i 0 0 (Nat.le_of_ble_eq_true rfl) (Nat.le_of_ble_eq_true rfl) (m_handAll _ _ _ ?_))
      refine hR (And.intro (fun hc => absurd (by decide) hc) (fun _ => ?_))
      refine hR (?_ : R (_, _, _, _, _, _))
      exact hR (zret_i rfl (Nat.le_refl _) (trivial) (h _))
    · skip
      refine hR (And.intro (fun _ => ?_) (fun hc => absurd (by decide) hc))
      refine hR (?_ : R (_, _, _, _, _, _))
      exact hR (zret_i rfl (Nat.le_refl _) (trivial) (h _))
  · skip
    refine hR (And.intro (fun _ => ?_) (fun hc => absurd (by decide) hc))
    refine hR (?_ : R (_, _, _, _, _, _))
    exact hR (zret_i rfl (Nat.le_refl _) (trivial) (h _))
theorem m_nearest {c0 c1 c2 c3 c4 c5 c6 c7 c8 c9 c10 c11 c12 c13 : va_E} {x0 x9 x10 x11 x12 x13 x15 x16 x17 x20 x21 x22 x23 x26 x28 x31 x32 x33 x38 x41 x44 : Int32} {x14 : Int64} {g15 g16 g17 g18 g20 g21 g22 g23 g24 g25 g26 g27 g28 g29 g30 g31 g32 g33 g34 g35 g36 g37 g38 g39 g40 g41 g42 g43 g44 : Nat → Int32} {t : zW} (d : Nat) (p0 p1 p2 p3 : Int32) (Q : zQ) (h : ∀ w, Q (some (.int (Int32.ofInt (-1)))) w) : zCl zTab (d + 5) iX12_nearest [.ref 14, .int p0, .int p1, .int p2, .int p3] (zMw c0 c1 c2 c3 c4 c5 c6 c7 c8 c9 c10 c11 c12 c13 x0 x9 x10 x11 x12 x13 x15 x16 x17 x20 x21 x22 x23 x26 x28 x31 x32 x33 x38 x41 x44 x14 g15 g16 g17 g18 g20 g21 g22 g23 g24 g25 g26 g27 g28 g29 g30 g31 g32 g33 g34 g35 g36 g37 g38 g39 g40 g41 g42 g43 g44 t) 0 0 Q := by
  refine zCl_i (M := kX12_nearest) rfl (Nat.le_of_ble_eq_true rfl) fun R hR => ?_
  iterate 4 refine hR (?_ : R (_, _, _, _, _, _))
  refine hR (zcall_i 0 0 (Nat.le_of_ble_eq_true rfl) (Nat.le_of_ble_eq_true rfl) (m_isText _ _ _ _ (fun _ _ => ?_) (fun _ => ?_)))
  · skip
    refine hR (And.intro (fun hc => absurd hc (by decide)) (fun _ => ?_))
    refine hR (?_ : R (_, _, _, _, _, _))
    refine hR (zcall_i 0 0 (Nat.le_of_ble_eq_true rfl) (Nat.le_of_ble_eq_true rfl) (m_isText _ _ _ _ (fun _ _ => ?_) (fun _ => ?_)))
    · skip
      refine hR (And.intro (fun hc => absurd hc (by decide)) (fun _ => ?_))
      iterate 2 refine hR (?_ : R (_, _, _, _, _, _))
      refine hR (zcall_i 0 0 (Nat.le_of_ble_eq_true rfl) (Nat.le_of_ble_eq_true rfl) (m_handAll _ _ _ ?_))
      refine hR (And.intro (fun hc => absurd (by decide) hc) (fun _ => ?_))
      refine hR (?_ : R (_, _, _, _, _, _))
      exact hR (zret_i rfl (Nat.le_refl _) (trivial) (h _))
    · skip
      refine hR (And.intro (fun _ => ?_) (fun hc => absurd (by decide) hc))
      refine hR (?_ : R (_, _, _, _, _, _))
      exact hR (zret_i rfl (Nat.le_refl _) (trivial) (h _))
  · skip
    refine hR (And.intro (fun _ => ?_) (fun hc => absurd (by decide) hc))
    refine hR (?_ : R (_, _, _, _, _, _))
    exact hR (zret_i rfl (Nat.le_refl _) (trivial) (h _))
theorem m_settles {c0 c1 c2 c3 c4 c5 c6 c7 c8 c9 c10 c11 c12 c13 : va_E} {x0 x9 x10 x11 x12 x13 x15 x16 x17 x20 x21 x22 x23 x26 x28 x31 x32 x33 x38 x41 x44 : Int32} {x14 : Int64} {g15 g16 g17 g18 g20 g21 g22 g23 g24 g25 g26 g27 g28 g29 g30 g31 g32 g33 g34 g35 g36 g37 g38 g39 g40 g41 g42 g43 g44 : Nat → Int32} {t : zW} (d : Nat) (p0 p1 p2 : Int32) (Q : zQ) (h : ∀ w, Q (some (.int (Int32.ofInt (-1)))) w) : zCl zTab (d + 5) iX12_settles [.ref 14, .int p0, .int p1, .int p2] (zMw c0 c1 c2 c3 c4 c5 c6 c7 c8 c9 c10 c11 c12 c13 x0 x9 x10 x11 x12 x13 x15 x16 x17 x20 x21 x22 x23 x26 x28 x31 x32 x33 x38 x41 x44 x14 g15 g16 g17 g18 g20 g21 g22 g23 g24 g25 g26 g27 g28 g29 g30 g31 g32 g33 g34 g35 g36 g37 g38 g39 g40 g41 g42 g43 g44 t) 0 0 Q := by
  refine zCl_i (M := kX12_settles) rfl (Nat.le_of_ble_eq_true rfl) fun R hR => ?_
  iterate 4 refine hR (?_ : R (_, _, _, _, _, _))
  refine hR (zcall_i 0 0 (Nat.le_of_ble_eq_true rfl) (Nat.le_of_ble_eq_true rfl) (m_isText _ _ _ _ (fun _ _ => ?_) (fun _ => ?_)))
  · skip
    refine hR (And.intro (fun hc => absurd hc (by decide)) (fun _ => ?_))
    iterate 2 refine hR (?_ : R (_, _, _, _, _, _))
    refine hR (zcall_i 0 0 (Nat.le_of_ble_eq_true rfl) (Nat.le_of_ble_eq_true rfl) (m_handAll _ _ _ ?_))
    refine hR (And.intro (fun hc => absurd (by decide) hc) (fun _ => ?_))
    refine hR (?_ : R (_, _, _, _, _, _))
    exact hR (zret_i rfl (Nat.le_refl _) (trivial) (h _))
  · skip
    refine hR (And.intro (fun _ => ?_) (fun hc => absurd (by decide) hc))
    refine hR (?_ : R (_, _, _, _, _, _))
    exact hR (zret_i rfl (Nat.le_refl _) (trivial) (h _))
theorem m_unmade {c0 c1 c2 c3 c4 c5 c6 c7 c8 c9 c10 c11 c12 c13 : va_E} {x0 x9 x10 x11 x12 x13 x15 x16 x17 x20 x21 x22 x23 x26 x28 x31 x32 x33 x38 x41 x44 : Int32} {x14 : Int64} {g15 g16 g17 g18 g20 g21 g22 g23 g24 g25 g26 g27 g28 g29 g30 g31 g32 g33 g34 g35 g36 g37 g38 g39 g40 g41 g42 g43 g44 : Nat → Int32} {t : zW} (d : Nat) (p0 p1 : Int32) (Q : zQ) (h : ∀ w, Q (some (.int (Int32.ofInt (-2)))) w) : zCl zTab (d + 5) iX12_unmade [.ref 14, .int p0, .int p1] (zMw c0 c1 c2 c3 c4 c5 c6 c7 c8 c9 c10 c11 c12 c13 x0 x9 x10 x11 x12 x13 x15 x16 x17 x20 x21 x22 x23 x26 x28 x31 x32 x33 x38 x41 x44 x14 g15 g16 g17 g18 g20 g21 g22 g23 g24 g25 g26 g27 g28 g29 g30 g31 g32 g33 g34 g35 g36 g37 g38 g39 g40 g41 g42 g43 g44 t) 0 0 Q := by
  refine zCl_i (M := kX12_unmade) rfl (Nat.le_of_ble_eq_true rfl) fun R hR => ?_
  iterate 5 refine hR (?_ : R (_, _, _, _, _, _))
  refine hR (zcall_i 0 0 (Nat.le_of_ble_eq_true rfl) (Nat.le_of_ble_eq_true rfl) (m_handAll _ _ _ ?_))
  refine hR (And.intro (fun hc => absurd (by decide) hc) (fun _ => ?_))
  refine hR (?_ : R (_, _, _, _, _, _))
  exact hR (zret_i rfl (Nat.le_refl _) (trivial) (h _))
theorem m_silenced {c0 c1 c2 c3 c4 c5 c6 c7 c8 c9 c10 c11 c12 c13 : va_E} {x0 x9 x10 x11 x12 x13 x15 x16 x17 x20 x21 x22 x23 x26 x28 x31 x32 x33 x38 x41 x44 : Int32} {x14 : Int64} {g15 g16 g17 g18 g20 g21 g22 g23 g24 g25 g26 g27 g28 g29 g30 g31 g32 g33 g34 g35 g36 g37 g38 g39 g40 g41 g42 g43 g44 : Nat → Int32} {t : zW} (d : Nat) (p0 p1 p2 : Int32) (Q : zQ) (h : ∀ w, Q (some (.int (Int32.ofInt (-1)))) w) : zCl zTab (d + 5) iX12_silenced [.ref 14, .int p0, .int p1, .int p2] (zMw c0 c1 c2 c3 c4 c5 c6 c7 c8 c9 c10 c11 c12 c13 x0 x9 x10 x11 x12 x13 x15 x16 x17 x20 x21 x22 x23 x26 x28 x31 x32 x33 x38 x41 x44 x14 g15 g16 g17 g18 g20 g21 g22 g23 g24 g25 g26 g27 g28 g29 g30 g31 g32 g33 g34 g35 g36 g37 g38 g39 g40 g41 g42 g43 g44 t) 0 0 Q := by
  refine zCl_i (M := kX12_silenced) rfl (Nat.le_of_ble_eq_true rfl) fun R hR => ?_
  iterate 4 refine hR (?_ : R (_, _, _, _, _, _))
  refine hR (zcall_i 0 0 (Nat.le_of_ble_eq_true rfl) (Nat.le_of_ble_eq_true rfl) (m_isText _ _ _ _ (fun _ _ => ?_) (fun _ => ?_)))
  · skip
    refine hR (And.intro (fun hc => absurd hc (by decide)) (fun _ => ?_))
    refine hR (?_ : R (_, _, _, _, _, _))
    refine hR (zcall_i 0 0 (Nat.le_of_ble_eq_true rfl) (Nat.le_of_ble_eq_true rfl) (m_isText _ _ _ _ (fun _ _ => ?_) (fun _ => ?_)))
    · skip
      refine hR (And.intro (fun hc => absurd hc (by decide)) (fun _ => ?_))
      iterate 2 refine hR (?_ : R (_, _, _, _, _, _))
      refine hR (And.intro (fun hc1 => ?_) (fun hc1 => ?_))
      · skip
        refine hR (?_ : R (_, _, _, _, _, _))
        exact hR (zret_i rfl (Nat.le_refl _) (trivial) (h _))
      · skip
        iterate 2 refine hR (?_ : R (_, _, _, _, _, _))
        refine hR (zcall_i 0 0 (Nat.le_of_ble_eq_true rfl) (Nat.le_of_ble_eq_true rfl) (m_handAll _ _ _ ?_))
        refine hR (And.intro (fun hc => absurd (by decide) hc) (fun _ => ?_))
        refine hR (?_ : R (_, _, _, _, _, _))
        exact hR (zret_i rfl (Nat.le_refl _) (trivial) (h _))
    · skip
      refine hR (And.intro (fun _ => ?_) (fun hc => absurd (by decide) hc))
      refine hR (?_ : R (_, _, _, _, _, _))
      exact hR (zret_i rfl (Nat.le_refl _) (trivial) (h _))
  · skip
    refine hR (And.intro (fun _ => ?_) (fun hc => absurd (by decide) hc))
    refine hR (?_ : R (_, _, _, _, _, _))
    exact hR (zret_i rfl (Nat.le_refl _) (trivial) (h _))
theorem m_circles {c0 c1 c2 c3 c4 c5 c6 c7 c8 c9 c10 c11 c12 c13 : va_E} {x0 x9 x10 x11 x12 x13 x15 x16 x17 x20 x21 x22 x23 x26 x28 x31 x32 x33 x38 x41 x44 : Int32} {x14 : Int64} {g15 g16 g17 g18 g20 g21 g22 g23 g24 g25 g26 g27 g28 g29 g30 g31 g32 g33 g34 g35 g36 g37 g38 g39 g40 g41 g42 g43 g44 : Nat → Int32} {t : zW} (d : Nat) (p0 p1 : Int32) (Q : zQ) (h : ∀ w, Q (some (.int (Int32.ofInt (-1)))) w) : zCl zTab (d + 5) iX12_circles [.ref 14, .int p0, .int p1] (zMw c0 c1 c2 c3 c4 c5 c6 c7 c8 c9 c10 c11 c12 c13 x0 x9 x10 x11 x12 x13 x15 x16 x17 x20 x21 x22 x23 x26 x28 x31 x32 x33 x38 x41 x44 x14 g15 g16 g17 g18 g20 g21 g22 g23 g24 g25 g26 g27 g28 g29 g30 g31 g32 g33 g34 g35 g36 g37 g38 g39 g40 g41 g42 g43 g44 t) 0 0 Q := by
  refine zCl_i (M := kX12_circles) rfl (Nat.le_of_ble_eq_true rfl) fun R hR => ?_
  iterate 6 refine hR (?_ : R (_, _, _, _, _, _))
  refine hR (zcall_i 0 0 (Nat.le_of_ble_eq_true rfl) (Nat.le_of_ble_eq_true rfl) (m_in _ _ _ _ _ _ (fun _ _ => ?_) (fun _ => ?_)))
  · skip
    refine hR (And.intro (fun hc => absurd hc (by decide)) (fun _ => ?_))
    iterate 2 refine hR (?_ : R (_, _, _, _, _, _))
    refine hR (zcall_i 0 0 (Nat.le_of_ble_eq_true rfl) (Nat.le_of_ble_eq_true rfl) (m_handAll _ _ _ ?_))
    refine hR (And.intro (fun hc => absurd (by decide) hc) (fun _ => ?_))
    refine hR (?_ : R (_, _, _, _, _, _))
    exact hR (zret_i rfl (Nat.le_refl _) (trivial) (h _))
  · skip
    refine hR (And.intro (fun _ => ?_) (fun hc => absurd (by decide) hc))
    refine hR (?_ : R (_, _, _, _, _, _))
    exact hR (zret_i rfl (Nat.le_refl _) (trivial) (h _))
