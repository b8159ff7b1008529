set_option maxHeartbeats 4000000 in
theorem r_driftOf (d : Nat) (x y : Int32) (a b : Nat) (hx : x = nI a) (ha : a < 5461) (hy : y = nI b) (hb : b < 5461) (w : zW) (Q : zQ) (h : Q (some (.int (nI (eD (ue a) (ue b) (tLen a) (tLen b))))) w) : zCl zTab (d + 3) iX11_driftOf [.int x, .int y] w 0 0 Q := by
  have hn := tLen_le a
  have hm := tLen_le b
  have hsa := tSh_le a ha
  have hsb := tSh_le b hb
  have hE : ∀ i, i ≤ 6 → ∀ j, j < 7 → eD (ue a) (ue b) i j < 16 := fun i hi j hj => by
    have := eD_le (ue a) (ue b) i j
    omega
  refine zCl_i (M := kX11_driftOf) rfl (Nat.le_of_ble_eq_true rfl) fun R hR => ?_
  have loopC : ∀ (i9 : Nat), i9 < tLen a → ∀ (r i wd : Int32), r = nI (pkr (eD (ue a) (ue b) i9) (tLen b + 1)) → i = nI (i9 + 1) → wd = nI (ue a i9) → (∀ (nx j lf : Int32) (z8 z12 z13 : Option Value), nx = nI (pkr (eD (ue a) (ue b) (i9 + 1)) (tLen b + 1)) → R (170, [some (.int x), some (.int y), some (.int (nI (tB a))), some (.int (nI (tB b))), some (.int (nI (tLen a))), some (.int (nI (tLen b))), some (.int r), some (.int i), z8, some (.int lf), some (.int nx), some (.int j), z12, z13], [], w, 0, 0)) → ∀ (m9 j9 : Nat) (lf nx j : Int32) (z12 z13 : Option Value), j9 + m9 = tLen b → lf = nI (eD (ue a) (ue b) (i9 + 1) j9) → nx = nI (pkr (eD (ue a) (ue b) (i9 + 1)) (j9 + 1)) → j = nI (j9 + 1) → R (84, [some (.int x), some (.int y), some (.int (nI (tB a))), some (.int (nI (tB b))), some (.int (nI (tLen a))), some (.int (nI (tLen b))), some (.int r), some (.int i), some (.int wd), some (.int lf), some (.int nx), some (.int j), z12, z13], [], w, 0, 0) := by
    intro i9 hi9 r i wd hr hi hwd hexit m9
    have hf0 : ∀ j, j < 7 → eD (ue a) (ue b) i9 j < 16 := hE i9 (by omega)
    have hf1 : ∀ j, j < 7 → eD (ue a) (ue b) (i9 + 1) j < 16 := hE (i9 + 1) (by omega)
    induction m9 with
    | zero =>
      intro j9 lf nx j z12 z13 hj hlf hnx hjj
      iterate 2 refine hR (?_ : R (_, _, _, _, _, _))
      refine hR (pk_lt (tLen b) (j9 + 1) (fun _ => ?_) (fun z => by omega) rfl hjj)
      refine hexit nx j lf _ _ _ ?_
      rw [hnx]
      exact congrArg (fun c => nI (pkr (eD (ue a) (ue b) (i9 + 1)) (c + 1))) (by omega)
    | succ m9 ih =>
      intro j9 lf nx j z12 z13 hj hlf hnx hjj
      have c0 := hf0 j9 (by omega)
      have c1 := hf0 (j9 + 1) (by omega)
      have c2 := hf1 j9 (by omega)
      have c3 := hf1 (j9 + 1) (by omega)
      have cc := ed1_le (ue a i9) (ue b j9)
      have tail : ∀ (ch : Int32) (z13 : Option Value), ch = nI (ed1 (ue a i9) (ue b j9)) → R (111, [some (.int x), some (.int y), some (.int (nI (tB a))), some (.int (nI (tB b))), some (.int (nI (tLen a))), some (.int (nI (tLen b))), some (.int r), some (.int i), some (.int wd), some (.int lf), some (.int nx), some (.int j), some (.int ch), z13], [], w, 0, 0) := by
        intro ch z13 hch
        have e1 : (if (r >>> (Int32.ofInt 4 * j &&& 31) &&& (Int8.ofInt 15).toInt32) < lf then (r >>> (Int32.ofInt 4 * j &&& 31) &&& (Int8.ofInt 15).toInt32) else lf) + Int32.ofInt 1 = nI (min (eD (ue a) (ue b) (i9 + 1) j9) (eD (ue a) (ue b) i9 (j9 + 1)) + 1) := by
          rw [hr, hjj, dz_cell hf0 (by omega) (by omega), hlf, dz_min (by omega) (by omega), nI1, nI_add]
        have e2 : (r >>> (Int32.ofInt 4 * (j - Int32.ofInt 1) &&& 31) &&& (Int8.ofInt 15).toInt32) + ch = nI (eD (ue a) (ue b) i9 j9 + ed1 (ue a i9) (ue b j9)) := by
          rw [hr, hjj, nI1, pk_sub (by omega), Nat.add_sub_cancel, dz_cell hf0 (by omega) (by omega), hch, nI_add]
        have e3 : ∀ p q : Int32, p = nI (eD (ue a) (ue b) i9 j9 + ed1 (ue a i9) (ue b j9)) → q = nI (min (eD (ue a) (ue b) (i9 + 1) j9) (eD (ue a) (ue b) i9 (j9 + 1)) + 1) → (if q < p then q else p) = nI (eD (ue a) (ue b) (i9 + 1) (j9 + 1)) := by
          intro p q hp hq
          rw [hp, hq, dz_min (by omega) (by omega)]
          refine congrArg nI ?_
          rw [eD_s]
          omega
        iterate 8 refine hR (?_ : R (_, _, _, _, _, _))
        refine hR (?_ : R (_, _, _, _, _, _))
        iterate 3 refine hR (?_ : R (_, _, _, _, _, _))
        iterate 12 refine hR (?_ : R (_, _, _, _, _, _))
        refine hR (?_ : R (_, _, _, _, _, _))
        refine hR (?_ : R (_, _, _, _, _, _))
        iterate 8 refine hR (?_ : R (_, _, _, _, _, _))
        iterate 2 refine hR (?_ : R (_, _, _, _, _, _))
        refine ih (j9 + 1) _ _ _ _ _ (by omega) (e3 _ _ e2 e1) ?_ (by rw [hjj, nI1, nI_add])
        rw [e3 _ _ e2 e1, hnx, hjj, dz_shl (by omega) (by omega), dz_sum (pkr_lt _ hf1 _ (by omega))]
        rfl
      iterate 2 refine hR (?_ : R (_, _, _, _, _, _))
      refine hR (pk_lt (tLen b) (j9 + 1) (fun z => by omega) (fun _ => ?_) rfl hjj)
      iterate 5 refine hR (?_ : R (_, _, _, _, _, _))
      refine hR (zcall_i 0 0 (Nat.le_of_ble_eq_true rfl) (Nat.le_of_ble_eq_true rfl) (r_wordOfBits _ (nI (tB b)) (j - Int32.ofInt 1) (tB b) j9 rfl (by omega) (by rw [hjj, nI1, pk_sub (by omega), Nat.add_sub_cancel]) (by omega) _ _ ?_))
      have l1 : ue a i9 < 4 := Nat.mod_lt _ (by omega)
      have l2 : tB b / 4 ^ j9 % 4 < 4 := Nat.mod_lt _ (by omega)
      refine hR (pk_eq (ue a i9) (tB b / 4 ^ j9 % 4) (fun q => ?_) (fun q => ?_) hwd rfl).symm
      · iterate 3 refine hR (?_ : R (_, _, _, _, _, _))
        exact tail _ _ (by rw [nI0]; exact congrArg nI (if_pos q).symm)
      · iterate 2 refine hR (?_ : R (_, _, _, _, _, _))
        exact tail _ _ (by rw [nI1]; exact congrArg nI (if_neg q).symm)
  have loopB : ∀ (m9 i9 : Nat) (r i : Int32) (z8 z9 z10 z11 z12 z13 : Option Value), i9 + m9 = tLen a → r = nI (pkr (eD (ue a) (ue b) i9) (tLen b + 1)) → i = nI (i9 + 1) → R (56, [some (.int x), some (.int y), some (.int (nI (tB a))), some (.int (nI (tB b))), some (.int (nI (tLen a))), some (.int (nI (tLen b))), some (.int r), some (.int i), z8, z9, z10, z11, z12, z13], [], w, 0, 0) := by
    intro m9
    induction m9 with
    | zero =>
      intro i9 r i z8 z9 z10 z11 z12 z13 hj hr hi
      iterate 2 refine hR (?_ : R (_, _, _, _, _, _))
      refine hR (pk_lt (tLen a) (i9 + 1) (fun _ => ?_) (fun z => by omega) rfl hi)
      iterate 7 refine hR (?_ : R (_, _, _, _, _, _))
      have h3 : ∀ z, z = nI (eD (ue a) (ue b) (tLen a) (tLen b)) → Q (some (.int z)) w := fun z hz => by rw [hz]; exact h
      refine hR (zret_i rfl (Nat.le_refl _) trivial (h3 _ ?_))
      have e : i9 = tLen a := by omega
      rw [hr, dz_cell (hE i9 (by omega)) (by omega) (by omega), e]
    | succ m9 ih =>
      intro i9 r i z8 z9 z10 z11 z12 z13 hj hr hi
      iterate 2 refine hR (?_ : R (_, _, _, _, _, _))
      refine hR (pk_lt (tLen a) (i9 + 1) (fun z => by omega) (fun _ => ?_) rfl hi)
      iterate 4 refine hR (?_ : R (_, _, _, _, _, _))
      refine hR (zcall_i 0 0 (Nat.le_of_ble_eq_true rfl) (Nat.le_of_ble_eq_true rfl) (r_wordOfBits _ (nI (tB a)) (i - Int32.ofInt 1) (tB a) i9 rfl (by omega) (by rw [hi, nI1, pk_sub (by omega), Nat.add_sub_cancel]) (by omega) _ _ ?_))
      iterate 7 refine hR (?_ : R (_, _, _, _, _, _))
      refine loopC i9 (by omega) r i _ hr hi rfl ?_ (tLen b) 0 _ _ _ _ _ (by omega) (by rw [hi, eD_z]) ?_ nI1
      · intro nx j lf z8 z12 z13 hnx
        iterate 4 refine hR (?_ : R (_, _, _, _, _, _))
        exact ih (i9 + 1) _ _ _ _ _ _ _ _ (by omega) hnx (by rw [hi, nI1, nI_add])
      · rw [hi]
        refine congrArg nI ?_
        show i9 + 1 = 0 + eD (ue a) (ue b) (i9 + 1) 0 * 16 ^ 0
        rw [eD_z]
        omega
  have loopA : ∀ (m9 j9 : Nat) (r j : Int32), j9 + m9 = tLen b + 1 → r = nI (pkr (eD (ue a) (ue b) 0) j9) → j = nI j9 → R (28, [some (.int x), some (.int y), some (.int (nI (tB a))), some (.int (nI (tB b))), some (.int (nI (tLen a))), some (.int (nI (tLen b))), some (.int r), some (.int j), none, none, none, none, none, none], [], w, 0, 0) := by
    intro m9
    induction m9 with
    | zero =>
      intro j9 r j hj hr hjj
      iterate 2 refine hR (?_ : R (_, _, _, _, _, _))
      refine hR (pk_lt (tLen b) j9 (fun _ => ?_) (fun z => by omega) rfl hjj)
      iterate 2 refine hR (?_ : R (_, _, _, _, _, _))
      refine loopB (tLen a) 0 _ _ _ _ _ _ _ _ (by omega) ?_ nI1
      rw [hr]
      exact congrArg (fun c => nI (pkr (eD (ue a) (ue b) 0) c)) (by omega)
    | succ m9 ih =>
      intro j9 r j hj hr hjj
      iterate 2 refine hR (?_ : R (_, _, _, _, _, _))
      refine hR (pk_lt (tLen b) j9 (fun z => by omega) (fun _ => ?_) rfl hjj)
      iterate 10 refine hR (?_ : R (_, _, _, _, _, _))
      refine ih (j9 + 1) _ _ (by omega) ?_ (by rw [hjj, nI1, nI_add])
      rw [hr, hjj, dz_shl (by omega) (by omega), dz_sum (pkr_lt _ (hE 0 (by omega)) _ (by omega))]
      refine congrArg nI ?_
      show _ = pkr (eD (ue a) (ue b) 0) j9 + eD (ue a) (ue b) 0 j9 * 16 ^ j9
      rw [eD_0]
  refine hR (?_ : R (_, _, _, _, _, _))
  refine hR (zcall_i 0 0 (Nat.le_of_ble_eq_true rfl) (Nat.le_of_ble_eq_true rfl) (r_bitsOf _ _ a hx ha _ _ ?_))
  iterate 2 refine hR (?_ : R (_, _, _, _, _, _))
  refine hR (zcall_i 0 0 (Nat.le_of_ble_eq_true rfl) (Nat.le_of_ble_eq_true rfl) (r_bitsOf _ _ b hy hb _ _ ?_))
  iterate 2 refine hR (?_ : R (_, _, _, _, _, _))
  refine hR (zcall_i 0 0 (Nat.le_of_ble_eq_true rfl) (Nat.le_of_ble_eq_true rfl) (r_lengthOf _ _ a hx ha _ _ ?_))
  iterate 2 refine hR (?_ : R (_, _, _, _, _, _))
  refine hR (zcall_i 0 0 (Nat.le_of_ble_eq_true rfl) (Nat.le_of_ble_eq_true rfl) (r_lengthOf _ _ b hy hb _ _ ?_))
  iterate 5 refine hR (?_ : R (_, _, _, _, _, _))
  exact loopA (tLen b + 1) 0 _ _ (by omega) nI0 nI0
