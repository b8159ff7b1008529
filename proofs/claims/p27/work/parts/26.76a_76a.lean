/-! BYTES, and the tape: exact. -/
noncomputable def byt8 (x : Int) : Int := (x + 128) % 256 - 128
theorem byt8_r (x : Int) : -128 ≤ byt8 x ∧ byt8 x ≤ 127 := by unfold byt8; omega
theorem byt8_i {x : Int} (h : -128 ≤ x ∧ x ≤ 127) : byt8 x = x := by unfold byt8; omega
theorem x_i2b (e : Int) : (Int32.ofInt e).toInt8.toInt32 = Int32.ofInt (byt8 e) := by
  have hb := byt8_r e
  rw [zeq_i, Int8.toInt_toInt32, Int32.toInt_toInt8, Int32.toInt_ofInt, zti (by omega) (by omega)]
  rw [show Int32.size = 4294967296 from rfl, show ((2 : Nat) ^ 8) = 256 from rfl]
  unfold byt8 Int.bmod
  dsimp only
  split <;> split <;> omega
noncomputable def shr8 (e s : Int) : Int := if s = 0 then e else if s = 8 then e / 256 else if s = 16 then e / 65536 else e / 16777216
theorem shr8_0 (e : Int) : shr8 e 0 = e := if_pos rfl
theorem shr8_8 (e : Int) : shr8 e 8 = e / 256 := (if_neg (by decide)).trans (if_pos rfl)
theorem shr8_16 (e : Int) : shr8 e 16 = e / 65536 := (if_neg (by decide)).trans ((if_neg (by decide)).trans (if_pos rfl))
theorem shr8_24 (e : Int) : shr8 e 24 = e / 16777216 := (if_neg (by decide)).trans ((if_neg (by decide)).trans (if_neg (by decide)))
theorem x_shr {e s : Int} (he : -2147483648 ≤ e ∧ e ≤ 2147483647) (hs : s = 0 ∨ s = 8 ∨ s = 16 ∨ s = 24) : Int32.ofInt e >>> (Int32.ofInt s &&& 31) = Int32.ofInt (shr8 e s) := by
  have h8 : -2147483648 ≤ e / 256 ∧ e / 256 ≤ 2147483647 := by omega
  have h16 : -2147483648 ≤ e / 65536 ∧ e / 65536 ≤ 2147483647 := by omega
  have h24 : -2147483648 ≤ e / 16777216 ∧ e / 16777216 ≤ 2147483647 := by omega
  rcases hs with rfl | rfl | rfl | rfl
  · rw [shr8_0]
    have h := pk_shr (Int32.ofInt e) (Int32.ofInt 0 &&& 31) 0 (by decide)
    rw [zeq_i, h, zti he.1 he.2, Int.shiftRight_eq_div_pow]
    exact Int.ediv_one e
  · rw [shr8_8]
    have h := pk_shr (Int32.ofInt e) (Int32.ofInt 8 &&& 31) 8 (by decide)
    rw [zeq_i, h, zti he.1 he.2, zti h8.1 h8.2, Int.shiftRight_eq_div_pow] <;> rfl
  · rw [shr8_16]
    have h := pk_shr (Int32.ofInt e) (Int32.ofInt 16 &&& 31) 16 (by decide)
    rw [zeq_i, h, zti he.1 he.2, zti h16.1 h16.2, Int.shiftRight_eq_div_pow] <;> rfl
  · rw [shr8_24]
    have h := pk_shr (Int32.ofInt e) (Int32.ofInt 24 &&& 31) 24 (by decide)
    rw [zeq_i, h, zti he.1 he.2, zti h24.1 h24.2, Int.shiftRight_eq_div_pow] <;> rfl
theorem zi_nat (e : Int) : (Int32.ofInt e).toBitVec.toNat = (e % 4294967296).toNat := by
  show (BitVec.ofInt 32 e).toNat = _
  rw [BitVec.toNat_ofInt] <;> rfl
theorem zi_eqN {x : Int32} {e : Int} (h : x.toBitVec.toNat = (e % 4294967296).toNat) : x = Int32.ofInt e := by
  apply Int32.toBitVec_inj.mp
  apply BitVec.eq_of_toNat_eq
  rw [h, zi_nat]
theorem x_ushr {e s : Int} (hs : s = 0 ∨ s = 8 ∨ s = 16 ∨ s = 24) : ((Int32.ofInt e).toUInt32 >>> ((Int32.ofInt s).toUInt32 &&& Int32.toUInt32 31)).toInt32 = Int32.ofInt (shr8 (e % 4294967296) s) := by
  rcases hs with rfl | rfl | rfl | rfl
  · apply zi_eqN
    rw [pk_ushr _ _ 0 (by decide), zi_nat, shr8_0, show (2 : Nat) ^ 0 = 1 from rfl]
    omega
  · apply zi_eqN
    rw [pk_ushr _ _ 8 (by decide), zi_nat, shr8_8, show (2 : Nat) ^ 8 = 256 from rfl]
    omega
  · apply zi_eqN
    rw [pk_ushr _ _ 16 (by decide), zi_nat, shr8_16, show (2 : Nat) ^ 16 = 65536 from rfl]
    omega
  · apply zi_eqN
    rw [pk_ushr _ _ 24 (by decide), zi_nat, shr8_24, show (2 : Nat) ^ 24 = 16777216 from rfl]
    omega
theorem byt8_u {e s : Int} (hs : s = 0 ∨ s = 8 ∨ s = 16 ∨ s = 24) : byt8 (byt8 (shr8 (e % 4294967296) s)) = byt8 (shr8 e s) := by
  rw [byt8_i (byt8_r _)]
  rcases hs with rfl | rfl | rfl | rfl
  · rw [shr8_0, shr8_0]; unfold byt8; omega
  · rw [shr8_8, shr8_8]; unfold byt8; omega
  · rw [shr8_16, shr8_16]; unfold byt8; omega
  · rw [shr8_24, shr8_24]; unfold byt8; omega
noncomputable def pbB (a : Int) (j : Nat) : Int32 := Int32.ofInt (byt8 (shr8 a (24 - 8 * (j : Int))))
noncomputable def pbF (g : Nat → Int32) (l a : Int) : Nat → (Nat → Int32)
  | 0 => g
  | j + 1 => upd (pbF g l a j) (l + (j : Int)).toNat (pbB a j)
section XB
variable {R : zS → Prop} {np : Nat} {L : zL} {S : List Value} {w : zW} {k n : Nat}
theorem x_bst {q len : Nat} {i v : Int} {g : Nat → Int32} (h2 : zix w q = some (.inl (0, len, .inl g))) (h0 : 0 ≤ i) (h1 : i < len) (hl : len ≤ 60000) (hk : ∀ w1, wfr q w w1 → zix w1 q = some (.inl (0, len, .inl (upd g i.toNat (Int32.ofInt (byt8 v))))) → R (np, L, S, w1, k, n)) : zai w q (fun ti len g => zor (Nat.beq ti 0) (vp_in (Int32.ofInt i) len ∧ R (np, L, S, zst w q (.inl (ti, len, .inl (upd g (Int32.ofInt i).toNatClampNeg (vp_nar .byte (Int32.ofInt v))))), k, n)) (zif (Nat.beq ti 2) (vp_in (Int32.ofInt i) len ∧ R (np, L, S, zst w q (.inl (ti, len, .inl (upd g (Int32.ofInt i).toNatClampNeg (vp_nar .boolean (Int32.ofInt v))))), k, n)))) := by
  unfold zai
  rw [h2]
  refine ⟨zvin h0 h1 hl, ?_⟩
  rw [zcl h0 (by omega), vp_nar_byte, x_i2b]
  obtain ⟨f1, f2⟩ := wfr_st (c' := .inl (0, len, .inl (upd g i.toNat (Int32.ofInt (byt8 v))))) h2
  exact hk _ f1 f2
end XB
noncomputable abbrev td1 (l f c : Int) : va_E := .inr (7, [.ref 2, .int (Int32.ofInt l), .int (Int32.ofInt f), .int (Int32.ofInt c), .ref 3, .ref 4, .ref 5, .ref 6])
theorem x_putBytes {w : zW} (d : Nat) (a1 l f c : Int) (g : Nat → Int32) (hO : zix w 1 = some (td1 l f c)) (hg : zix w 2 = some (.inl (0, 600, .inl g))) (hl : 0 ≤ l ∧ l ≤ 596) (Q : zQ) (h : ∀ w', wfM (fun j => j ≠ 1 ∧ j ≠ 2) w w' → zix w' 1 = some (td1 (l + 4) f c) → zix w' 2 = some (.inl (0, 600, .inl (pbF g l a1 4))) → Q none w') : zCl zTab (d + 1) iX8_putBytes [.ref 1, .int (Int32.ofInt a1)] w 0 0 Q := by
  refine zCl_i (M := kX8_putBytes) rfl (Nat.le_of_ble_eq_true rfl) fun R hR => ?_
  have loop : ∀ (N j : Nat) (sh lx : Int) (v : zW), j ≤ 4 → sh = 24 - 8 * (j : Int) → lx = l + (j : Int) → wfM (fun j => j ≠ 1 ∧ j ≠ 2) w v → zix v 1 = some (td1 lx f c) → zix v 2 = some (.inl (0, 600, .inl (pbF g l a1 j))) → 5 - j < N → R (3, [some (.ref 1), some (.int (Int32.ofInt a1)), some (.int (Int32.ofInt sh))], [], v, 0, 0) := by
    intro N
    induction N with
    | zero => intros; omega
    | succ N ih =>
      intro j sh lx v hj hs hx fr hO' hg' hN
      refine hR (?_ : R (_, _, _, _, _, _))
      refine hR (k_lt (by omega) (fun hc => ?_) (fun hc => ?_))
      · obtain rfl : j = 4 := by omega
        obtain rfl : lx = l + 4 := by omega
        exact hR (zret_i rfl (Nat.le_refl _) rfl (h v fr hO' hg'))
      · refine hR (?_ : R (_, _, _, _, _, _))
        refine hR (c_get hO' rfl ?_)
        refine hR (t_c 600 (by decide) ?_)
        refine hR (j_ge (by omega) (by omega) (fun hc => by omega) (fun hc => ?_))
        refine hR (?_ : R (_, _, _, _, _, _))
        refine hR (c_get hO' rfl ?_)
        refine hR (?_ : R (_, _, _, _, _, _))
        refine hR (c_get hO' rfl ?_)
        iterate 2 refine hR (?_ : R (_, _, _, _, _, _))
        refine hR (t_c _ (x_ushr (e := a1) (s := sh) (by omega)) ?_)
        refine hR (t_c _ (x_i2b _) ?_)
        refine hR (x_bst hg' (by omega) (by omega) (Nat.le_of_ble_eq_true rfl) fun w1 f1 hg1 => ?_)
        rw [byt8_u (by omega)] at hg1
        have hg1' : zix w1 2 = some (.inl (0, 600, .inl (pbF g l a1 (j + 1)))) := by
          rw [hg1, hx, hs]
          rfl
        have hO1 := (f1.2 1 (by decide)).trans hO'
        iterate 2 refine hR (?_ : R (_, _, _, _, _, _))
        refine hR (c_get hO1 rfl ?_)
        refine hR (?_ : R (_, _, _, _, _, _))
        refine hR (t_add ?_)
        refine hR (c_put hO1 rfl rfl fun w2 f2 hO2 => ?_)
        refine hR (t_inc ?_)
        refine hR (?_ : R (_, _, _, _, _, _))
        exact ih (j + 1) (sh + (-8)) (lx + 1) w2 (by omega) (by omega) (by omega) (wfM_st (wfM_st fr f1 (fun j hj => hj.2)) f2 (fun j hj => hj.1)) hO2 ((f2.2 2 (by decide)).trans hg1') (by omega)
  refine hR (t_c 24 (by decide) ?_)
  refine hR (?_ : R (_, _, _, _, _, _))
  exact loop 100 0 24 l w (by omega) (by omega) (by omega) (wfM_rf _ w) hO hg (by omega)
noncomputable def fdF (g : Nat → Int32) (l a1 a2 a3 a4 a5 : Int) : Nat → Int32 := pbF (pbF (pbF (pbF (pbF g l a1 4) (l + 4) a2 4) (l + 4 + 4) a3 4) (l + 4 + 4 + 4) a4 4) (l + 4 + 4 + 4 + 4) a5 4
noncomputable abbrev ob0 (y6 y7 : Value) : va_E := .inr (10, [.ref 1, .ref 7, .ref 8, .ref 9, .ref 12, .ref 13, y6, y7])
theorem x_feed {w : zW} (d : Nat) (a1 a2 a3 a4 a5 l f c : Int) (y6 y7 : Value) (g : Nat → Int32) (h0 : zix w 0 = some (ob0 y6 y7)) (hO : zix w 1 = some (td1 l f c)) (hg : zix w 2 = some (.inl (0, 600, .inl g))) (hl : 0 ≤ l ∧ l ≤ 600) (Q : zQ) (h1 : 580 < l → Q (some (.int (Int32.ofInt (-1)))) w) (h : l ≤ 580 → ∀ w', wfM (fun j => j ≠ 1 ∧ j ≠ 2) w w' → zix w' 1 = some (td1 (l + 20) f c) → zix w' 2 = some (.inl (0, 600, .inl (fdF g l a1 a2 a3 a4 a5))) → Q (some (.int (Int32.ofInt (l + 20)))) w') : zCl zTab (d + 2) iX11_feed [.ref 0, .int (Int32.ofInt a1), .int (Int32.ofInt a2), .int (Int32.ofInt a3), .int (Int32.ofInt a4), .int (Int32.ofInt a5)] w 0 0 Q := by
  refine zCl_i (M := kX11_feed) rfl (Nat.le_of_ble_eq_true rfl) fun R hR => ?_
  refine hR (?_ : R (_, _, _, _, _, _))
  refine hR (c_get h0 rfl ?_)
  refine hR (c_get hO rfl ?_)
  refine hR (t_c 580 (by decide) ?_)
  refine hR (j_le (by omega) (by omega) (fun hc => ?_) (fun hc => ?_))
  rotate_left
  · refine hR (?_ : R (_, _, _, _, _, _))
    exact hR (zret_i rfl (Nat.le_refl _) trivial (h1 (by omega)))
  refine hR (?_ : R (_, _, _, _, _, _))
  refine hR (c_get h0 rfl ?_)
  refine hR (?_ : R (_, _, _, _, _, _))
  refine hR (c_obj hO (zcall_i 0 0 (Nat.le_of_ble_eq_true rfl) (Nat.le_of_ble_eq_true rfl) (x_putBytes _ a1 l f c g hO hg (by omega) _ fun w1 fr1 hO1 hg1 => ?_)))
  refine (?_ : R (_, _, [], w1, 0, 0))
  have h01 := (fr1.2 0 (by omega)).trans h0
  refine hR (?_ : R (_, _, _, _, _, _))
  refine hR (c_get h01 rfl ?_)
  refine hR (?_ : R (_, _, _, _, _, _))
  refine hR (c_obj hO1 (zcall_i 0 0 (Nat.le_of_ble_eq_true rfl) (Nat.le_of_ble_eq_true rfl) (x_putBytes _ a2 _ f c _ hO1 hg1 (by omega) _ fun w2 fr2 hO2 hg2 => ?_)))
  refine (?_ : R (_, _, [], w2, 0, 0))
  have h02 := (fr2.2 0 (by omega)).trans h01
  refine hR (?_ : R (_, _, _, _, _, _))
  refine hR (c_get h02 rfl ?_)
  refine hR (?_ : R (_, _, _, _, _, _))
  refine hR (c_obj hO2 (zcall_i 0 0 (Nat.le_of_ble_eq_true rfl) (Nat.le_of_ble_eq_true rfl) (x_putBytes _ a3 _ f c _ hO2 hg2 (by omega) _ fun w3 fr3 hO3 hg3 => ?_)))
  refine (?_ : R (_, _, [], w3, 0, 0))
  have h03 := (fr3.2 0 (by omega)).trans h02
  refine hR (?_ : R (_, _, _, _, _, _))
  refine hR (c_get h03 rfl ?_)
  refine hR (?_ : R (_, _, _, _, _, _))
  refine hR (c_obj hO3 (zcall_i 0 0 (Nat.le_of_ble_eq_true rfl) (Nat.le_of_ble_eq_true rfl) (x_putBytes _ a4 _ f c _ hO3 hg3 (by omega) _ fun w4 fr4 hO4 hg4 => ?_)))
  refine (?_ : R (_, _, [], w4, 0, 0))
  have h04 := (fr4.2 0 (by omega)).trans h03
  refine hR (?_ : R (_, _, _, _, _, _))
  refine hR (c_get h04 rfl ?_)
  refine hR (?_ : R (_, _, _, _, _, _))
  refine hR (c_obj hO4 (zcall_i 0 0 (Nat.le_of_ble_eq_true rfl) (Nat.le_of_ble_eq_true rfl) (x_putBytes _ a5 _ f c _ hO4 hg4 (by omega) _ fun w5 fr5 hO5 hg5 => ?_)))
  refine (?_ : R (_, _, [], w5, 0, 0))
  have h05 := (fr5.2 0 (by omega)).trans h04
  have e20 : l + 4 + 4 + 4 + 4 + 4 = l + 20 := by omega
  rw [e20] at hO5
  refine hR (?_ : R (_, _, _, _, _, _))
  refine hR (c_get h05 rfl ?_)
  refine hR (c_get hO5 rfl ?_)
  exact hR (zret_i rfl (Nat.le_refl _) trivial (h (by omega) w5 (wfM_tr (wfM_tr (wfM_tr (wfM_tr fr1 fr2 fun _ h => h) fr3 fun _ h => h) fr4 fun _ h => h) fr5 fun _ h => h) hO5 hg5))
theorem x_end {w : zW} (d : Nat) (a1 l f c : Int) (y6 y7 : Value) (h0 : zix w 0 = some (ob0 y6 y7)) (hO : zix w 1 = some (td1 l f c)) (hl : 0 ≤ l ∧ l ≤ 600) (hr : -2147483648 ≤ a1 ∧ a1 ≤ 2147483647) (Q : zQ) (h1 : (a1 < 0 ∨ l < a1) → Q (some (.int (Int32.ofInt (-1)))) w) (h : (0 ≤ a1 ∧ a1 ≤ l) → ∀ w', wfM (fun j => j ≠ 1) w w' → zix w' 1 = some (td1 a1 f c) → Q (some (.int (Int32.ofInt a1))) w') : zCl zTab (d + 1) iX11_end [.ref 0, .int (Int32.ofInt a1)] w 0 0 Q := by
  refine zCl_i (M := kX11_end) rfl (Nat.le_of_ble_eq_true rfl) fun R hR => ?_
  have bad : (a1 < 0 ∨ l < a1) → R (15, [some (.ref 0), some (.int (Int32.ofInt a1))], [], w, 0, 0) := by
    intro hx
    refine hR (?_ : R (_, _, _, _, _, _))
    exact hR (zret_i rfl (Nat.le_refl _) trivial (h1 hx))
  refine hR (?_ : R (_, _, _, _, _, _))
  refine hR (k_lt (by omega) (fun hc => bad (Or.inl hc)) (fun hc => ?_))
  iterate 2 refine hR (?_ : R (_, _, _, _, _, _))
  refine hR (c_get h0 rfl ?_)
  refine hR (c_get hO rfl ?_)
  refine hR (j_le (by omega) (by omega) (fun hc2 => ?_) (fun hc2 => bad (Or.inr (by omega))))
  refine hR (?_ : R (_, _, _, _, _, _))
  refine hR (c_get h0 rfl ?_)
  refine hR (?_ : R (_, _, _, _, _, _))
  refine hR (c_put hO rfl rfl fun w2 f2 hO2 => ?_)
  refine hR (?_ : R (_, _, _, _, _, _))
  exact hR (zret_i rfl (Nat.le_refl _) trivial (h (by omega) w2 (wfM_st (wfM_rf _ w) f2 (fun j hj => hj)) hO2))
