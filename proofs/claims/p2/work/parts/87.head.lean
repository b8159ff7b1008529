def qLh : List zE := [(0, .new 7, 3, 10, 0), (3, .dup, 4, 0, 0), (4, .invokespecial 9, 7, 1, 0), (7, .astore_n 1, 8, 0, 0), (8, .new 10, 11, 11, 0), (11, .dup, 12, 0, 0), (12, .invokespecial 12, 15, 180, 0), (15, .astore_n 2, 16, 0, 0), (16, .iconst 0, 17, 0, 0), (17, .istore_n 3, 18, 0, 0), (18, .iload_n 3, 19, 0, 0), (19, .aload_n 0, 20, 0, 0), (20, .arraylength, 21, 0, 0), (21, .bipush 7, 23, 0, 0), (23, .isub, 24, 0, 0), (24, .if_icmp .gt 1824, 27, 1848, 0), (27, .aload_n 0, 28, 0, 0), (28, .iload_n 3, 29, 0, 0), (29, .iaload, 30, 0, 0), (30, .bipush 63, 32, 0, 0), (32, .iand, 33, 0, 0), (33, .tableswitch 1809 0 35 #[159, 222, 245, 278, 301, 334, 367, 400, 443, 486, 519, 572, 625, 658, 717, 750, 793, 836, 879, 938, 1007, 1098, 1141, 1194, 1247, 1300, 1359, 1418, 1487, 1556, 1615, 1664, 1707, 1740, 1763, 1786], 192, 0, 0), (1842, .iinc 3 7, 1845, 0, 0), (1845, .goto (-1827), 1848, 18, 0), (1848, .iconst 1, 1849, 0, 0), (1849, .ireturn, 1850, 0, 0)]
theorem sLh : qLh.all (fun e => decide (zat kL_law.2.2.2.2.2 e.1 = some e.2)) = true := by decide +kernel
theorem l_switch {R : zS → Prop} {L : Nat} {xs : Nat → Int32} (hR : ∀ y, zstep (zCl zTab 12) 12 kL_law (some (L, xs)) zTab 600000 7302250 zLQ y R → R y) (hL : L ≤ 3584) {w : zW} {i : Int} {k n : Nat} (hi : 0 ≤ i ∧ i + 7 ≤ L) (hJ : J w) (hk : k + 100 ≤ 600000) (hn : n + phi w + 300 ≤ 7302250) (hb : ∀ w' k' n', J w' → k' ≤ k + 100 → n' + phi w' ≤ n + phi w + 300 → R (1842, [some (.retAddr 0), some (.ref 0), some (.ref 14), some (.int (Int32.ofInt i))], [], w', k', n')) (v : Int) (hv : ¬ (v < 0 ∨ 35 < v)) : ∃ off, (#[159, 222, 245, 278, 301, 334, 367, 400, 443, 486, 519, 572, 625, 658, 717, 750, 793, 836, 879, 938, 1007, 1098, 1141, 1194, 1247, 1300, 1359, 1418, 1487, 1556, 1615, 1664, 1707, 1740, 1763, 1786] : Array Int)[(v - 0).toNat]? = some off ∧ R ((((33 : Nat) : Int) + off).toNat, [some (.retAddr 0), some (.ref 0), some (.ref 14), some (.int (Int32.ofInt i))], [], w, k, n) := by
  have hv : v = 0 ∨ v = 1 ∨ v = 2 ∨ v = 3 ∨ v = 4 ∨ v = 5 ∨ v = 6 ∨ v = 7 ∨ v = 8 ∨ v = 9 ∨ v = 10 ∨ v = 11 ∨ v = 12 ∨ v = 13 ∨ v = 14 ∨ v = 15 ∨ v = 16 ∨ v = 17 ∨ v = 18 ∨ v = 19 ∨ v = 20 ∨ v = 21 ∨ v = 22 ∨ v = 23 ∨ v = 24 ∨ v = 25 ∨ v = 26 ∨ v = 27 ∨ v = 28 ∨ v = 29 ∨ v = 30 ∨ v = 31 ∨ v = 32 ∨ v = 33 ∨ v = 34 ∨ v = 35 := by omega
  rcases hv with h | h | h | h | h | h | h | h | h | h | h | h | h | h | h | h | h | h | h | h | h | h | h | h | h | h | h | h | h | h | h | h | h | h | h | h
  · exact ⟨159, by rw [h]; rfl, l_c0 hR hL hi hJ hk hn hb⟩
  · exact ⟨222, by rw [h]; rfl, l_c1 hR hL hi hJ hk hn hb⟩
  · exact ⟨245, by rw [h]; rfl, l_c2 hR hL hi hJ hk hn hb⟩
  · exact ⟨278, by rw [h]; rfl, l_c3 hR hL hi hJ hk hn hb⟩
  · exact ⟨301, by rw [h]; rfl, l_c4 hR hL hi hJ hk hn hb⟩
  · exact ⟨334, by rw [h]; rfl, l_c5 hR hL hi hJ hk hn hb⟩
  · exact ⟨367, by rw [h]; rfl, l_c6 hR hL hi hJ hk hn hb⟩
  · exact ⟨400, by rw [h]; rfl, l_c7 hR hL hi hJ hk hn hb⟩
  · exact ⟨443, by rw [h]; rfl, l_c8 hR hL hi hJ hk hn hb⟩
  · exact ⟨486, by rw [h]; rfl, l_c9 hR hL hi hJ hk hn hb⟩
  · exact ⟨519, by rw [h]; rfl, l_c10 hR hL hi hJ hk hn hb⟩
  · exact ⟨572, by rw [h]; rfl, l_c11 hR hL hi hJ hk hn hb⟩
  · exact ⟨625, by rw [h]; rfl, l_c12 hR hL hi hJ hk hn hb⟩
  · exact ⟨658, by rw [h]; rfl, l_c13 hR hL hi hJ hk hn hb⟩
  · exact ⟨717, by rw [h]; rfl, l_c14 hR hL hi hJ hk hn hb⟩
  · exact ⟨750, by rw [h]; rfl, l_c15 hR hL hi hJ hk hn hb⟩
  · exact ⟨793, by rw [h]; rfl, l_c16 hR hL hi hJ hk hn hb⟩
  · exact ⟨836, by rw [h]; rfl, l_c17 hR hL hi hJ hk hn hb⟩
  · exact ⟨879, by rw [h]; rfl, l_c18 hR hL hi hJ hk hn hb⟩
  · exact ⟨938, by rw [h]; rfl, l_c19 hR hL hi hJ hk hn hb⟩
  · exact ⟨1007, by rw [h]; rfl, l_c20 hR hL hi hJ hk hn hb⟩
  · exact ⟨1098, by rw [h]; rfl, l_c21 hR hL hi hJ hk hn hb⟩
  · exact ⟨1141, by rw [h]; rfl, l_c22 hR hL hi hJ hk hn hb⟩
  · exact ⟨1194, by rw [h]; rfl, l_c23 hR hL hi hJ hk hn hb⟩
  · exact ⟨1247, by rw [h]; rfl, l_c24 hR hL hi hJ hk hn hb⟩
  · exact ⟨1300, by rw [h]; rfl, l_c25 hR hL hi hJ hk hn hb⟩
  · exact ⟨1359, by rw [h]; rfl, l_c26 hR hL hi hJ hk hn hb⟩
  · exact ⟨1418, by rw [h]; rfl, l_c27 hR hL hi hJ hk hn hb⟩
  · exact ⟨1487, by rw [h]; rfl, l_c28 hR hL hi hJ hk hn hb⟩
  · exact ⟨1556, by rw [h]; rfl, l_c29 hR hL hi hJ hk hn hb⟩
  · exact ⟨1615, by rw [h]; rfl, l_c30 hR hL hi hJ hk hn hb⟩
  · exact ⟨1664, by rw [h]; rfl, l_c31 hR hL hi hJ hk hn hb⟩
  · exact ⟨1707, by rw [h]; rfl, l_c32 hR hL hi hJ hk hn hb⟩
  · exact ⟨1740, by rw [h]; rfl, l_c33 hR hL hi hJ hk hn hb⟩
  · exact ⟨1763, by rw [h]; rfl, l_c34 hR hL hi hJ hk hn hb⟩
  · exact ⟨1786, by rw [h]; rfl, l_c35 hR hL hi hJ hk hn hb⟩
theorem le_b {a b B c : Nat} (h1 : a ≤ b + 300) (h2 : b ≤ B + 300 * c) : a ≤ B + 300 * (c + 1) := by
  rw [Nat.mul_add, Nat.mul_one, ← Nat.add_assoc]
  exact Nat.le_trans h1 (Nat.add_le_add_right h2 300)
theorem l_loop {R : zS → Prop} {L : Nat} {xs : Nat → Int32} (hR : ∀ y, zstep (zCl zTab 12) 12 kL_law (some (L, xs)) zTab 600000 7302250 zLQ y R → R y) (hL : L ≤ 3584) (B : Nat) (hB : B ≤ 527100) : ∀ (N c : Nat) (i : Int) (k n : Nat) (w : zW), J w → i = 7 * c → (0 ≤ i ∧ i ≤ L) → k ≤ 45 + 100 * c → n + phi w ≤ B + 300 * c → L - i < N → R (18, [some (.retAddr 0), some (.ref 0), some (.ref 14), some (.int (Int32.ofInt i))], [], w, k, n) := by
  have hR0 := hR
  have hR := @zrsub _ _ _ _ _ _ _ _ _ qLh sLh hR
  intro N
  induction N with
  | zero => intros; omega
  | succ N ih =>
    intro c i k n w hJ hic hi hk hn hN
    iterate 2 refine hR (?_ : R (_, _, _, _, _, _))
    refine hR (?_ : R (_, _, .int (Int32.ofInt (L : Int)) :: _, _, _, _))
    refine hR (t_c 7 (by decide) ?_)
    refine hR (t_sub ?_)
    refine hR (j_gt (by omega) (by omega) (fun hc => ?_) (fun hc => ?_))
    · refine hR (?_ : R (_, _, _, _, _, _))
      exact hR (⟨⟨by omega, by omega⟩, Or.inr rfl, rfl⟩ : (k ≤ 600000 ∧ n ≤ 7302250) ∧ (_ ∨ _) ∧ _)
    · have hb : ∀ w' k' n', J w' → k' ≤ k + 100 → n' + phi w' ≤ n + phi w + 300 → R (1842, [some (.retAddr 0), some (.ref 0), some (.ref 14), some (.int (Int32.ofInt i))], [], w', k', n') := by
        intro w' k' n' hJ' hk' hn'
        refine hR (t_inc ?_)
        refine hR (?_ : R (_, _, _, _, _, _))
        have q1 : i + 7 = 7 * ((c + 1 : Nat) : Int) := by omega
        have q2 : 0 ≤ i + 7 ∧ i + 7 ≤ (L : Int) := by omega
        have q3 : k' ≤ 45 + 100 * (c + 1) := by omega
        have q4 : n' + phi w' ≤ B + 300 * (c + 1) := le_b hn' hn
        have q5 : (L : Int) - (i + 7) < (N : Int) := by omega
        exact ih (c + 1) (i + 7) k' n' w' hJ' q1 q2 q3 q4 q5
      iterate 2 refine hR (?_ : R (_, _, _, _, _, _))
      refine hR (And.intro (zvin (by omega) (by omega) (by omega)) ?_)
      iterate 2 refine hR (?_ : R (_, _, _, _, _, _))
      refine hR (And.intro (fun _ => ?_) (fun hv => ?_))
      · exact hb w k n hJ (by omega) (by omega)
      · exact l_switch hR0 hL (by omega) hJ (by omega) (by omega) hb _ hv
theorem l_head {R : zS → Prop} {L : Nat} {xs : Nat → Int32} (hR : ∀ y, zstep (zCl zTab 12) 12 kL_law (some (L, xs)) zTab 600000 7302250 zLQ y R → R y) (hL : L ≤ 3584) : R (0, zent 4 [.retAddr 0], [], [], 0, 0) := by
  have hR0 := hR
  have hR := @zrsub _ _ _ _ _ _ _ _ _ qLh sLh hR
  refine hR (?_ : R (_, _, .ref 0 :: _, _, _, _))
  refine hR (?_ : R (_, _, _, _, _, _))
  refine hR (zcall_i 13 648 (Nat.le_of_ble_eq_true rfl) (Nat.le_of_ble_eq_true rfl) (i_class _ _ ?_))
  refine hR (?_ : R (_, _, _, _, _, _))
  refine hR (?_ : R (_, _, .ref 14 :: _, _, _, _))
  refine hR (?_ : R (_, _, _, _, _, _))
  refine hR (zcall_i 30 271692 (Nat.le_of_ble_eq_true rfl) (Nat.le_of_ble_eq_true rfl) (i_model _ _ ?_))
  iterate 3 refine hR (?_ : R (_, _, _, _, _, _))
  refine (?_ : R (18, [some (.retAddr 0), some (.ref 0), some (.ref 14), some (.int (Int32.ofInt 0))], [], zCw (zMf []), 45, 272400))
  exact l_loop hR0 hL 527100 (Nat.le_refl _) 10000 0 0 45 272400 _ J0 rfl (by omega) (by omega) (by rw [phi0]; omega) (by omega)
