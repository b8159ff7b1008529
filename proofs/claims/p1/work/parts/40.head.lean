def qLh : List zE := [(0, .new 7, 3, 10, 0), (3, .dup, 4, 0, 0), (4, .invokespecial 9, 7, 1, 0), (7, .astore_n 1, 8, 0, 0), (8, .new 10, 11, 11, 0), (11, .dup, 12, 0, 0), (12, .invokespecial 12, 15, 66, 0), (15, .astore_n 2, 16, 0, 0), (16, .iconst 0, 17, 0, 0), (17, .istore_n 3, 18, 0, 0), (18, .iload_n 3, 19, 0, 0), (19, .aload_n 0, 20, 0, 0), (20, .arraylength, 21, 0, 0), (21, .bipush 7, 23, 0, 0), (23, .isub, 24, 0, 0), (24, .if_icmp .gt 1825, 27, 1849, 0), (27, .aload_n 0, 28, 0, 0), (28, .iload_n 3, 29, 0, 0), (29, .iaload, 30, 0, 0), (30, .bipush 63, 32, 0, 0), (32, .iand, 33, 0, 0), (33, .tableswitch 1810 0 35 #[159, 222, 245, 278, 301, 334, 367, 400, 443, 486, 519, 572, 625, 658, 717, 750, 793, 836, 879, 939, 1008, 1099, 1142, 1195, 1248, 1301, 1360, 1419, 1488, 1557, 1616, 1665, 1708, 1741, 1764, 1787], 192, 0, 0), (1849, .iconst 1, 1850, 0, 0), (1850, .ireturn, 1851, 0, 0)]
theorem sLh : qLh.all (fun e => decide (zat kL_law.2.2.2.2.2 e.1 = some e.2)) = true := by decide +kernel
theorem l_ngt : ¬ Int32.ofNat 7 - (Int8.ofInt 7).toInt32 < Int32.ofInt 0 := by decide
theorem l_v0 : vp_in (Int32.ofInt 0) 7 := by unfold vp_in; decide
theorem l_switch {R : zS → Prop} {xs : Nat → Int32} (hR : ∀ y, zstep (zCl zTab 12) 12 kL_law (some (7, xs)) zTab 600000 7302250 zLQ y R → R y) (v : Int) (hn : ¬ (v < 0 ∨ 35 < v)) : ∃ off, (#[159, 222, 245, 278, 301, 334, 367, 400, 443, 486, 519, 572, 625, 658, 717, 750, 793, 836, 879, 939, 1008, 1099, 1142, 1195, 1248, 1301, 1360, 1419, 1488, 1557, 1616, 1665, 1708, 1741, 1764, 1787] : Array Int)[(v - 0).toNat]? = some off ∧ R ((((33 : Nat) : Int) + off).toNat, [some (.retAddr 0), some (.ref 0), some (.ref 14), some (.int (Int32.ofInt 0))], [], zCw (zMf []), 45, 272400) := by
  have hv : v = 0 ∨ v = 1 ∨ v = 2 ∨ v = 3 ∨ v = 4 ∨ v = 5 ∨ v = 6 ∨ v = 7 ∨ v = 8 ∨ v = 9 ∨ v = 10 ∨ v = 11 ∨ v = 12 ∨ v = 13 ∨ v = 14 ∨ v = 15 ∨ v = 16 ∨ v = 17 ∨ v = 18 ∨ v = 19 ∨ v = 20 ∨ v = 21 ∨ v = 22 ∨ v = 23 ∨ v = 24 ∨ v = 25 ∨ v = 26 ∨ v = 27 ∨ v = 28 ∨ v = 29 ∨ v = 30 ∨ v = 31 ∨ v = 32 ∨ v = 33 ∨ v = 34 ∨ v = 35 := by omega
  rcases hv with h | h | h | h | h | h | h | h | h | h | h | h | h | h | h | h | h | h | h | h | h | h | h | h | h | h | h | h | h | h | h | h | h | h | h | h
  · exact ⟨159, by rw [h]; rfl, l_c0 hR⟩
  · exact ⟨222, by rw [h]; rfl, l_c1 hR⟩
  · exact ⟨245, by rw [h]; rfl, l_c2 hR⟩
  · exact ⟨278, by rw [h]; rfl, l_c3 hR⟩
  · exact ⟨301, by rw [h]; rfl, l_c4 hR⟩
  · exact ⟨334, by rw [h]; rfl, l_c5 hR⟩
  · exact ⟨367, by rw [h]; rfl, l_c6 hR⟩
  · exact ⟨400, by rw [h]; rfl, l_c7 hR⟩
  · exact ⟨443, by rw [h]; rfl, l_c8 hR⟩
  · exact ⟨486, by rw [h]; rfl, l_c9 hR⟩
  · exact ⟨519, by rw [h]; rfl, l_c10 hR⟩
  · exact ⟨572, by rw [h]; rfl, l_c11 hR⟩
  · exact ⟨625, by rw [h]; rfl, l_c12 hR⟩
  · exact ⟨658, by rw [h]; rfl, l_c13 hR⟩
  · exact ⟨717, by rw [h]; rfl, l_c14 hR⟩
  · exact ⟨750, by rw [h]; rfl, l_c15 hR⟩
  · exact ⟨793, by rw [h]; rfl, l_c16 hR⟩
  · exact ⟨836, by rw [h]; rfl, l_c17 hR⟩
  · exact ⟨879, by rw [h]; rfl, l_c18 hR⟩
  · exact ⟨939, by rw [h]; rfl, l_c19 hR⟩
  · exact ⟨1008, by rw [h]; rfl, l_c20 hR⟩
  · exact ⟨1099, by rw [h]; rfl, l_c21 hR⟩
  · exact ⟨1142, by rw [h]; rfl, l_c22 hR⟩
  · exact ⟨1195, by rw [h]; rfl, l_c23 hR⟩
  · exact ⟨1248, by rw [h]; rfl, l_c24 hR⟩
  · exact ⟨1301, by rw [h]; rfl, l_c25 hR⟩
  · exact ⟨1360, by rw [h]; rfl, l_c26 hR⟩
  · exact ⟨1419, by rw [h]; rfl, l_c27 hR⟩
  · exact ⟨1488, by rw [h]; rfl, l_c28 hR⟩
  · exact ⟨1557, by rw [h]; rfl, l_c29 hR⟩
  · exact ⟨1616, by rw [h]; rfl, l_c30 hR⟩
  · exact ⟨1665, by rw [h]; rfl, l_c31 hR⟩
  · exact ⟨1708, by rw [h]; rfl, l_c32 hR⟩
  · exact ⟨1741, by rw [h]; rfl, l_c33 hR⟩
  · exact ⟨1764, by rw [h]; rfl, l_c34 hR⟩
  · exact ⟨1787, by rw [h]; rfl, l_c35 hR⟩
theorem l_head7 {R : zS → Prop} {xs : Nat → Int32} (hR : ∀ y, zstep (zCl zTab 12) 12 kL_law (some (7, xs)) zTab 600000 7302250 zLQ y R → R y) : R (0, zent 4 [.retAddr 0], [], [], 0, 0) := by
  have hR0 := hR
  have hR := @zrsub _ _ _ _ _ _ _ _ _ qLh sLh hR
  refine hR (?_ : R (_, _, .ref 0 :: _, _, _, _))
  refine hR (?_ : R (_, _, _, _, _, _))
  refine hR (zcall_i 13 648 (Nat.le_of_ble_eq_true rfl) (Nat.le_of_ble_eq_true rfl) (i_class _ _ ?_))
  refine hR (?_ : R (_, _, _, _, _, _))
  refine hR (?_ : R (_, _, .ref 14 :: _, _, _, _))
  refine hR (?_ : R (_, _, _, _, _, _))
  refine hR (zcall_i 30 271692 (Nat.le_of_ble_eq_true rfl) (Nat.le_of_ble_eq_true rfl) (i_model _ _ ?_))
  iterate 3 refine hR (?_ : R (_, _, _, _, _, _))
  refine (?_ : R (18, [some (.retAddr 0), some (.ref 0), some (.ref 14), some (.int (Int32.ofInt 0))], [], zCw (zMf []), 45, 272400))
  iterate 5 refine hR (?_ : R (_, _, _, _, _, _))
  refine hR (And.intro (fun hc => absurd hc l_ngt) (fun _ => ?_))
  iterate 2 refine hR (?_ : R (_, _, _, _, _, _))
  refine hR (And.intro l_v0 ?_)
  iterate 2 refine hR (?_ : R (_, _, _, _, _, _))
  refine hR (And.intro (fun _ => ?_) (fun hn => ?_))
  · exact l_end hR0 _ _ _ (Nat.le_of_ble_eq_true rfl) (Nat.le_of_ble_eq_true rfl)
  · exact l_switch hR0 _ hn
theorem l_headS {L : Nat} (hL : L < 7) {R : zS → Prop} {xs : Nat → Int32} (hR : ∀ y, zstep (zCl zTab 12) 12 kL_law (some (L, xs)) zTab 600000 7302250 zLQ y R → R y) : R (0, zent 4 [.retAddr 0], [], [], 0, 0) := by
  have hg : Int32.ofNat L - (Int8.ofInt 7).toInt32 < Int32.ofInt 0 := by
    have hv : L = 0 ∨ L = 1 ∨ L = 2 ∨ L = 3 ∨ L = 4 ∨ L = 5 ∨ L = 6 := by omega
    rcases hv with rfl | rfl | rfl | rfl | rfl | rfl | rfl <;> decide
  have hR := @zrsub _ _ _ _ _ _ _ _ _ qLh sLh hR
  refine hR (?_ : R (_, _, .ref 0 :: _, _, _, _))
  refine hR (?_ : R (_, _, _, _, _, _))
  refine hR (zcall_i 13 648 (Nat.le_of_ble_eq_true rfl) (Nat.le_of_ble_eq_true rfl) (i_class _ _ ?_))
  refine hR (?_ : R (_, _, _, _, _, _))
  refine hR (?_ : R (_, _, .ref 14 :: _, _, _, _))
  refine hR (?_ : R (_, _, _, _, _, _))
  refine hR (zcall_i 30 271692 (Nat.le_of_ble_eq_true rfl) (Nat.le_of_ble_eq_true rfl) (i_model _ _ ?_))
  iterate 3 refine hR (?_ : R (_, _, _, _, _, _))
  refine (?_ : R (18, [some (.retAddr 0), some (.ref 0), some (.ref 14), some (.int (Int32.ofInt 0))], [], zCw (zMf []), 45, 272400))
  iterate 5 refine hR (?_ : R (_, _, _, _, _, _))
  refine hR (And.intro (fun _ => ?_) (fun hc => absurd hg hc))
  refine hR (?_ : R (_, _, _, _, _, _))
  exact hR (⟨⟨Nat.le_of_ble_eq_true rfl, Nat.le_of_ble_eq_true rfl⟩, Or.inr rfl, rfl⟩ : (_ ≤ 600000 ∧ _ ≤ 7302250) ∧ (_ ∨ _) ∧ _)
