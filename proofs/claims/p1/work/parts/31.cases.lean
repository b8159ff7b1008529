def zLQ : zQ := fun r _ => r = some (.int 1)
theorem zrsub {C : zCT} {d : Nat} {M : zM} {E : zX} {tab : List zM} {mc ms : Nat} {Q : zQ} {R : zS → Prop} (cd : List zE) (h : cd.all (fun e => decide (zat M.2.2.2.2.2 e.1 = some e.2)) = true) (hR : ∀ y, zstep C d M E tab mc ms Q y R → R y) : ∀ {pc : Nat} {L : zL} {S : List Value} {w : zW} {k n : Nat}, zsc C d (M.1, M.2.1, M.2.2.1, M.2.2.2.1, M.2.2.2.2.1, cd) E tab mc ms Q pc L S w k n R → R (pc, L, S, w, k, n) := by
  intro pc L S w k n hy
  refine hR (pc, L, S, w, k, n) ?_
  unfold zsc at hy
  unfold zstep
  dsimp only at hy ⊢
  split at hy
  · exact hy.elim
  · rename_i r hr
    have h1 := List.all_eq_true.mp h _ (zat_mem hr)
    rw [of_decide_eq_true h1]
    exact hy
theorem l_v1 : vp_in (Int32.ofInt 0 + Int32.ofInt 1) 7 := by unfold vp_in; decide
theorem l_v2 : vp_in (Int32.ofInt 0 + Int32.ofInt 2) 7 := by unfold vp_in; decide
theorem l_v3 : vp_in (Int32.ofInt 0 + Int32.ofInt 3) 7 := by unfold vp_in; decide
theorem l_v4 : vp_in (Int32.ofInt 0 + Int32.ofInt 4) 7 := by unfold vp_in; decide
theorem l_v5 : vp_in (Int32.ofInt 0 + Int32.ofInt 5) 7 := by unfold vp_in; decide
theorem l_v6 : vp_in (Int32.ofInt 0 + Int32.ofInt 6) 7 := by unfold vp_in; decide
theorem l_gt : Int32.ofNat 7 - (Int8.ofInt 7).toInt32 < Int32.ofInt 0 + Int32.ofInt 7 := by decide
def qLe : List zE := [(18, .iload_n 3, 19, 0, 0), (19, .aload_n 0, 20, 0, 0), (20, .arraylength, 21, 0, 0), (21, .bipush 7, 23, 0, 0), (23, .isub, 24, 0, 0), (24, .if_icmp .gt 1825, 27, 1849, 0), (1843, .iinc 3 7, 1846, 0, 0), (1846, .goto (-1828), 1849, 18, 0), (1849, .iconst 1, 1850, 0, 0), (1850, .ireturn, 1851, 0, 0)]
theorem sLe : qLe.all (fun e => decide (zat kL_law.2.2.2.2.2 e.1 = some e.2)) = true := by decide +kernel
theorem l_end {R : zS → Prop} {xs : Nat → Int32} (hR : ∀ y, zstep (zCl zTab 12) 12 kL_law (some (7, xs)) zTab 600000 7302250 zLQ y R → R y) (w : zW) (k n : Nat) (hk : k ≤ 600000) (hn : n ≤ 7302250) : R (1843, [some (.retAddr 0), some (.ref 0), some (.ref 14), some (.int (Int32.ofInt 0))], [], w, k, n) := by
  have hR := @zrsub _ _ _ _ _ _ _ _ _ qLe sLe hR
  iterate 7 refine hR (?_ : R (_, _, _, _, _, _))
  refine hR (And.intro (fun _ => ?_) (fun hc => absurd l_gt hc))
  refine hR (?_ : R (_, _, _, _, _, _))
  exact hR (⟨⟨hk, hn⟩, Or.inr rfl, rfl⟩ : (k ≤ 600000 ∧ n ≤ 7302250) ∧ (_ ∨ _) ∧ _)
def qL0 : List zE := [(192, .aload_n 1, 193, 0, 0), (193, .aload_n 0, 194, 0, 0), (194, .iload_n 3, 195, 0, 0), (195, .iconst 1, 196, 0, 0), (196, .iadd, 197, 0, 0), (197, .iaload, 198, 0, 0), (198, .aload_n 0, 199, 0, 0), (199, .iload_n 3, 200, 0, 0), (200, .iconst 2, 201, 0, 0), (201, .iadd, 202, 0, 0), (202, .iaload, 203, 0, 0), (203, .aload_n 0, 204, 0, 0), (204, .iload_n 3, 205, 0, 0), (205, .iconst 3, 206, 0, 0), (206, .iadd, 207, 0, 0), (207, .iaload, 208, 0, 0), (208, .aload_n 0, 209, 0, 0), (209, .iload_n 3, 210, 0, 0), (210, .iconst 4, 211, 0, 0), (211, .iadd, 212, 0, 0), (212, .iaload, 213, 0, 0), (213, .aload_n 0, 214, 0, 0), (214, .iload_n 3, 215, 0, 0), (215, .iconst 5, 216, 0, 0), (216, .iadd, 217, 0, 0), (217, .iaload, 218, 0, 0), (218, .invokevirtual 13, 221, 2, 5), (221, .aload_n 2, 222, 0, 0), (222, .aload_n 0, 223, 0, 0), (223, .iload_n 3, 224, 0, 0), (224, .iconst 1, 225, 0, 0), (225, .iadd, 226, 0, 0), (226, .iaload, 227, 0, 0), (227, .aload_n 0, 228, 0, 0), (228, .iload_n 3, 229, 0, 0), (229, .iconst 2, 230, 0, 0), (230, .iadd, 231, 0, 0), (231, .iaload, 232, 0, 0), (232, .aload_n 0, 233, 0, 0), (233, .iload_n 3, 234, 0, 0), (234, .iconst 3, 235, 0, 0), (235, .iadd, 236, 0, 0), (236, .iaload, 237, 0, 0), (237, .aload_n 0, 238, 0, 0), (238, .iload_n 3, 239, 0, 0), (239, .iconst 4, 240, 0, 0), (240, .iadd, 241, 0, 0), (241, .iaload, 242, 0, 0), (242, .aload_n 0, 243, 0, 0), (243, .iload_n 3, 244, 0, 0), (244, .iconst 5, 245, 0, 0), (245, .iadd, 246, 0, 0), (246, .iaload, 247, 0, 0), (247, .invokevirtual 17, 250, 67, 5), (250, .if_icmp .eq 1593, 253, 1843, 0), (253, .iconst 0, 254, 0, 0), (254, .ireturn, 255, 0, 0)]
theorem sL0 : qL0.all (fun e => decide (zat kL_law.2.2.2.2.2 e.1 = some e.2)) = true := by decide +kernel
theorem l_c0 {R : zS → Prop} {xs : Nat → Int32} (hR : ∀ y, zstep (zCl zTab 12) 12 kL_law (some (7, xs)) zTab 600000 7302250 zLQ y R → R y) : R (192, [some (.retAddr 0), some (.ref 0), some (.ref 14), some (.int (Int32.ofInt 0))], [], zCw (zMf []), 45, 272400) := by
  have hR0 := hR
  have hR := @zrsub _ _ _ _ _ _ _ _ _ qL0 sL0 hR
  iterate 5 refine hR (?_ : R (_, _, _, _, _, _))
  refine hR (And.intro l_v1 ?_)
  iterate 4 refine hR (?_ : R (_, _, _, _, _, _))
  refine hR (And.intro l_v2 ?_)
  iterate 4 refine hR (?_ : R (_, _, _, _, _, _))
  refine hR (And.intro l_v3 ?_)
  iterate 4 refine hR (?_ : R (_, _, _, _, _, _))
  refine hR (And.intro l_v4 ?_)
  iterate 4 refine hR (?_ : R (_, _, _, _, _, _))
  refine hR (And.intro l_v5 ?_)
  refine hR (zcall_i 0 0 (Nat.le_of_ble_eq_true rfl) (Nat.le_of_ble_eq_true rfl) (r_feed _ _ _ _ _ _ _ (fun _ _ _ _ _ _ _ _ _ _ _ _ _ _ _ => ?_)))
  iterate 5 refine hR (?_ : R (_, _, _, _, _, _))
  refine hR (And.intro l_v1 ?_)
  iterate 4 refine hR (?_ : R (_, _, _, _, _, _))
  refine hR (And.intro l_v2 ?_)
  iterate 4 refine hR (?_ : R (_, _, _, _, _, _))
  refine hR (And.intro l_v3 ?_)
  iterate 4 refine hR (?_ : R (_, _, _, _, _, _))
  refine hR (And.intro l_v4 ?_)
  iterate 4 refine hR (?_ : R (_, _, _, _, _, _))
  refine hR (And.intro l_v5 ?_)
  refine hR (zcall_i 0 0 (Nat.le_of_ble_eq_true rfl) (Nat.le_of_ble_eq_true rfl) (m_feed _ _ _ _ _ _ _ (fun _ => ?_)))
  refine hR (And.intro (fun _ => ?_) (fun hc => absurd rfl hc))
  exact l_end hR0 _ _ _ (Nat.le_of_ble_eq_true rfl) (Nat.le_of_ble_eq_true rfl)
def qL1 : List zE := [(255, .aload_n 1, 256, 0, 0), (256, .aload_n 0, 257, 0, 0), (257, .iload_n 3, 258, 0, 0), (258, .iconst 1, 259, 0, 0), (259, .iadd, 260, 0, 0), (260, .iaload, 261, 0, 0), (261, .invokevirtual 18, 264, 3, 1), (264, .aload_n 2, 265, 0, 0), (265, .aload_n 0, 266, 0, 0), (266, .iload_n 3, 267, 0, 0), (267, .iconst 1, 268, 0, 0), (268, .iadd, 269, 0, 0), (269, .iaload, 270, 0, 0), (270, .invokevirtual 22, 273, 68, 1), (273, .if_icmp .eq 1570, 276, 1843, 0), (276, .iconst 0, 277, 0, 0), (277, .ireturn, 278, 0, 0)]
theorem sL1 : qL1.all (fun e => decide (zat kL_law.2.2.2.2.2 e.1 = some e.2)) = true := by decide +kernel
theorem l_c1 {R : zS → Prop} {xs : Nat → Int32} (hR : ∀ y, zstep (zCl zTab 12) 12 kL_law (some (7, xs)) zTab 600000 7302250 zLQ y R → R y) : R (255, [some (.retAddr 0), some (.ref 0), some (.ref 14), some (.int (Int32.ofInt 0))], [], zCw (zMf []), 45, 272400) := by
  have hR0 := hR
  have hR := @zrsub _ _ _ _ _ _ _ _ _ qL1 sL1 hR
  iterate 5 refine hR (?_ : R (_, _, _, _, _, _))
  refine hR (And.intro l_v1 ?_)
  refine hR (zcall_i 0 0 (Nat.le_of_ble_eq_true rfl) (Nat.le_of_ble_eq_true rfl) (r_end _ _ _ (fun _ _ _ _ _ _ _ _ _ _ _ _ _ _ _ => ?_)))
  iterate 5 refine hR (?_ : R (_, _, _, _, _, _))
  refine hR (And.intro l_v1 ?_)
  refine hR (zcall_i 0 0 (Nat.le_of_ble_eq_true rfl) (Nat.le_of_ble_eq_true rfl) (m_end _ _ _ (fun _ => ?_)))
  refine hR (And.intro (fun _ => ?_) (fun hc => absurd rfl hc))
  exact l_end hR0 _ _ _ (Nat.le_of_ble_eq_true rfl) (Nat.le_of_ble_eq_true rfl)
theorem r_textY0 (d : Nat) (n a : Int32) (hn : n = 0) (ha : a = -1) (Q : zQ) (h : ∀ c0 c1 c2 c3 c4 c5 c6 c7 c8 c9 c10 c11 c12 c13 t, Q (some (.int 0)) (c0 :: c1 :: c2 :: c3 :: c4 :: c5 :: c6 :: c7 :: c8 :: c9 :: c10 :: c11 :: c12 :: c13 :: zMf t)) : zCl zTab (d + 5) iX11_text [.ref 0, .int n, .int a] (zCw (zMf [])) 5 56 Q := by
  subst hn ha
  exact r_text0 d Q h
theorem m_textY0 {c0 c1 c2 c3 c4 c5 c6 c7 c8 c9 c10 c11 c12 c13 : va_E} {t : zW} (d : Nat) (n a : Int32) (hn : n = 0) (ha : a = -1) (Q : zQ) (h : ∀ w, Q (some (.int 0)) w) : zCl zTab (d + 4) iX12_text [.ref 14, .int n, .int a] (c0 :: c1 :: c2 :: c3 :: c4 :: c5 :: c6 :: c7 :: c8 :: c9 :: c10 :: c11 :: c12 :: c13 :: zMf t) 0 0 Q := by
  subst hn ha
  exact m_text0 d Q h
def qL2 : List zE := [(278, .aload_n 1, 279, 0, 0), (279, .aload_n 0, 280, 0, 0), (280, .iload_n 3, 281, 0, 0), (281, .iconst 1, 282, 0, 0), (282, .iadd, 283, 0, 0), (283, .iaload, 284, 0, 0), (284, .aload_n 0, 285, 0, 0), (285, .iload_n 3, 286, 0, 0), (286, .iconst 2, 287, 0, 0), (287, .iadd, 288, 0, 0), (288, .iaload, 289, 0, 0), (289, .invokevirtual 23, 292, 4, 2), (292, .aload_n 2, 293, 0, 0), (293, .aload_n 0, 294, 0, 0), (294, .iload_n 3, 295, 0, 0), (295, .iconst 1, 296, 0, 0), (296, .iadd, 297, 0, 0), (297, .iaload, 298, 0, 0), (298, .aload_n 0, 299, 0, 0), (299, .iload_n 3, 300, 0, 0), (300, .iconst 2, 301, 0, 0), (301, .iadd, 302, 0, 0), (302, .iaload, 303, 0, 0), (303, .invokevirtual 27, 306, 69, 2), (306, .if_icmp .eq 1537, 309, 1843, 0), (309, .iconst 0, 310, 0, 0), (310, .ireturn, 311, 0, 0)]
theorem sL2 : qL2.all (fun e => decide (zat kL_law.2.2.2.2.2 e.1 = some e.2)) = true := by decide +kernel
theorem l_c2Y0 {R : zS → Prop} {xs : Nat → Int32} (hR : ∀ y, zstep (zCl zTab 12) 12 kL_law (some (7, xs)) zTab 600000 7302250 zLQ y R → R y) (hn : xs (Int32.ofInt 0 + Int32.ofInt 1).toNatClampNeg = 0) (ha : xs (Int32.ofInt 0 + Int32.ofInt 2).toNatClampNeg = -1) : R (278, [some (.retAddr 0), some (.ref 0), some (.ref 14), some (.int (Int32.ofInt 0))], [], zCw (zMf []), 45, 272400) := by
  have hR0 := hR
  have hR := @zrsub _ _ _ _ _ _ _ _ _ qL2 sL2 hR
  iterate 5 refine hR (?_ : R (_, _, _, _, _, _))
  refine hR (And.intro l_v1 ?_)
  iterate 4 refine hR (?_ : R (_, _, _, _, _, _))
  refine hR (And.intro l_v2 ?_)
  refine hR (zcall_i 5 56 (Nat.le_of_ble_eq_true rfl) (Nat.le_of_ble_eq_true rfl) (r_textY0 _ _ _ hn ha _ (fun _ _ _ _ _ _ _ _ _ _ _ _ _ _ _ => ?_)))
  iterate 5 refine hR (?_ : R (_, _, _, _, _, _))
  refine hR (And.intro l_v1 ?_)
  iterate 4 refine hR (?_ : R (_, _, _, _, _, _))
  refine hR (And.intro l_v2 ?_)
  refine hR (zcall_i 0 0 (Nat.le_of_ble_eq_true rfl) (Nat.le_of_ble_eq_true rfl) (m_textY0 _ _ _ hn ha _ (fun _ => ?_)))
  refine hR (And.intro (fun _ => ?_) (fun hc => absurd rfl hc))
  exact l_end hR0 _ _ _ (Nat.le_of_ble_eq_true rfl) (Nat.le_of_ble_eq_true rfl)
theorem r_textY1 (d : Nat) (n a : Int32) (hn : n = 1) (ha : a = -1) (Q : zQ) (h : ∀ c0 c1 c2 c3 c4 c5 c6 c7 c8 c9 c10 c11 c12 c13 t, Q (some (.int 0)) (c0 :: c1 :: c2 :: c3 :: c4 :: c5 :: c6 :: c7 :: c8 :: c9 :: c10 :: c11 :: c12 :: c13 :: zMf t)) : zCl zTab (d + 5) iX11_text [.ref 0, .int n, .int a] (zCw (zMf [])) 4 124 Q := by
  subst hn ha
  exact r_text1 d Q h
theorem m_textY1 {c0 c1 c2 c3 c4 c5 c6 c7 c8 c9 c10 c11 c12 c13 : va_E} {t : zW} (d : Nat) (n a : Int32) (hn : n = 1) (ha : a = -1) (Q : zQ) (h : ∀ w, Q (some (.int 0)) w) : zCl zTab (d + 4) iX12_text [.ref 14, .int n, .int a] (c0 :: c1 :: c2 :: c3 :: c4 :: c5 :: c6 :: c7 :: c8 :: c9 :: c10 :: c11 :: c12 :: c13 :: zMf t) 0 0 Q := by
  subst hn ha
  exact m_text1 d Q h
theorem l_c2Y1 {R : zS → Prop} {xs : Nat → Int32} (hR : ∀ y, zstep (zCl zTab 12) 12 kL_law (some (7, xs)) zTab 600000 7302250 zLQ y R → R y) (hn : xs (Int32.ofInt 0 + Int32.ofInt 1).toNatClampNeg = 1) (ha : xs (Int32.ofInt 0 + Int32.ofInt 2).toNatClampNeg = -1) : R (278, [some (.retAddr 0), some (.ref 0), some (.ref 14), some (.int (Int32.ofInt 0))], [], zCw (zMf []), 45, 272400) := by
  have hR0 := hR
  have hR := @zrsub _ _ _ _ _ _ _ _ _ qL2 sL2 hR
  iterate 5 refine hR (?_ : R (_, _, _, _, _, _))
  refine hR (And.intro l_v1 ?_)
  iterate 4 refine hR (?_ : R (_, _, _, _, _, _))
  refine hR (And.intro l_v2 ?_)
  refine hR (zcall_i 4 124 (Nat.le_of_ble_eq_true rfl) (Nat.le_of_ble_eq_true rfl) (r_textY1 _ _ _ hn ha _ (fun _ _ _ _ _ _ _ _ _ _ _ _ _ _ _ => ?_)))
  iterate 5 refine hR (?_ : R (_, _, _, _, _, _))
  refine hR (And.intro l_v1 ?_)
  iterate 4 refine hR (?_ : R (_, _, _, _, _, _))
  refine hR (And.intro l_v2 ?_)
  refine hR (zcall_i 0 0 (Nat.le_of_ble_eq_true rfl) (Nat.le_of_ble_eq_true rfl) (m_textY1 _ _ _ hn ha _ (fun _ => ?_)))
  refine hR (And.intro (fun _ => ?_) (fun hc => absurd rfl hc))
  exact l_end hR0 _ _ _ (Nat.le_of_ble_eq_true rfl) (Nat.le_of_ble_eq_true rfl)
theorem r_textY2 (d : Nat) (n a : Int32) (hn : n = 2) (ha : a = -1) (Q : zQ) (h : ∀ c0 c1 c2 c3 c4 c5 c6 c7 c8 c9 c10 c11 c12 c13 t, Q (some (.int 0)) (c0 :: c1 :: c2 :: c3 :: c4 :: c5 :: c6 :: c7 :: c8 :: c9 :: c10 :: c11 :: c12 :: c13 :: zMf t)) : zCl zTab (d + 5) iX11_text [.ref 0, .int n, .int a] (zCw (zMf [])) 3 15 Q := by
  subst hn ha
  exact r_text2 d Q h
theorem m_textY2 {c0 c1 c2 c3 c4 c5 c6 c7 c8 c9 c10 c11 c12 c13 : va_E} {t : zW} (d : Nat) (n a : Int32) (hn : n = 2) (ha : a = -1) (Q : zQ) (h : ∀ w, Q (some (.int 0)) w) : zCl zTab (d + 4) iX12_text [.ref 14, .int n, .int a] (c0 :: c1 :: c2 :: c3 :: c4 :: c5 :: c6 :: c7 :: c8 :: c9 :: c10 :: c11 :: c12 :: c13 :: zMf t) 0 0 Q := by
  subst hn ha
  exact m_text2 d Q h
theorem l_c2Y2 {R : zS → Prop} {xs : Nat → Int32} (hR : ∀ y, zstep (zCl zTab 12) 12 kL_law (some (7, xs)) zTab 600000 7302250 zLQ y R → R y) (hn : xs (Int32.ofInt 0 + Int32.ofInt 1).toNatClampNeg = 2) (ha : xs (Int32.ofInt 0 + Int32.ofInt 2).toNatClampNeg = -1) : R (278, [some (.retAddr 0), some (.ref 0), some (.ref 14), some (.int (Int32.ofInt 0))], [], zCw (zMf []), 45, 272400) := by
  have hR0 := hR
  have hR := @zrsub _ _ _ _ _ _ _ _ _ qL2 sL2 hR
  iterate 5 refine hR (?_ : R (_, _, _, _, _, _))
  refine hR (And.intro l_v1 ?_)
  iterate 4 refine hR (?_ : R (_, _, _, _, _, _))
  refine hR (And.intro l_v2 ?_)
  refine hR (zcall_i 3 15 (Nat.le_of_ble_eq_true rfl) (Nat.le_of_ble_eq_true rfl) (r_textY2 _ _ _ hn ha _ (fun _ _ _ _ _ _ _ _ _ _ _ _ _ _ _ => ?_)))
  iterate 5 refine hR (?_ : R (_, _, _, _, _, _))
  refine hR (And.intro l_v1 ?_)
  iterate 4 refine hR (?_ : R (_, _, _, _, _, _))
  refine hR (And.intro l_v2 ?_)
  refine hR (zcall_i 0 0 (Nat.le_of_ble_eq_true rfl) (Nat.le_of_ble_eq_true rfl) (m_textY2 _ _ _ hn ha _ (fun _ => ?_)))
  refine hR (And.intro (fun _ => ?_) (fun hc => absurd rfl hc))
  exact l_end hR0 _ _ _ (Nat.le_of_ble_eq_true rfl) (Nat.le_of_ble_eq_true rfl)
theorem l_c2N {R : zS → Prop} {xs : Nat → Int32} (hR : ∀ y, zstep (zCl zTab 12) 12 kL_law (some (7, xs)) zTab 600000 7302250 zLQ y R → R y) (hn : (xs (Int32.ofInt 0 + Int32.ofInt 1).toNatClampNeg < 0 ∨ 3 ≤ xs (Int32.ofInt 0 + Int32.ofInt 1).toNatClampNeg) ∨ ¬ xs (Int32.ofInt 0 + Int32.ofInt 2).toNatClampNeg = -1) : R (278, [some (.retAddr 0), some (.ref 0), some (.ref 14), some (.int (Int32.ofInt 0))], [], zCw (zMf []), 45, 272400) := by
  have hR0 := hR
  have hR := @zrsub _ _ _ _ _ _ _ _ _ qL2 sL2 hR
  iterate 5 refine hR (?_ : R (_, _, _, _, _, _))
  refine hR (And.intro l_v1 ?_)
  iterate 4 refine hR (?_ : R (_, _, _, _, _, _))
  refine hR (And.intro l_v2 ?_)
  refine hR (zcall_i 0 0 (Nat.le_of_ble_eq_true rfl) (Nat.le_of_ble_eq_true rfl) (r_textN _ _ _ hn _ (fun _ _ _ _ _ _ _ _ _ _ _ _ _ _ _ => ?_)))
  iterate 5 refine hR (?_ : R (_, _, _, _, _, _))
  refine hR (And.intro l_v1 ?_)
  iterate 4 refine hR (?_ : R (_, _, _, _, _, _))
  refine hR (And.intro l_v2 ?_)
  refine hR (zcall_i 0 0 (Nat.le_of_ble_eq_true rfl) (Nat.le_of_ble_eq_true rfl) (m_textN _ _ _ hn _ (fun _ => ?_)))
  refine hR (And.intro (fun _ => ?_) (fun hc => absurd rfl hc))
  exact l_end hR0 _ _ _ (Nat.le_of_ble_eq_true rfl) (Nat.le_of_ble_eq_true rfl)
theorem l_c2 {R : zS → Prop} {xs : Nat → Int32} (hR : ∀ y, zstep (zCl zTab 12) 12 kL_law (some (7, xs)) zTab 600000 7302250 zLQ y R → R y) : R (278, [some (.retAddr 0), some (.ref 0), some (.ref 14), some (.int (Int32.ofInt 0))], [], zCw (zMf []), 45, 272400) := by
  by_cases ha : xs (Int32.ofInt 0 + Int32.ofInt 2).toNatClampNeg = -1
  · by_cases h0 : xs (Int32.ofInt 0 + Int32.ofInt 1).toNatClampNeg < 0
    · exact l_c2N hR (Or.inl (Or.inl h0))
    by_cases h1 : xs (Int32.ofInt 0 + Int32.ofInt 1).toNatClampNeg < 3
    · rcases z012 h0 h1 with h | h | h
      · exact l_c2Y0 hR h ha
      · exact l_c2Y1 hR h ha
      · exact l_c2Y2 hR h ha
    · exact l_c2N hR (Or.inl (Or.inr (Int32.not_lt.mp h1)))
  · exact l_c2N hR (Or.inr ha)
def qL3 : List zE := [(311, .aload_n 1, 312, 0, 0), (312, .aload_n 0, 313, 0, 0), (313, .iload_n 3, 314, 0, 0), (314, .iconst 1, 315, 0, 0), (315, .iadd, 316, 0, 0), (316, .iaload, 317, 0, 0), (317, .invokevirtual 28, 320, 5, 1), (320, .aload_n 2, 321, 0, 0), (321, .aload_n 0, 322, 0, 0), (322, .iload_n 3, 323, 0, 0), (323, .iconst 1, 324, 0, 0), (324, .iadd, 325, 0, 0), (325, .iaload, 326, 0, 0), (326, .invokevirtual 31, 329, 70, 1), (329, .if_icmp .eq 1514, 332, 1843, 0), (332, .iconst 0, 333, 0, 0), (333, .ireturn, 334, 0, 0)]
theorem sL3 : qL3.all (fun e => decide (zat kL_law.2.2.2.2.2 e.1 = some e.2)) = true := by decide +kernel
theorem l_c3 {R : zS → Prop} {xs : Nat → Int32} (hR : ∀ y, zstep (zCl zTab 12) 12 kL_law (some (7, xs)) zTab 600000 7302250 zLQ y R → R y) : R (311, [some (.retAddr 0), some (.ref 0), some (.ref 14), some (.int (Int32.ofInt 0))], [], zCw (zMf []), 45, 272400) := by
  have hR0 := hR
  have hR := @zrsub _ _ _ _ _ _ _ _ _ qL3 sL3 hR
  iterate 5 refine hR (?_ : R (_, _, _, _, _, _))
  refine hR (And.intro l_v1 ?_)
  refine hR (zcall_i 0 0 (Nat.le_of_ble_eq_true rfl) (Nat.le_of_ble_eq_true rfl) (r_fault _ _ _ (fun _ _ _ _ _ _ _ _ _ _ _ _ _ _ _ => ?_)))
  iterate 5 refine hR (?_ : R (_, _, _, _, _, _))
  refine hR (And.intro l_v1 ?_)
  refine hR (zcall_i 0 0 (Nat.le_of_ble_eq_true rfl) (Nat.le_of_ble_eq_true rfl) (m_fault _ _ _ (fun _ => ?_)))
  refine hR (And.intro (fun _ => ?_) (fun hc => absurd rfl hc))
  exact l_end hR0 _ _ _ (Nat.le_of_ble_eq_true rfl) (Nat.le_of_ble_eq_true rfl)
