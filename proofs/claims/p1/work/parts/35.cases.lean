def qL5 : List zE := [(367, .aload_n 1, 368, 0, 0), (368, .aload_n 0, 369, 0, 0), (369, .iload_n 3, 370, 0, 0), (370, .iconst 1, 371, 0, 0), (371, .iadd, 372, 0, 0), (372, .iaload, 373, 0, 0), (373, .aload_n 0, 374, 0, 0), (374, .iload_n 3, 375, 0, 0), (375, .iconst 2, 376, 0, 0), (376, .iadd, 377, 0, 0), (377, .iaload, 378, 0, 0), (378, .invokevirtual 36, 381, 7, 2), (381, .aload_n 2, 382, 0, 0), (382, .aload_n 0, 383, 0, 0), (383, .iload_n 3, 384, 0, 0), (384, .iconst 1, 385, 0, 0), (385, .iadd, 386, 0, 0), (386, .iaload, 387, 0, 0), (387, .aload_n 0, 388, 0, 0), (388, .iload_n 3, 389, 0, 0), (389, .iconst 2, 390, 0, 0), (390, .iadd, 391, 0, 0), (391, .iaload, 392, 0, 0), (392, .invokevirtual 39, 395, 72, 2), (395, .if_icmp .eq 1448, 398, 1843, 0), (398, .iconst 0, 399, 0, 0), (399, .ireturn, 400, 0, 0)]
theorem sL5 : qL5.all (fun e => decide (zat kL_law.2.2.2.2.2 e.1 = some e.2)) = true := by decide +kernel
theorem l_c5 {R : zS → Prop} {xs : Nat → Int32} (hR : ∀ y, zstep (zCl zTab 12) 12 kL_law (some (7, xs)) zTab 600000 7302250 zLQ y R → R y) : R (367, [some (.retAddr 0), some (.ref 0), some (.ref 14), some (.int (Int32.ofInt 0))], [], zCw (zMf []), 45, 272400) := by
  have hR0 := hR
  have hR := @zrsub _ _ _ _ _ _ _ _ _ qL5 sL5 hR
  iterate 5 refine hR (?_ : R (_, _, _, _, _, _))
  refine hR (And.intro l_v1 ?_)
  iterate 4 refine hR (?_ : R (_, _, _, _, _, _))
  refine hR (And.intro l_v2 ?_)
  refine hR (zcall_i 0 0 (Nat.le_of_ble_eq_true rfl) (Nat.le_of_ble_eq_true rfl) (r_word _ _ _ _ _ ?_))
  iterate 5 refine hR (?_ : R (_, _, _, _, _, _))
  refine hR (And.intro l_v1 ?_)
  iterate 4 refine hR (?_ : R (_, _, _, _, _, _))
  refine hR (And.intro l_v2 ?_)
  refine hR (zcall_i 0 0 (Nat.le_of_ble_eq_true rfl) (Nat.le_of_ble_eq_true rfl) (m_word _ _ _ _ (fun _ => ?_)))
  refine hR (And.intro (fun _ => ?_) (fun hc => absurd rfl hc))
  exact l_end hR0 _ _ _ (Nat.le_of_ble_eq_true rfl) (Nat.le_of_ble_eq_true rfl)
