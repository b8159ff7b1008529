def qL6 : List zE := [(400, .aload_n 1, 401, 0, 0), (401, .aload_n 0, 402, 0, 0), (402, .iload_n 3, 403, 0, 0), (403, .iconst 1, 404, 0, 0), (404, .iadd, 405, 0, 0), (405, .iaload, 406, 0, 0), (406, .aload_n 0, 407, 0, 0), (407, .iload_n 3, 408, 0, 0), (408, .iconst 2, 409, 0, 0), (409, .iadd, 410, 0, 0), (410, .iaload, 411, 0, 0), (411, .invokevirtual 40, 414, 8, 2), (414, .aload_n 2, 415, 0, 0), (415, .aload_n 0, 416, 0, 0), (416, .iload_n 3, 417, 0, 0), (417, .iconst 1, 418, 0, 0), (418, .iadd, 419, 0, 0), (419, .iaload, 420, 0, 0), (420, .aload_n 0, 421, 0, 0), (421, .iload_n 3, 422, 0, 0), (422, .iconst 2, 423, 0, 0), (423, .iadd, 424, 0, 0), (424, .iaload, 425, 0, 0), (425, .invokevirtual 43, 428, 73, 2), (428, .if_icmp .eq 1415, 431, 1843, 0), (431, .iconst 0, 432, 0, 0), (432, .ireturn, 433, 0, 0)]
theorem sL6 : qL6.all (fun e => decide (zat kL_law.2.2.2.2.2 e.1 = some e.2)) = true := by decide +kernel
theorem l_c6 {R : zS → Prop} {xs : Nat → Int32} (hR : ∀ y, zstep (zCl zTab 12) 12 kL_law (some (7, xs)) zTab 600000 7302250 zLQ y R → R y) : R (400, [some (.retAddr 0), some (.ref 0), some (.ref 14), some (.int (Int32.ofInt 0))], [], zCw (zMf []), 45, 272400) := by
  have hR0 := hR
  have hR := @zrsub _ _ _ _ _ _ _ _ _ qL6 sL6 hR
  iterate 5 refine hR (?_ : R (_, _, _, _, _, _))
  refine hR (And.intro l_v1 ?_)
  iterate 4 refine hR (?_ : R (_, _, _, _, _, _))
  refine hR (And.intro l_v2 ?_)
  refine hR (zcall_i 0 0 (Nat.le_of_ble_eq_true rfl) (Nat.le_of_ble_eq_true rfl) (r_drift _ _ _ _ _ ?_))
  iterate 5 refine hR (?_ : R (_, _, _, _, _, _))
  refine hR (And.intro l_v1 ?_)
  iterate 4 refine hR (?_ : R (_, _, _, _, _, _))
  refine hR (And.intro l_v2 ?_)
  refine hR (zcall_i 0 0 (Nat.le_of_ble_eq_true rfl) (Nat.le_of_ble_eq_true rfl) (m_drift _ _ _ _ (fun _ => ?_)))
  refine hR (And.intro (fun _ => ?_) (fun hc => absurd rfl hc))
  exact l_end hR0 _ _ _ (Nat.le_of_ble_eq_true rfl) (Nat.le_of_ble_eq_true rfl)
