def qL4 : List zE := [(334, .aload_n 1, 335, 0, 0), (335, .aload_n 0, 336, 0, 0), (336, .iload_n 3, 337, 0, 0), (337, .iconst 1, 338, 0, 0), (338, .iadd, 339, 0, 0), (339, .iaload, 340, 0, 0), (340, .aload_n 0, 341, 0, 0), (341, .iload_n 3, 342, 0, 0), (342, .iconst 2, 343, 0, 0), (343, .iadd, 344, 0, 0), (344, .iaload, 345, 0, 0), (345, .invokevirtual 32, 348, 6, 2), (348, .aload_n 2, 349, 0, 0), (349, .aload_n 0, 350, 0, 0), (350, .iload_n 3, 351, 0, 0), (351, .iconst 1, 352, 0, 0), (352, .iadd, 353, 0, 0), (353, .iaload, 354, 0, 0), (354, .aload_n 0, 355, 0, 0), (355, .iload_n 3, 356, 0, 0), (356, .iconst 2, 357, 0, 0), (357, .iadd, 358, 0, 0), (358, .iaload, 359, 0, 0), (359, .invokevirtual 35, 362, 71, 2), (362, .if_icmp .eq 1481, 365, 1843, 0), (365, .iconst 0, 366, 0, 0), (366, .ireturn, 367, 0, 0)]
theorem sL4 : qL4.all (fun e => decide (zat kL_law.2.2.2.2.2 e.1 = some e.2)) = true := by decide +kernel
theorem l_c4 {R : zS → Prop} {xs : Nat → Int32} (hR : ∀ y, zstep (zCl zTab 12) 12 kL_law (some (7, xs)) zTab 600000 7302250 zLQ y R → R y) : R (334, [some (.retAddr 0), some (.ref 0), some (.ref 14), some (.int (Int32.ofInt 0))], [], zCw (zMf []), 45, 272400) := by
  have hR0 := hR
  have hR := @zrsub _ _ _ _ _ _ _ _ _ qL4 sL4 hR
  iterate 5 refine hR (?_ : R (_, _, _, _, _, _))
  refine hR (And.intro l_v1 ?_)
  iterate 4 refine hR (?_ : R (_, _, _, _, _, _))
  refine hR (And.intro l_v2 ?_)
  refine hR (zcall_i 0 0 (Nat.le_of_ble_eq_true rfl) (Nat.le_of_ble_eq_true rfl) (r_book _ _ _ _ _ ?_))
  iterate 5 refine hR (?_ : R (_, _, _, _, _, _))
  refine hR (And.intro l_v1 ?_)
  iterate 4 refine hR (?_ : R (_, _, _, _, _, _))
  refine hR (And.intro l_v2 ?_)
  refine hR (zcall_i 0 0 (Nat.le_of_ble_eq_true rfl) (Nat.le_of_ble_eq_true rfl) (m_book _ _ _ _ (fun _ => ?_)))
  refine hR (And.intro (fun _ => ?_) (fun hc => absurd rfl hc))
  exact l_end hR0 _ _ _ (Nat.le_of_ble_eq_true rfl) (Nat.le_of_ble_eq_true rfl)
def qL7 : List zE := [(433, .aload_n 1, 434, 0, 0), (434, .aload_n 0, 435, 0, 0), (435, .iload_n 3, 436, 0, 0), (436, .iconst 1, 437, 0, 0), (437, .iadd, 438, 0, 0), (438, .iaload, 439, 0, 0), (439, .aload_n 0, 440, 0, 0), (440, .iload_n 3, 441, 0, 0), (441, .iconst 2, 442, 0, 0), (442, .iadd, 443, 0, 0), (443, .iaload, 444, 0, 0), (444, .aload_n 0, 445, 0, 0), (445, .iload_n 3, 446, 0, 0), (446, .iconst 3, 447, 0, 0), (447, .iadd, 448, 0, 0), (448, .iaload, 449, 0, 0), (449, .invokevirtual 44, 452, 9, 3), (452, .aload_n 2, 453, 0, 0), (453, .aload_n 0, 454, 0, 0), (454, .iload_n 3, 455, 0, 0), (455, .iconst 1, 456, 0, 0), (456, .iadd, 457, 0, 0), (457, .iaload, 458, 0, 0), (458, .aload_n 0, 459, 0, 0), (459, .iload_n 3, 460, 0, 0), (460, .iconst 2, 461, 0, 0), (461, .iadd, 462, 0, 0), (462, .iaload, 463, 0, 0), (463, .aload_n 0, 464, 0, 0), (464, .iload_n 3, 465, 0, 0), (465, .iconst 3, 466, 0, 0), (466, .iadd, 467, 0, 0), (467, .iaload, 468, 0, 0), (468, .invokevirtual 48, 471, 74, 3), (471, .if_icmp .eq 1372, 474, 1843, 0), (474, .iconst 0, 475, 0, 0), (475, .ireturn, 476, 0, 0)]
theorem sL7 : qL7.all (fun e => decide (zat kL_law.2.2.2.2.2 e.1 = some e.2)) = true := by decide +kernel
theorem l_c7 {R : zS → Prop} {xs : Nat → Int32} (hR : ∀ y, zstep (zCl zTab 12) 12 kL_law (some (7, xs)) zTab 600000 7302250 zLQ y R → R y) : R (433, [some (.retAddr 0), some (.ref 0), some (.ref 14), some (.int (Int32.ofInt 0))], [], zCw (zMf []), 45, 272400) := by
  have hR0 := hR
  have hR := @zrsub _ _ _ _ _ _ _ _ _ qL7 sL7 hR
  iterate 5 refine hR (?_ : R (_, _, _, _, _, _))
  refine hR (And.intro l_v1 ?_)
  iterate 4 refine hR (?_ : R (_, _, _, _, _, _))
  refine hR (And.intro l_v2 ?_)
  iterate 4 refine hR (?_ : R (_, _, _, _, _, _))
  refine hR (And.intro l_v3 ?_)
  refine hR (zcall_i 0 0 (Nat.le_of_ble_eq_true rfl) (Nat.le_of_ble_eq_true rfl) (r_read _ _ _ _ _ _ ?_))
  iterate 5 refine hR (?_ : R (_, _, _, _, _, _))
  refine hR (And.intro l_v1 ?_)
  iterate 4 refine hR (?_ : R (_, _, _, _, _, _))
  refine hR (And.intro l_v2 ?_)
  iterate 4 refine hR (?_ : R (_, _, _, _, _, _))
  refine hR (And.intro l_v3 ?_)
  refine hR (zcall_i 0 0 (Nat.le_of_ble_eq_true rfl) (Nat.le_of_ble_eq_true rfl) (m_read _ _ _ _ _ (fun _ => ?_)))
  refine hR (And.intro (fun _ => ?_) (fun hc => absurd rfl hc))
  exact l_end hR0 _ _ _ (Nat.le_of_ble_eq_true rfl) (Nat.le_of_ble_eq_true rfl)
def qL8 : List zE := [(476, .aload_n 1, 477, 0, 0), (477, .aload_n 0, 478, 0, 0), (478, .iload_n 3, 479, 0, 0), (479, .iconst 1, 480, 0, 0), (480, .iadd, 481, 0, 0), (481, .iaload, 482, 0, 0), (482, .aload_n 0, 483, 0, 0), (483, .iload_n 3, 484, 0, 0), (484, .iconst 2, 485, 0, 0), (485, .iadd, 486, 0, 0), (486, .iaload, 487, 0, 0), (487, .aload_n 0, 488, 0, 0), (488, .iload_n 3, 489, 0, 0), (489, .iconst 3, 490, 0, 0), (490, .iadd, 491, 0, 0), (491, .iaload, 492, 0, 0), (492, .invokevirtual 49, 495, 10, 3), (495, .aload_n 2, 496, 0, 0), (496, .aload_n 0, 497, 0, 0), (497, .iload_n 3, 498, 0, 0), (498, .iconst 1, 499, 0, 0), (499, .iadd, 500, 0, 0), (500, .iaload, 501, 0, 0), (501, .aload_n 0, 502, 0, 0), (502, .iload_n 3, 503, 0, 0), (503, .iconst 2, 504, 0, 0), (504, .iadd, 505, 0, 0), (505, .iaload, 506, 0, 0), (506, .aload_n 0, 507, 0, 0), (507, .iload_n 3, 508, 0, 0), (508, .iconst 3, 509, 0, 0), (509, .iadd, 510, 0, 0), (510, .iaload, 511, 0, 0), (511, .invokevirtual 52, 514, 75, 3), (514, .if_icmp .eq 1329, 517, 1843, 0), (517, .iconst 0, 518, 0, 0), (518, .ireturn, 519, 0, 0)]
theorem sL8 : qL8.all (fun e => decide (zat kL_law.2.2.2.2.2 e.1 = some e.2)) = true := by decide +kernel
theorem l_c8 {R : zS → Prop} {xs : Nat → Int32} (hR : ∀ y, zstep (zCl zTab 12) 12 kL_law (some (7, xs)) zTab 600000 7302250 zLQ y R → R y) : R (476, [some (.retAddr 0), some (.ref 0), some (.ref 14), some (.int (Int32.ofInt 0))], [], zCw (zMf []), 45, 272400) := by
  have hR0 := hR
  have hR := @zrsub _ _ _ _ _ _ _ _ _ qL8 sL8 hR
  iterate 5 refine hR (?_ : R (_, _, _, _, _, _))
  refine hR (And.intro l_v1 ?_)
  iterate 4 refine hR (?_ : R (_, _, _, _, _, _))
  refine hR (And.intro l_v2 ?_)
  iterate 4 refine hR (?_ : R (_, _, _, _, _, _))
  refine hR (And.intro l_v3 ?_)
  refine hR (zcall_i 0 0 (Nat.le_of_ble_eq_true rfl) (Nat.le_of_ble_eq_true rfl) (r_deed _ _ _ _ _ _ ?_))
  iterate 5 refine hR (?_ : R (_, _, _, _, _, _))
  refine hR (And.intro l_v1 ?_)
  iterate 4 refine hR (?_ : R (_, _, _, _, _, _))
  refine hR (And.intro l_v2 ?_)
  iterate 4 refine hR (?_ : R (_, _, _, _, _, _))
  refine hR (And.intro l_v3 ?_)
  refine hR (zcall_i 0 0 (Nat.le_of_ble_eq_true rfl) (Nat.le_of_ble_eq_true rfl) (m_deed _ _ _ _ _ (fun _ => ?_)))
  refine hR (And.intro (fun _ => ?_) (fun hc => absurd rfl hc))
  exact l_end hR0 _ _ _ (Nat.le_of_ble_eq_true rfl) (Nat.le_of_ble_eq_true rfl)
def qL9 : List zE := [(519, .aload_n 1, 520, 0, 0), (520, .aload_n 0, 521, 0, 0), (521, .iload_n 3, 522, 0, 0), (522, .iconst 1, 523, 0, 0), (523, .iadd, 524, 0, 0), (524, .iaload, 525, 0, 0), (525, .aload_n 0, 526, 0, 0), (526, .iload_n 3, 527, 0, 0), (527, .iconst 2, 528, 0, 0), (528, .iadd, 529, 0, 0), (529, .iaload, 530, 0, 0), (530, .invokevirtual 53, 533, 11, 2), (533, .aload_n 2, 534, 0, 0), (534, .aload_n 0, 535, 0, 0), (535, .iload_n 3, 536, 0, 0), (536, .iconst 1, 537, 0, 0), (537, .iadd, 538, 0, 0), (538, .iaload, 539, 0, 0), (539, .aload_n 0, 540, 0, 0), (540, .iload_n 3, 541, 0, 0), (541, .iconst 2, 542, 0, 0), (542, .iadd, 543, 0, 0), (543, .iaload, 544, 0, 0), (544, .invokevirtual 56, 547, 76, 2), (547, .if_icmp .eq 1296, 550, 1843, 0), (550, .iconst 0, 551, 0, 0), (551, .ireturn, 552, 0, 0)]
theorem sL9 : qL9.all (fun e => decide (zat kL_law.2.2.2.2.2 e.1 = some e.2)) = true := by decide +kernel
theorem l_c9 {R : zS → Prop} {xs : Nat → Int32} (hR : ∀ y, zstep (zCl zTab 12) 12 kL_law (some (7, xs)) zTab 600000 7302250 zLQ y R → R y) : R (519, [some (.retAddr 0), some (.ref 0), some (.ref 14), some (.int (Int32.ofInt 0))], [], zCw (zMf []), 45, 272400) := by
  have hR0 := hR
  have hR := @zrsub _ _ _ _ _ _ _ _ _ qL9 sL9 hR
  iterate 5 refine hR (?_ : R (_, _, _, _, _, _))
  refine hR (And.intro l_v1 ?_)
  iterate 4 refine hR (?_ : R (_, _, _, _, _, _))
  refine hR (And.intro l_v2 ?_)
  refine hR (zcall_i 0 0 (Nat.le_of_ble_eq_true rfl) (Nat.le_of_ble_eq_true rfl) (r_stop _ _ _ _ _ ?_))
  iterate 5 refine hR (?_ : R (_, _, _, _, _, _))
  refine hR (And.intro l_v1 ?_)
  iterate 4 refine hR (?_ : R (_, _, _, _, _, _))
  refine hR (And.intro l_v2 ?_)
  refine hR (zcall_i 0 0 (Nat.le_of_ble_eq_true rfl) (Nat.le_of_ble_eq_true rfl) (m_stop _ _ _ _ (fun _ => ?_)))
  refine hR (And.intro (fun _ => ?_) (fun hc => absurd rfl hc))
  exact l_end hR0 _ _ _ (Nat.le_of_ble_eq_true rfl) (Nat.le_of_ble_eq_true rfl)
def qL10 : List zE := [(552, .aload_n 1, 553, 0, 0), (553, .aload_n 0, 554, 0, 0), (554, .iload_n 3, 555, 0, 0), (555, .iconst 1, 556, 0, 0), (556, .iadd, 557, 0, 0), (557, .iaload, 558, 0, 0), (558, .aload_n 0, 559, 0, 0), (559, .iload_n 3, 560, 0, 0), (560, .iconst 2, 561, 0, 0), (561, .iadd, 562, 0, 0), (562, .iaload, 563, 0, 0), (563, .aload_n 0, 564, 0, 0), (564, .iload_n 3, 565, 0, 0), (565, .iconst 3, 566, 0, 0), (566, .iadd, 567, 0, 0), (567, .iaload, 568, 0, 0), (568, .aload_n 0, 569, 0, 0), (569, .iload_n 3, 570, 0, 0), (570, .iconst 4, 571, 0, 0), (571, .iadd, 572, 0, 0), (572, .iaload, 573, 0, 0), (573, .invokevirtual 57, 576, 12, 4), (576, .aload_n 2, 577, 0, 0), (577, .aload_n 0, 578, 0, 0), (578, .iload_n 3, 579, 0, 0), (579, .iconst 1, 580, 0, 0), (580, .iadd, 581, 0, 0), (581, .iaload, 582, 0, 0), (582, .aload_n 0, 583, 0, 0), (583, .iload_n 3, 584, 0, 0), (584, .iconst 2, 585, 0, 0), (585, .iadd, 586, 0, 0), (586, .iaload, 587, 0, 0), (587, .aload_n 0, 588, 0, 0), (588, .iload_n 3, 589, 0, 0), (589, .iconst 3, 590, 0, 0), (590, .iadd, 591, 0, 0), (591, .iaload, 592, 0, 0), (592, .aload_n 0, 593, 0, 0), (593, .iload_n 3, 594, 0, 0), (594, .iconst 4, 595, 0, 0), (595, .iadd, 596, 0, 0), (596, .iaload, 597, 0, 0), (597, .invokevirtual 61, 600, 77, 4), (600, .if_icmp .eq 1243, 603, 1843, 0), (603, .iconst 0, 604, 0, 0), (604, .ireturn, 605, 0, 0)]
theorem sL10 : qL10.all (fun e => decide (zat kL_law.2.2.2.2.2 e.1 = some e.2)) = true := by decide +kernel
theorem l_c10 {R : zS → Prop} {xs : Nat → Int32} (hR : ∀ y, zstep (zCl zTab 12) 12 kL_law (some (7, xs)) zTab 600000 7302250 zLQ y R → R y) : R (552, [some (.retAddr 0), some (.ref 0), some (.ref 14), some (.int (Int32.ofInt 0))], [], zCw (zMf []), 45, 272400) := by
  have hR0 := hR
  have hR := @zrsub _ _ _ _ _ _ _ _ _ qL10 sL10 hR
  iterate 5 refine hR (?_ : R (_, _, _, _, _, _))
  refine hR (And.intro l_v1 ?_)
  iterate 4 refine hR (?_ : R (_, _, _, _, _, _))
  refine hR (And.intro l_v2 ?_)
  iterate 4 refine hR (?_ : R (_, _, _, _, _, _))
  refine hR (And.intro l_v3 ?_)
  iterate 4 refine hR (?_ : R (_, _, _, _, _, _))
  refine hR (And.intro l_v4 ?_)
  refine hR (zcall_i 0 0 (Nat.le_of_ble_eq_true rfl) (Nat.le_of_ble_eq_true rfl) (r_state _ _ _ _ _ _ _ ?_))
  iterate 5 refine hR (?_ : R (_, _, _, _, _, _))
  refine hR (And.intro l_v1 ?_)
  iterate 4 refine hR (?_ : R (_, _, _, _, _, _))
  refine hR (And.intro l_v2 ?_)
  iterate 4 refine hR (?_ : R (_, _, _, _, _, _))
  refine hR (And.intro l_v3 ?_)
  iterate 4 refine hR (?_ : R (_, _, _, _, _, _))
  refine hR (And.intro l_v4 ?_)
  refine hR (zcall_i 0 0 (Nat.le_of_ble_eq_true rfl) (Nat.le_of_ble_eq_true rfl) (m_state _ _ _ _ _ _ (fun _ => ?_)))
  refine hR (And.intro (fun _ => ?_) (fun hc => absurd rfl hc))
  exact l_end hR0 _ _ _ (Nat.le_of_ble_eq_true rfl) (Nat.le_of_ble_eq_true rfl)
def qL11 : List zE := [(605, .aload_n 1, 606, 0, 0), (606, .aload_n 0, 607, 0, 0), (607, .iload_n 3, 608, 0, 0), (608, .iconst 1, 609, 0, 0), (609, .iadd, 610, 0, 0), (610, .iaload, 611, 0, 0), (611, .aload_n 0, 612, 0, 0), (612, .iload_n 3, 613, 0, 0), (613, .iconst 2, 614, 0, 0), (614, .iadd, 615, 0, 0), (615, .iaload, 616, 0, 0), (616, .aload_n 0, 617, 0, 0), (617, .iload_n 3, 618, 0, 0), (618, .iconst 3, 619, 0, 0), (619, .iadd, 620, 0, 0), (620, .iaload, 621, 0, 0), (621, .aload_n 0, 622, 0, 0), (622, .iload_n 3, 623, 0, 0), (623, .iconst 4, 624, 0, 0), (624, .iadd, 625, 0, 0), (625, .iaload, 626, 0, 0), (626, .invokevirtual 62, 629, 13, 4), (629, .aload_n 2, 630, 0, 0), (630, .aload_n 0, 631, 0, 0), (631, .iload_n 3, 632, 0, 0), (632, .iconst 1, 633, 0, 0), (633, .iadd, 634, 0, 0), (634, .iaload, 635, 0, 0), (635, .aload_n 0, 636, 0, 0), (636, .iload_n 3, 637, 0, 0), (637, .iconst 2, 638, 0, 0), (638, .iadd, 639, 0, 0), (639, .iaload, 640, 0, 0), (640, .aload_n 0, 641, 0, 0), (641, .iload_n 3, 642, 0, 0), (642, .iconst 3, 643, 0, 0), (643, .iadd, 644, 0, 0), (644, .iaload, 645, 0, 0), (645, .aload_n 0, 646, 0, 0), (646, .iload_n 3, 647, 0, 0), (647, .iconst 4, 648, 0, 0), (648, .iadd, 649, 0, 0), (649, .iaload, 650, 0, 0), (650, .invokevirtual 65, 653, 78, 4), (653, .if_icmp .eq 1190, 656, 1843, 0), (656, .iconst 0, 657, 0, 0), (657, .ireturn, 658, 0, 0)]
theorem sL11 : qL11.all (fun e => decide (zat kL_law.2.2.2.2.2 e.1 = some e.2)) = true := by decide +kernel
theorem l_c11 {R : zS → Prop} {xs : Nat → Int32} (hR : ∀ y, zstep (zCl zTab 12) 12 kL_law (some (7, xs)) zTab 600000 7302250 zLQ y R → R y) : R (605, [some (.retAddr 0), some (.ref 0), some (.ref 14), some (.int (Int32.ofInt 0))], [], zCw (zMf []), 45, 272400) := by
  have hR0 := hR
  have hR := @zrsub _ _ _ _ _ _ _ _ _ qL11 sL11 hR
  iterate 5 refine hR (?_ : R (_, _, _, _, _, _))
  refine hR (And.intro l_v1 ?_)
  iterate 4 refine hR (?_ : R (_, _, _, _, _, _))
  refine hR (And.intro l_v2 ?_)
  iterate 4 refine hR (?_ : R (_, _, _, _, _, _))
  refine hR (And.intro l_v3 ?_)
  iterate 4 refine hR (?_ : R (_, _, _, _, _, _))
  refine hR (And.intro l_v4 ?_)
  refine hR (zcall_i 0 0 (Nat.le_of_ble_eq_true rfl) (Nat.le_of_ble_eq_true rfl) (r_making _ _ _ _ _ _ _ ?_))
  iterate 5 refine hR (?_ : R (_, _, _, _, _, _))
  refine hR (And.intro l_v1 ?_)
  iterate 4 refine hR (?_ : R (_, _, _, _, _, _))
  refine hR (And.intro l_v2 ?_)
  iterate 4 refine hR (?_ : R (_, _, _, _, _, _))
  refine hR (And.intro l_v3 ?_)
  iterate 4 refine hR (?_ : R (_, _, _, _, _, _))
  refine hR (And.intro l_v4 ?_)
  refine hR (zcall_i 0 0 (Nat.le_of_ble_eq_true rfl) (Nat.le_of_ble_eq_true rfl) (m_making _ _ _ _ _ _ (fun _ => ?_)))
  refine hR (And.intro (fun _ => ?_) (fun hc => absurd rfl hc))
  exact l_end hR0 _ _ _ (Nat.le_of_ble_eq_true rfl) (Nat.le_of_ble_eq_true rfl)
def qL12 : List zE := [(658, .aload_n 1, 659, 0, 0), (659, .aload_n 0, 660, 0, 0), (660, .iload_n 3, 661, 0, 0), (661, .iconst 1, 662, 0, 0), (662, .iadd, 663, 0, 0), (663, .iaload, 664, 0, 0), (664, .aload_n 0, 665, 0, 0), (665, .iload_n 3, 666, 0, 0), (666, .iconst 2, 667, 0, 0), (667, .iadd, 668, 0, 0), (668, .iaload, 669, 0, 0), (669, .invokevirtual 66, 672, 14, 2), (672, .aload_n 2, 673, 0, 0), (673, .aload_n 0, 674, 0, 0), (674, .iload_n 3, 675, 0, 0), (675, .iconst 1, 676, 0, 0), (676, .iadd, 677, 0, 0), (677, .iaload, 678, 0, 0), (678, .aload_n 0, 679, 0, 0), (679, .iload_n 3, 680, 0, 0), (680, .iconst 2, 681, 0, 0), (681, .iadd, 682, 0, 0), (682, .iaload, 683, 0, 0), (683, .invokevirtual 69, 686, 79, 2), (686, .if_icmp .eq 1157, 689, 1843, 0), (689, .iconst 0, 690, 0, 0), (690, .ireturn, 691, 0, 0)]
theorem sL12 : qL12.all (fun e => decide (zat kL_law.2.2.2.2.2 e.1 = some e.2)) = true := by decide +kernel
theorem l_c12 {R : zS → Prop} {xs : Nat → Int32} (hR : ∀ y, zstep (zCl zTab 12) 12 kL_law (some (7, xs)) zTab 600000 7302250 zLQ y R → R y) : R (658, [some (.retAddr 0), some (.ref 0), some (.ref 14), some (.int (Int32.ofInt 0))], [], zCw (zMf []), 45, 272400) := by
  have hR0 := hR
  have hR := @zrsub _ _ _ _ _ _ _ _ _ qL12 sL12 hR
  iterate 5 refine hR (?_ : R (_, _, _, _, _, _))
  refine hR (And.intro l_v1 ?_)
  iterate 4 refine hR (?_ : R (_, _, _, _, _, _))
  refine hR (And.intro l_v2 ?_)
  refine hR (zcall_i 0 0 (Nat.le_of_ble_eq_true rfl) (Nat.le_of_ble_eq_true rfl) (r_ring _ _ _ _ _ ?_))
  iterate 5 refine hR (?_ : R (_, _, _, _, _, _))
  refine hR (And.intro l_v1 ?_)
  iterate 4 refine hR (?_ : R (_, _, _, _, _, _))
  refine hR (And.intro l_v2 ?_)
  refine hR (zcall_i 0 0 (Nat.le_of_ble_eq_true rfl) (Nat.le_of_ble_eq_true rfl) (m_ring _ _ _ _ (fun _ => ?_)))
  refine hR (And.intro (fun _ => ?_) (fun hc => absurd rfl hc))
  exact l_end hR0 _ _ _ (Nat.le_of_ble_eq_true rfl) (Nat.le_of_ble_eq_true rfl)
def qL13 : List zE := [(691, .aload_n 1, 692, 0, 0), (692, .aload_n 0, 693, 0, 0), (693, .iload_n 3, 694, 0, 0), (694, .iconst 1, 695, 0, 0), (695, .iadd, 696, 0, 0), (696, .iaload, 697, 0, 0), (697, .aload_n 0, 698, 0, 0), (698, .iload_n 3, 699, 0, 0), (699, .iconst 2, 700, 0, 0), (700, .iadd, 701, 0, 0), (701, .iaload, 702, 0, 0), (702, .aload_n 0, 703, 0, 0), (703, .iload_n 3, 704, 0, 0), (704, .iconst 3, 705, 0, 0), (705, .iadd, 706, 0, 0), (706, .iaload, 707, 0, 0), (707, .ifCond .eq 7, 710, 714, 0), (710, .iconst 1, 711, 0, 0), (711, .goto 4, 714, 715, 0), (714, .iconst 0, 715, 0, 0), (715, .invokevirtual 70, 718, 15, 3), (718, .aload_n 2, 719, 0, 0), (719, .aload_n 0, 720, 0, 0), (720, .iload_n 3, 721, 0, 0), (721, .iconst 1, 722, 0, 0), (722, .iadd, 723, 0, 0), (723, .iaload, 724, 0, 0), (724, .aload_n 0, 725, 0, 0), (725, .iload_n 3, 726, 0, 0), (726, .iconst 2, 727, 0, 0), (727, .iadd, 728, 0, 0), (728, .iaload, 729, 0, 0), (729, .aload_n 0, 730, 0, 0), (730, .iload_n 3, 731, 0, 0), (731, .iconst 3, 732, 0, 0), (732, .iadd, 733, 0, 0), (733, .iaload, 734, 0, 0), (734, .ifCond .eq 7, 737, 741, 0), (737, .iconst 1, 738, 0, 0), (738, .goto 4, 741, 742, 0), (741, .iconst 0, 742, 0, 0), (742, .invokevirtual 74, 745, 80, 3), (745, .if_icmp .eq 1098, 748, 1843, 0), (748, .iconst 0, 749, 0, 0), (749, .ireturn, 750, 0, 0)]
theorem sL13 : qL13.all (fun e => decide (zat kL_law.2.2.2.2.2 e.1 = some e.2)) = true := by decide +kernel
theorem l_c13 {R : zS → Prop} {xs : Nat → Int32} (hR : ∀ y, zstep (zCl zTab 12) 12 kL_law (some (7, xs)) zTab 600000 7302250 zLQ y R → R y) : R (691, [some (.retAddr 0), some (.ref 0), some (.ref 14), some (.int (Int32.ofInt 0))], [], zCw (zMf []), 45, 272400) := by
  have hR0 := hR
  have hR := @zrsub _ _ _ _ _ _ _ _ _ qL13 sL13 hR
  iterate 5 refine hR (?_ : R (_, _, _, _, _, _))
  refine hR (And.intro l_v1 ?_)
  iterate 4 refine hR (?_ : R (_, _, _, _, _, _))
  refine hR (And.intro l_v2 ?_)
  iterate 4 refine hR (?_ : R (_, _, _, _, _, _))
  refine hR (And.intro l_v3 ?_)
  refine hR (And.intro (fun hz1 => ?_) (fun hz1 => ?_))
  · skip
    refine hR (?_ : R (_, _, _, _, _, _))
    refine hR (zcall_i 0 0 (Nat.le_of_ble_eq_true rfl) (Nat.le_of_ble_eq_true rfl) (r_reach _ _ _ _ _ _ ?_))
    iterate 5 refine hR (?_ : R (_, _, _, _, _, _))
    refine hR (And.intro l_v1 ?_)
    iterate 4 refine hR (?_ : R (_, _, _, _, _, _))
    refine hR (And.intro l_v2 ?_)
    iterate 4 refine hR (?_ : R (_, _, _, _, _, _))
    refine hR (And.intro l_v3 ?_)
    refine hR (And.intro (fun _ => ?_) (fun hc => absurd hz1 hc))
    refine hR (?_ : R (_, _, _, _, _, _))
    refine hR (zcall_i 0 0 (Nat.le_of_ble_eq_true rfl) (Nat.le_of_ble_eq_true rfl) (m_reach _ _ _ _ _ (fun _ => ?_)))
    refine hR (And.intro (fun _ => ?_) (fun hc => absurd rfl hc))
    exact l_end hR0 _ _ _ (Nat.le_of_ble_eq_true rfl) (Nat.le_of_ble_eq_true rfl)
  · skip
    iterate 2 refine hR (?_ : R (_, _, _, _, _, _))
    refine hR (zcall_i 0 0 (Nat.le_of_ble_eq_true rfl) (Nat.le_of_ble_eq_true rfl) (r_reach _ _ _ _ _ _ ?_))
    iterate 5 refine hR (?_ : R (_, _, _, _, _, _))
    refine hR (And.intro l_v1 ?_)
    iterate 4 refine hR (?_ : R (_, _, _, _, _, _))
    refine hR (And.intro l_v2 ?_)
    iterate 4 refine hR (?_ : R (_, _, _, _, _, _))
    refine hR (And.intro l_v3 ?_)
    refine hR (And.intro (fun hc => absurd hc hz1) (fun _ => ?_))
    iterate 2 refine hR (?_ : R (_, _, _, _, _, _))
    refine hR (zcall_i 0 0 (Nat.le_of_ble_eq_true rfl) (Nat.le_of_ble_eq_true rfl) (m_reach _ _ _ _ _ (fun _ => ?_)))
    refine hR (And.intro (fun _ => ?_) (fun hc => absurd rfl hc))
    exact l_end hR0 _ _ _ (Nat.le_of_ble_eq_true rfl) (Nat.le_of_ble_eq_true rfl)
def qL14 : List zE := [(750, .aload_n 1, 751, 0, 0), (751, .aload_n 0, 752, 0, 0), (752, .iload_n 3, 753, 0, 0), (753, .iconst 1, 754, 0, 0), (754, .iadd, 755, 0, 0), (755, .iaload, 756, 0, 0), (756, .aload_n 0, 757, 0, 0), (757, .iload_n 3, 758, 0, 0), (758, .iconst 2, 759, 0, 0), (759, .iadd, 760, 0, 0), (760, .iaload, 761, 0, 0), (761, .invokevirtual 75, 764, 16, 2), (764, .aload_n 2, 765, 0, 0), (765, .aload_n 0, 766, 0, 0), (766, .iload_n 3, 767, 0, 0), (767, .iconst 1, 768, 0, 0), (768, .iadd, 769, 0, 0), (769, .iaload, 770, 0, 0), (770, .aload_n 0, 771, 0, 0), (771, .iload_n 3, 772, 0, 0), (772, .iconst 2, 773, 0, 0), (773, .iadd, 774, 0, 0), (774, .iaload, 775, 0, 0), (775, .invokevirtual 78, 778, 81, 2), (778, .if_icmp .eq 1065, 781, 1843, 0), (781, .iconst 0, 782, 0, 0), (782, .ireturn, 783, 0, 0)]
theorem sL14 : qL14.all (fun e => decide (zat kL_law.2.2.2.2.2 e.1 = some e.2)) = true := by decide +kernel
theorem l_c14 {R : zS → Prop} {xs : Nat → Int32} (hR : ∀ y, zstep (zCl zTab 12) 12 kL_law (some (7, xs)) zTab 600000 7302250 zLQ y R → R y) : R (750, [some (.retAddr 0), some (.ref 0), some (.ref 14), some (.int (Int32.ofInt 0))], [], zCw (zMf []), 45, 272400) := by
  have hR0 := hR
  have hR := @zrsub _ _ _ _ _ _ _ _ _ qL14 sL14 hR
  iterate 5 refine hR (?_ : R (_, _, _, _, _, _))
  refine hR (And.intro l_v1 ?_)
  iterate 4 refine hR (?_ : R (_, _, _, _, _, _))
  refine hR (And.intro l_v2 ?_)
  refine hR (zcall_i 0 0 (Nat.le_of_ble_eq_true rfl) (Nat.le_of_ble_eq_true rfl) (r_sound _ _ _ _ _ ?_))
  iterate 5 refine hR (?_ : R (_, _, _, _, _, _))
  refine hR (And.intro l_v1 ?_)
  iterate 4 refine hR (?_ : R (_, _, _, _, _, _))
  refine hR (And.intro l_v2 ?_)
  refine hR (zcall_i 0 0 (Nat.le_of_ble_eq_true rfl) (Nat.le_of_ble_eq_true rfl) (m_sound _ _ _ _ (fun _ => ?_)))
  refine hR (And.intro (fun _ => ?_) (fun hc => absurd rfl hc))
  exact l_end hR0 _ _ _ (Nat.le_of_ble_eq_true rfl) (Nat.le_of_ble_eq_true rfl)
def qL15 : List zE := [(783, .aload_n 1, 784, 0, 0), (784, .aload_n 0, 785, 0, 0), (785, .iload_n 3, 786, 0, 0), (786, .iconst 1, 787, 0, 0), (787, .iadd, 788, 0, 0), (788, .iaload, 789, 0, 0), (789, .aload_n 0, 790, 0, 0), (790, .iload_n 3, 791, 0, 0), (791, .iconst 2, 792, 0, 0), (792, .iadd, 793, 0, 0), (793, .iaload, 794, 0, 0), (794, .aload_n 0, 795, 0, 0), (795, .iload_n 3, 796, 0, 0), (796, .iconst 3, 797, 0, 0), (797, .iadd, 798, 0, 0), (798, .iaload, 799, 0, 0), (799, .invokevirtual 79, 802, 17, 3), (802, .aload_n 2, 803, 0, 0), (803, .aload_n 0, 804, 0, 0), (804, .iload_n 3, 805, 0, 0), (805, .iconst 1, 806, 0, 0), (806, .iadd, 807, 0, 0), (807, .iaload, 808, 0, 0), (808, .aload_n 0, 809, 0, 0), (809, .iload_n 3, 810, 0, 0), (810, .iconst 2, 811, 0, 0), (811, .iadd, 812, 0, 0), (812, .iaload, 813, 0, 0), (813, .aload_n 0, 814, 0, 0), (814, .iload_n 3, 815, 0, 0), (815, .iconst 3, 816, 0, 0), (816, .iadd, 817, 0, 0), (817, .iaload, 818, 0, 0), (818, .invokevirtual 82, 821, 82, 3), (821, .if_icmp .eq 1022, 824, 1843, 0), (824, .iconst 0, 825, 0, 0), (825, .ireturn, 826, 0, 0)]
theorem sL15 : qL15.all (fun e => decide (zat kL_law.2.2.2.2.2 e.1 = some e.2)) = true := by decide +kernel
theorem l_c15 {R : zS → Prop} {xs : Nat → Int32} (hR : ∀ y, zstep (zCl zTab 12) 12 kL_law (some (7, xs)) zTab 600000 7302250 zLQ y R → R y) : R (783, [some (.retAddr 0), some (.ref 0), some (.ref 14), some (.int (Int32.ofInt 0))], [], zCw (zMf []), 45, 272400) := by
  have hR0 := hR
  have hR := @zrsub _ _ _ _ _ _ _ _ _ qL15 sL15 hR
  iterate 5 refine hR (?_ : R (_, _, _, _, _, _))
  refine hR (And.intro l_v1 ?_)
  iterate 4 refine hR (?_ : R (_, _, _, _, _, _))
  refine hR (And.intro l_v2 ?_)
  iterate 4 refine hR (?_ : R (_, _, _, _, _, _))
  refine hR (And.intro l_v3 ?_)
  refine hR (zcall_i 0 0 (Nat.le_of_ble_eq_true rfl) (Nat.le_of_ble_eq_true rfl) (r_like _ _ _ _ _ _ ?_))
  iterate 5 refine hR (?_ : R (_, _, _, _, _, _))
  refine hR (And.intro l_v1 ?_)
  iterate 4 refine hR (?_ : R (_, _, _, _, _, _))
  refine hR (And.intro l_v2 ?_)
  iterate 4 refine hR (?_ : R (_, _, _, _, _, _))
  refine hR (And.intro l_v3 ?_)
  refine hR (zcall_i 0 0 (Nat.le_of_ble_eq_true rfl) (Nat.le_of_ble_eq_true rfl) (m_like _ _ _ _ _ (fun _ => ?_)))
  refine hR (And.intro (fun _ => ?_) (fun hc => absurd rfl hc))
  exact l_end hR0 _ _ _ (Nat.le_of_ble_eq_true rfl) (Nat.le_of_ble_eq_true rfl)
def qL16 : List zE := [(826, .aload_n 1, 827, 0, 0), (827, .aload_n 0, 828, 0, 0), (828, .iload_n 3, 829, 0, 0), (829, .iconst 1, 830, 0, 0), (830, .iadd, 831, 0, 0), (831, .iaload, 832, 0, 0), (832, .aload_n 0, 833, 0, 0), (833, .iload_n 3, 834, 0, 0), (834, .iconst 2, 835, 0, 0), (835, .iadd, 836, 0, 0), (836, .iaload, 837, 0, 0), (837, .aload_n 0, 838, 0, 0), (838, .iload_n 3, 839, 0, 0), (839, .iconst 3, 840, 0, 0), (840, .iadd, 841, 0, 0), (841, .iaload, 842, 0, 0), (842, .invokevirtual 83, 845, 18, 3), (845, .aload_n 2, 846, 0, 0), (846, .aload_n 0, 847, 0, 0), (847, .iload_n 3, 848, 0, 0), (848, .iconst 1, 849, 0, 0), (849, .iadd, 850, 0, 0), (850, .iaload, 851, 0, 0), (851, .aload_n 0, 852, 0, 0), (852, .iload_n 3, 853, 0, 0), (853, .iconst 2, 854, 0, 0), (854, .iadd, 855, 0, 0), (855, .iaload, 856, 0, 0), (856, .aload_n 0, 857, 0, 0), (857, .iload_n 3, 858, 0, 0), (858, .iconst 3, 859, 0, 0), (859, .iadd, 860, 0, 0), (860, .iaload, 861, 0, 0), (861, .invokevirtual 86, 864, 83, 3), (864, .if_icmp .eq 979, 867, 1843, 0), (867, .iconst 0, 868, 0, 0), (868, .ireturn, 869, 0, 0)]
theorem sL16 : qL16.all (fun e => decide (zat kL_law.2.2.2.2.2 e.1 = some e.2)) = true := by decide +kernel
theorem l_c16 {R : zS → Prop} {xs : Nat → Int32} (hR : ∀ y, zstep (zCl zTab 12) 12 kL_law (some (7, xs)) zTab 600000 7302250 zLQ y R → R y) : R (826, [some (.retAddr 0), some (.ref 0), some (.ref 14), some (.int (Int32.ofInt 0))], [], zCw (zMf []), 45, 272400) := by
  have hR0 := hR
  have hR := @zrsub _ _ _ _ _ _ _ _ _ qL16 sL16 hR
  iterate 5 refine hR (?_ : R (_, _, _, _, _, _))
  refine hR (And.intro l_v1 ?_)
  iterate 4 refine hR (?_ : R (_, _, _, _, _, _))
  refine hR (And.intro l_v2 ?_)
  iterate 4 refine hR (?_ : R (_, _, _, _, _, _))
  refine hR (And.intro l_v3 ?_)
  refine hR (zcall_i 0 0 (Nat.le_of_ble_eq_true rfl) (Nat.le_of_ble_eq_true rfl) (r_orbits _ _ _ _ _ _ ?_))
  iterate 5 refine hR (?_ : R (_, _, _, _, _, _))
  refine hR (And.intro l_v1 ?_)
  iterate 4 refine hR (?_ : R (_, _, _, _, _, _))
  refine hR (And.intro l_v2 ?_)
  iterate 4 refine hR (?_ : R (_, _, _, _, _, _))
  refine hR (And.intro l_v3 ?_)
  refine hR (zcall_i 0 0 (Nat.le_of_ble_eq_true rfl) (Nat.le_of_ble_eq_true rfl) (m_orbits _ _ _ _ _ (fun _ => ?_)))
  refine hR (And.intro (fun _ => ?_) (fun hc => absurd rfl hc))
  exact l_end hR0 _ _ _ (Nat.le_of_ble_eq_true rfl) (Nat.le_of_ble_eq_true rfl)
def qL17 : List zE := [(869, .aload_n 1, 870, 0, 0), (870, .aload_n 0, 871, 0, 0), (871, .iload_n 3, 872, 0, 0), (872, .iconst 1, 873, 0, 0), (873, .iadd, 874, 0, 0), (874, .iaload, 875, 0, 0), (875, .aload_n 0, 876, 0, 0), (876, .iload_n 3, 877, 0, 0), (877, .iconst 2, 878, 0, 0), (878, .iadd, 879, 0, 0), (879, .iaload, 880, 0, 0), (880, .aload_n 0, 881, 0, 0), (881, .iload_n 3, 882, 0, 0), (882, .iconst 3, 883, 0, 0), (883, .iadd, 884, 0, 0), (884, .iaload, 885, 0, 0), (885, .invokevirtual 87, 888, 19, 3), (888, .aload_n 2, 889, 0, 0), (889, .aload_n 0, 890, 0, 0), (890, .iload_n 3, 891, 0, 0), (891, .iconst 1, 892, 0, 0), (892, .iadd, 893, 0, 0), (893, .iaload, 894, 0, 0), (894, .aload_n 0, 895, 0, 0), (895, .iload_n 3, 896, 0, 0), (896, .iconst 2, 897, 0, 0), (897, .iadd, 898, 0, 0), (898, .iaload, 899, 0, 0), (899, .aload_n 0, 900, 0, 0), (900, .iload_n 3, 901, 0, 0), (901, .iconst 3, 902, 0, 0), (902, .iadd, 903, 0, 0), (903, .iaload, 904, 0, 0), (904, .invokevirtual 90, 907, 84, 3), (907, .if_icmp .eq 936, 910, 1843, 0), (910, .iconst 0, 911, 0, 0), (911, .ireturn, 912, 0, 0)]
theorem sL17 : qL17.all (fun e => decide (zat kL_law.2.2.2.2.2 e.1 = some e.2)) = true := by decide +kernel
theorem l_c17 {R : zS → Prop} {xs : Nat → Int32} (hR : ∀ y, zstep (zCl zTab 12) 12 kL_law (some (7, xs)) zTab 600000 7302250 zLQ y R → R y) : R (869, [some (.retAddr 0), some (.ref 0), some (.ref 14), some (.int (Int32.ofInt 0))], [], zCw (zMf []), 45, 272400) := by
  have hR0 := hR
  have hR := @zrsub _ _ _ _ _ _ _ _ _ qL17 sL17 hR
  iterate 5 refine hR (?_ : R (_, _, _, _, _, _))
  refine hR (And.intro l_v1 ?_)
  iterate 4 refine hR (?_ : R (_, _, _, _, _, _))
  refine hR (And.intro l_v2 ?_)
  iterate 4 refine hR (?_ : R (_, _, _, _, _, _))
  refine hR (And.intro l_v3 ?_)
  refine hR (zcall_i 0 0 (Nat.le_of_ble_eq_true rfl) (Nat.le_of_ble_eq_true rfl) (r_rota _ _ _ _ _ _ ?_))
  iterate 5 refine hR (?_ : R (_, _, _, _, _, _))
  refine hR (And.intro l_v1 ?_)
  iterate 4 refine hR (?_ : R (_, _, _, _, _, _))
  refine hR (And.intro l_v2 ?_)
  iterate 4 refine hR (?_ : R (_, _, _, _, _, _))
  refine hR (And.intro l_v3 ?_)
  refine hR (zcall_i 0 0 (Nat.le_of_ble_eq_true rfl) (Nat.le_of_ble_eq_true rfl) (m_rota _ _ _ _ _ (fun _ => ?_)))
  refine hR (And.intro (fun _ => ?_) (fun hc => absurd rfl hc))
  exact l_end hR0 _ _ _ (Nat.le_of_ble_eq_true rfl) (Nat.le_of_ble_eq_true rfl)
def qL18 : List zE := [(912, .aload_n 1, 913, 0, 0), (913, .aload_n 0, 914, 0, 0), (914, .iload_n 3, 915, 0, 0), (915, .iconst 1, 916, 0, 0), (916, .iadd, 917, 0, 0), (917, .iaload, 918, 0, 0), (918, .aload_n 0, 919, 0, 0), (919, .iload_n 3, 920, 0, 0), (920, .iconst 2, 921, 0, 0), (921, .iadd, 922, 0, 0), (922, .iaload, 923, 0, 0), (923, .aload_n 0, 924, 0, 0), (924, .iload_n 3, 925, 0, 0), (925, .iconst 3, 926, 0, 0), (926, .iadd, 927, 0, 0), (927, .iaload, 928, 0, 0), (928, .ifCond .eq 7, 931, 935, 0), (931, .iconst 1, 932, 0, 0), (932, .goto 4, 935, 936, 0), (935, .iconst 0, 936, 0, 0), (936, .invokevirtual 91, 939, 20, 3), (939, .aload_n 2, 940, 0, 0), (940, .aload_n 0, 941, 0, 0), (941, .iload_n 3, 942, 0, 0), (942, .iconst 1, 943, 0, 0), (943, .iadd, 944, 0, 0), (944, .iaload, 945, 0, 0), (945, .aload_n 0, 946, 0, 0), (946, .iload_n 3, 947, 0, 0), (947, .iconst 2, 948, 0, 0), (948, .iadd, 949, 0, 0), (949, .iaload, 950, 0, 0), (950, .aload_n 0, 951, 0, 0), (951, .iload_n 3, 952, 0, 0), (952, .iconst 3, 953, 0, 0), (953, .iadd, 954, 0, 0), (954, .iaload, 955, 0, 0), (955, .ifCond .eq 7, 958, 962, 0), (958, .iconst 1, 959, 0, 0), (959, .goto 4, 962, 963, 0), (962, .iconst 0, 963, 0, 0), (963, .invokevirtual 95, 966, 85, 3), (966, .lcmp, 967, 0, 0), (967, .ifCond .eq 876, 970, 1843, 0), (970, .iconst 0, 971, 0, 0), (971, .ireturn, 972, 0, 0)]
theorem sL18 : qL18.all (fun e => decide (zat kL_law.2.2.2.2.2 e.1 = some e.2)) = true := by decide +kernel
theorem l_c18 {R : zS → Prop} {xs : Nat → Int32} (hR : ∀ y, zstep (zCl zTab 12) 12 kL_law (some (7, xs)) zTab 600000 7302250 zLQ y R → R y) : R (912, [some (.retAddr 0), some (.ref 0), some (.ref 14), some (.int (Int32.ofInt 0))], [], zCw (zMf []), 45, 272400) := by
  have hR0 := hR
  have hR := @zrsub _ _ _ _ _ _ _ _ _ qL18 sL18 hR
  iterate 5 refine hR (?_ : R (_, _, _, _, _, _))
  refine hR (And.intro l_v1 ?_)
  iterate 4 refine hR (?_ : R (_, _, _, _, _, _))
  refine hR (And.intro l_v2 ?_)
  iterate 4 refine hR (?_ : R (_, _, _, _, _, _))
  refine hR (And.intro l_v3 ?_)
  refine hR (And.intro (fun hz1 => ?_) (fun hz1 => ?_))
  · skip
    refine hR (?_ : R (_, _, _, _, _, _))
    refine hR (zcall_i 0 0 (Nat.le_of_ble_eq_true rfl) (Nat.le_of_ble_eq_true rfl) (r_mean _ _ _ _ _ _ ?_))
    iterate 5 refine hR (?_ : R (_, _, _, _, _, _))
    refine hR (And.intro l_v1 ?_)
    iterate 4 refine hR (?_ : R (_, _, _, _, _, _))
    refine hR (And.intro l_v2 ?_)
    iterate 4 refine hR (?_ : R (_, _, _, _, _, _))
    refine hR (And.intro l_v3 ?_)
    refine hR (And.intro (fun _ => ?_) (fun hc => absurd hz1 hc))
    refine hR (?_ : R (_, _, _, _, _, _))
    refine hR (zcall_i 0 0 (Nat.le_of_ble_eq_true rfl) (Nat.le_of_ble_eq_true rfl) (m_mean _ _ _ _ _ (fun _ => ?_)))
    refine hR (?_ : R (_, _, _, _, _, _))
    refine hR (And.intro (fun _ => ?_) (fun hc => absurd (by decide) hc))
    exact l_end hR0 _ _ _ (Nat.le_of_ble_eq_true rfl) (Nat.le_of_ble_eq_true rfl)
  · skip
    iterate 2 refine hR (?_ : R (_, _, _, _, _, _))
    refine hR (zcall_i 0 0 (Nat.le_of_ble_eq_true rfl) (Nat.le_of_ble_eq_true rfl) (r_mean _ _ _ _ _ _ ?_))
    iterate 5 refine hR (?_ : R (_, _, _, _, _, _))
    refine hR (And.intro l_v1 ?_)
    iterate 4 refine hR (?_ : R (_, _, _, _, _, _))
    refine hR (And.intro l_v2 ?_)
    iterate 4 refine hR (?_ : R (_, _, _, _, _, _))
    refine hR (And.intro l_v3 ?_)
    refine hR (And.intro (fun hc => absurd hc hz1) (fun _ => ?_))
    iterate 2 refine hR (?_ : R (_, _, _, _, _, _))
    refine hR (zcall_i 0 0 (Nat.le_of_ble_eq_true rfl) (Nat.le_of_ble_eq_true rfl) (m_mean _ _ _ _ _ (fun _ => ?_)))
    refine hR (?_ : R (_, _, _, _, _, _))
    refine hR (And.intro (fun _ => ?_) (fun hc => absurd (by decide) hc))
    exact l_end hR0 _ _ _ (Nat.le_of_ble_eq_true rfl) (Nat.le_of_ble_eq_true rfl)
def qL19 : List zE := [(972, .aload_n 1, 973, 0, 0), (973, .aload_n 0, 974, 0, 0), (974, .iload_n 3, 975, 0, 0), (975, .iconst 1, 976, 0, 0), (976, .iadd, 977, 0, 0), (977, .iaload, 978, 0, 0), (978, .aload_n 0, 979, 0, 0), (979, .iload_n 3, 980, 0, 0), (980, .iconst 2, 981, 0, 0), (981, .iadd, 982, 0, 0), (982, .iaload, 983, 0, 0), (983, .aload_n 0, 984, 0, 0), (984, .iload_n 3, 985, 0, 0), (985, .iconst 3, 986, 0, 0), (986, .iadd, 987, 0, 0), (987, .iaload, 988, 0, 0), (988, .aload_n 0, 989, 0, 0), (989, .iload_n 3, 990, 0, 0), (990, .iconst 4, 991, 0, 0), (991, .iadd, 992, 0, 0), (992, .iaload, 993, 0, 0), (993, .ifCond .eq 7, 996, 1000, 0), (996, .iconst 1, 997, 0, 0), (997, .goto 4, 1000, 1001, 0), (1000, .iconst 0, 1001, 0, 0), (1001, .invokevirtual 96, 1004, 21, 4), (1004, .aload_n 2, 1005, 0, 0), (1005, .aload_n 0, 1006, 0, 0), (1006, .iload_n 3, 1007, 0, 0), (1007, .iconst 1, 1008, 0, 0), (1008, .iadd, 1009, 0, 0), (1009, .iaload, 1010, 0, 0), (1010, .aload_n 0, 1011, 0, 0), (1011, .iload_n 3, 1012, 0, 0), (1012, .iconst 2, 1013, 0, 0), (1013, .iadd, 1014, 0, 0), (1014, .iaload, 1015, 0, 0), (1015, .aload_n 0, 1016, 0, 0), (1016, .iload_n 3, 1017, 0, 0), (1017, .iconst 3, 1018, 0, 0), (1018, .iadd, 1019, 0, 0), (1019, .iaload, 1020, 0, 0), (1020, .aload_n 0, 1021, 0, 0), (1021, .iload_n 3, 1022, 0, 0), (1022, .iconst 4, 1023, 0, 0), (1023, .iadd, 1024, 0, 0), (1024, .iaload, 1025, 0, 0), (1025, .ifCond .eq 7, 1028, 1032, 0), (1028, .iconst 1, 1029, 0, 0), (1029, .goto 4, 1032, 1033, 0), (1032, .iconst 0, 1033, 0, 0), (1033, .invokevirtual 100, 1036, 86, 4), (1036, .if_icmp .eq 807, 1039, 1843, 0), (1039, .iconst 0, 1040, 0, 0), (1040, .ireturn, 1041, 0, 0)]
theorem sL19 : qL19.all (fun e => decide (zat kL_law.2.2.2.2.2 e.1 = some e.2)) = true := by decide +kernel
theorem l_c19 {R : zS → Prop} {xs : Nat → Int32} (hR : ∀ y, zstep (zCl zTab 12) 12 kL_law (some (7, xs)) zTab 600000 7302250 zLQ y R → R y) : R (972, [some (.retAddr 0), some (.ref 0), some (.ref 14), some (.int (Int32.ofInt 0))], [], zCw (zMf []), 45, 272400) := by
  have hR0 := hR
  have hR := @zrsub _ _ _ _ _ _ _ _ _ qL19 sL19 hR
  iterate 5 refine hR (?_ : R (_, _, _, _, _, _))
  refine hR (And.intro l_v1 ?_)
  iterate 4 refine hR (?_ : R (_, _, _, _, _, _))
  refine hR (And.intro l_v2 ?_)
  iterate 4 refine hR (?_ : R (_, _, _, _, _, _))
  refine hR (And.intro l_v3 ?_)
  iterate 4 refine hR (?_ : R (_, _, _, _, _, _))
  refine hR (And.intro l_v4 ?_)
  refine hR (And.intro (fun hz1 => ?_) (fun hz1 => ?_))
  · skip
    refine hR (?_ : R (_, _, _, _, _, _))
    refine hR (zcall_i 0 0 (Nat.le_of_ble_eq_true rfl) (Nat.le_of_ble_eq_true rfl) (r_elders _ _ _ _ _ _ _ ?_))
    iterate 5 refine hR (?_ : R (_, _, _, _, _, _))
    refine hR (And.intro l_v1 ?_)
    iterate 4 refine hR (?_ : R (_, _, _, _, _, _))
    refine hR (And.intro l_v2 ?_)
    iterate 4 refine hR (?_ : R (_, _, _, _, _, _))
    refine hR (And.intro l_v3 ?_)
    iterate 4 refine hR (?_ : R (_, _, _, _, _, _))
    refine hR (And.intro l_v4 ?_)
    refine hR (And.intro (fun _ => ?_) (fun hc => absurd hz1 hc))
    refine hR (?_ : R (_, _, _, _, _, _))
    refine hR (zcall_i 0 0 (Nat.le_of_ble_eq_true rfl) (Nat.le_of_ble_eq_true rfl) (m_elders _ _ _ _ _ _ (fun _ => ?_)))
    refine hR (And.intro (fun _ => ?_) (fun hc => absurd rfl hc))
    exact l_end hR0 _ _ _ (Nat.le_of_ble_eq_true rfl) (Nat.le_of_ble_eq_true rfl)
  · skip
    iterate 2 refine hR (?_ : R (_, _, _, _, _, _))
    refine hR (zcall_i 0 0 (Nat.le_of_ble_eq_true rfl) (Nat.le_of_ble_eq_true rfl) (r_elders _ _ _ _ _ _ _ ?_))
    iterate 5 refine hR (?_ : R (_, _, _, _, _, _))
    refine hR (And.intro l_v1 ?_)
    iterate 4 refine hR (?_ : R (_, _, _, _, _, _))
    refine hR (And.intro l_v2 ?_)
    iterate 4 refine hR (?_ : R (_, _, _, _, _, _))
    refine hR (And.intro l_v3 ?_)
    iterate 4 refine hR (?_ : R (_, _, _, _, _, _))
    refine hR (And.intro l_v4 ?_)
    refine hR (And.intro (fun hc => absurd hc hz1) (fun _ => ?_))
    iterate 2 refine hR (?_ : R (_, _, _, _, _, _))
    refine hR (zcall_i 0 0 (Nat.le_of_ble_eq_true rfl) (Nat.le_of_ble_eq_true rfl) (m_elders _ _ _ _ _ _ (fun _ => ?_)))
    refine hR (And.intro (fun _ => ?_) (fun hc => absurd rfl hc))
    exact l_end hR0 _ _ _ (Nat.le_of_ble_eq_true rfl) (Nat.le_of_ble_eq_true rfl)
def qL20 : List zE := [(1041, .aload_n 1, 1042, 0, 0), (1042, .aload_n 0, 1043, 0, 0), (1043, .iload_n 3, 1044, 0, 0), (1044, .iconst 1, 1045, 0, 0), (1045, .iadd, 1046, 0, 0), (1046, .iaload, 1047, 0, 0), (1047, .aload_n 0, 1048, 0, 0), (1048, .iload_n 3, 1049, 0, 0), (1049, .iconst 2, 1050, 0, 0), (1050, .iadd, 1051, 0, 0), (1051, .iaload, 1052, 0, 0), (1052, .aload_n 0, 1053, 0, 0), (1053, .iload_n 3, 1054, 0, 0), (1054, .iconst 3, 1055, 0, 0), (1055, .iadd, 1056, 0, 0), (1056, .iaload, 1057, 0, 0), (1057, .aload_n 0, 1058, 0, 0), (1058, .iload_n 3, 1059, 0, 0), (1059, .iconst 4, 1060, 0, 0), (1060, .iadd, 1061, 0, 0), (1061, .iaload, 1062, 0, 0), (1062, .aload_n 0, 1063, 0, 0), (1063, .iload_n 3, 1064, 0, 0), (1064, .iconst 5, 1065, 0, 0), (1065, .iadd, 1066, 0, 0), (1066, .iaload, 1067, 0, 0), (1067, .aload_n 0, 1068, 0, 0), (1068, .iload_n 3, 1069, 0, 0), (1069, .bipush 6, 1071, 0, 0), (1071, .iadd, 1072, 0, 0), (1072, .iaload, 1073, 0, 0), (1073, .ifCond .eq 7, 1076, 1080, 0), (1076, .iconst 1, 1077, 0, 0), (1077, .goto 4, 1080, 1081, 0), (1080, .iconst 0, 1081, 0, 0), (1081, .invokevirtual 101, 1084, 22, 6), (1084, .aload_n 2, 1085, 0, 0), (1085, .aload_n 0, 1086, 0, 0), (1086, .iload_n 3, 1087, 0, 0), (1087, .iconst 1, 1088, 0, 0), (1088, .iadd, 1089, 0, 0), (1089, .iaload, 1090, 0, 0), (1090, .aload_n 0, 1091, 0, 0), (1091, .iload_n 3, 1092, 0, 0), (1092, .iconst 2, 1093, 0, 0), (1093, .iadd, 1094, 0, 0), (1094, .iaload, 1095, 0, 0), (1095, .aload_n 0, 1096, 0, 0), (1096, .iload_n 3, 1097, 0, 0), (1097, .iconst 3, 1098, 0, 0), (1098, .iadd, 1099, 0, 0), (1099, .iaload, 1100, 0, 0), (1100, .aload_n 0, 1101, 0, 0), (1101, .iload_n 3, 1102, 0, 0), (1102, .iconst 4, 1103, 0, 0), (1103, .iadd, 1104, 0, 0), (1104, .iaload, 1105, 0, 0), (1105, .aload_n 0, 1106, 0, 0), (1106, .iload_n 3, 1107, 0, 0), (1107, .iconst 5, 1108, 0, 0), (1108, .iadd, 1109, 0, 0), (1109, .iaload, 1110, 0, 0), (1110, .aload_n 0, 1111, 0, 0), (1111, .iload_n 3, 1112, 0, 0), (1112, .bipush 6, 1114, 0, 0), (1114, .iadd, 1115, 0, 0), (1115, .iaload, 1116, 0, 0), (1116, .ifCond .eq 7, 1119, 1123, 0), (1119, .iconst 1, 1120, 0, 0), (1120, .goto 4, 1123, 1124, 0), (1123, .iconst 0, 1124, 0, 0), (1124, .invokevirtual 105, 1127, 87, 6), (1127, .if_icmp .eq 716, 1130, 1843, 0), (1130, .iconst 0, 1131, 0, 0), (1131, .ireturn, 1132, 0, 0)]
theorem sL20 : qL20.all (fun e => decide (zat kL_law.2.2.2.2.2 e.1 = some e.2)) = true := by decide +kernel
theorem l_c20 {R : zS → Prop} {xs : Nat → Int32} (hR : ∀ y, zstep (zCl zTab 12) 12 kL_law (some (7, xs)) zTab 600000 7302250 zLQ y R → R y) : R (1041, [some (.retAddr 0), some (.ref 0), some (.ref 14), some (.int (Int32.ofInt 0))], [], zCw (zMf []), 45, 272400) := by
  have hR0 := hR
  have hR := @zrsub _ _ _ _ _ _ _ _ _ qL20 sL20 hR
  iterate 5 refine hR (?_ : R (_, _, _, _, _, _))
  refine hR (And.intro l_v1 ?_)
  iterate 4 refine hR (?_ : R (_, _, _, _, _, _))
  refine hR (And.intro l_v2 ?_)
  iterate 4 refine hR (?_ : R (_, _, _, _, _, _))
  refine hR (And.intro l_v3 ?_)
  iterate 4 refine hR (?_ : R (_, _, _, _, _, _))
  refine hR (And.intro l_v4 ?_)
  iterate 4 refine hR (?_ : R (_, _, _, _, _, _))
  refine hR (And.intro l_v5 ?_)
  iterate 4 refine hR (?_ : R (_, _, _, _, _, _))
  refine hR (And.intro l_v6 ?_)
  refine hR (And.intro (fun hz1 => ?_) (fun hz1 => ?_))
  · skip
    refine hR (?_ : R (_, _, _, _, _, _))
    refine hR (zcall_i 0 0 (Nat.le_of_ble_eq_true rfl) (Nat.le_of_ble_eq_true rfl) (r_play _ _ _ _ _ _ _ _ _ ?_))
    iterate 5 refine hR (?_ : R (_, _, _, _, _, _))
    refine hR (And.intro l_v1 ?_)
    iterate 4 refine hR (?_ : R (_, _, _, _, _, _))
    refine hR (And.intro l_v2 ?_)
    iterate 4 refine hR (?_ : R (_, _, _, _, _, _))
    refine hR (And.intro l_v3 ?_)
    iterate 4 refine hR (?_ : R (_, _, _, _, _, _))
    refine hR (And.intro l_v4 ?_)
    iterate 4 refine hR (?_ : R (_, _, _, _, _, _))
    refine hR (And.intro l_v5 ?_)
    iterate 4 refine hR (?_ : R (_, _, _, _, _, _))
    refine hR (And.intro l_v6 ?_)
    refine hR (And.intro (fun _ => ?_) (fun hc => absurd hz1 hc))
    refine hR (?_ : R (_, _, _, _, _, _))
    refine hR (zcall_i 0 0 (Nat.le_of_ble_eq_true rfl) (Nat.le_of_ble_eq_true rfl) (m_play _ _ _ _ _ _ _ _ (fun _ => ?_)))
    refine hR (And.intro (fun _ => ?_) (fun hc => absurd rfl hc))
    exact l_end hR0 _ _ _ (Nat.le_of_ble_eq_true rfl) (Nat.le_of_ble_eq_true rfl)
  · skip
    iterate 2 refine hR (?_ : R (_, _, _, _, _, _))
    refine hR (zcall_i 0 0 (Nat.le_of_ble_eq_true rfl) (Nat.le_of_ble_eq_true rfl) (r_play _ _ _ _ _ _ _ _ _ ?_))
    iterate 5 refine hR (?_ : R (_, _, _, _, _, _))
    refine hR (And.intro l_v1 ?_)
    iterate 4 refine hR (?_ : R (_, _, _, _, _, _))
    refine hR (And.intro l_v2 ?_)
    iterate 4 refine hR (?_ : R (_, _, _, _, _, _))
    refine hR (And.intro l_v3 ?_)
    iterate 4 refine hR (?_ : R (_, _, _, _, _, _))
    refine hR (And.intro l_v4 ?_)
    iterate 4 refine hR (?_ : R (_, _, _, _, _, _))
    refine hR (And.intro l_v5 ?_)
    iterate 4 refine hR (?_ : R (_, _, _, _, _, _))
    refine hR (And.intro l_v6 ?_)
    refine hR (And.intro (fun hc => absurd hc hz1) (fun _ => ?_))
    iterate 2 refine hR (?_ : R (_, _, _, _, _, _))
    refine hR (zcall_i 0 0 (Nat.le_of_ble_eq_true rfl) (Nat.le_of_ble_eq_true rfl) (m_play _ _ _ _ _ _ _ _ (fun _ => ?_)))
    refine hR (And.intro (fun _ => ?_) (fun hc => absurd rfl hc))
    exact l_end hR0 _ _ _ (Nat.le_of_ble_eq_true rfl) (Nat.le_of_ble_eq_true rfl)
def qL21 : List zE := [(1132, .aload_n 1, 1133, 0, 0), (1133, .aload_n 0, 1134, 0, 0), (1134, .iload_n 3, 1135, 0, 0), (1135, .iconst 1, 1136, 0, 0), (1136, .iadd, 1137, 0, 0), (1137, .iaload, 1138, 0, 0), (1138, .aload_n 0, 1139, 0, 0), (1139, .iload_n 3, 1140, 0, 0), (1140, .iconst 2, 1141, 0, 0), (1141, .iadd, 1142, 0, 0), (1142, .iaload, 1143, 0, 0), (1143, .aload_n 0, 1144, 0, 0), (1144, .iload_n 3, 1145, 0, 0), (1145, .iconst 3, 1146, 0, 0), (1146, .iadd, 1147, 0, 0), (1147, .iaload, 1148, 0, 0), (1148, .invokevirtual 106, 1151, 23, 3), (1151, .aload_n 2, 1152, 0, 0), (1152, .aload_n 0, 1153, 0, 0), (1153, .iload_n 3, 1154, 0, 0), (1154, .iconst 1, 1155, 0, 0), (1155, .iadd, 1156, 0, 0), (1156, .iaload, 1157, 0, 0), (1157, .aload_n 0, 1158, 0, 0), (1158, .iload_n 3, 1159, 0, 0), (1159, .iconst 2, 1160, 0, 0), (1160, .iadd, 1161, 0, 0), (1161, .iaload, 1162, 0, 0), (1162, .aload_n 0, 1163, 0, 0), (1163, .iload_n 3, 1164, 0, 0), (1164, .iconst 3, 1165, 0, 0), (1165, .iadd, 1166, 0, 0), (1166, .iaload, 1167, 0, 0), (1167, .invokevirtual 109, 1170, 88, 3), (1170, .if_icmp .eq 673, 1173, 1843, 0), (1173, .iconst 0, 1174, 0, 0), (1174, .ireturn, 1175, 0, 0)]
theorem sL21 : qL21.all (fun e => decide (zat kL_law.2.2.2.2.2 e.1 = some e.2)) = true := by decide +kernel
theorem l_c21 {R : zS → Prop} {xs : Nat → Int32} (hR : ∀ y, zstep (zCl zTab 12) 12 kL_law (some (7, xs)) zTab 600000 7302250 zLQ y R → R y) : R (1132, [some (.retAddr 0), some (.ref 0), some (.ref 14), some (.int (Int32.ofInt 0))], [], zCw (zMf []), 45, 272400) := by
  have hR0 := hR
  have hR := @zrsub _ _ _ _ _ _ _ _ _ qL21 sL21 hR
  iterate 5 refine hR (?_ : R (_, _, _, _, _, _))
  refine hR (And.intro l_v1 ?_)
  iterate 4 refine hR (?_ : R (_, _, _, _, _, _))
  refine hR (And.intro l_v2 ?_)
  iterate 4 refine hR (?_ : R (_, _, _, _, _, _))
  refine hR (And.intro l_v3 ?_)
  refine hR (zcall_i 0 0 (Nat.le_of_ble_eq_true rfl) (Nat.le_of_ble_eq_true rfl) (r_fact _ _ _ _ _ _ ?_))
  iterate 5 refine hR (?_ : R (_, _, _, _, _, _))
  refine hR (And.intro l_v1 ?_)
  iterate 4 refine hR (?_ : R (_, _, _, _, _, _))
  refine hR (And.intro l_v2 ?_)
  iterate 4 refine hR (?_ : R (_, _, _, _, _, _))
  refine hR (And.intro l_v3 ?_)
  refine hR (zcall_i 0 0 (Nat.le_of_ble_eq_true rfl) (Nat.le_of_ble_eq_true rfl) (m_fact _ _ _ _ _ (fun _ => ?_)))
  refine hR (And.intro (fun _ => ?_) (fun hc => absurd rfl hc))
  exact l_end hR0 _ _ _ (Nat.le_of_ble_eq_true rfl) (Nat.le_of_ble_eq_true rfl)
def qL22 : List zE := [(1175, .aload_n 1, 1176, 0, 0), (1176, .aload_n 0, 1177, 0, 0), (1177, .iload_n 3, 1178, 0, 0), (1178, .iconst 1, 1179, 0, 0), (1179, .iadd, 1180, 0, 0), (1180, .iaload, 1181, 0, 0), (1181, .aload_n 0, 1182, 0, 0), (1182, .iload_n 3, 1183, 0, 0), (1183, .iconst 2, 1184, 0, 0), (1184, .iadd, 1185, 0, 0), (1185, .iaload, 1186, 0, 0), (1186, .aload_n 0, 1187, 0, 0), (1187, .iload_n 3, 1188, 0, 0), (1188, .iconst 3, 1189, 0, 0), (1189, .iadd, 1190, 0, 0), (1190, .iaload, 1191, 0, 0), (1191, .aload_n 0, 1192, 0, 0), (1192, .iload_n 3, 1193, 0, 0), (1193, .iconst 4, 1194, 0, 0), (1194, .iadd, 1195, 0, 0), (1195, .iaload, 1196, 0, 0), (1196, .invokevirtual 110, 1199, 24, 4), (1199, .aload_n 2, 1200, 0, 0), (1200, .aload_n 0, 1201, 0, 0), (1201, .iload_n 3, 1202, 0, 0), (1202, .iconst 1, 1203, 0, 0), (1203, .iadd, 1204, 0, 0), (1204, .iaload, 1205, 0, 0), (1205, .aload_n 0, 1206, 0, 0), (1206, .iload_n 3, 1207, 0, 0), (1207, .iconst 2, 1208, 0, 0), (1208, .iadd, 1209, 0, 0), (1209, .iaload, 1210, 0, 0), (1210, .aload_n 0, 1211, 0, 0), (1211, .iload_n 3, 1212, 0, 0), (1212, .iconst 3, 1213, 0, 0), (1213, .iadd, 1214, 0, 0), (1214, .iaload, 1215, 0, 0), (1215, .aload_n 0, 1216, 0, 0), (1216, .iload_n 3, 1217, 0, 0), (1217, .iconst 4, 1218, 0, 0), (1218, .iadd, 1219, 0, 0), (1219, .iaload, 1220, 0, 0), (1220, .invokevirtual 113, 1223, 89, 4), (1223, .if_icmp .eq 620, 1226, 1843, 0), (1226, .iconst 0, 1227, 0, 0), (1227, .ireturn, 1228, 0, 0)]
theorem sL22 : qL22.all (fun e => decide (zat kL_law.2.2.2.2.2 e.1 = some e.2)) = true := by decide +kernel
theorem l_c22 {R : zS → Prop} {xs : Nat → Int32} (hR : ∀ y, zstep (zCl zTab 12) 12 kL_law (some (7, xs)) zTab 600000 7302250 zLQ y R → R y) : R (1175, [some (.retAddr 0), some (.ref 0), some (.ref 14), some (.int (Int32.ofInt 0))], [], zCw (zMf []), 45, 272400) := by
  have hR0 := hR
  have hR := @zrsub _ _ _ _ _ _ _ _ _ qL22 sL22 hR
  iterate 5 refine hR (?_ : R (_, _, _, _, _, _))
  refine hR (And.intro l_v1 ?_)
  iterate 4 refine hR (?_ : R (_, _, _, _, _, _))
  refine hR (And.intro l_v2 ?_)
  iterate 4 refine hR (?_ : R (_, _, _, _, _, _))
  refine hR (And.intro l_v3 ?_)
  iterate 4 refine hR (?_ : R (_, _, _, _, _, _))
  refine hR (And.intro l_v4 ?_)
  refine hR (zcall_i 0 0 (Nat.le_of_ble_eq_true rfl) (Nat.le_of_ble_eq_true rfl) (r_fits _ _ _ _ _ _ _ ?_))
  iterate 5 refine hR (?_ : R (_, _, _, _, _, _))
  refine hR (And.intro l_v1 ?_)
  iterate 4 refine hR (?_ : R (_, _, _, _, _, _))
  refine hR (And.intro l_v2 ?_)
  iterate 4 refine hR (?_ : R (_, _, _, _, _, _))
  refine hR (And.intro l_v3 ?_)
  iterate 4 refine hR (?_ : R (_, _, _, _, _, _))
  refine hR (And.intro l_v4 ?_)
  refine hR (zcall_i 0 0 (Nat.le_of_ble_eq_true rfl) (Nat.le_of_ble_eq_true rfl) (m_fits _ _ _ _ _ _ (fun _ => ?_)))
  refine hR (And.intro (fun _ => ?_) (fun hc => absurd rfl hc))
  exact l_end hR0 _ _ _ (Nat.le_of_ble_eq_true rfl) (Nat.le_of_ble_eq_true rfl)
def qL23 : List zE := [(1228, .aload_n 1, 1229, 0, 0), (1229, .aload_n 0, 1230, 0, 0), (1230, .iload_n 3, 1231, 0, 0), (1231, .iconst 1, 1232, 0, 0), (1232, .iadd, 1233, 0, 0), (1233, .iaload, 1234, 0, 0), (1234, .aload_n 0, 1235, 0, 0), (1235, .iload_n 3, 1236, 0, 0), (1236, .iconst 2, 1237, 0, 0), (1237, .iadd, 1238, 0, 0), (1238, .iaload, 1239, 0, 0), (1239, .aload_n 0, 1240, 0, 0), (1240, .iload_n 3, 1241, 0, 0), (1241, .iconst 3, 1242, 0, 0), (1242, .iadd, 1243, 0, 0), (1243, .iaload, 1244, 0, 0), (1244, .aload_n 0, 1245, 0, 0), (1245, .iload_n 3, 1246, 0, 0), (1246, .iconst 4, 1247, 0, 0), (1247, .iadd, 1248, 0, 0), (1248, .iaload, 1249, 0, 0), (1249, .invokevirtual 114, 1252, 25, 4), (1252, .aload_n 2, 1253, 0, 0), (1253, .aload_n 0, 1254, 0, 0), (1254, .iload_n 3, 1255, 0, 0), (1255, .iconst 1, 1256, 0, 0), (1256, .iadd, 1257, 0, 0), (1257, .iaload, 1258, 0, 0), (1258, .aload_n 0, 1259, 0, 0), (1259, .iload_n 3, 1260, 0, 0), (1260, .iconst 2, 1261, 0, 0), (1261, .iadd, 1262, 0, 0), (1262, .iaload, 1263, 0, 0), (1263, .aload_n 0, 1264, 0, 0), (1264, .iload_n 3, 1265, 0, 0), (1265, .iconst 3, 1266, 0, 0), (1266, .iadd, 1267, 0, 0), (1267, .iaload, 1268, 0, 0), (1268, .aload_n 0, 1269, 0, 0), (1269, .iload_n 3, 1270, 0, 0), (1270, .iconst 4, 1271, 0, 0), (1271, .iadd, 1272, 0, 0), (1272, .iaload, 1273, 0, 0), (1273, .invokevirtual 117, 1276, 90, 4), (1276, .if_icmp .eq 567, 1279, 1843, 0), (1279, .iconst 0, 1280, 0, 0), (1280, .ireturn, 1281, 0, 0)]
theorem sL23 : qL23.all (fun e => decide (zat kL_law.2.2.2.2.2 e.1 = some e.2)) = true := by decide +kernel
theorem l_c23 {R : zS → Prop} {xs : Nat → Int32} (hR : ∀ y, zstep (zCl zTab 12) 12 kL_law (some (7, xs)) zTab 600000 7302250 zLQ y R → R y) : R (1228, [some (.retAddr 0), some (.ref 0), some (.ref 14), some (.int (Int32.ofInt 0))], [], zCw (zMf []), 45, 272400) := by
  have hR0 := hR
  have hR := @zrsub _ _ _ _ _ _ _ _ _ qL23 sL23 hR
  iterate 5 refine hR (?_ : R (_, _, _, _, _, _))
  refine hR (And.intro l_v1 ?_)
  iterate 4 refine hR (?_ : R (_, _, _, _, _, _))
  refine hR (And.intro l_v2 ?_)
  iterate 4 refine hR (?_ : R (_, _, _, _, _, _))
  refine hR (And.intro l_v3 ?_)
  iterate 4 refine hR (?_ : R (_, _, _, _, _, _))
  refine hR (And.intro l_v4 ?_)
  refine hR (zcall_i 0 0 (Nat.le_of_ble_eq_true rfl) (Nat.le_of_ble_eq_true rfl) (r_sure _ _ _ _ _ _ _ ?_))
  iterate 5 refine hR (?_ : R (_, _, _, _, _, _))
  refine hR (And.intro l_v1 ?_)
  iterate 4 refine hR (?_ : R (_, _, _, _, _, _))
  refine hR (And.intro l_v2 ?_)
  iterate 4 refine hR (?_ : R (_, _, _, _, _, _))
  refine hR (And.intro l_v3 ?_)
  iterate 4 refine hR (?_ : R (_, _, _, _, _, _))
  refine hR (And.intro l_v4 ?_)
  refine hR (zcall_i 0 0 (Nat.le_of_ble_eq_true rfl) (Nat.le_of_ble_eq_true rfl) (m_sure _ _ _ _ _ _ (fun _ => ?_)))
  refine hR (And.intro (fun _ => ?_) (fun hc => absurd rfl hc))
  exact l_end hR0 _ _ _ (Nat.le_of_ble_eq_true rfl) (Nat.le_of_ble_eq_true rfl)
def qL24 : List zE := [(1281, .aload_n 1, 1282, 0, 0), (1282, .aload_n 0, 1283, 0, 0), (1283, .iload_n 3, 1284, 0, 0), (1284, .iconst 1, 1285, 0, 0), (1285, .iadd, 1286, 0, 0), (1286, .iaload, 1287, 0, 0), (1287, .aload_n 0, 1288, 0, 0), (1288, .iload_n 3, 1289, 0, 0), (1289, .iconst 2, 1290, 0, 0), (1290, .iadd, 1291, 0, 0), (1291, .iaload, 1292, 0, 0), (1292, .aload_n 0, 1293, 0, 0), (1293, .iload_n 3, 1294, 0, 0), (1294, .iconst 3, 1295, 0, 0), (1295, .iadd, 1296, 0, 0), (1296, .iaload, 1297, 0, 0), (1297, .aload_n 0, 1298, 0, 0), (1298, .iload_n 3, 1299, 0, 0), (1299, .iconst 4, 1300, 0, 0), (1300, .iadd, 1301, 0, 0), (1301, .iaload, 1302, 0, 0), (1302, .invokevirtual 118, 1305, 26, 4), (1305, .aload_n 2, 1306, 0, 0), (1306, .aload_n 0, 1307, 0, 0), (1307, .iload_n 3, 1308, 0, 0), (1308, .iconst 1, 1309, 0, 0), (1309, .iadd, 1310, 0, 0), (1310, .iaload, 1311, 0, 0), (1311, .aload_n 0, 1312, 0, 0), (1312, .iload_n 3, 1313, 0, 0), (1313, .iconst 2, 1314, 0, 0), (1314, .iadd, 1315, 0, 0), (1315, .iaload, 1316, 0, 0), (1316, .aload_n 0, 1317, 0, 0), (1317, .iload_n 3, 1318, 0, 0), (1318, .iconst 3, 1319, 0, 0), (1319, .iadd, 1320, 0, 0), (1320, .iaload, 1321, 0, 0), (1321, .aload_n 0, 1322, 0, 0), (1322, .iload_n 3, 1323, 0, 0), (1323, .iconst 4, 1324, 0, 0), (1324, .iadd, 1325, 0, 0), (1325, .iaload, 1326, 0, 0), (1326, .invokevirtual 121, 1329, 91, 4), (1329, .if_icmp .eq 514, 1332, 1843, 0), (1332, .iconst 0, 1333, 0, 0), (1333, .ireturn, 1334, 0, 0)]
theorem sL24 : qL24.all (fun e => decide (zat kL_law.2.2.2.2.2 e.1 = some e.2)) = true := by decide +kernel
theorem l_c24 {R : zS → Prop} {xs : Nat → Int32} (hR : ∀ y, zstep (zCl zTab 12) 12 kL_law (some (7, xs)) zTab 600000 7302250 zLQ y R → R y) : R (1281, [some (.retAddr 0), some (.ref 0), some (.ref 14), some (.int (Int32.ofInt 0))], [], zCw (zMf []), 45, 272400) := by
  have hR0 := hR
  have hR := @zrsub _ _ _ _ _ _ _ _ _ qL24 sL24 hR
  iterate 5 refine hR (?_ : R (_, _, _, _, _, _))
  refine hR (And.intro l_v1 ?_)
  iterate 4 refine hR (?_ : R (_, _, _, _, _, _))
  refine hR (And.intro l_v2 ?_)
  iterate 4 refine hR (?_ : R (_, _, _, _, _, _))
  refine hR (And.intro l_v3 ?_)
  iterate 4 refine hR (?_ : R (_, _, _, _, _, _))
  refine hR (And.intro l_v4 ?_)
  refine hR (zcall_i 0 0 (Nat.le_of_ble_eq_true rfl) (Nat.le_of_ble_eq_true rfl) (r_drawn _ _ _ _ _ _ _ ?_))
  iterate 5 refine hR (?_ : R (_, _, _, _, _, _))
  refine hR (And.intro l_v1 ?_)
  iterate 4 refine hR (?_ : R (_, _, _, _, _, _))
  refine hR (And.intro l_v2 ?_)
  iterate 4 refine hR (?_ : R (_, _, _, _, _, _))
  refine hR (And.intro l_v3 ?_)
  iterate 4 refine hR (?_ : R (_, _, _, _, _, _))
  refine hR (And.intro l_v4 ?_)
  refine hR (zcall_i 0 0 (Nat.le_of_ble_eq_true rfl) (Nat.le_of_ble_eq_true rfl) (m_drawn _ _ _ _ _ _ (fun _ => ?_)))
  refine hR (And.intro (fun _ => ?_) (fun hc => absurd rfl hc))
  exact l_end hR0 _ _ _ (Nat.le_of_ble_eq_true rfl) (Nat.le_of_ble_eq_true rfl)
def qL25 : List zE := [(1334, .aload_n 1, 1335, 0, 0), (1335, .aload_n 0, 1336, 0, 0), (1336, .iload_n 3, 1337, 0, 0), (1337, .iconst 1, 1338, 0, 0), (1338, .iadd, 1339, 0, 0), (1339, .iaload, 1340, 0, 0), (1340, .aload_n 0, 1341, 0, 0), (1341, .iload_n 3, 1342, 0, 0), (1342, .iconst 2, 1343, 0, 0), (1343, .iadd, 1344, 0, 0), (1344, .iaload, 1345, 0, 0), (1345, .aload_n 0, 1346, 0, 0), (1346, .iload_n 3, 1347, 0, 0), (1347, .iconst 3, 1348, 0, 0), (1348, .iadd, 1349, 0, 0), (1349, .iaload, 1350, 0, 0), (1350, .ifCond .eq 7, 1353, 1357, 0), (1353, .iconst 1, 1354, 0, 0), (1354, .goto 4, 1357, 1358, 0), (1357, .iconst 0, 1358, 0, 0), (1358, .invokevirtual 122, 1361, 27, 3), (1361, .aload_n 2, 1362, 0, 0), (1362, .aload_n 0, 1363, 0, 0), (1363, .iload_n 3, 1364, 0, 0), (1364, .iconst 1, 1365, 0, 0), (1365, .iadd, 1366, 0, 0), (1366, .iaload, 1367, 0, 0), (1367, .aload_n 0, 1368, 0, 0), (1368, .iload_n 3, 1369, 0, 0), (1369, .iconst 2, 1370, 0, 0), (1370, .iadd, 1371, 0, 0), (1371, .iaload, 1372, 0, 0), (1372, .aload_n 0, 1373, 0, 0), (1373, .iload_n 3, 1374, 0, 0), (1374, .iconst 3, 1375, 0, 0), (1375, .iadd, 1376, 0, 0), (1376, .iaload, 1377, 0, 0), (1377, .ifCond .eq 7, 1380, 1384, 0), (1380, .iconst 1, 1381, 0, 0), (1381, .goto 4, 1384, 1385, 0), (1384, .iconst 0, 1385, 0, 0), (1385, .invokevirtual 125, 1388, 92, 3), (1388, .if_icmp .eq 455, 1391, 1843, 0), (1391, .iconst 0, 1392, 0, 0), (1392, .ireturn, 1393, 0, 0)]
theorem sL25 : qL25.all (fun e => decide (zat kL_law.2.2.2.2.2 e.1 = some e.2)) = true := by decide +kernel
theorem l_c25 {R : zS → Prop} {xs : Nat → Int32} (hR : ∀ y, zstep (zCl zTab 12) 12 kL_law (some (7, xs)) zTab 600000 7302250 zLQ y R → R y) : R (1334, [some (.retAddr 0), some (.ref 0), some (.ref 14), some (.int (Int32.ofInt 0))], [], zCw (zMf []), 45, 272400) := by
  have hR0 := hR
  have hR := @zrsub _ _ _ _ _ _ _ _ _ qL25 sL25 hR
  iterate 5 refine hR (?_ : R (_, _, _, _, _, _))
  refine hR (And.intro l_v1 ?_)
  iterate 4 refine hR (?_ : R (_, _, _, _, _, _))
  refine hR (And.intro l_v2 ?_)
  iterate 4 refine hR (?_ : R (_, _, _, _, _, _))
  refine hR (And.intro l_v3 ?_)
  refine hR (And.intro (fun hz1 => ?_) (fun hz1 => ?_))
  · skip
    refine hR (?_ : R (_, _, _, _, _, _))
    refine hR (zcall_i 0 0 (Nat.le_of_ble_eq_true rfl) (Nat.le_of_ble_eq_true rfl) (r_kinship _ _ _ _ _ _ ?_))
    iterate 5 refine hR (?_ : R (_, _, _, _, _, _))
    refine hR (And.intro l_v1 ?_)
    iterate 4 refine hR (?_ : R (_, _, _, _, _, _))
    refine hR (And.intro l_v2 ?_)
    iterate 4 refine hR (?_ : R (_, _, _, _, _, _))
    refine hR (And.intro l_v3 ?_)
    refine hR (And.intro (fun _ => ?_) (fun hc => absurd hz1 hc))
    refine hR (?_ : R (_, _, _, _, _, _))
    refine hR (zcall_i 0 0 (Nat.le_of_ble_eq_true rfl) (Nat.le_of_ble_eq_true rfl) (m_kinship _ _ _ _ _ (fun _ => ?_)))
    refine hR (And.intro (fun _ => ?_) (fun hc => absurd rfl hc))
    exact l_end hR0 _ _ _ (Nat.le_of_ble_eq_true rfl) (Nat.le_of_ble_eq_true rfl)
  · skip
    iterate 2 refine hR (?_ : R (_, _, _, _, _, _))
    refine hR (zcall_i 0 0 (Nat.le_of_ble_eq_true rfl) (Nat.le_of_ble_eq_true rfl) (r_kinship _ _ _ _ _ _ ?_))
    iterate 5 refine hR (?_ : R (_, _, _, _, _, _))
    refine hR (And.intro l_v1 ?_)
    iterate 4 refine hR (?_ : R (_, _, _, _, _, _))
    refine hR (And.intro l_v2 ?_)
    iterate 4 refine hR (?_ : R (_, _, _, _, _, _))
    refine hR (And.intro l_v3 ?_)
    refine hR (And.intro (fun hc => absurd hc hz1) (fun _ => ?_))
    iterate 2 refine hR (?_ : R (_, _, _, _, _, _))
    refine hR (zcall_i 0 0 (Nat.le_of_ble_eq_true rfl) (Nat.le_of_ble_eq_true rfl) (m_kinship _ _ _ _ _ (fun _ => ?_)))
    refine hR (And.intro (fun _ => ?_) (fun hc => absurd rfl hc))
    exact l_end hR0 _ _ _ (Nat.le_of_ble_eq_true rfl) (Nat.le_of_ble_eq_true rfl)
def qL27 : List zE := [(1452, .aload_n 1, 1453, 0, 0), (1453, .aload_n 0, 1454, 0, 0), (1454, .iload_n 3, 1455, 0, 0), (1455, .iconst 1, 1456, 0, 0), (1456, .iadd, 1457, 0, 0), (1457, .iaload, 1458, 0, 0), (1458, .aload_n 0, 1459, 0, 0), (1459, .iload_n 3, 1460, 0, 0), (1460, .iconst 2, 1461, 0, 0), (1461, .iadd, 1462, 0, 0), (1462, .iaload, 1463, 0, 0), (1463, .aload_n 0, 1464, 0, 0), (1464, .iload_n 3, 1465, 0, 0), (1465, .iconst 3, 1466, 0, 0), (1466, .iadd, 1467, 0, 0), (1467, .iaload, 1468, 0, 0), (1468, .aload_n 0, 1469, 0, 0), (1469, .iload_n 3, 1470, 0, 0), (1470, .iconst 4, 1471, 0, 0), (1471, .iadd, 1472, 0, 0), (1472, .iaload, 1473, 0, 0), (1473, .ifCond .eq 7, 1476, 1480, 0), (1476, .iconst 1, 1477, 0, 0), (1477, .goto 4, 1480, 1481, 0), (1480, .iconst 0, 1481, 0, 0), (1481, .invokevirtual 130, 1484, 29, 4), (1484, .aload_n 2, 1485, 0, 0), (1485, .aload_n 0, 1486, 0, 0), (1486, .iload_n 3, 1487, 0, 0), (1487, .iconst 1, 1488, 0, 0), (1488, .iadd, 1489, 0, 0), (1489, .iaload, 1490, 0, 0), (1490, .aload_n 0, 1491, 0, 0), (1491, .iload_n 3, 1492, 0, 0), (1492, .iconst 2, 1493, 0, 0), (1493, .iadd, 1494, 0, 0), (1494, .iaload, 1495, 0, 0), (1495, .aload_n 0, 1496, 0, 0), (1496, .iload_n 3, 1497, 0, 0), (1497, .iconst 3, 1498, 0, 0), (1498, .iadd, 1499, 0, 0), (1499, .iaload, 1500, 0, 0), (1500, .aload_n 0, 1501, 0, 0), (1501, .iload_n 3, 1502, 0, 0), (1502, .iconst 4, 1503, 0, 0), (1503, .iadd, 1504, 0, 0), (1504, .iaload, 1505, 0, 0), (1505, .ifCond .eq 7, 1508, 1512, 0), (1508, .iconst 1, 1509, 0, 0), (1509, .goto 4, 1512, 1513, 0), (1512, .iconst 0, 1513, 0, 0), (1513, .invokevirtual 133, 1516, 94, 4), (1516, .if_icmp .eq 327, 1519, 1843, 0), (1519, .iconst 0, 1520, 0, 0), (1520, .ireturn, 1521, 0, 0)]
theorem sL27 : qL27.all (fun e => decide (zat kL_law.2.2.2.2.2 e.1 = some e.2)) = true := by decide +kernel
theorem l_c27 {R : zS → Prop} {xs : Nat → Int32} (hR : ∀ y, zstep (zCl zTab 12) 12 kL_law (some (7, xs)) zTab 600000 7302250 zLQ y R → R y) : R (1452, [some (.retAddr 0), some (.ref 0), some (.ref 14), some (.int (Int32.ofInt 0))], [], zCw (zMf []), 45, 272400) := by
  have hR0 := hR
  have hR := @zrsub _ _ _ _ _ _ _ _ _ qL27 sL27 hR
  iterate 5 refine hR (?_ : R (_, _, _, _, _, _))
  refine hR (And.intro l_v1 ?_)
  iterate 4 refine hR (?_ : R (_, _, _, _, _, _))
  refine hR (And.intro l_v2 ?_)
  iterate 4 refine hR (?_ : R (_, _, _, _, _, _))
  refine hR (And.intro l_v3 ?_)
  iterate 4 refine hR (?_ : R (_, _, _, _, _, _))
  refine hR (And.intro l_v4 ?_)
  refine hR (And.intro (fun hz1 => ?_) (fun hz1 => ?_))
  · skip
    refine hR (?_ : R (_, _, _, _, _, _))
    refine hR (zcall_i 0 0 (Nat.le_of_ble_eq_true rfl) (Nat.le_of_ble_eq_true rfl) (r_joined _ _ _ _ _ _ _ ?_))
    iterate 5 refine hR (?_ : R (_, _, _, _, _, _))
    refine hR (And.intro l_v1 ?_)
    iterate 4 refine hR (?_ : R (_, _, _, _, _, _))
    refine hR (And.intro l_v2 ?_)
    iterate 4 refine hR (?_ : R (_, _, _, _, _, _))
    refine hR (And.intro l_v3 ?_)
    iterate 4 refine hR (?_ : R (_, _, _, _, _, _))
    refine hR (And.intro l_v4 ?_)
    refine hR (And.intro (fun _ => ?_) (fun hc => absurd hz1 hc))
    refine hR (?_ : R (_, _, _, _, _, _))
    refine hR (zcall_i 0 0 (Nat.le_of_ble_eq_true rfl) (Nat.le_of_ble_eq_true rfl) (m_joined _ _ _ _ _ _ (fun _ => ?_)))
    refine hR (And.intro (fun _ => ?_) (fun hc => absurd rfl hc))
    exact l_end hR0 _ _ _ (Nat.le_of_ble_eq_true rfl) (Nat.le_of_ble_eq_true rfl)
  · skip
    iterate 2 refine hR (?_ : R (_, _, _, _, _, _))
    refine hR (zcall_i 0 0 (Nat.le_of_ble_eq_true rfl) (Nat.le_of_ble_eq_true rfl) (r_joined _ _ _ _ _ _ _ ?_))
    iterate 5 refine hR (?_ : R (_, _, _, _, _, _))
    refine hR (And.intro l_v1 ?_)
    iterate 4 refine hR (?_ : R (_, _, _, _, _, _))
    refine hR (And.intro l_v2 ?_)
    iterate 4 refine hR (?_ : R (_, _, _, _, _, _))
    refine hR (And.intro l_v3 ?_)
    iterate 4 refine hR (?_ : R (_, _, _, _, _, _))
    refine hR (And.intro l_v4 ?_)
    refine hR (And.intro (fun hc => absurd hc hz1) (fun _ => ?_))
    iterate 2 refine hR (?_ : R (_, _, _, _, _, _))
    refine hR (zcall_i 0 0 (Nat.le_of_ble_eq_true rfl) (Nat.le_of_ble_eq_true rfl) (m_joined _ _ _ _ _ _ (fun _ => ?_)))
    refine hR (And.intro (fun _ => ?_) (fun hc => absurd rfl hc))
    exact l_end hR0 _ _ _ (Nat.le_of_ble_eq_true rfl) (Nat.le_of_ble_eq_true rfl)
def qL28 : List zE := [(1521, .aload_n 1, 1522, 0, 0), (1522, .aload_n 0, 1523, 0, 0), (1523, .iload_n 3, 1524, 0, 0), (1524, .iconst 1, 1525, 0, 0), (1525, .iadd, 1526, 0, 0), (1526, .iaload, 1527, 0, 0), (1527, .aload_n 0, 1528, 0, 0), (1528, .iload_n 3, 1529, 0, 0), (1529, .iconst 2, 1530, 0, 0), (1530, .iadd, 1531, 0, 0), (1531, .iaload, 1532, 0, 0), (1532, .aload_n 0, 1533, 0, 0), (1533, .iload_n 3, 1534, 0, 0), (1534, .iconst 3, 1535, 0, 0), (1535, .iadd, 1536, 0, 0), (1536, .iaload, 1537, 0, 0), (1537, .aload_n 0, 1538, 0, 0), (1538, .iload_n 3, 1539, 0, 0), (1539, .iconst 4, 1540, 0, 0), (1540, .iadd, 1541, 0, 0), (1541, .iaload, 1542, 0, 0), (1542, .ifCond .eq 7, 1545, 1549, 0), (1545, .iconst 1, 1546, 0, 0), (1546, .goto 4, 1549, 1550, 0), (1549, .iconst 0, 1550, 0, 0), (1550, .invokevirtual 134, 1553, 30, 4), (1553, .aload_n 2, 1554, 0, 0), (1554, .aload_n 0, 1555, 0, 0), (1555, .iload_n 3, 1556, 0, 0), (1556, .iconst 1, 1557, 0, 0), (1557, .iadd, 1558, 0, 0), (1558, .iaload, 1559, 0, 0), (1559, .aload_n 0, 1560, 0, 0), (1560, .iload_n 3, 1561, 0, 0), (1561, .iconst 2, 1562, 0, 0), (1562, .iadd, 1563, 0, 0), (1563, .iaload, 1564, 0, 0), (1564, .aload_n 0, 1565, 0, 0), (1565, .iload_n 3, 1566, 0, 0), (1566, .iconst 3, 1567, 0, 0), (1567, .iadd, 1568, 0, 0), (1568, .iaload, 1569, 0, 0), (1569, .aload_n 0, 1570, 0, 0), (1570, .iload_n 3, 1571, 0, 0), (1571, .iconst 4, 1572, 0, 0), (1572, .iadd, 1573, 0, 0), (1573, .iaload, 1574, 0, 0), (1574, .ifCond .eq 7, 1577, 1581, 0), (1577, .iconst 1, 1578, 0, 0), (1578, .goto 4, 1581, 1582, 0), (1581, .iconst 0, 1582, 0, 0), (1582, .invokevirtual 137, 1585, 95, 4), (1585, .if_icmp .eq 258, 1588, 1843, 0), (1588, .iconst 0, 1589, 0, 0), (1589, .ireturn, 1590, 0, 0)]
theorem sL28 : qL28.all (fun e => decide (zat kL_law.2.2.2.2.2 e.1 = some e.2)) = true := by decide +kernel
theorem l_c28 {R : zS → Prop} {xs : Nat → Int32} (hR : ∀ y, zstep (zCl zTab 12) 12 kL_law (some (7, xs)) zTab 600000 7302250 zLQ y R → R y) : R (1521, [some (.retAddr 0), some (.ref 0), some (.ref 14), some (.int (Int32.ofInt 0))], [], zCw (zMf []), 45, 272400) := by
  have hR0 := hR
  have hR := @zrsub _ _ _ _ _ _ _ _ _ qL28 sL28 hR
  iterate 5 refine hR (?_ : R (_, _, _, _, _, _))
  refine hR (And.intro l_v1 ?_)
  iterate 4 refine hR (?_ : R (_, _, _, _, _, _))
  refine hR (And.intro l_v2 ?_)
  iterate 4 refine hR (?_ : R (_, _, _, _, _, _))
  refine hR (And.intro l_v3 ?_)
  iterate 4 refine hR (?_ : R (_, _, _, _, _, _))
  refine hR (And.intro l_v4 ?_)
  refine hR (And.intro (fun hz1 => ?_) (fun hz1 => ?_))
  · skip
    refine hR (?_ : R (_, _, _, _, _, _))
    refine hR (zcall_i 0 0 (Nat.le_of_ble_eq_true rfl) (Nat.le_of_ble_eq_true rfl) (r_nearest _ _ _ _ _ _ _ ?_))
    iterate 5 refine hR (?_ : R (_, _, _, _, _, _))
    refine hR (And.intro l_v1 ?_)
    iterate 4 refine hR (?_ : R (_, _, _, _, _, _))
    refine hR (And.intro l_v2 ?_)
    iterate 4 refine hR (?_ : R (_, _, _, _, _, _))
    refine hR (And.intro l_v3 ?_)
    iterate 4 refine hR (?_ : R (_, _, _, _, _, _))
    refine hR (And.intro l_v4 ?_)
    refine hR (And.intro (fun _ => ?_) (fun hc => absurd hz1 hc))
    refine hR (?_ : R (_, _, _, _, _, _))
    refine hR (zcall_i 0 0 (Nat.le_of_ble_eq_true rfl) (Nat.le_of_ble_eq_true rfl) (m_nearest _ _ _ _ _ _ (fun _ => ?_)))
    refine hR (And.intro (fun _ => ?_) (fun hc => absurd rfl hc))
    exact l_end hR0 _ _ _ (Nat.le_of_ble_eq_true rfl) (Nat.le_of_ble_eq_true rfl)
  · skip
    iterate 2 refine hR (?_ : R (_, _, _, _, _, _))
    refine hR (zcall_i 0 0 (Nat.le_of_ble_eq_true rfl) (Nat.le_of_ble_eq_true rfl) (r_nearest _ _ _ _ _ _ _ ?_))
    iterate 5 refine hR (?_ : R (_, _, _, _, _, _))
    refine hR (And.intro l_v1 ?_)
    iterate 4 refine hR (?_ : R (_, _, _, _, _, _))
    refine hR (And.intro l_v2 ?_)
    iterate 4 refine hR (?_ : R (_, _, _, _, _, _))
    refine hR (And.intro l_v3 ?_)
    iterate 4 refine hR (?_ : R (_, _, _, _, _, _))
    refine hR (And.intro l_v4 ?_)
    refine hR (And.intro (fun hc => absurd hc hz1) (fun _ => ?_))
    iterate 2 refine hR (?_ : R (_, _, _, _, _, _))
    refine hR (zcall_i 0 0 (Nat.le_of_ble_eq_true rfl) (Nat.le_of_ble_eq_true rfl) (m_nearest _ _ _ _ _ _ (fun _ => ?_)))
    refine hR (And.intro (fun _ => ?_) (fun hc => absurd rfl hc))
    exact l_end hR0 _ _ _ (Nat.le_of_ble_eq_true rfl) (Nat.le_of_ble_eq_true rfl)
def qL29 : List zE := [(1590, .aload_n 1, 1591, 0, 0), (1591, .aload_n 0, 1592, 0, 0), (1592, .iload_n 3, 1593, 0, 0), (1593, .iconst 1, 1594, 0, 0), (1594, .iadd, 1595, 0, 0), (1595, .iaload, 1596, 0, 0), (1596, .aload_n 0, 1597, 0, 0), (1597, .iload_n 3, 1598, 0, 0), (1598, .iconst 2, 1599, 0, 0), (1599, .iadd, 1600, 0, 0), (1600, .iaload, 1601, 0, 0), (1601, .aload_n 0, 1602, 0, 0), (1602, .iload_n 3, 1603, 0, 0), (1603, .iconst 3, 1604, 0, 0), (1604, .iadd, 1605, 0, 0), (1605, .iaload, 1606, 0, 0), (1606, .ifCond .eq 7, 1609, 1613, 0), (1609, .iconst 1, 1610, 0, 0), (1610, .goto 4, 1613, 1614, 0), (1613, .iconst 0, 1614, 0, 0), (1614, .invokevirtual 138, 1617, 31, 3), (1617, .aload_n 2, 1618, 0, 0), (1618, .aload_n 0, 1619, 0, 0), (1619, .iload_n 3, 1620, 0, 0), (1620, .iconst 1, 1621, 0, 0), (1621, .iadd, 1622, 0, 0), (1622, .iaload, 1623, 0, 0), (1623, .aload_n 0, 1624, 0, 0), (1624, .iload_n 3, 1625, 0, 0), (1625, .iconst 2, 1626, 0, 0), (1626, .iadd, 1627, 0, 0), (1627, .iaload, 1628, 0, 0), (1628, .aload_n 0, 1629, 0, 0), (1629, .iload_n 3, 1630, 0, 0), (1630, .iconst 3, 1631, 0, 0), (1631, .iadd, 1632, 0, 0), (1632, .iaload, 1633, 0, 0), (1633, .ifCond .eq 7, 1636, 1640, 0), (1636, .iconst 1, 1637, 0, 0), (1637, .goto 4, 1640, 1641, 0), (1640, .iconst 0, 1641, 0, 0), (1641, .invokevirtual 141, 1644, 96, 3), (1644, .if_icmp .eq 199, 1647, 1843, 0), (1647, .iconst 0, 1648, 0, 0), (1648, .ireturn, 1649, 0, 0)]
theorem sL29 : qL29.all (fun e => decide (zat kL_law.2.2.2.2.2 e.1 = some e.2)) = true := by decide +kernel
theorem l_c29 {R : zS → Prop} {xs : Nat → Int32} (hR : ∀ y, zstep (zCl zTab 12) 12 kL_law (some (7, xs)) zTab 600000 7302250 zLQ y R → R y) : R (1590, [some (.retAddr 0), some (.ref 0), some (.ref 14), some (.int (Int32.ofInt 0))], [], zCw (zMf []), 45, 272400) := by
  have hR0 := hR
  have hR := @zrsub _ _ _ _ _ _ _ _ _ qL29 sL29 hR
  iterate 5 refine hR (?_ : R (_, _, _, _, _, _))
  refine hR (And.intro l_v1 ?_)
  iterate 4 refine hR (?_ : R (_, _, _, _, _, _))
  refine hR (And.intro l_v2 ?_)
  iterate 4 refine hR (?_ : R (_, _, _, _, _, _))
  refine hR (And.intro l_v3 ?_)
  refine hR (And.intro (fun hz1 => ?_) (fun hz1 => ?_))
  · skip
    refine hR (?_ : R (_, _, _, _, _, _))
    refine hR (zcall_i 0 0 (Nat.le_of_ble_eq_true rfl) (Nat.le_of_ble_eq_true rfl) (r_settles _ _ _ _ _ _ ?_))
    iterate 5 refine hR (?_ : R (_, _, _, _, _, _))
    refine hR (And.intro l_v1 ?_)
    iterate 4 refine hR (?_ : R (_, _, _, _, _, _))
    refine hR (And.intro l_v2 ?_)
    iterate 4 refine hR (?_ : R (_, _, _, _, _, _))
    refine hR (And.intro l_v3 ?_)
    refine hR (And.intro (fun _ => ?_) (fun hc => absurd hz1 hc))
    refine hR (?_ : R (_, _, _, _, _, _))
    refine hR (zcall_i 0 0 (Nat.le_of_ble_eq_true rfl) (Nat.le_of_ble_eq_true rfl) (m_settles _ _ _ _ _ (fun _ => ?_)))
    refine hR (And.intro (fun _ => ?_) (fun hc => absurd rfl hc))
    exact l_end hR0 _ _ _ (Nat.le_of_ble_eq_true rfl) (Nat.le_of_ble_eq_true rfl)
  · skip
    iterate 2 refine hR (?_ : R (_, _, _, _, _, _))
    refine hR (zcall_i 0 0 (Nat.le_of_ble_eq_true rfl) (Nat.le_of_ble_eq_true rfl) (r_settles _ _ _ _ _ _ ?_))
    iterate 5 refine hR (?_ : R (_, _, _, _, _, _))
    refine hR (And.intro l_v1 ?_)
    iterate 4 refine hR (?_ : R (_, _, _, _, _, _))
    refine hR (And.intro l_v2 ?_)
    iterate 4 refine hR (?_ : R (_, _, _, _, _, _))
    refine hR (And.intro l_v3 ?_)
    refine hR (And.intro (fun hc => absurd hc hz1) (fun _ => ?_))
    iterate 2 refine hR (?_ : R (_, _, _, _, _, _))
    refine hR (zcall_i 0 0 (Nat.le_of_ble_eq_true rfl) (Nat.le_of_ble_eq_true rfl) (m_settles _ _ _ _ _ (fun _ => ?_)))
    refine hR (And.intro (fun _ => ?_) (fun hc => absurd rfl hc))
    exact l_end hR0 _ _ _ (Nat.le_of_ble_eq_true rfl) (Nat.le_of_ble_eq_true rfl)
def qL30 : List zE := [(1649, .aload_n 1, 1650, 0, 0), (1650, .aload_n 0, 1651, 0, 0), (1651, .iload_n 3, 1652, 0, 0), (1652, .iconst 1, 1653, 0, 0), (1653, .iadd, 1654, 0, 0), (1654, .iaload, 1655, 0, 0), (1655, .aload_n 0, 1656, 0, 0), (1656, .iload_n 3, 1657, 0, 0), (1657, .iconst 2, 1658, 0, 0), (1658, .iadd, 1659, 0, 0), (1659, .iaload, 1660, 0, 0), (1660, .ifCond .eq 7, 1663, 1667, 0), (1663, .iconst 1, 1664, 0, 0), (1664, .goto 4, 1667, 1668, 0), (1667, .iconst 0, 1668, 0, 0), (1668, .invokevirtual 142, 1671, 32, 2), (1671, .aload_n 2, 1672, 0, 0), (1672, .aload_n 0, 1673, 0, 0), (1673, .iload_n 3, 1674, 0, 0), (1674, .iconst 1, 1675, 0, 0), (1675, .iadd, 1676, 0, 0), (1676, .iaload, 1677, 0, 0), (1677, .aload_n 0, 1678, 0, 0), (1678, .iload_n 3, 1679, 0, 0), (1679, .iconst 2, 1680, 0, 0), (1680, .iadd, 1681, 0, 0), (1681, .iaload, 1682, 0, 0), (1682, .ifCond .eq 7, 1685, 1689, 0), (1685, .iconst 1, 1686, 0, 0), (1686, .goto 4, 1689, 1690, 0), (1689, .iconst 0, 1690, 0, 0), (1690, .invokevirtual 146, 1693, 97, 2), (1693, .if_icmp .eq 150, 1696, 1843, 0), (1696, .iconst 0, 1697, 0, 0), (1697, .ireturn, 1698, 0, 0)]
theorem sL30 : qL30.all (fun e => decide (zat kL_law.2.2.2.2.2 e.1 = some e.2)) = true := by decide +kernel
theorem l_c30 {R : zS → Prop} {xs : Nat → Int32} (hR : ∀ y, zstep (zCl zTab 12) 12 kL_law (some (7, xs)) zTab 600000 7302250 zLQ y R → R y) : R (1649, [some (.retAddr 0), some (.ref 0), some (.ref 14), some (.int (Int32.ofInt 0))], [], zCw (zMf []), 45, 272400) := by
  have hR0 := hR
  have hR := @zrsub _ _ _ _ _ _ _ _ _ qL30 sL30 hR
  iterate 5 refine hR (?_ : R (_, _, _, _, _, _))
  refine hR (And.intro l_v1 ?_)
  iterate 4 refine hR (?_ : R (_, _, _, _, _, _))
  refine hR (And.intro l_v2 ?_)
  refine hR (And.intro (fun hz1 => ?_) (fun hz1 => ?_))
  · skip
    refine hR (?_ : R (_, _, _, _, _, _))
    refine hR (zcall_i 0 0 (Nat.le_of_ble_eq_true rfl) (Nat.le_of_ble_eq_true rfl) (r_unmade _ _ _ _ _ ?_))
    iterate 5 refine hR (?_ : R (_, _, _, _, _, _))
    refine hR (And.intro l_v1 ?_)
    iterate 4 refine hR (?_ : R (_, _, _, _, _, _))
    refine hR (And.intro l_v2 ?_)
    refine hR (And.intro (fun _ => ?_) (fun hc => absurd hz1 hc))
    refine hR (?_ : R (_, _, _, _, _, _))
    refine hR (zcall_i 0 0 (Nat.le_of_ble_eq_true rfl) (Nat.le_of_ble_eq_true rfl) (m_unmade _ _ _ _ (fun _ => ?_)))
    refine hR (And.intro (fun _ => ?_) (fun hc => absurd rfl hc))
    exact l_end hR0 _ _ _ (Nat.le_of_ble_eq_true rfl) (Nat.le_of_ble_eq_true rfl)
  · skip
    iterate 2 refine hR (?_ : R (_, _, _, _, _, _))
    refine hR (zcall_i 0 0 (Nat.le_of_ble_eq_true rfl) (Nat.le_of_ble_eq_true rfl) (r_unmade _ _ _ _ _ ?_))
    iterate 5 refine hR (?_ : R (_, _, _, _, _, _))
    refine hR (And.intro l_v1 ?_)
    iterate 4 refine hR (?_ : R (_, _, _, _, _, _))
    refine hR (And.intro l_v2 ?_)
    refine hR (And.intro (fun hc => absurd hc hz1) (fun _ => ?_))
    iterate 2 refine hR (?_ : R (_, _, _, _, _, _))
    refine hR (zcall_i 0 0 (Nat.le_of_ble_eq_true rfl) (Nat.le_of_ble_eq_true rfl) (m_unmade _ _ _ _ (fun _ => ?_)))
    refine hR (And.intro (fun _ => ?_) (fun hc => absurd rfl hc))
    exact l_end hR0 _ _ _ (Nat.le_of_ble_eq_true rfl) (Nat.le_of_ble_eq_true rfl)
def qL31 : List zE := [(1698, .aload_n 1, 1699, 0, 0), (1699, .aload_n 0, 1700, 0, 0), (1700, .iload_n 3, 1701, 0, 0), (1701, .iconst 1, 1702, 0, 0), (1702, .iadd, 1703, 0, 0), (1703, .iaload, 1704, 0, 0), (1704, .aload_n 0, 1705, 0, 0), (1705, .iload_n 3, 1706, 0, 0), (1706, .iconst 2, 1707, 0, 0), (1707, .iadd, 1708, 0, 0), (1708, .iaload, 1709, 0, 0), (1709, .aload_n 0, 1710, 0, 0), (1710, .iload_n 3, 1711, 0, 0), (1711, .iconst 3, 1712, 0, 0), (1712, .iadd, 1713, 0, 0), (1713, .iaload, 1714, 0, 0), (1714, .invokevirtual 147, 1717, 33, 3), (1717, .aload_n 2, 1718, 0, 0), (1718, .aload_n 0, 1719, 0, 0), (1719, .iload_n 3, 1720, 0, 0), (1720, .iconst 1, 1721, 0, 0), (1721, .iadd, 1722, 0, 0), (1722, .iaload, 1723, 0, 0), (1723, .aload_n 0, 1724, 0, 0), (1724, .iload_n 3, 1725, 0, 0), (1725, .iconst 2, 1726, 0, 0), (1726, .iadd, 1727, 0, 0), (1727, .iaload, 1728, 0, 0), (1728, .aload_n 0, 1729, 0, 0), (1729, .iload_n 3, 1730, 0, 0), (1730, .iconst 3, 1731, 0, 0), (1731, .iadd, 1732, 0, 0), (1732, .iaload, 1733, 0, 0), (1733, .invokevirtual 150, 1736, 98, 3), (1736, .if_icmp .eq 107, 1739, 1843, 0), (1739, .iconst 0, 1740, 0, 0), (1740, .ireturn, 1741, 0, 0)]
theorem sL31 : qL31.all (fun e => decide (zat kL_law.2.2.2.2.2 e.1 = some e.2)) = true := by decide +kernel
theorem l_c31 {R : zS → Prop} {xs : Nat → Int32} (hR : ∀ y, zstep (zCl zTab 12) 12 kL_law (some (7, xs)) zTab 600000 7302250 zLQ y R → R y) : R (1698, [some (.retAddr 0), some (.ref 0), some (.ref 14), some (.int (Int32.ofInt 0))], [], zCw (zMf []), 45, 272400) := by
  have hR0 := hR
  have hR := @zrsub _ _ _ _ _ _ _ _ _ qL31 sL31 hR
  iterate 5 refine hR (?_ : R (_, _, _, _, _, _))
  refine hR (And.intro l_v1 ?_)
  iterate 4 refine hR (?_ : R (_, _, _, _, _, _))
  refine hR (And.intro l_v2 ?_)
  iterate 4 refine hR (?_ : R (_, _, _, _, _, _))
  refine hR (And.intro l_v3 ?_)
  refine hR (zcall_i 0 0 (Nat.le_of_ble_eq_true rfl) (Nat.le_of_ble_eq_true rfl) (r_silenced _ _ _ _ _ _ ?_))
  iterate 5 refine hR (?_ : R (_, _, _, _, _, _))
  refine hR (And.intro l_v1 ?_)
  iterate 4 refine hR (?_ : R (_, _, _, _, _, _))
  refine hR (And.intro l_v2 ?_)
  iterate 4 refine hR (?_ : R (_, _, _, _, _, _))
  refine hR (And.intro l_v3 ?_)
  refine hR (zcall_i 0 0 (Nat.le_of_ble_eq_true rfl) (Nat.le_of_ble_eq_true rfl) (m_silenced _ _ _ _ _ (fun _ => ?_)))
  refine hR (And.intro (fun _ => ?_) (fun hc => absurd rfl hc))
  exact l_end hR0 _ _ _ (Nat.le_of_ble_eq_true rfl) (Nat.le_of_ble_eq_true rfl)
def qL32 : List zE := [(1741, .aload_n 1, 1742, 0, 0), (1742, .aload_n 0, 1743, 0, 0), (1743, .iload_n 3, 1744, 0, 0), (1744, .iconst 1, 1745, 0, 0), (1745, .iadd, 1746, 0, 0), (1746, .iaload, 1747, 0, 0), (1747, .aload_n 0, 1748, 0, 0), (1748, .iload_n 3, 1749, 0, 0), (1749, .iconst 2, 1750, 0, 0), (1750, .iadd, 1751, 0, 0), (1751, .iaload, 1752, 0, 0), (1752, .invokevirtual 151, 1755, 34, 2), (1755, .aload_n 2, 1756, 0, 0), (1756, .aload_n 0, 1757, 0, 0), (1757, .iload_n 3, 1758, 0, 0), (1758, .iconst 1, 1759, 0, 0), (1759, .iadd, 1760, 0, 0), (1760, .iaload, 1761, 0, 0), (1761, .aload_n 0, 1762, 0, 0), (1762, .iload_n 3, 1763, 0, 0), (1763, .iconst 2, 1764, 0, 0), (1764, .iadd, 1765, 0, 0), (1765, .iaload, 1766, 0, 0), (1766, .invokevirtual 154, 1769, 99, 2), (1769, .if_icmp .eq 74, 1772, 1843, 0), (1772, .iconst 0, 1773, 0, 0), (1773, .ireturn, 1774, 0, 0)]
theorem sL32 : qL32.all (fun e => decide (zat kL_law.2.2.2.2.2 e.1 = some e.2)) = true := by decide +kernel
theorem l_c32 {R : zS → Prop} {xs : Nat → Int32} (hR : ∀ y, zstep (zCl zTab 12) 12 kL_law (some (7, xs)) zTab 600000 7302250 zLQ y R → R y) : R (1741, [some (.retAddr 0), some (.ref 0), some (.ref 14), some (.int (Int32.ofInt 0))], [], zCw (zMf []), 45, 272400) := by
  have hR0 := hR
  have hR := @zrsub _ _ _ _ _ _ _ _ _ qL32 sL32 hR
  iterate 5 refine hR (?_ : R (_, _, _, _, _, _))
  refine hR (And.intro l_v1 ?_)
  iterate 4 refine hR (?_ : R (_, _, _, _, _, _))
  refine hR (And.intro l_v2 ?_)
  refine hR (zcall_i 0 0 (Nat.le_of_ble_eq_true rfl) (Nat.le_of_ble_eq_true rfl) (r_circles _ _ _ _ _ ?_))
  iterate 5 refine hR (?_ : R (_, _, _, _, _, _))
  refine hR (And.intro l_v1 ?_)
  iterate 4 refine hR (?_ : R (_, _, _, _, _, _))
  refine hR (And.intro l_v2 ?_)
  refine hR (zcall_i 0 0 (Nat.le_of_ble_eq_true rfl) (Nat.le_of_ble_eq_true rfl) (m_circles _ _ _ _ (fun _ => ?_)))
  refine hR (And.intro (fun _ => ?_) (fun hc => absurd rfl hc))
  exact l_end hR0 _ _ _ (Nat.le_of_ble_eq_true rfl) (Nat.le_of_ble_eq_true rfl)
def qL33 : List zE := [(1774, .aload_n 1, 1775, 0, 0), (1775, .aload_n 0, 1776, 0, 0), (1776, .iload_n 3, 1777, 0, 0), (1777, .iconst 1, 1778, 0, 0), (1778, .iadd, 1779, 0, 0), (1779, .iaload, 1780, 0, 0), (1780, .invokevirtual 155, 1783, 35, 1), (1783, .aload_n 2, 1784, 0, 0), (1784, .aload_n 0, 1785, 0, 0), (1785, .iload_n 3, 1786, 0, 0), (1786, .iconst 1, 1787, 0, 0), (1787, .iadd, 1788, 0, 0), (1788, .iaload, 1789, 0, 0), (1789, .invokevirtual 158, 1792, 100, 1), (1792, .if_icmp .eq 51, 1795, 1843, 0), (1795, .iconst 0, 1796, 0, 0), (1796, .ireturn, 1797, 0, 0)]
theorem sL33 : qL33.all (fun e => decide (zat kL_law.2.2.2.2.2 e.1 = some e.2)) = true := by decide +kernel
theorem l_c33 {R : zS → Prop} {xs : Nat → Int32} (hR : ∀ y, zstep (zCl zTab 12) 12 kL_law (some (7, xs)) zTab 600000 7302250 zLQ y R → R y) : R (1774, [some (.retAddr 0), some (.ref 0), some (.ref 14), some (.int (Int32.ofInt 0))], [], zCw (zMf []), 45, 272400) := by
  have hR0 := hR
  have hR := @zrsub _ _ _ _ _ _ _ _ _ qL33 sL33 hR
  iterate 5 refine hR (?_ : R (_, _, _, _, _, _))
  refine hR (And.intro l_v1 ?_)
  refine hR (zcall_i 0 0 (Nat.le_of_ble_eq_true rfl) (Nat.le_of_ble_eq_true rfl) (r_count _ _ _ (fun _ _ _ _ _ _ _ _ _ _ _ _ _ _ _ => ?_)))
  iterate 5 refine hR (?_ : R (_, _, _, _, _, _))
  refine hR (And.intro l_v1 ?_)
  refine hR (zcall_i 0 0 (Nat.le_of_ble_eq_true rfl) (Nat.le_of_ble_eq_true rfl) (m_count _ _ _ (fun _ => ?_)))
  refine hR (And.intro (fun _ => ?_) (fun hc => absurd rfl hc))
  exact l_end hR0 _ _ _ (Nat.le_of_ble_eq_true rfl) (Nat.le_of_ble_eq_true rfl)
theorem r_imageY (d : Nat) (n : Int32) (h0 : ¬ n < 0) (h1 : n < 3) (Q : zQ) (h : ∀ c0 c1 c2 c3 c4 c5 c6 c7 c8 c9 c10 c11 c12 c13 t, Q (some (.int (Int32.ofInt 1))) (c0 :: c1 :: c2 :: c3 :: c4 :: c5 :: c6 :: c7 :: c8 :: c9 :: c10 :: c11 :: c12 :: c13 :: zMf t)) : zCl zTab (d + 3) iX11_image [.ref 0, .int n] (zCw (zMf [])) 6 617 Q := by
  rcases z012 h0 h1 with rfl | rfl | rfl
  · exact r_image0 d Q h
  · exact r_image1 d Q h
  · exact r_image2 d Q h
def qL34 : List zE := [(1797, .aload_n 1, 1798, 0, 0), (1798, .aload_n 0, 1799, 0, 0), (1799, .iload_n 3, 1800, 0, 0), (1800, .iconst 1, 1801, 0, 0), (1801, .iadd, 1802, 0, 0), (1802, .iaload, 1803, 0, 0), (1803, .invokevirtual 159, 1806, 36, 1), (1806, .aload_n 2, 1807, 0, 0), (1807, .aload_n 0, 1808, 0, 0), (1808, .iload_n 3, 1809, 0, 0), (1809, .iconst 1, 1810, 0, 0), (1810, .iadd, 1811, 0, 0), (1811, .iaload, 1812, 0, 0), (1812, .invokevirtual 163, 1815, 101, 1), (1815, .if_icmp .eq 28, 1818, 1843, 0), (1818, .iconst 0, 1819, 0, 0), (1819, .ireturn, 1820, 0, 0)]
theorem sL34 : qL34.all (fun e => decide (zat kL_law.2.2.2.2.2 e.1 = some e.2)) = true := by decide +kernel
theorem l_c34Y {R : zS → Prop} {xs : Nat → Int32} (hR : ∀ y, zstep (zCl zTab 12) 12 kL_law (some (7, xs)) zTab 600000 7302250 zLQ y R → R y) (h0 : ¬ xs (Int32.ofInt 0 + Int32.ofInt 1).toNatClampNeg < 0) (h1 : xs (Int32.ofInt 0 + Int32.ofInt 1).toNatClampNeg < 3) : R (1797, [some (.retAddr 0), some (.ref 0), some (.ref 14), some (.int (Int32.ofInt 0))], [], zCw (zMf []), 45, 272400) := by
  have hR0 := hR
  have hR := @zrsub _ _ _ _ _ _ _ _ _ qL34 sL34 hR
  iterate 5 refine hR (?_ : R (_, _, _, _, _, _))
  refine hR (And.intro l_v1 ?_)
  refine hR (zcall_i 6 617 (Nat.le_of_ble_eq_true rfl) (Nat.le_of_ble_eq_true rfl) (r_imageY _ _ h0 h1 _ (fun _ _ _ _ _ _ _ _ _ _ _ _ _ _ _ => ?_)))
  iterate 5 refine hR (?_ : R (_, _, _, _, _, _))
  refine hR (And.intro l_v1 ?_)
  refine hR (zcall_i 0 0 (Nat.le_of_ble_eq_true rfl) (Nat.le_of_ble_eq_true rfl) (m_image _ _ _ (fun _ _ _ => ?_) (fun q => (q.elim h0 (fun z => absurd h1 (Int32.not_lt.mpr z))).elim)))
  refine hR (And.intro (fun _ => ?_) (fun hc => absurd rfl hc))
  exact l_end hR0 _ _ _ (Nat.le_of_ble_eq_true rfl) (Nat.le_of_ble_eq_true rfl)
theorem l_c34N {R : zS → Prop} {xs : Nat → Int32} (hR : ∀ y, zstep (zCl zTab 12) 12 kL_law (some (7, xs)) zTab 600000 7302250 zLQ y R → R y) (hn : xs (Int32.ofInt 0 + Int32.ofInt 1).toNatClampNeg < 0 ∨ 3 ≤ xs (Int32.ofInt 0 + Int32.ofInt 1).toNatClampNeg) : R (1797, [some (.retAddr 0), some (.ref 0), some (.ref 14), some (.int (Int32.ofInt 0))], [], zCw (zMf []), 45, 272400) := by
  have hR0 := hR
  have hR := @zrsub _ _ _ _ _ _ _ _ _ qL34 sL34 hR
  iterate 5 refine hR (?_ : R (_, _, _, _, _, _))
  refine hR (And.intro l_v1 ?_)
  refine hR (zcall_i 0 0 (Nat.le_of_ble_eq_true rfl) (Nat.le_of_ble_eq_true rfl) (r_imageN _ _ hn _ (fun _ _ _ _ _ _ _ _ _ _ _ _ _ _ _ => ?_)))
  iterate 5 refine hR (?_ : R (_, _, _, _, _, _))
  refine hR (And.intro l_v1 ?_)
  refine hR (zcall_i 0 0 (Nat.le_of_ble_eq_true rfl) (Nat.le_of_ble_eq_true rfl) (m_image _ _ _ (fun q1 q2 => (hn.elim q1 (fun z => absurd q2 (Int32.not_lt.mpr z))).elim) (fun _ _ => ?_)))
  refine hR (And.intro (fun _ => ?_) (fun hc => absurd rfl hc))
  exact l_end hR0 _ _ _ (Nat.le_of_ble_eq_true rfl) (Nat.le_of_ble_eq_true rfl)
theorem l_c34 {R : zS → Prop} {xs : Nat → Int32} (hR : ∀ y, zstep (zCl zTab 12) 12 kL_law (some (7, xs)) zTab 600000 7302250 zLQ y R → R y) : R (1797, [some (.retAddr 0), some (.ref 0), some (.ref 14), some (.int (Int32.ofInt 0))], [], zCw (zMf []), 45, 272400) := by
  by_cases h0 : xs (Int32.ofInt 0 + Int32.ofInt 1).toNatClampNeg < 0
  · exact l_c34N hR (Or.inl h0)
  by_cases h1 : xs (Int32.ofInt 0 + Int32.ofInt 1).toNatClampNeg < 3
  · exact l_c34Y hR h0 h1
  · exact l_c34N hR (Or.inr (Int32.not_lt.mp h1))
def qL35 : List zE := [(1820, .aload_n 1, 1821, 0, 0), (1821, .aload_n 0, 1822, 0, 0), (1822, .iload_n 3, 1823, 0, 0), (1823, .iconst 1, 1824, 0, 0), (1824, .iadd, 1825, 0, 0), (1825, .iaload, 1826, 0, 0), (1826, .invokevirtual 164, 1829, 37, 1), (1829, .aload_n 2, 1830, 0, 0), (1830, .aload_n 0, 1831, 0, 0), (1831, .iload_n 3, 1832, 0, 0), (1832, .iconst 1, 1833, 0, 0), (1833, .iadd, 1834, 0, 0), (1834, .iaload, 1835, 0, 0), (1835, .invokevirtual 167, 1838, 102, 1), (1838, .if_icmp .eq 5, 1841, 1843, 0), (1841, .iconst 0, 1842, 0, 0), (1842, .ireturn, 1843, 0, 0)]
theorem sL35 : qL35.all (fun e => decide (zat kL_law.2.2.2.2.2 e.1 = some e.2)) = true := by decide +kernel
theorem l_c35 {R : zS → Prop} {xs : Nat → Int32} (hR : ∀ y, zstep (zCl zTab 12) 12 kL_law (some (7, xs)) zTab 600000 7302250 zLQ y R → R y) : R (1820, [some (.retAddr 0), some (.ref 0), some (.ref 14), some (.int (Int32.ofInt 0))], [], zCw (zMf []), 45, 272400) := by
  have hR0 := hR
  have hR := @zrsub _ _ _ _ _ _ _ _ _ qL35 sL35 hR
  iterate 5 refine hR (?_ : R (_, _, _, _, _, _))
  refine hR (And.intro l_v1 ?_)
  refine hR (zcall_i 0 0 (Nat.le_of_ble_eq_true rfl) (Nat.le_of_ble_eq_true rfl) (r_again _ _ _ (fun _ _ _ _ _ _ _ _ _ _ _ _ _ _ _ => ?_)))
  iterate 5 refine hR (?_ : R (_, _, _, _, _, _))
  refine hR (And.intro l_v1 ?_)
  refine hR (zcall_i 0 0 (Nat.le_of_ble_eq_true rfl) (Nat.le_of_ble_eq_true rfl) (m_again _ _ _ (fun _ => ?_)))
  refine hR (And.intro (fun _ => ?_) (fun hc => absurd rfl hc))
  exact l_end hR0 _ _ _ (Nat.le_of_ble_eq_true rfl) (Nat.le_of_ble_eq_true rfl)
