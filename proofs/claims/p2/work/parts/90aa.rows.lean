theorem zd_L_law_0 : qL_law_0.all (zde kL_law) = true := by decide +kernel
theorem zr_L_law_0 : qL_law_0.all (zrow zTab kL_law) = true := by decide +kernel
theorem gw_L_law_0 : (qL_law_0.flatMap (zrq zTab kL_law.1.cls)).all goodWord = true := by decide +kernel
theorem wd_L_law_0 : ∀ w ∈ qL_law_0.flatMap (zrq zTab kL_law.1.cls), w ∈ lw_tbl := zplaces [193, 194, 172, 197, 196, 172, 195, 1336, 1337, 176, 1340, 1339, 176, 1338, 345, 343, 344, 172, 342] (by decide +kernel)
theorem zd_L_law_1 : qL_law_1.all (zde kL_law) = true := by decide +kernel
theorem zr_L_law_1 : qL_law_1.all (zrow zTab kL_law) = true := by decide +kernel
theorem gw_L_law_1 : (qL_law_1.flatMap (zrq zTab kL_law.1.cls)).all goodWord = true := by decide +kernel
theorem wd_L_law_1 : ∀ w ∈ qL_law_1.flatMap (zrq zTab kL_law.1.cls), w ∈ lw_tbl := zplaces [1504, 1502, 1503, 176, 1501, 353, 351, 352, 172, 350, 1512, 1510, 1511, 176, 1509] (by decide +kernel)
theorem zd_L_law_2 : qL_law_2.all (zde kL_law) = true := by decide +kernel
theorem zr_L_law_2 : qL_law_2.all (zrow zTab kL_law) = true := by decide +kernel
theorem gw_L_law_2 : (qL_law_2.flatMap (zrq zTab kL_law.1.cls)).all goodWord = true := by decide +kernel
theorem wd_L_law_2 : ∀ w ∈ qL_law_2.flatMap (zrq zTab kL_law.1.cls), w ∈ lw_tbl := zplaces [357, 355, 356, 172, 354, 1519, 1517, 1518, 176, 1516, 633, 631, 632, 172, 630, 1622, 1620, 1621, 176, 1619] (by decide +kernel)
theorem zd_L_law_3 : qL_law_3.all (zde kL_law) = true := by decide +kernel
theorem zr_L_law_3 : qL_law_3.all (zrow zTab kL_law) = true := by decide +kernel
theorem gw_L_law_3 : (qL_law_3.flatMap (zrq zTab kL_law.1.cls)).all goodWord = true := by decide +kernel
theorem wd_L_law_3 : ∀ w ∈ qL_law_3.flatMap (zrq zTab kL_law.1.cls), w ∈ lw_tbl := zplaces [637, 635, 636, 172, 634, 1626, 1624, 1625, 176, 1623, 657, 655, 656, 172, 654, 1638, 1636, 1637, 176, 1635] (by decide +kernel)
