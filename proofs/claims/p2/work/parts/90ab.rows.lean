theorem zd_L_law_4 : qL_law_4.all (zde kL_law) = true := by decide +kernel
theorem zr_L_law_4 : qL_law_4.all (zrow zTab kL_law) = true := by decide +kernel
theorem gw_L_law_4 : (qL_law_4.flatMap (zrq zTab kL_law.1.cls)).all goodWord = true := by decide +kernel
theorem wd_L_law_4 : ∀ w ∈ qL_law_4.flatMap (zrq zTab kL_law.1.cls), w ∈ lw_tbl := zplaces [676, 674, 675, 172, 673, 1651, 1649, 1650, 176, 1648, 686, 684, 685, 172, 683] (by decide +kernel)
theorem zd_L_law_5 : qL_law_5.all (zde kL_law) = true := by decide +kernel
theorem zr_L_law_5 : qL_law_5.all (zrow zTab kL_law) = true := by decide +kernel
theorem gw_L_law_5 : (qL_law_5.flatMap (zrq zTab kL_law.1.cls)).all goodWord = true := by decide +kernel
theorem wd_L_law_5 : ∀ w ∈ qL_law_5.flatMap (zrq zTab kL_law.1.cls), w ∈ lw_tbl := zplaces [1659, 1657, 1658, 176, 1656, 723, 721, 722, 172, 720, 1695, 1693, 1694, 176, 1692] (by decide +kernel)
theorem zd_L_law_6 : qL_law_6.all (zde kL_law) = true := by decide +kernel
theorem zr_L_law_6 : qL_law_6.all (zrow zTab kL_law) = true := by decide +kernel
theorem gw_L_law_6 : (qL_law_6.flatMap (zrq zTab kL_law.1.cls)).all goodWord = true := by decide +kernel
theorem wd_L_law_6 : ∀ w ∈ qL_law_6.flatMap (zrq zTab kL_law.1.cls), w ∈ lw_tbl := zplaces [735, 733, 734, 172, 732, 1711, 1709, 1710, 176, 1708, 767, 765, 766, 172, 764] (by decide +kernel)
theorem zd_L_law_7 : qL_law_7.all (zde kL_law) = true := by decide +kernel
theorem zr_L_law_7 : qL_law_7.all (zrow zTab kL_law) = true := by decide +kernel
theorem gw_L_law_7 : (qL_law_7.flatMap (zrq zTab kL_law.1.cls)).all goodWord = true := by decide +kernel
theorem wd_L_law_7 : ∀ w ∈ qL_law_7.flatMap (zrq zTab kL_law.1.cls), w ∈ lw_tbl := zplaces [1746, 1744, 1745, 176, 1743, 788, 786, 787, 172, 785] (by decide +kernel)
