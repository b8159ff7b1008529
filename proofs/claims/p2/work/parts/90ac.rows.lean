theorem zd_L_law_8 : qL_law_8.all (zde kL_law) = true := by decide +kernel
theorem zr_L_law_8 : qL_law_8.all (zrow zTab kL_law) = true := by decide +kernel
theorem gw_L_law_8 : (qL_law_8.flatMap (zrq zTab kL_law.1.cls)).all goodWord = true := by decide +kernel
theorem wd_L_law_8 : ∀ w ∈ qL_law_8.flatMap (zrq zTab kL_law.1.cls), w ∈ lw_tbl := zplaces [1754, 1752, 1753, 176, 1751, 873, 871, 872, 172, 870, 1771, 1769, 1770, 176, 1768] (by decide +kernel)
theorem zd_L_law_9 : qL_law_9.all (zde kL_law) = true := by decide +kernel
theorem zr_L_law_9 : qL_law_9.all (zrow zTab kL_law) = true := by decide +kernel
theorem gw_L_law_9 : (qL_law_9.flatMap (zrq zTab kL_law.1.cls)).all goodWord = true := by decide +kernel
theorem wd_L_law_9 : ∀ w ∈ qL_law_9.flatMap (zrq zTab kL_law.1.cls), w ∈ lw_tbl := zplaces [881, 879, 880, 172, 878, 1779, 1777, 1778, 176, 1776, 889, 887, 888, 172, 886] (by decide +kernel)
theorem zd_L_law_10 : qL_law_10.all (zde kL_law) = true := by decide +kernel
theorem zr_L_law_10 : qL_law_10.all (zrow zTab kL_law) = true := by decide +kernel
theorem gw_L_law_10 : (qL_law_10.flatMap (zrq zTab kL_law.1.cls)).all goodWord = true := by decide +kernel
theorem wd_L_law_10 : ∀ w ∈ qL_law_10.flatMap (zrq zTab kL_law.1.cls), w ∈ lw_tbl := zplaces [1783, 1781, 1782, 176, 1780, 907, 905, 906, 172, 904, 1791, 1789, 1790, 176, 1788] (by decide +kernel)
theorem zd_L_law_11 : qL_law_11.all (zde kL_law) = true := by decide +kernel
theorem zr_L_law_11 : qL_law_11.all (zrow zTab kL_law) = true := by decide +kernel
theorem gw_L_law_11 : (qL_law_11.flatMap (zrq zTab kL_law.1.cls)).all goodWord = true := by decide +kernel
theorem wd_L_law_11 : ∀ w ∈ qL_law_11.flatMap (zrq zTab kL_law.1.cls), w ∈ lw_tbl := zplaces [915, 913, 914, 172, 912, 1795, 1793, 1794, 176, 1792] (by decide +kernel)
