theorem zd_L_law_12 : qL_law_12.all (zde kL_law) = true := by decide +kernel
theorem zr_L_law_12 : qL_law_12.all (zrow zTab kL_law) = true := by decide +kernel
theorem gw_L_law_12 : (qL_law_12.flatMap (zrq zTab kL_law.1.cls)).all goodWord = true := by decide +kernel
theorem wd_L_law_12 : ∀ w ∈ qL_law_12.flatMap (zrq zTab kL_law.1.cls), w ∈ lw_tbl := zplaces [998, 996, 997, 172, 995, 1826, 1824, 1825, 176, 1823, 1104, 1102, 1103, 172, 1101] (by decide +kernel)
theorem zd_L_law_13 : qL_law_13.all (zde kL_law) = true := by decide +kernel
theorem zr_L_law_13 : qL_law_13.all (zrow zTab kL_law) = true := by decide +kernel
theorem gw_L_law_13 : (qL_law_13.flatMap (zrq zTab kL_law.1.cls)).all goodWord = true := by decide +kernel
theorem wd_L_law_13 : ∀ w ∈ qL_law_13.flatMap (zrq zTab kL_law.1.cls), w ∈ lw_tbl := zplaces [1846, 1844, 1845, 176, 1843, 1120, 1118, 1119, 172, 1117] (by decide +kernel)
theorem zd_L_law_14 : qL_law_14.all (zde kL_law) = true := by decide +kernel
theorem zr_L_law_14 : qL_law_14.all (zrow zTab kL_law) = true := by decide +kernel
theorem gw_L_law_14 : (qL_law_14.flatMap (zrq zTab kL_law.1.cls)).all goodWord = true := by decide +kernel
theorem wd_L_law_14 : ∀ w ∈ qL_law_14.flatMap (zrq zTab kL_law.1.cls), w ∈ lw_tbl := zplaces [1854, 1852, 1853, 176, 1851] (by decide +kernel)
theorem zd_L_law_15 : qL_law_15.all (zde kL_law) = true := by decide +kernel
theorem zr_L_law_15 : qL_law_15.all (zrow zTab kL_law) = true := by decide +kernel
theorem gw_L_law_15 : (qL_law_15.flatMap (zrq zTab kL_law.1.cls)).all goodWord = true := by decide +kernel
theorem wd_L_law_15 : ∀ w ∈ qL_law_15.flatMap (zrq zTab kL_law.1.cls), w ∈ lw_tbl := zplaces [1143, 1141, 1142, 172, 1140, 1858, 1856, 1857, 176, 1855] (by decide +kernel)
